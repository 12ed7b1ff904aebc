theorem ii_01 (o n : Int32) : ii_w o n = 0 ∨ ii_w o n = 1 := by
  unfold ii_w
  by_cases h0 : o = 0
  · rw [if_pos h0]; exact wb_01 _
  rw [if_neg h0]
  by_cases h1 : o = 1
  · rw [if_pos h1]; exact bl_01 _ _
  rw [if_neg h1]
  by_cases h2 : o = 2
  · rw [if_pos h2]; exact bl_01 _ _
  rw [if_neg h2]
  by_cases h3 : o = 3
  · rw [if_pos h3]; exact Or.inr rfl
  rw [if_neg h3]
  by_cases h4 : o = 4
  · rw [if_pos h4]; exact Or.inr rfl
  rw [if_neg h4]
  by_cases h5 : o = 5
  · rw [if_pos h5]; exact Or.inr rfl
  rw [if_neg h5]
  by_cases h6 : o = 6
  · rw [if_pos h6]; exact Or.inr rfl
  rw [if_neg h6]
  by_cases h7 : o = 7
  · rw [if_pos h7]; exact Or.inr rfl
  rw [if_neg h7]
  by_cases h8 : o = 8
  · rw [if_pos h8]; exact Or.inr rfl
  rw [if_neg h8]
  by_cases h9 : o = 9
  · rw [if_pos h9]; exact Or.inr rfl
  rw [if_neg h9]
  by_cases h10 : o = 10
  · rw [if_pos h10]; exact bl_01 _ _
  rw [if_neg h10]
  by_cases h11 : o = 11
  · rw [if_pos h11]; exact bl_01 _ _
  rw [if_neg h11]
  by_cases h12 : o = 12
  · rw [if_pos h12]; exact bl_01 _ _
  rw [if_neg h12]
  by_cases h13 : o = 13
  · rw [if_pos h13]; exact bl_01 _ _
  rw [if_neg h13]
  by_cases h14 : o = 14
  · rw [if_pos h14]; exact Or.inr rfl
  rw [if_neg h14]
  by_cases h15 : o = 15
  · rw [if_pos h15]; exact Or.inr rfl
  rw [if_neg h15]
  exact Or.inl rfl
theorem ad_use {o n bg sz : Int32} (h : ad_w o n bg sz = 0) : ii_w o n = 1 ∧ gu_w sz = 0 := by
  unfold ad_w at h
  by_cases h1 : ii_w o n = 0
  · rw [if_pos h1] at h; exact absurd h (by decide)
  · rw [if_neg h1] at h
    by_cases h2 : bg = 0
    · rw [if_pos h2] at h
      by_cases h3 : gu_w sz = 0
      · exact ⟨(ii_01 o n).resolve_left h1, h3⟩
      · rw [if_neg h3] at h; exact absurd h (by decide)
    · rw [if_neg h2] at h; exact absurd h (by decide)
theorem gu_lt {sz : Int32} (h : gu_w sz = 0) : sz < 100 := by
  unfold gu_w at h
  by_cases h1 : sz < 100
  · exact h1
  · rw [if_neg h1] at h; exact absurd h (by decide)
theorem ad_inv {o n bg sz : Int32} {ops nums : Nat → Int32} (hz : sz ≤ 100) (hs : ¬ sz < 0) (hok : pg_ok ops nums sz) : (if ad_w o n bg sz = 0 then sz + 1 else sz) ≤ 100 ∧ ¬ (if ad_w o n bg sz = 0 then sz + 1 else sz) < 0 ∧ pg_ok (if ad_w o n bg sz = 0 then upd ops sz.toNatClampNeg o else ops) (if ad_w o n bg sz = 0 then upd nums sz.toNatClampNeg n else nums) (if ad_w o n bg sz = 0 then sz + 1 else sz) := by
  by_cases h : ad_w o n bg sz = 0
  · rw [if_pos h, if_pos h, if_pos h]
    obtain ⟨h1, h2⟩ := ad_use h
    have h3 := gu_lt h2
    obtain ⟨j, hj, rfl⟩ := nI_of hs
    have h4 : j < 100 := (nI_ltI hj (by decide)).mp (show nI j < nI 100 from h3)
    rw [nI_1, nI_clamp hj]
    refine ⟨nI_le (b := 100) (by omega) (by decide), nI_pos (by omega), fun k hk => ?_⟩
    rw [nI_toInt (by omega)] at hk
    by_cases e : k = j
    · subst e; rw [pk_us, pk_us]; exact h1
    · rw [pk_un e, pk_un e]
      exact hok k (by rw [nI_toInt hj]; omega)
  · rw [if_neg h, if_neg h, if_neg h]
    exact ⟨hz, hs, hok⟩
theorem fp_use {c l b s lt : Int32} {np : Nat} (h : ¬ fp_w c l b s lt np = 0) : ¬ bl_w c 2 = 0 ∧ ¬ bl_w l 18 = 0 ∧ fu_w np = 0 := by
  refine ⟨fun q => h (fp_0 (Or.inl q)), fun q => h (fp_0 (Or.inr (Or.inl q))), ?_⟩
  by_cases q : fu_w np = 0
  · exact q
  · exact absurd (fp_0 (Or.inr (Or.inr (Or.inr (Or.inr (Or.inr q)))))) h
theorem bl_2 {c : Int32} (h : ¬ bl_w c 2 = 0) : c = 0 ∨ c = 1 := by
  obtain ⟨h1, h2⟩ := bl_ne h
  by_cases h0 : c = 0
  · exact Or.inl h0
  · exact Or.inr (is_1 h1 (fun q => by
      have q1 := Int32.lt_iff_toInt_lt.mp q
      have q2 := Int32.lt_iff_toInt_lt.mp h2
      have e1 : (1 : Int32).toInt = 1 := by decide
      have e2 : (2 : Int32).toInt = 2 := by decide
      omega) h0)
theorem fp_inv {c l b s lt : Int32} {np : Nat} {fc fl : Nat → Int32} (hnp : np ≤ 4) (hpl : pl_ok fl np) (hpc : pc_ok fc np) : (if fp_w c l b s lt np = 0 then np else np + 1) ≤ 4 ∧ pl_ok (if fp_w c l b s lt np = 0 then fl else upd fl np l) (if fp_w c l b s lt np = 0 then np else np + 1) ∧ pc_ok (if fp_w c l b s lt np = 0 then fc else upd fc np c) (if fp_w c l b s lt np = 0 then np else np + 1) := by
  by_cases h : fp_w c l b s lt np = 0
  · rw [if_pos h, if_pos h, if_pos h]
    exact ⟨hnp, hpl, hpc⟩
  · obtain ⟨h1, h2, h3⟩ := fp_use h
    have h4 := fu_lt h3 hnp
    rw [if_neg h, if_neg h, if_neg h]
    refine ⟨by omega, fun k hk => ?_, fun k hk => ?_⟩
    · by_cases e : k = np
      · subst e; rw [pk_us]; exact bl_use (N := 18) (by decide) h2
      · rw [pk_un e]; exact hpl k (by omega)
    · by_cases e : k = np
      · subst e; rw [pk_us]; exact bl_2 h1
      · rw [pk_un e]; exact hpc k (by omega)
theorem lp_k {L k : Nat} (h : ¬ nI L - 5 < nI k) (hL : L ≤ 2561) (hk : k ≤ 4000) : k + 5 ≤ L := by
  have h1 : ¬ (nI L - nI 5).toInt < (nI k).toInt := fun q => h (Int32.lt_iff_toInt_lt.mpr q)
  rw [pk_sub_toInt (by omega) (by decide), nI_toInt (by omega)] at h1
  omega
theorem lp_z {L k : Nat} (h : L < k + 5) (hL : L ≤ 2561) (hk : k ≤ 4000) : nI L - 5 < nI k := by
  apply Int32.lt_iff_toInt_lt.mpr
  show (nI L - nI 5).toInt < (nI k).toInt
  rw [pk_sub_toInt (by omega) (by decide), nI_toInt (by omega)]
  omega
theorem rb_pos {fa fb : sx_w → Int32 × sx_w} {lm : Nat} {ra rb qa qb : Nat → Int64} {plb sp fd : Int32} : ¬ (rb_w fa fb lm ra rb qa qb plb sp fd).1 < 0 := by
  by_cases h1 : (rn_w fa lm (xa_w ra rb qa sp fd)).1 = 0
  · by_cases h2 : (rn_w fb lm (xb_w (rn_w fa lm (xa_w ra rb qa sp fd)).2 qb)).1 = 0
    · by_cases h3 : ca_w (rn_w fa lm (xa_w ra rb qa sp fd)).2.2.2.1 (rn_w fb lm (xb_w (rn_w fa lm (xa_w ra rb qa sp fd)).2 qb)).2.2.2.1 = 0
      · rw [rb_e1 h1 h2 h3]; show ¬ (3 : Int32) < 0; decide
      · rw [rb_e2 h1 h2 h3]; show ¬ (rn_w fb lm _).1 < 0; rw [h2]; decide
    · rw [rb_e3 h1 h2]
      show ¬ (rn_w fb lm _).1 < 0
      rcases rn_012 fb lm (xb_w (rn_w fa lm (xa_w ra rb qa sp fd)).2 qb) with e | e | e <;> rw [e] <;> decide
  · rw [rb_e4 h1]
    show ¬ (rn_w fa lm _).1 < 0
    rcases rn_012 fa lm (xa_w ra rb qa sp fd) with e | e | e <;> rw [e] <;> decide
theorem cy_pos {fa fb : sx_w → Int32 × sx_w} {lm np : Nat} {bg lt em sp fd pla plb : Int32} {ra rb qa qb : Nat → Int64} {ss : Nat → Int32} (hlt : ¬ lt < 0) : ¬ (cy_w fa fb lm bg lt em sp fd ra rb qa pla qb plb np ss).2.2.1 < 0 := by
  by_cases h : lt = 0
  · by_cases h2 : (rb_w fa fb lm ra rb qa qb plb 0 fd).1 = 0
    · rw [cy_e1 h h2]; exact rb_pos
    · rw [cy_e2 h h2]; exact rb_pos
  · rw [cy_e3 h]; exact hlt
theorem cy_np {fa fb : sx_w → Int32 × sx_w} {lm np : Nat} {bg lt em sp fd pla plb : Int32} {ra rb qa qb : Nat → Int64} {ss : Nat → Int32} : (cy_w fa fb lm bg lt em sp fd ra rb qa pla qb plb np ss).2.2.2.2.2.2.2.2.2.2.2.2.1 = 0 ∨ (cy_w fa fb lm bg lt em sp fd ra rb qa pla qb plb np ss).2.2.2.2.2.2.2.2.2.2.2.2.1 = np := by
  by_cases h : lt = 0
  · by_cases h2 : (rb_w fa fb lm ra rb qa qb plb 0 fd).1 = 0
    · rw [cy_e1 h h2]; exact Or.inl rfl
    · rw [cy_e2 h h2]; exact Or.inl rfl
  · rw [cy_e3 h]; exact Or.inr rfl
theorem cy_inv {fa fb : sx_w → Int32 × sx_w} {lm np n2 : Nat} {fc fl : Nat → Int32} (hn : n2 = 0 ∨ n2 = np) (hnp : np ≤ 4) (hpl : pl_ok fl np) (hpc : pc_ok fc np) : n2 ≤ 4 ∧ pl_ok fl n2 ∧ pc_ok fc n2 := by
  rcases hn with rfl | rfl
  · exact ⟨by omega, fun k hk => absurd hk (Nat.not_lt_zero k), fun k hk => absurd hk (Nat.not_lt_zero k)⟩
  · exact ⟨hnp, hpl, hpc⟩
/-- both copies' run does not hang on the second one's old place -/
theorem rb_pl {fa fb : sx_w → Int32 × sx_w} {lm : Nat} {ra rb qa qb : Nat → Int64} {p1 p2 sp fd : Int32} : (rb_w fa fb lm ra rb qa qb p1 sp fd).1 = (rb_w fa fb lm ra rb qa qb p2 sp fd).1 ∧ (rb_w fa fb lm ra rb qa qb p1 sp fd).2.1 = (rb_w fa fb lm ra rb qa qb p2 sp fd).2.1 ∧ (rb_w fa fb lm ra rb qa qb p1 sp fd).2.2.1 = (rb_w fa fb lm ra rb qa qb p2 sp fd).2.2.1 ∧ (rb_w fa fb lm ra rb qa qb p1 sp fd).2.2.2.1 = (rb_w fa fb lm ra rb qa qb p2 sp fd).2.2.2.1 ∧ (rb_w fa fb lm ra rb qa qb p1 sp fd).2.2.2.2.2.1 = (rb_w fa fb lm ra rb qa qb p2 sp fd).2.2.2.2.2.1 ∧ (rb_w fa fb lm ra rb qa qb p1 sp fd).2.2.2.2.2.2.2 = (rb_w fa fb lm ra rb qa qb p2 sp fd).2.2.2.2.2.2.2 := by
  by_cases h1 : (rn_w fa lm (xa_w ra rb qa sp fd)).1 = 0
  · by_cases h2 : (rn_w fb lm (xb_w (rn_w fa lm (xa_w ra rb qa sp fd)).2 qb)).1 = 0
    · by_cases h3 : ca_w (rn_w fa lm (xa_w ra rb qa sp fd)).2.2.2.1 (rn_w fb lm (xb_w (rn_w fa lm (xa_w ra rb qa sp fd)).2 qb)).2.2.2.1 = 0
      · rw [rb_e1 h1 h2 h3, rb_e1 h1 h2 h3]; exact ⟨rfl, rfl, rfl, rfl, rfl, rfl⟩
      · rw [rb_e2 h1 h2 h3, rb_e2 h1 h2 h3]; exact ⟨rfl, rfl, rfl, rfl, rfl, rfl⟩
    · rw [rb_e3 h1 h2, rb_e3 h1 h2]; exact ⟨rfl, rfl, rfl, rfl, rfl, rfl⟩
  · rw [rb_e4 h1, rb_e4 h1]; exact ⟨rfl, rfl, rfl, rfl, rfl, rfl⟩
/-- what two cycles have in common that differ in what no one sees -/
def cq_w (C C' : Int32 × sz_w) : Prop := C.1 = C'.1 ∧ C.2.1 = C'.2.1 ∧ C.2.2.1 = C'.2.2.1 ∧ C.2.2.2.1 = C'.2.2.2.1 ∧ C.2.2.2.2.1 = C'.2.2.2.2.1 ∧ C.2.2.2.2.2.1 = C'.2.2.2.2.2.1 ∧ C.2.2.2.2.2.2.1 = C'.2.2.2.2.2.2.1 ∧ C.2.2.2.2.2.2.2.1 = C'.2.2.2.2.2.2.2.1 ∧ C.2.2.2.2.2.2.2.2.2.2.2.2.1 = C'.2.2.2.2.2.2.2.2.2.2.2.2.1 ∧ C.2.2.2.2.2.2.2.2.2.2.2.2.2 = C'.2.2.2.2.2.2.2.2.2.2.2.2.2 ∧ (C.2.2.1 = 0 → C.2.2.2.2.2.2.2.2.1 = C'.2.2.2.2.2.2.2.2.1 ∧ C.2.2.2.2.2.2.2.2.2.2.1 = C'.2.2.2.2.2.2.2.2.2.2.1)
theorem cs_1 {R1 R2 : Int32 × sy_w} {em : Int32} {ss : Nat → Int32} (e1 : R1.1 = R2.1) (e2 : R1.2.1 = R2.2.1) (e3 : R1.2.2.1 = R2.2.2.1) (e4 : R1.2.2.2.1 = R2.2.2.2.1) (e5 : R1.2.2.2.2.2.1 = R2.2.2.2.2.2.1) (e6 : R1.2.2.2.2.2.2.2 = R2.2.2.2.2.2.2.2) :
    cq_w (1, 1, R1.1, em + 1, R1.2.2.2.2.2.2.2.1, R1.2.2.2.2.2.2.2.2, R1.2.1, R1.2.2.1, R1.2.2.2.1, R1.2.2.2.2.1, R1.2.2.2.2.2.1, R1.2.2.2.2.2.2.1, 0, e4_w ss R1.2.2.2.1) (1, 1, R2.1, em + 1, R2.2.2.2.2.2.2.2.1, R2.2.2.2.2.2.2.2.2, R2.2.1, R2.2.2.1, R2.2.2.2.1, R2.2.2.2.2.1, R2.2.2.2.2.2.1, R2.2.2.2.2.2.2.1, 0, e4_w ss R2.2.2.2.1) := by
  obtain ⟨x0, x1, x2, x3, x4, x5, x6, x7, x8⟩ := R1
  obtain ⟨y0, y1, y2, y3, y4, y5, y6, y7, y8⟩ := R2
  have f1 : x0 = y0 := e1
  have f2 : x1 = y1 := e2
  have f3 : x2 = y2 := e3
  have f4 : x3 = y3 := e4
  have f5 : x5 = y5 := e5
  obtain ⟨f6, f7⟩ := Prod.mk.inj (show (x7, x8) = (y7, y8) from e6)
  subst f1; subst f2; subst f3; subst f4; subst f5; subst f6; subst f7
  exact ⟨rfl, rfl, rfl, rfl, rfl, rfl, rfl, rfl, rfl, rfl, fun _ => ⟨rfl, rfl⟩⟩
theorem cs_2 {R1 R2 : Int32 × sy_w} {em : Int32} {ss : Nat → Int32} (h : ¬ R1.1 = 0) (e1 : R1.1 = R2.1) (e2 : R1.2.1 = R2.2.1) (e3 : R1.2.2.1 = R2.2.2.1) (e6 : R1.2.2.2.2.2.2.2 = R2.2.2.2.2.2.2.2) :
    cq_w (0, 1, R1.1, em, R1.2.2.2.2.2.2.2.1, R1.2.2.2.2.2.2.2.2, R1.2.1, R1.2.2.1, R1.2.2.2.1, R1.2.2.2.2.1, R1.2.2.2.2.2.1, R1.2.2.2.2.2.2.1, 0, g4_w ss 0) (0, 1, R2.1, em, R2.2.2.2.2.2.2.2.1, R2.2.2.2.2.2.2.2.2, R2.2.1, R2.2.2.1, R2.2.2.2.1, R2.2.2.2.2.1, R2.2.2.2.2.2.1, R2.2.2.2.2.2.2.1, 0, g4_w ss 0) := by
  obtain ⟨x0, x1, x2, x3, x4, x5, x6, x7, x8⟩ := R1
  obtain ⟨y0, y1, y2, y3, y4, y5, y6, y7, y8⟩ := R2
  have f1 : x0 = y0 := e1
  have f2 : x1 = y1 := e2
  have f3 : x2 = y2 := e3
  obtain ⟨f6, f7⟩ := Prod.mk.inj (show (x7, x8) = (y7, y8) from e6)
  subst f1; subst f2; subst f3; subst f6; subst f7
  exact ⟨rfl, rfl, rfl, rfl, rfl, rfl, rfl, rfl, rfl, rfl, fun q => absurd q h⟩
theorem cs_3 {bg lt em sp fd p1 p2 p3 p4 : Int32} {ra rb qa qb q1 q2 : Nat → Int64} {np : Nat} {ss : Nat → Int32} (h : ¬ lt = 0) : cq_w (0, bg, lt, em, sp, fd, ra, rb, qa, p1, qb, p2, np, ss) (0, bg, lt, em, sp, fd, ra, rb, q1, p3, q2, p4, np, ss) :=
  ⟨rfl, rfl, rfl, rfl, rfl, rfl, rfl, rfl, rfl, rfl, fun q => absurd q h⟩
theorem cq_to {C C' D D' : Int32 × sz_w} (h : C = D) (h' : C' = D') (hq : cq_w D D') : cq_w C C' := by
  subst h; subst h'; exact hq
theorem cy_same {fa fb : sx_w → Int32 × sx_w} {lm np : Nat} {bg lt em sp fd p1 p2 p3 p4 : Int32} {ra rb qa qb q1 q2 : Nat → Int64} {ss : Nat → Int32} (hq : lt = 0 → qa = q1 ∧ qb = q2) : cq_w (cy_w fa fb lm bg lt em sp fd ra rb qa p1 qb p2 np ss) (cy_w fa fb lm bg lt em sp fd ra rb q1 p3 q2 p4 np ss) := by
  by_cases h : lt = 0
  · obtain ⟨e0, e00⟩ := hq h
    subst e0
    subst e00
    obtain ⟨e1, e2, e3, e4, e5, e6⟩ := rb_pl (fa := fa) (fb := fb) (lm := lm) (ra := ra) (rb := rb) (qa := qa) (qb := qb) (p1 := p2) (p2 := p4) (sp := 0) (fd := fd)
    by_cases h2 : (rb_w fa fb lm ra rb qa qb p2 0 fd).1 = 0
    · exact cq_to (cy_e1 h h2) (cy_e1 h (e1.symm.trans h2)) (cs_1 e1 e2 e3 e4 e5 e6)
    · exact cq_to (cy_e2 h h2) (cy_e2 h (fun q => h2 (e1.trans q))) (cs_2 h2 e1 e2 e3 e6)
  · exact cq_to (cy_e3 h) (cy_e3 h) (cs_3 h)
