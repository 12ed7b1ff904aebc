theorem lt_64 (a b : Int32) : a.toInt64 < b.toInt64 ↔ a < b := by
  rw [Int64.lt_iff_toInt_lt, Int32.lt_iff_toInt_lt, Int32.toInt_toInt64, Int32.toInt_toInt64]
theorem ft_wb (v : Int32) : ft_w v.toInt64 = wb_w v := by
  unfold ft_w wb_w
  have h1 : (v.toInt64 < (-2000000000)) = (v < (-2000000000)) := propext (lt_64 v (-2000000000))
  have h2 : ((2000000000 : Int64) < v.toInt64) = (2000000000 < v) := propext (lt_64 2000000000 v)
  simp only [h1, h2]
theorem bl_neg {x e : Int32} (h : x < 0) : bl_w x e = 0 := if_pos h
theorem bl_1 {x e : Int32} (h1 : ¬ x < 0) (h2 : ¬ e ≤ x) : bl_w x e = 1 := (if_neg h1).trans (if_neg h2)
theorem bl_gt {x e f : Int32} (h : f < x) (he : f.toInt + 1 = e.toInt) : bl_w x e = 0 := bl_0 (Int32.le_iff_toInt_le.mpr (by have := Int32.lt_iff_toInt_lt.mp h; omega))
theorem bl_n2 {x e f : Int32} (h1 : ¬ x < 0) (h : ¬ f < x) (he : f.toInt + 1 = e.toInt) : ¬ bl_w x e = 0 := bl_n h1 (fun q => h (Int32.lt_iff_toInt_lt.mpr (by have := Int32.le_iff_toInt_le.mp q; omega)))
theorem gi_a {p v : Int32} (h : bl_w p 4 = 0) : gi_w p v = 0 := if_pos h
theorem gi_c {p v : Int32} (h : ft_w v.toInt64 = 0) : gi_w p v = 0 := by
  rw [ft_wb] at h
  unfold gi_w
  by_cases h1 : bl_w p 4 = 0
  · rw [if_pos h1]
  · rw [if_neg h1, if_pos h]
theorem gi_d {p v : Int32} (h : ¬ bl_w p 4 = 0) (h2 : ¬ ft_w v.toInt64 = 0) : gi_w p v = 1 := by
  rw [ft_wb] at h2
  exact (if_neg h).trans (if_neg h2)
theorem ou_z {p : Int32} {ss : Nat → Int32} (h : bl_w p 4 = 0) : -1 = ou_w p ss := (if_pos h).symm
theorem ou_o {p : Int32} {ss : Nat → Int32} (h : ¬ bl_w p 4 = 0) : ss p.toNatClampNeg = ou_w p ss := (if_neg h).symm
theorem fp_0 {c l b s lt : Int32} {np : Nat} (h : bl_w c 2 = 0 ∨ bl_w l 18 = 0 ∨ bl_w b 64 = 0 ∨ ¬ 0 ≤ s ∨ ¬ lt = 0 ∨ ¬ fu_w np = 0) : fp_w c l b s lt np = 0 := by
  unfold fp_w
  by_cases h1 : bl_w c 2 = 0
  · rw [if_pos h1]
  rw [if_neg h1]
  by_cases h2 : bl_w l 18 = 0
  · rw [if_pos h2]
  rw [if_neg h2]
  by_cases h3 : bl_w b 64 = 0
  · rw [if_pos h3]
  rw [if_neg h3]
  by_cases h4 : 0 ≤ s
  · rw [if_pos h4]
    by_cases h5 : lt = 0
    · rw [if_pos h5]
      by_cases h6 : fu_w np = 0
      · simp [h1, h2, h3, h4, h5, h6] at h
      · rw [if_neg h6]
    · rw [if_neg h5]
  · rw [if_neg h4]
theorem fp_1 {c l b s lt : Int32} {np : Nat} (h1 : ¬ bl_w c 2 = 0) (h2 : ¬ bl_w l 18 = 0) (h3 : ¬ bl_w b 64 = 0) (h4 : 0 ≤ s) (h5 : lt = 0) (h6 : fu_w np = 0) : fp_w c l b s lt np = 1 :=
  (if_neg h1).trans ((if_neg h2).trans ((if_neg h3).trans ((if_pos h4).trans ((if_pos h5).trans (if_pos h6)))))
theorem fu_4 {np : Nat} (h : nI np = 4) : ¬ fu_w np = 0 := by
  unfold fu_w
  rw [h]
  decide
theorem fu_n {np : Nat} (h : ¬ nI np = 4) (hn : np ≤ 4) : fu_w np = 0 := by
  have h2 : np ≠ 4 := fun e => h (by rw [e]; rfl)
  exact if_pos ((nI_ltI (a := np) (b := 4) (by omega) (by decide)).mpr (by omega))
theorem nlt_0 {x : Int32} (h : 0 < x) : ¬ x = 0 := fun e => by rw [e] at h; exact absurd h (by decide)
theorem ngt_0 {x : Int32} (h : ¬ 0 < x) (h2 : ¬ x < 0) : x = 0 := le_0 (Int32.not_lt.mp h) h2
theorem neg_s {s : Int32} (h : s < 0) : ¬ 0 ≤ s := Int32.not_le.mpr h
theorem pos_s {s : Int32} (h : ¬ s < 0) : 0 ≤ s := Int32.not_lt.mp h
/-- cell: whether it throws, and its answer -/
def tc_w (c l : Int32) : Int32 := if bl_w c 2 = 0 then 1 else if bl_w l 18 = 0 then 1 else 0
def ce_w (c l : Int32) (ra rb : Nat → Int64) : Int64 := if tc_w c l = 0 then (if c = 0 then ra l.toNatClampNeg else rb l.toNatClampNeg) else 0
theorem tc_1 {c l : Int32} (h : bl_w c 2 = 0 ∨ bl_w l 18 = 0) : tc_w c l = 1 := by
  unfold tc_w
  by_cases h1 : bl_w c 2 = 0
  · rw [if_pos h1]
  · rw [if_neg h1, if_pos (h.resolve_left h1)]
theorem tc_0 {c l : Int32} (h1 : ¬ bl_w c 2 = 0) (h2 : ¬ bl_w l 18 = 0) : tc_w c l = 0 := (if_neg h1).trans (if_neg h2)
theorem ce_t {c l : Int32} {ra rb : Nat → Int64} (h : tc_w c l = 1) : (0 : Int64) = ce_w c l ra rb ∧ (1 : Int32) = tc_w c l := ⟨(if_neg (by rw [h]; decide)).symm, h.symm⟩
theorem ce_a {c l : Int32} {ra rb : Nat → Int64} (h : tc_w c l = 0) (hc : c = 0) : ra l.toNatClampNeg = ce_w c l ra rb ∧ (0 : Int32) = tc_w c l := ⟨((if_pos h).trans (if_pos hc)).symm, h.symm⟩
theorem ce_b {c l : Int32} {ra rb : Nat → Int64} (h : tc_w c l = 0) (hc : ¬ c = 0) : rb l.toNatClampNeg = ce_w c l ra rb ∧ (0 : Int32) = tc_w c l := ⟨((if_pos h).trans (if_neg hc)).symm, h.symm⟩
theorem is_1 {c : Int32} (h1 : ¬ c < 0) (h2 : ¬ 1 < c) (h0 : ¬ c = 0) : c = 1 := by
  obtain ⟨j, hj, rfl⟩ := nI_of h1
  have h3 : ¬ nI 1 < nI j := h2
  rw [nI_ltI (by decide) hj] at h3
  have h4 : j ≠ 0 := fun e => h0 (by rw [e]; rfl)
  have : j = 1 := by omega
  rw [this]; rfl
theorem ig_neg {o n : Int32} (h : o < 0) : ii_w o n = 0 := by
  have hne : ∀ k : Int32, ¬ k < 0 → ¬ o = k := fun k hk e => hk (by rw [← e]; exact h)
  unfold ii_w
  rw [if_neg (hne 0 (by decide)), if_neg (hne 1 (by decide)), if_neg (hne 2 (by decide)), if_neg (hne 3 (by decide)), if_neg (hne 4 (by decide)), if_neg (hne 5 (by decide)), if_neg (hne 6 (by decide)), if_neg (hne 7 (by decide)), if_neg (hne 8 (by decide)), if_neg (hne 9 (by decide)), if_neg (hne 10 (by decide)), if_neg (hne 11 (by decide)), if_neg (hne 12 (by decide)), if_neg (hne 13 (by decide)), if_neg (hne 14 (by decide)), if_neg (hne 15 (by decide))]
theorem ig_big {o n : Int32} (h : ¬ o ≤ 15) : ii_w o n = 0 := by
  have hne : ∀ k : Int32, k ≤ 15 → ¬ o = k := fun k hk e => h (by rw [e]; exact hk)
  unfold ii_w
  rw [if_neg (hne 0 (by decide)), if_neg (hne 1 (by decide)), if_neg (hne 2 (by decide)), if_neg (hne 3 (by decide)), if_neg (hne 4 (by decide)), if_neg (hne 5 (by decide)), if_neg (hne 6 (by decide)), if_neg (hne 7 (by decide)), if_neg (hne 8 (by decide)), if_neg (hne 9 (by decide)), if_neg (hne 10 (by decide)), if_neg (hne 11 (by decide)), if_neg (hne 12 (by decide)), if_neg (hne 13 (by decide)), if_neg (hne 14 (by decide)), if_neg (hne 15 (by decide))]
theorem ig_1 {o n : Int32} (h1 : ¬ o < 0) (h2 : o ≤ 15) (a0 : ¬ o = 0) (a1 : ¬ o = 1) (a2 : ¬ o = 2) (a12 : ¬ o = 12) (a13 : ¬ o = 13) (a10 : ¬ o = 10) (a11 : ¬ o = 11) : ii_w o n = 1 := by
  obtain ⟨j, hj, rfl⟩ := nI_of2 (M := 15) (n := 15) (by decide) h1 h2
  rcases (show j = 0 ∨ j = 1 ∨ j = 2 ∨ j = 3 ∨ j = 4 ∨ j = 5 ∨ j = 6 ∨ j = 7 ∨ j = 8 ∨ j = 9 ∨ j = 10 ∨ j = 11 ∨ j = 12 ∨ j = 13 ∨ j = 14 ∨ j = 15 by omega) with rfl | rfl | rfl | rfl | rfl | rfl | rfl | rfl | rfl | rfl | rfl | rfl | rfl | rfl | rfl | rfl
  · exact absurd rfl a0
  · exact absurd rfl a1
  · exact absurd rfl a2
  · rfl
  · rfl
  · rfl
  · rfl
  · rfl
  · rfl
  · rfl
  · exact absurd rfl a10
  · exact absurd rfl a11
  · exact absurd rfl a12
  · exact absurd rfl a13
  · rfl
  · rfl
/-- add: 0 it is added, 1, 2 what it throws -/
def ad_w (o n bg sz : Int32) : Int32 := if ii_w o n = 0 then 1 else if bg = 0 then (if gu_w sz = 0 then 0 else 2) else 2
theorem gu_z {sz : Int32} (h : ¬ sz = 100) (hz : sz ≤ 100) : gu_w sz = 0 := if_pos (Int32.lt_of_le_of_ne hz h)
theorem gu_100 : ¬ gu_w 100 = 0 := by decide
theorem ad_1 {o n bg sz : Int32} (h : ii_w o n = 0) : ad_w o n bg sz = 1 := if_pos h
theorem ad_2a {o n bg sz : Int32} (h : ¬ ii_w o n = 0) (h2 : sz = 100) : ad_w o n bg sz = 2 := by
  unfold ad_w
  rw [if_neg h, h2, if_neg gu_100]
  simp
theorem ad_2b {o n bg sz : Int32} (h : ¬ ii_w o n = 0) (h2 : ¬ bg = 0) : ad_w o n bg sz = 2 := (if_neg h).trans (if_neg h2)
theorem ad_0 {o n bg sz : Int32} (h : ¬ ii_w o n = 0) (h2 : bg = 0) (h3 : gu_w sz = 0) : ad_w o n bg sz = 0 := (if_neg h).trans ((if_pos h2).trans (if_pos h3))
theorem ad_no {a k s1 sz : Int32} {f g f1 g1 : Nat → Int32} (h : a = k) (hk : ¬ k = 0) : (0 : Int32) = (if a = 0 then s1 else 0) ∧ f = (if a = 0 then f1 else f) ∧ g = (if a = 0 then g1 else g) ∧ sz = (if a = 0 then s1 else sz) ∧ k = a := by
  subst h
  rw [if_neg hk, if_neg hk, if_neg hk, if_neg hk]
  exact ⟨rfl, rfl, rfl, rfl, rfl⟩
theorem ad_yes {a s1 sz : Int32} {f g f1 g1 : Nat → Int32} (h : a = 0) : s1 = (if a = 0 then s1 else 0) ∧ f1 = (if a = 0 then f1 else f) ∧ g1 = (if a = 0 then g1 else g) ∧ s1 = (if a = 0 then s1 else sz) ∧ (0 : Int32) = a := by
  subst h
  exact ⟨rfl, rfl, rfl, rfl, rfl⟩
theorem sz_in {sz : Int32} (h1 : ¬ sz < 0) (h2 : ¬ sz = 100) (hz : sz ≤ 100) : vp_in sz 100 := pw_in (sz := 100) h1 (fun q => h2 (Int32.le_antisymm hz q)) (by decide)
theorem li_1 {x : Int32} (h : ¬ 1 ≤ x) : (1 : Int32) = nI (li_w x) := by
  apply li_I
  have e1 : (1 : Int32).toInt = 1 := by decide
  have := Int32.lt_iff_toInt_lt.mp (Int32.not_le.mp h)
  omega
theorem li_2 {x : Int32} (h : ¬ x ≤ 5000) : (5000 : Int32) = nI (li_w x) := by
  apply li_I
  have e5 : (5000 : Int32).toInt = 5000 := by decide
  have := Int32.lt_iff_toInt_lt.mp (Int32.not_le.mp h)
  omega
theorem li_3 {x : Int32} (h1 : 1 ≤ x) (h : x ≤ 5000) : x = nI (li_w x) := by
  apply li_I
  have e1 : (1 : Int32).toInt = 1 := by decide
  have e5 : (5000 : Int32).toInt = 5000 := by decide
  have := Int32.le_iff_toInt_le.mp h
  have := Int32.le_iff_toInt_le.mp h1
  omega
