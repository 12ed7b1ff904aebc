/-! the reference's rows: one array for both copies -/
def hh_w (ra rb : Nat → Int64) : Nat → Int64 := fun j => if j < 18 then ra j else rb (j - 18)
def pp_w (qa qb : Nat → Int64) : Nat → Int64 := fun j => if j < 4 then qa j else qb (j - 4)
theorem vp_nat {x : Int32} {N : Nat} (h : vp_in x N) : x.toNatClampNeg < N := Nat.not_le.mp fun q => h (Or.inr q)
theorem vp_nn {x : Int32} {N : Nat} (h : vp_in x N) : ¬ x < 0 := fun q => h (Or.inl q)
theorem hh_r0 {ra rb : Nat → Int64} {n : Int32} (h : vp_in n 18) : hh_w ra rb n.toNatClampNeg = ra n.toNatClampNeg := if_pos (vp_nat h)
theorem ix_add {n : Int32} {N k : Nat} (h : vp_in n N) (hk : k + N < 2 ^ 31) (hN : N < 2 ^ 31) : nI k + n = nI (k + n.toNatClampNeg) ∧ n.toNatClampNeg < N := by
  obtain ⟨j, hj, rfl⟩ := vp_in_of h hN
  rw [nI_clamp (by omega), nI_add]
  exact ⟨rfl, hj⟩
theorem hh_i1 {n : Int32} (h : vp_in n 18) : (18 + n).toNatClampNeg = 18 + n.toNatClampNeg ∧ vp_in (18 + n) 36 := by
  obtain ⟨e, hj⟩ := ix_add (k := 18) h (by decide) (by decide)
  rw [show (18 : Int32) + n = nI (18 + n.toNatClampNeg) from e]
  exact ⟨nI_clamp (by omega), vp_in_nI (by omega) (by decide)⟩
theorem pp_i1 {n : Int32} (h : vp_in n 4) : (4 + n).toNatClampNeg = 4 + n.toNatClampNeg ∧ vp_in (4 + n) 8 := by
  obtain ⟨e, hj⟩ := ix_add (k := 4) h (by decide) (by decide)
  rw [show (4 : Int32) + n = nI (4 + n.toNatClampNeg) from e]
  exact ⟨nI_clamp (by omega), vp_in_nI (by omega) (by decide)⟩
theorem hh_r1 {ra rb : Nat → Int64} {n : Int32} (h : vp_in n 18) : hh_w ra rb (18 + n).toNatClampNeg = rb n.toNatClampNeg := by
  rw [(hh_i1 h).1]
  show (if 18 + n.toNatClampNeg < 18 then _ else rb (18 + n.toNatClampNeg - 18)) = _
  rw [if_neg (by omega), Nat.add_sub_cancel_left]
theorem hh_k0 {ra rb : Nat → Int64} {k : Nat} {x : Int64} (h : k < 18) : vp_updL (hh_w ra rb) k x = hh_w (vp_updL ra k x) rb := by
  funext j
  unfold vp_updL hh_w
  by_cases hj : j = k
  · subst hj; simp [h]
  · by_cases h2 : j < 18 <;> simp [hj, h2]
theorem hh_k1 {ra rb : Nat → Int64} {k : Nat} {x : Int64} : vp_updL (hh_w ra rb) (18 + k) x = hh_w ra (vp_updL rb k x) := by
  funext j
  unfold vp_updL hh_w
  by_cases hj : j = 18 + k
  · subst hj; simp; omega
  · by_cases h2 : j < 18
    · simp [hj, h2]
    · have : ¬ j - 18 = k := by omega
      simp [hj, h2, this]
theorem pp_k0 {qa qb : Nat → Int64} {k : Nat} {x : Int64} (h : k < 4) : vp_updL (pp_w qa qb) k x = pp_w (vp_updL qa k x) qb := by
  funext j
  unfold vp_updL pp_w
  by_cases hj : j = k
  · subst hj; simp [h]
  · by_cases h2 : j < 4 <;> simp [hj, h2]
theorem pp_k1 {qa qb : Nat → Int64} {k : Nat} {x : Int64} : vp_updL (pp_w qa qb) (4 + k) x = pp_w qa (vp_updL qb k x) := by
  funext j
  unfold vp_updL pp_w
  by_cases hj : j = 4 + k
  · subst hj; simp; omega
  · by_cases h2 : j < 4
    · simp [hj, h2]
    · have : ¬ j - 4 = k := by omega
      simp [hj, h2, this]
theorem hh_u0 {ra rb : Nat → Int64} {n : Int32} {x : Int64} (h : vp_in n 18) : vp_updL (hh_w ra rb) n.toNatClampNeg x = hh_w (vp_updL ra n.toNatClampNeg x) rb := hh_k0 (vp_nat h)
theorem hh_u1 {ra rb : Nat → Int64} {n : Int32} {x : Int64} (h : vp_in n 18) : vp_updL (hh_w ra rb) (18 + n).toNatClampNeg x = hh_w ra (vp_updL rb n.toNatClampNeg x) := by rw [(hh_i1 h).1]; exact hh_k1
theorem pp_u0 {qa qb : Nat → Int64} {n : Int32} {x : Int64} (h : vp_in n 4) : vp_updL (pp_w qa qb) n.toNatClampNeg x = pp_w (vp_updL qa n.toNatClampNeg x) qb := pp_k0 (vp_nat h)
theorem pp_u1 {qa qb : Nat → Int64} {n : Int32} {x : Int64} (h : vp_in n 4) : vp_updL (pp_w qa qb) (4 + n).toNatClampNeg x = pp_w qa (vp_updL qb n.toNatClampNeg x) := by rw [(pp_i1 h).1]; exact pp_k1
theorem up_same (r : Nat → Int64) : vp_updL r 16 (r 16) = r := by
  funext j
  unfold vp_updL
  by_cases hj : j = 16
  · subst hj; simp
  · simp [hj]
theorem up_n {r : Nat → Int64} {n : Int32} (h : vp_in n 16) : vp_updL (vp_updL r n.toNatClampNeg (r 16)) 16 (r 16) = vp_updL r n.toNatClampNeg (r 16) := by
  have := vp_nat h
  funext j
  unfold vp_updL
  by_cases hj : j = 16
  · subst hj; simp
  · simp [hj]
theorem up_17 (r : Nat → Int64) : vp_updL (vp_updL r 17 (r 16)) 16 (r 16) = vp_updL r 17 (r 16) := by
  funext j
  unfold vp_updL
  by_cases hj : j = 16
  · subst hj; simp
  · simp [hj]
def ft_w (v : Int64) : Int32 := if v < (-2000000000) then 0 else if 2000000000 < v then 0 else 1
def ma_w (lo hi a : Int64) : Int32 := if a < lo then 0 else if hi < a then 0 else 1
theorem ma_01 (lo hi a : Int64) : ma_w lo hi a = 0 ∨ ma_w lo hi a = 1 := by
  unfold ma_w
  split
  · exact Or.inl rfl
  · split
    · exact Or.inl rfl
    · exact Or.inr rfl
theorem ft_01 (a : Int64) : ft_w a = 0 ∨ ft_w a = 1 := ma_01 _ _ a
theorem ma_tb {fac lo hi : Int64} (h1 : 2000000000 * fac = hi) (h2 : -hi = lo) (a : Int64) : ma_w lo hi a = 0 ↔ tb_w fac a = 2 := by
  unfold ma_w tb_w
  rw [h1, h2]
  by_cases c1 : a < lo
  · rw [if_pos c1]
    by_cases c2 : hi < a
    · rw [if_pos c2]; simp
    · rw [if_neg c2, if_pos c1]; simp
  · rw [if_neg c1]
    by_cases c2 : hi < a
    · rw [if_pos c2, if_pos c2]; simp
    · rw [if_neg c2, if_neg c2, if_neg c1]; decide
theorem ma_tb0 (a : Int64) : ma_w (-2000000000) 2000000000 a = 0 ↔ tb_w 1 a = 2 := ma_tb (by decide) (by decide) a
theorem ma_tb1 (a : Int64) : ma_w (-117318000000000) 117318000000000 a = 0 ↔ tb_w 58659 a = 2 := ma_tb (by decide) (by decide) a
/-- does: whether it goes on, and whether it has ended, by the outcome -/
def dz_w (o : Int32) : Int32 := if o = 2 then 0 else 1
def en_w (o e : Int32) : Int32 := if o = 1 then 1 else e
theorem dz_0 {o : Int32} (h : o = 2) : dz_w o = 0 := if_pos h
theorem dz_1 {o : Int32} (h : ¬ o = 2) : dz_w o = 1 := if_neg h
theorem dz_01 (o : Int32) : dz_w o = 0 ∨ dz_w o = 1 := by
  by_cases h : o = 2
  · exact Or.inl (dz_0 h)
  · exact Or.inr (dz_1 h)
theorem tb_02 (fac a : Int64) : tb_w fac a = 0 ∨ tb_w fac a = 2 := by
  unfold tb_w
  split
  · exact Or.inr rfl
  · split
    · exact Or.inr rfl
    · exact Or.inl rfl
theorem tb_n1 (fac a : Int64) : ¬ tb_w fac a = 1 := by
  rcases tb_02 fac a with h | h <;> rw [h] <;> decide
theorem ii_15 {o n : Int32} (h : ii_w o n = 1) (h0 : ¬ o = 0) (h1 : ¬ o = 1) (h2 : ¬ o = 2) (h3 : ¬ o = 3) (h4 : ¬ o = 4) (h5 : ¬ o = 5) (h6 : ¬ o = 6) (h7 : ¬ o = 7) (h8 : ¬ o = 8) (h9 : ¬ o = 9) (h10 : ¬ o = 10) (h11 : ¬ o = 11) (h12 : ¬ o = 12) (h13 : ¬ o = 13) (h14 : ¬ o = 14) : o = 15 := by
  by_cases h15 : o = 15
  · exact h15
  · unfold ii_w at h
    rw [if_neg h0, if_neg h1, if_neg h2, if_neg h3, if_neg h4, if_neg h5, if_neg h6, if_neg h7, if_neg h8, if_neg h9, if_neg h10, if_neg h11, if_neg h12, if_neg h13, if_neg h14, if_neg h15] at h
    exact absurd h (by decide)
theorem ii_n16 {n : Int32} (h : ii_w 2 n = 1) : vp_in n 16 := bl_vp 16 (N := 16) (by decide) (by simpa [ii_w] using h)
