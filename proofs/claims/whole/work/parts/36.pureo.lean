def pc_ok (fc : Nat → Int32) (np : Nat) : Prop := ∀ k : Nat, k < np → fc k = 0 ∨ fc k = 1
theorem bl_0 {x e : Int32} (h : e ≤ x) : bl_w x e = 0 := by
  unfold bl_w
  by_cases h1 : x < 0
  · rw [if_pos h1]
  · rw [if_neg h1, if_pos h]
theorem bl_n {x e : Int32} (h1 : ¬ x < 0) (h2 : ¬ e ≤ x) : ¬ bl_w x e = 0 := by
  unfold bl_w
  rw [if_neg h1, if_neg h2]
  decide
theorem dz_2 {o : Int32} (h : dz_w o = 0) : o = 2 := by
  by_cases h2 : o = 2
  · exact h2
  · rw [dz_1 h2] at h; exact absurd h (by decide)
theorem dz_n {o : Int32} (h : ¬ dz_w o = 0) : ¬ o = 2 := fun h2 => h (dz_0 h2)
theorem en_1 {o : Int32} (h : ¬ en_w o 0 = 0) : o = 1 := by
  by_cases h2 : o = 1
  · exact h2
  · exact absurd (if_neg h2) h
theorem en_n {o : Int32} (h : en_w o 0 = 0) : ¬ o = 1 := by
  intro h2
  rw [show en_w o 0 = 1 from if_pos h2] at h
  exact absurd h (by decide)
theorem pl_1 {pl sz : Int32} (h1 : ¬ pl < 0) (h2 : ¬ sz ≤ pl) (hz : sz ≤ 100) : ¬ pl + 1 < 0 := by
  obtain ⟨j, hj, rfl⟩ := nI_of h1
  have h3 := Int32.lt_iff_toInt_lt.mp (Int32.not_le.mp h2)
  have h4 := Int32.le_iff_toInt_le.mp hz
  rw [nI_toInt hj] at h3
  have e1 : (100 : Int32).toInt = 100 := by decide
  rw [nI_1]
  exact nI_pos (by omega)
theorem bl_nn {n e : Int32} (h : bl_w n e = 1) : ¬ n < 0 := fun h1 => by
  unfold bl_w at h
  rw [if_pos h1] at h
  exact absurd h (by decide)
theorem mv_nn {fac : Int64} {o n : Int32} {r q : Nat → Int64} {pl : Int32} (hv : ii_w o n = 1) (hp : ¬ pl < 0) : ¬ (mv_w fac o n r q pl).2.2 < 0 := by
  unfold mv_w
  by_cases h10 : o = 10
  · subst h10
    exact bl_nn (e := 100) (by simpa [ii_w] using hv)
  · by_cases h11 : o = 11
    · subst h11
      have hn : ¬ n < 0 := bl_nn (e := 100) (by simpa [ii_w] using hv)
      by_cases h0 : r 16 = 0
      · simp only [h0]; exact hn
      · show ¬ (if r 16 = 0 then (r, q, n) else (r, q, pl)).2.2 < 0
        rw [if_neg h0]; exact hp
    · rw [if_neg h10, if_neg h11]
      repeat' split
      all_goals exact hp
theorem de_nn {fac : Int64} {o n : Int32} {gg : Nat → Int32} {r q : Nat → Int64} {pl : Int32} (hv : ii_w o n = 1) (hp : ¬ pl < 0) : ¬ (de_w fac o n gg r q pl).2.2.2 < 0 := by
  unfold de_w
  by_cases h4 : o = 4
  · rw [if_pos h4]; exact hp
  rw [if_neg h4]
  by_cases h5 : o = 5
  · rw [if_pos h5]; exact hp
  rw [if_neg h5]
  by_cases h6 : o = 6
  · rw [if_pos h6]; exact hp
  rw [if_neg h6]
  by_cases h9 : o = 9
  · rw [if_pos h9]; exact hp
  rw [if_neg h9]
  by_cases h12 : o = 12
  · rw [if_pos h12]; exact hp
  rw [if_neg h12]
  by_cases h14 : o = 14
  · rw [if_pos h14]; exact hp
  rw [if_neg h14]
  by_cases h15 : o = 15
  · rw [if_pos h15]; exact hp
  rw [if_neg h15]
  exact mv_nn hv hp
def ag_w (p q : Nat → Int64) : Int32 :=
  if q 0 = 58659 * p 0 then (if p 0 = (p 0).toInt32.toInt64 then
    (if q 1 = 58659 * p 1 then (if p 1 = (p 1).toInt32.toInt64 then
      (if q 2 = 58659 * p 2 then (if p 2 = (p 2).toInt32.toInt64 then
        (if q 3 = 58659 * p 3 then (if p 3 = (p 3).toInt32.toInt64 then 1 else 0) else 0) else 0) else 0) else 0) else 0) else 0) else 0
theorem sw_if {A B : Prop} [Decidable A] [Decidable B] {x y : Int32} (h : x = y) : (if A then (if B then x else 0) else (0 : Int32)) = if B then (if A then y else 0) else 0 := by
  subst h
  by_cases h1 : A <;> by_cases h2 : B <;> simp [h1, h2]
theorem cm_q (a b : Int64) : (a * 58659 = b) = (b = 58659 * a) := by
  rw [Int64.mul_comm]
  exact propext ⟨fun h => h.symm, fun h => h.symm⟩
theorem ag_ca (p q : Nat → Int64) : ag_w p q = ca_w p q := by
  unfold ag_w ca_w
  simp only [cm_q]
  exact sw_if (sw_if (sw_if (sw_if rfl)))
theorem rn_012 (f : sx_w → Int32 × sx_w) : ∀ (n : Nat) (X : sx_w), (rn_w f n X).1 = 0 ∨ (rn_w f n X).1 = 1 ∨ (rn_w f n X).1 = 2
  | 0, X => Or.inr (Or.inr rfl)
  | n + 1, X => by
    by_cases h1 : (f X).1 = 1
    · rw [rn_1 h1]; exact Or.inl rfl
    · by_cases h2 : (f X).1 = 2
      · rw [rn_2 h1 h2]; exact Or.inr (Or.inl rfl)
      · rw [rn_3 h1 h2]; exact rn_012 f n (f X).2
theorem pw_in {x sz : Int32} (h1 : ¬ x < 0) (h2 : ¬ sz ≤ x) (hz : sz ≤ 100) : vp_in x 100 := bl_in (bl_n h1 h2) hz
