theorem le_0 {x : Int32} (h : x ≤ 0) (h2 : ¬ x < 0) : x = 0 := Int32.le_antisymm h (Int32.not_lt.mp h2)
theorem nle_0 {x : Int32} (h : ¬ x ≤ 0) : ¬ x = 0 := fun e => h (by rw [e]; exact Int32.le_refl 0)
theorem rn_pos {f : sx_w → Int32 × sx_w} {n : Nat} {X : sx_w} (h : ¬ (rn_w f n X).1 = 0) : ¬ (rn_w f n X).1 ≤ 0 := by
  rcases rn_012 f n X with e | e | e
  · exact absurd e h
  · rw [e]; decide
  · rw [e]; decide
