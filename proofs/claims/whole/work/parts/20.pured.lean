def li_w (x : Int32) : Nat := (max 1 (min 5000 x.toInt)).toNat
theorem li_le (x : Int32) : li_w x ≤ 5000 := by unfold li_w; omega
theorem li_ge (x : Int32) : 1 ≤ li_w x := by unfold li_w; omega
theorem li_I {x y : Int32} (h : y.toInt = max 1 (min 5000 x.toInt)) : y = nI (li_w x) := by
  apply Int32.toInt_inj.mp
  rw [h, nI_toInt (by have := li_le x; omega)]
  unfold li_w
  omega
theorem li_e (x : Int32) : (if (1 : Int32) < (if x < 5000 then x else 5000) then (if x < 5000 then x else 5000) else 1) = nI (li_w x) := by
  apply li_I
  have e1 : (1 : Int32).toInt = 1 := by decide
  have e5 : (5000 : Int32).toInt = 5000 := by decide
  by_cases h1 : x < 5000
  · have h1' := Int32.lt_iff_toInt_lt.mp h1
    rw [if_pos h1]
    by_cases h2 : 1 < x
    · have h2' := Int32.lt_iff_toInt_lt.mp h2
      rw [if_pos h2]; omega
    · have h2' := Int32.le_iff_toInt_le.mp (Int32.not_lt.mp h2)
      rw [if_neg h2]; omega
  · have h1' := Int32.le_iff_toInt_le.mp (Int32.not_lt.mp h1)
    rw [if_neg h1]
    rw [if_pos (by decide)]; omega
theorem li_r (x : Int32) : (if x < 1 then (1 : Int32) else if 5000 < x then 5000 else x) = nI (li_w x) := by
  apply li_I
  have e1 : (1 : Int32).toInt = 1 := by decide
  have e5 : (5000 : Int32).toInt = 5000 := by decide
  by_cases h1 : x < 1
  · have h1' := Int32.lt_iff_toInt_lt.mp h1
    rw [if_pos h1]; omega
  · have h1' := Int32.le_iff_toInt_le.mp (Int32.not_lt.mp h1)
    rw [if_neg h1]
    by_cases h2 : 5000 < x
    · have h2' := Int32.lt_iff_toInt_lt.mp h2
      rw [if_pos h2]; omega
    · have h2' := Int32.le_iff_toInt_le.mp (Int32.not_lt.mp h2)
      rw [if_neg h2]; omega
