section DEV
variable {fac : Int64} {n : Int32} {gg : Nat → Int32} {r q : Nat → Int64} {pl : Int32}
theorem de_7p (h : r 16 < r 17) : de_w fac 7 n gg r q pl = (0, vp_updL r 16 fac, q, pl) := by
  show ((0 : Int32), (if r 16 < r 17 then (vp_updL r 16 fac, q, pl) else (vp_updL r 16 0, q, pl))) = _
  rw [if_pos h]
theorem de_7n (h : ¬ r 16 < r 17) : de_w fac 7 n gg r q pl = (0, vp_updL r 16 0, q, pl) := by
  show ((0 : Int32), (if r 16 < r 17 then (vp_updL r 16 fac, q, pl) else (vp_updL r 16 0, q, pl))) = _
  rw [if_neg h]
theorem de_8p (h : r 16 = r 17) : de_w fac 8 n gg r q pl = (0, vp_updL r 16 fac, q, pl) := by
  show ((0 : Int32), (if r 16 = r 17 then (vp_updL r 16 fac, q, pl) else (vp_updL r 16 0, q, pl))) = _
  rw [if_pos h]
theorem de_8n (h : ¬ r 16 = r 17) : de_w fac 8 n gg r q pl = (0, vp_updL r 16 0, q, pl) := by
  show ((0 : Int32), (if r 16 = r 17 then (vp_updL r 16 fac, q, pl) else (vp_updL r 16 0, q, pl))) = _
  rw [if_neg h]
theorem de_11p (h : r 16 = 0) : de_w fac 11 n gg r q pl = (0, r, q, n) := by
  show ((0 : Int32), (if r 16 = 0 then (r, q, n) else (r, q, pl))) = _
  rw [if_pos h]
theorem de_11n (h : ¬ r 16 = 0) : de_w fac 11 n gg r q pl = (0, r, q, pl) := by
  show ((0 : Int32), (if r 16 = 0 then (r, q, n) else (r, q, pl))) = _
  rw [if_neg h]
theorem im_0 {x : Int64} (h : ¬ x - x / fac * fac = 0) : im_w fac x = 0 := by
  unfold im_w
  by_cases hf : fac = 0
  · rw [if_pos hf]
  · rw [if_neg hf, if_neg h]
theorem im_1 {x : Int64} (hf : ¬ fac = 0) (h : x - x / fac * fac = 0) : ¬ im_w fac x = 0 := by
  unfold im_w
  rw [if_neg hf, if_pos h]
  decide
theorem pa_d {x : Int64} (hf : ¬ fac = 0) : pa_w fac x = x / fac := if_neg hf
theorem de_6a (h1 : pb_w (r 16) (r 17) = 0) (h2 : im_w fac (r 16 * r 17) = 0) : de_w fac 6 n gg r q pl = (2, r, q, pl) := by
  show ((ml_w fac r).1, (ml_w fac r).2, q, pl) = _
  rw [show ml_w fac r = (2, r) from (if_pos h1).trans (if_pos h2)]
theorem de_6b (hf : ¬ fac = 0) (h1 : pb_w (r 16) (r 17) = 0) (h2 : ¬ im_w fac (r 16 * r 17) = 0) : de_w fac 6 n gg r q pl = (tb_w fac (r 16 * r 17 / fac), vp_updL r 16 (r 16 * r 17 / fac), q, pl) := by
  show ((ml_w fac r).1, (ml_w fac r).2, q, pl) = _
  rw [show ml_w fac r = (tb_w fac (pa_w fac (r 16 * r 17)), vp_updL r 16 (pa_w fac (r 16 * r 17))) from (if_pos h1).trans (if_neg h2), pa_d hf]
theorem de_6c (h1 : ¬ pb_w (r 16) (r 17) = 0) : de_w fac 6 n gg r q pl = (2, r, q, pl) := by
  show ((ml_w fac r).1, (ml_w fac r).2, q, pl) = _
  rw [show ml_w fac r = (2, r) from if_neg h1]
theorem de_15a (h : ¬ r 16 - r 16 / fac * fac = 0) : de_w fac 15 n gg r q pl = (2, r, q, pl) := by
  show ((lk_w fac r).1, (lk_w fac r).2, q, pl) = _
  rw [show lk_w fac r = (2, r) from if_pos (im_0 h)]
theorem de_15b (hf : ¬ fac = 0) (h : r 16 - r 16 / fac * fac = 0) (h1 : r 16 / fac < 0) : de_w fac 15 n gg r q pl = (2, r, q, pl) := by
  show ((lk_w fac r).1, (lk_w fac r).2, q, pl) = _
  rw [show lk_w fac r = (2, r) from (if_neg (im_1 hf h)).trans (if_pos (by rw [pa_d hf]; exact h1))]
theorem de_15c (hf : ¬ fac = 0) (h : r 16 - r 16 / fac * fac = 0) (h1 : ¬ r 16 / fac < 0) (h2 : r 16 / fac < 16) : de_w fac 15 n gg r q pl = (0, vp_updL r 16 (r (r 16 / fac).toInt32.toNatClampNeg), q, pl) := by
  show ((lk_w fac r).1, (lk_w fac r).2, q, pl) = _
  rw [show lk_w fac r = (0, vp_updL r 16 (r (pa_w fac (r 16)).toInt32.toNatClampNeg)) from (if_neg (im_1 hf h)).trans ((if_neg (by rw [pa_d hf]; exact h1)).trans (if_pos (by rw [pa_d hf]; exact h2))), pa_d hf]
theorem de_15d (hf : ¬ fac = 0) (h : r 16 - r 16 / fac * fac = 0) (h1 : ¬ r 16 / fac < 0) (h2 : ¬ r 16 / fac < 16) : de_w fac 15 n gg r q pl = (2, r, q, pl) := by
  show ((lk_w fac r).1, (lk_w fac r).2, q, pl) = _
  rw [show lk_w fac r = (2, r) from (if_neg (im_1 hf h)).trans ((if_neg (by rw [pa_d hf]; exact h1)).trans (if_neg (by rw [pa_d hf]; exact h2)))]
end DEV
theorem dm_1 (b : Int64) : (-1) * b / (-1) = b := by
  apply Int64.toInt_inj.mp
  by_cases hb : b = Int64.minValue
  · subst hb; decide
  · have hb' : b.toInt ≠ Int64.minValue.toInt := fun h => hb (Int64.toInt_inj.mp h)
    have hm : Int64.minValue.toInt = -9223372036854775808 := by decide
    have e1 : (-1 : Int64).toInt = -1 := by decide
    have h1 := Int64.minValue_le_toInt b
    have h2 := Int64.toInt_lt b
    rw [hm] at hb' h1
    have e2 : ((-1) * b).toInt = -b.toInt := by
      rw [Int64.toInt_mul, e1]
      rw [Int.bmod_eq_of_le (by omega) (by omega)]
      omega
    rw [Int64.toInt_div, e2, e1]
    rw [show (-b.toInt).tdiv (-1) = b.toInt by rw [Int.tdiv_neg, Int.tdiv_one]; omega]
    rw [Int.bmod_eq_of_le (by omega) (by omega)]
section PBV
variable {a b : Int64}
theorem pb_1 (h : a = 0) : pb_w a b = 0 := if_pos h
theorem pb_2 (h : ¬ a = 0) (h2 : ¬ a * b / a = b) : ¬ pb_w a b = 0 := by
  by_cases h3 : a = (-1)
  · exact absurd (by rw [h3]; exact dm_1 b) h2
  · unfold pb_w
    rw [if_neg h, if_neg h3, if_neg h2]
    decide
theorem pb_3 (h : ¬ a = 0) (h2 : a * b / a = b) (h3 : ¬ a = (-1)) : pb_w a b = 0 := by
  unfold pb_w
  rw [if_neg h, if_neg h3, if_pos h2]
theorem pb_4 (h3 : a = (-1)) (h4 : b = (-9223372036854775808)) : ¬ pb_w a b = 0 := by
  subst h3; subst h4; decide
theorem pb_5 (h : ¬ a = 0) (h3 : a = (-1)) (h4 : ¬ b = (-9223372036854775808)) : pb_w a b = 0 := by
  unfold pb_w
  rw [if_neg h, if_pos h3, if_neg h4]
end PBV
theorem en_0 {o e : Int32} (h : ¬ o = 1) : e = en_w o e := (if_neg h).symm
