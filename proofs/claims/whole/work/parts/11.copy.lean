theorem tw_206 : (Cond.constantLong R_Copy 76 2000000000) ∈ TB_w := List.mem_filter.mpr ⟨List.mem_of_getElem? (i := 206) (by decide +kernel), by decide +kernel⟩
theorem tw_68 : (Cond.fieldLink R_Copy 22 "TwinGate$Copy" "factor" "J") ∈ TB_w := List.mem_filter.mpr ⟨List.mem_of_getElem? (i := 68) (by decide +kernel), by decide +kernel⟩
theorem tw_69 : (Cond.fieldLink R_Copy 9 "TwinGate$Copy" "row" "[J") ∈ TB_w := List.mem_filter.mpr ⟨List.mem_of_getElem? (i := 69) (by decide +kernel), by decide +kernel⟩
theorem tw_214 : (Cond.constantLong R_Copy 78 (-1)) ∈ TB_w := List.mem_filter.mpr ⟨List.mem_of_getElem? (i := 214) (by decide +kernel), by decide +kernel⟩
theorem tw_215 : (Cond.constantLong R_Copy 82 (-9223372036854775808)) ∈ TB_w := List.mem_filter.mpr ⟨List.mem_of_getElem? (i := 215) (by decide +kernel), by decide +kernel⟩
theorem tw_213 : (Cond.code y_Copy_isProductBeyond64Bits b_Copy_isProductBeyond64Bits 4 (some .boolean)) ∈ TB_w := List.mem_filter.mpr ⟨List.mem_of_getElem? (i := 213) rfl, by decide +kernel⟩
theorem tw_22 : (Cond.initialized R_Copy) ∈ TB_w := List.mem_filter.mpr ⟨List.mem_of_getElem? (i := 22) (by decide +kernel), by decide +kernel⟩
theorem tw_211 : (Cond.methodLink R_Copy 62 y_Copy_isProductBeyond64Bits) ∈ TB_w := List.mem_filter.mpr ⟨List.mem_of_getElem? (i := 211) (by decide +kernel), by decide +kernel⟩
theorem tw_212 : (Cond.static y_Copy_isProductBeyond64Bits) ∈ TB_w := List.mem_filter.mpr ⟨List.mem_of_getElem? (i := 212) (by decide +kernel), by decide +kernel⟩
theorem tw_219 : (Cond.code y_Copy_isMultiple b_Copy_isMultiple 3 (some .boolean)) ∈ TB_w := List.mem_filter.mpr ⟨List.mem_of_getElem? (i := 219) rfl, by decide +kernel⟩
theorem tw_216 : (Cond.methodLink R_Copy 66 y_Copy_isMultiple) ∈ TB_w := List.mem_filter.mpr ⟨List.mem_of_getElem? (i := 216) (by decide +kernel), by decide +kernel⟩
theorem tw_218 : (Cond.instanceMethod y_Copy_isMultiple) ∈ TB_w := List.mem_filter.mpr ⟨List.mem_of_getElem? (i := 218) (by decide +kernel), by decide +kernel⟩
theorem tw_6 : (Cond.selects R_Copy y_Copy_isMultiple y_Copy_isMultiple) ∈ TB_w := List.mem_filter.mpr ⟨List.mem_of_getElem? (i := 6) (by decide +kernel), by decide +kernel⟩
theorem tw_223 : (Cond.code y_Copy_part b_Copy_part 3 (some .long)) ∈ TB_w := List.mem_filter.mpr ⟨List.mem_of_getElem? (i := 223) rfl, by decide +kernel⟩
theorem tw_220 : (Cond.methodLink R_Copy 70 y_Copy_part) ∈ TB_w := List.mem_filter.mpr ⟨List.mem_of_getElem? (i := 220) (by decide +kernel), by decide +kernel⟩
theorem tw_222 : (Cond.instanceMethod y_Copy_part) ∈ TB_w := List.mem_filter.mpr ⟨List.mem_of_getElem? (i := 222) (by decide +kernel), by decide +kernel⟩
theorem tw_7 : (Cond.selects R_Copy y_Copy_part y_Copy_part) ∈ TB_w := List.mem_filter.mpr ⟨List.mem_of_getElem? (i := 7) (by decide +kernel), by decide +kernel⟩
theorem tw_205 : (Cond.code y_Copy_trapBeyondBound b_Copy_trapBeyondBound 3 (some .int)) ∈ TB_w := List.mem_filter.mpr ⟨List.mem_of_getElem? (i := 205) rfl, by decide +kernel⟩
theorem tw_202 : (Cond.methodLink R_Copy 48 y_Copy_trapBeyondBound) ∈ TB_w := List.mem_filter.mpr ⟨List.mem_of_getElem? (i := 202) (by decide +kernel), by decide +kernel⟩
theorem tw_204 : (Cond.instanceMethod y_Copy_trapBeyondBound) ∈ TB_w := List.mem_filter.mpr ⟨List.mem_of_getElem? (i := 204) (by decide +kernel), by decide +kernel⟩
theorem tw_4 : (Cond.selects R_Copy y_Copy_trapBeyondBound y_Copy_trapBeyondBound) ∈ TB_w := List.mem_filter.mpr ⟨List.mem_of_getElem? (i := 4) (by decide +kernel), by decide +kernel⟩
theorem tw_228 : (Cond.constantLong R_Copy 74 16) ∈ TB_w := List.mem_filter.mpr ⟨List.mem_of_getElem? (i := 228) (by decide +kernel), by decide +kernel⟩
theorem tw_73 : (Cond.fieldLink R_Copy 18 "TwinGate$Copy" "place" "I") ∈ TB_w := List.mem_filter.mpr ⟨List.mem_of_getElem? (i := 73) (by decide +kernel), by decide +kernel⟩
theorem tw_71 : (Cond.fieldLink R_Copy 15 "TwinGate$Copy" "ports" "[J") ∈ TB_w := List.mem_filter.mpr ⟨List.mem_of_getElem? (i := 71) (by decide +kernel), by decide +kernel⟩
set_option maxHeartbeats 4000000 in
set_option maxRecDepth 100000 in
theorem c_Copy_trapBeyondBound (l : Launch) (dC : Nat → ClassId) (dI : Nat → Nat → Nat) (cI cL : ClassId) (hs0 : Nat) (cp : Nat) (rw : Nat) (po : Nat) (fac : Int64) (rr : Nat → Int64) (qq : Nat → Int64) (pl : Int32)  : ct_i l y_Copy_trapBeyondBound b_Copy_trapBeyondBound 3 (some .int) ({ frames := 0, cells := 0, slots := 0, locals := 0 }) (dC, dI) cI cL [.ref cp] [(cp, .inr (1, [.long fac, .ref rw, .ref po, .int pl])), (rw, .inl (cL, 18, .inr (.inl rr))), (po, .inl (cL, 4, .inr (.inl qq)))] hs0 (fun (r : Int32) (u : Unit) => r = tb_w fac (rr 16)) (fun u => [(cp, .inr (1, [.long fac, .ref rw, .ref po, .int pl])), (rw, .inl (cL, 18, .inr (.inl rr))), (po, .inl (cL, 4, .inr (.inl qq)))]) 0 0 := by
  refine st_w (Qc := fun A => va_Qi (fun (r : Int32) (u : Unit) => r = tb_w fac (rr 16)) (fun (u : Unit) t => pos_w (dC, dI) A [(cp, .inr (1, [.long fac, .ref rw, .ref po, .int pl])), (rw, .inl (cL, 18, .inr (.inl rr))), (po, .inl (cL, 4, .inr (.inl qq)))] t) A) (by decide) (Nat.le_of_ble_eq_true rfl) ?_
  intro p e s m below meth c A ls hfx hK hA hP hD hS hl
  obtain ⟨hx, hb, hml, hown, htb, hr, hlocks, hin⟩ := hfx
  have hl : lv_has ls 3 [(0, .ref cp)] := hl
  refine lv_ldc2 (v := 2000000000) hx hb hown (htb _ tw_206) d_Copy_trapBeyondBound_0 ?_
  refine lv_aload_n hx hb d_Copy_trapBeyondBound_3 rfl (lv_at hl 0 rfl) ?_
  refine va_get (D := (dC, dI)) (ci := 1) (v := .long fac) (C := R_Copy) (T := F_Copy) (N := 4) hx hb htb iw_Copy hown hK.1 hP 0 rfl rfl 0 (by decide) (htb _ tw_68) (fun _ h9 => h9) rfl d_Copy_trapBeyondBound_4 ?_
  refine lv_lmul hx hb d_Copy_trapBeyondBound_7 ?_
  refine lv_lstore_n (lv' := [(1, .long (2000000000 * fac)), (0, .ref cp)]) hx hb d_Copy_trapBeyondBound_8 rfl hl (by decide) rfl (fun ls hl => ?_)
  refine lv_aload_n hx hb d_Copy_trapBeyondBound_9 rfl (lv_at hl 1 rfl) ?_
  refine va_get (D := (dC, dI)) (ci := 1) (v := .ref rw) (C := R_Copy) (T := F_Copy) (N := 4) hx hb htb iw_Copy hown hK.1 hP 0 rfl rfl 1 (by decide) (htb _ tw_69) (fun _ h9 => h9) rfl d_Copy_trapBeyondBound_10 ?_
  refine lv_bipush (v := 16) hx hb d_Copy_trapBeyondBound_13 (by decide) ?_
  refine ld_l (v := rr 16) (cA := cL) hx hb hK.1 hP 1 1 rfl rfl (show ¬ (_ ∨ _) by decide) rfl d_Copy_trapBeyondBound_15 ?_
  refine lv_lload_n hx hb d_Copy_trapBeyondBound_16 rfl (lv_at hl 0 rfl) ?_
  refine W.lcmp hx hb d_Copy_trapBeyondBound_17 ?_
  refine lv_if_gt (tgt := 34) hx hb d_Copy_trapBeyondBound_18 (by decide) (fun c_1 => ?_) (fun c_1 => ?_)
  · have c_1 : 0 < (lg_cmp (rr 16) (2000000000 * fac)) := c_1
    rw [lc_gt] at c_1
    refine lv_iconst (v := 2) hx hb d_Copy_trapBeyondBound_34 (by decide) ?_
    refine lv_goto (tgt := 39) hx hb d_Copy_trapBeyondBound_35 (by decide) ?_
    exact rt_i (v := 2) () hx hb hr hlocks (show (2 : Int32) = tb_w fac (rr 16) from (by simp only [tb_w, if_pos c_1, and_self])) (hP.sub (ws' := [(cp, .inr (1, [.long fac, .ref rw, .ref po, .int pl])), (rw, .inl (cL, 18, .inr (.inl rr))), (po, .inl (cL, 4, .inr (.inl qq)))]) [0, 1, 2] rfl) (hD.sub (ws' := [(cp, .inr (1, [.long fac, .ref rw, .ref po, .int pl])), (rw, .inl (cL, 18, .inr (.inl rr))), (po, .inl (cL, 4, .inr (.inl qq)))]) [0, 1, 2] (by decide) rfl) hS d_Copy_trapBeyondBound_39
  · have c_1 : ¬ 0 < (lg_cmp (rr 16) (2000000000 * fac)) := c_1
    rw [lc_gt] at c_1
    refine lv_aload_n hx hb d_Copy_trapBeyondBound_21 rfl (lv_at hl 1 rfl) ?_
    refine va_get (D := (dC, dI)) (ci := 1) (v := .ref rw) (C := R_Copy) (T := F_Copy) (N := 4) hx hb htb iw_Copy hown hK.1 hP 0 rfl rfl 1 (by decide) (htb _ tw_69) (fun _ h9 => h9) rfl d_Copy_trapBeyondBound_22 ?_
    refine lv_bipush (v := 16) hx hb d_Copy_trapBeyondBound_25 (by decide) ?_
    refine ld_l (v := rr 16) (cA := cL) hx hb hK.1 hP 1 1 rfl rfl (show ¬ (_ ∨ _) by decide) rfl d_Copy_trapBeyondBound_27 ?_
    refine lv_lload_n hx hb d_Copy_trapBeyondBound_28 rfl (lv_at hl 0 rfl) ?_
    refine lv_lneg hx hb d_Copy_trapBeyondBound_29 ?_
    refine W.lcmp hx hb d_Copy_trapBeyondBound_30 ?_
    refine lv_if_ge (tgt := 38) hx hb d_Copy_trapBeyondBound_31 (by decide) (fun c_2 => ?_) (fun c_2 => ?_)
    · have c_2 : 0 ≤ (lg_cmp (rr 16) (-(2000000000 * fac))) := c_2
      rw [lc_ge] at c_2
      refine lv_iconst (v := 0) hx hb d_Copy_trapBeyondBound_38 (by decide) ?_
      exact rt_i (v := 0) () hx hb hr hlocks (show (0 : Int32) = tb_w fac (rr 16) from (by simp only [tb_w, if_neg c_1, if_neg c_2, and_self])) (hP.sub (ws' := [(cp, .inr (1, [.long fac, .ref rw, .ref po, .int pl])), (rw, .inl (cL, 18, .inr (.inl rr))), (po, .inl (cL, 4, .inr (.inl qq)))]) [0, 1, 2] rfl) (hD.sub (ws' := [(cp, .inr (1, [.long fac, .ref rw, .ref po, .int pl])), (rw, .inl (cL, 18, .inr (.inl rr))), (po, .inl (cL, 4, .inr (.inl qq)))]) [0, 1, 2] (by decide) rfl) hS d_Copy_trapBeyondBound_39
    · have c_2 : ¬ 0 ≤ (lg_cmp (rr 16) (-(2000000000 * fac))) := c_2
      rw [lc_ge, Decidable.not_not] at c_2
      refine lv_iconst (v := 2) hx hb d_Copy_trapBeyondBound_34 (by decide) ?_
      refine lv_goto (tgt := 39) hx hb d_Copy_trapBeyondBound_35 (by decide) ?_
      exact rt_i (v := 2) () hx hb hr hlocks (show (2 : Int32) = tb_w fac (rr 16) from (by simp only [tb_w, if_neg c_1, if_pos c_2, and_self])) (hP.sub (ws' := [(cp, .inr (1, [.long fac, .ref rw, .ref po, .int pl])), (rw, .inl (cL, 18, .inr (.inl rr))), (po, .inl (cL, 4, .inr (.inl qq)))]) [0, 1, 2] rfl) (hD.sub (ws' := [(cp, .inr (1, [.long fac, .ref rw, .ref po, .int pl])), (rw, .inl (cL, 18, .inr (.inl rr))), (po, .inl (cL, 4, .inr (.inl qq)))]) [0, 1, 2] (by decide) rfl) hS d_Copy_trapBeyondBound_39

set_option maxHeartbeats 4000000 in
set_option maxRecDepth 100000 in
theorem c_Copy_isMultiple (l : Launch) (dC : Nat → ClassId) (dI : Nat → Nat → Nat) (cI cL : ClassId) (hs0 : Nat) (cp : Nat) (rw : Nat) (po : Nat) (fac : Int64) (rr : Nat → Int64) (qq : Nat → Int64) (pl : Int32) (v0 : Int64)  : ct_i l y_Copy_isMultiple b_Copy_isMultiple 3 (some .boolean) ({ frames := 0, cells := 0, slots := 0, locals := 0 }) (dC, dI) cI cL [.ref cp, .long v0] [(cp, .inr (1, [.long fac, .ref rw, .ref po, .int pl])), (rw, .inl (cL, 18, .inr (.inl rr))), (po, .inl (cL, 4, .inr (.inl qq)))] hs0 (fun (r : Int32) (u : Unit) => r = im_w fac v0) (fun u => [(cp, .inr (1, [.long fac, .ref rw, .ref po, .int pl])), (rw, .inl (cL, 18, .inr (.inl rr))), (po, .inl (cL, 4, .inr (.inl qq)))]) 0 0 := by
  refine st_w (Qc := fun A => va_Qi (fun (r : Int32) (u : Unit) => r = im_w fac v0) (fun (u : Unit) t => pos_w (dC, dI) A [(cp, .inr (1, [.long fac, .ref rw, .ref po, .int pl])), (rw, .inl (cL, 18, .inr (.inl rr))), (po, .inl (cL, 4, .inr (.inl qq)))] t) A) (by decide) (Nat.le_of_ble_eq_true rfl) ?_
  intro p e s m below meth c A ls hfx hK hA hP hD hS hl
  obtain ⟨hx, hb, hml, hown, htb, hr, hlocks, hin⟩ := hfx
  have hl : lv_has ls 3 [(0, .ref cp), (1, .long v0)] := hl
  refine lv_aload_n hx hb d_Copy_isMultiple_0 rfl (lv_at hl 0 rfl) ?_
  refine va_get (D := (dC, dI)) (ci := 1) (v := .long fac) (C := R_Copy) (T := F_Copy) (N := 4) hx hb htb iw_Copy hown hK.1 hP 0 rfl rfl 0 (by decide) (htb _ tw_68) (fun _ h9 => h9) rfl d_Copy_isMultiple_1 ?_
  refine lv_lconst (v := 0) hx hb d_Copy_isMultiple_4 (by decide) ?_
  refine W.lcmp hx hb d_Copy_isMultiple_5 ?_
  refine lv_if_eq (tgt := 24) hx hb d_Copy_isMultiple_6 (by decide) (fun c_1 => ?_) (fun c_1 => ?_)
  · have c_1 : (lg_cmp fac 0) = 0 := c_1
    rw [lc_eq] at c_1
    refine lv_iconst (v := 0) hx hb d_Copy_isMultiple_24 (by decide) ?_
    exact rt_z (v := 0) () hx hb hr hlocks (by decide) (show (0 : Int32) = im_w fac v0 from (by simp only [im_w, if_pos c_1, and_self])) (hP.sub (ws' := [(cp, .inr (1, [.long fac, .ref rw, .ref po, .int pl])), (rw, .inl (cL, 18, .inr (.inl rr))), (po, .inl (cL, 4, .inr (.inl qq)))]) [0, 1, 2] rfl) (hD.sub (ws' := [(cp, .inr (1, [.long fac, .ref rw, .ref po, .int pl])), (rw, .inl (cL, 18, .inr (.inl rr))), (po, .inl (cL, 4, .inr (.inl qq)))]) [0, 1, 2] (by decide) rfl) hS d_Copy_isMultiple_25
  · have c_1 : ¬ (lg_cmp fac 0) = 0 := c_1
    rw [lc_eq] at c_1
    refine lv_lload_n hx hb d_Copy_isMultiple_9 rfl (lv_at hl 1 rfl) ?_
    refine lv_aload_n hx hb d_Copy_isMultiple_10 rfl (lv_at hl 0 rfl) ?_
    refine va_get (D := (dC, dI)) (ci := 1) (v := .long fac) (C := R_Copy) (T := F_Copy) (N := 4) hx hb htb iw_Copy hown hK.1 hP 0 rfl rfl 0 (by decide) (htb _ tw_68) (fun _ h9 => h9) rfl d_Copy_isMultiple_11 ?_
    refine lv_lrem hx hb d_Copy_isMultiple_14 (c_1) ?_
    refine lv_lconst (v := 0) hx hb d_Copy_isMultiple_15 (by decide) ?_
    refine W.lcmp hx hb d_Copy_isMultiple_16 ?_
    refine lv_if_ne (tgt := 24) hx hb d_Copy_isMultiple_17 (by decide) (fun c_2 => ?_) (fun c_2 => ?_)
    · have c_2 : ¬ (lg_cmp (v0 - v0 / fac * fac) 0) = 0 := c_2
      rw [lc_eq] at c_2
      refine lv_iconst (v := 0) hx hb d_Copy_isMultiple_24 (by decide) ?_
      exact rt_z (v := 0) () hx hb hr hlocks (by decide) (show (0 : Int32) = im_w fac v0 from (by simp only [im_w, if_neg c_1, if_neg c_2, and_self])) (hP.sub (ws' := [(cp, .inr (1, [.long fac, .ref rw, .ref po, .int pl])), (rw, .inl (cL, 18, .inr (.inl rr))), (po, .inl (cL, 4, .inr (.inl qq)))]) [0, 1, 2] rfl) (hD.sub (ws' := [(cp, .inr (1, [.long fac, .ref rw, .ref po, .int pl])), (rw, .inl (cL, 18, .inr (.inl rr))), (po, .inl (cL, 4, .inr (.inl qq)))]) [0, 1, 2] (by decide) rfl) hS d_Copy_isMultiple_25
    · have c_2 : (lg_cmp (v0 - v0 / fac * fac) 0) = 0 := c_2
      rw [lc_eq] at c_2
      refine lv_iconst (v := 1) hx hb d_Copy_isMultiple_20 (by decide) ?_
      refine lv_goto (tgt := 25) hx hb d_Copy_isMultiple_21 (by decide) ?_
      exact rt_z (v := 1) () hx hb hr hlocks (by decide) (show (1 : Int32) = im_w fac v0 from (by simp only [im_w, if_neg c_1, if_pos c_2, and_self])) (hP.sub (ws' := [(cp, .inr (1, [.long fac, .ref rw, .ref po, .int pl])), (rw, .inl (cL, 18, .inr (.inl rr))), (po, .inl (cL, 4, .inr (.inl qq)))]) [0, 1, 2] rfl) (hD.sub (ws' := [(cp, .inr (1, [.long fac, .ref rw, .ref po, .int pl])), (rw, .inl (cL, 18, .inr (.inl rr))), (po, .inl (cL, 4, .inr (.inl qq)))]) [0, 1, 2] (by decide) rfl) hS d_Copy_isMultiple_25

set_option maxHeartbeats 4000000 in
set_option maxRecDepth 100000 in
theorem c_Copy_part (l : Launch) (dC : Nat → ClassId) (dI : Nat → Nat → Nat) (cI cL : ClassId) (hs0 : Nat) (cp : Nat) (rw : Nat) (po : Nat) (fac : Int64) (rr : Nat → Int64) (qq : Nat → Int64) (pl : Int32) (v0 : Int64)  : ct_l l y_Copy_part b_Copy_part 3 (some .long) ({ frames := 0, cells := 0, slots := 0, locals := 0 }) (dC, dI) cI cL [.ref cp, .long v0] [(cp, .inr (1, [.long fac, .ref rw, .ref po, .int pl])), (rw, .inl (cL, 18, .inr (.inl rr))), (po, .inl (cL, 4, .inr (.inl qq)))] hs0 (fun (r : Int64) (u : Unit) => r = pa_w fac v0) (fun u => [(cp, .inr (1, [.long fac, .ref rw, .ref po, .int pl])), (rw, .inl (cL, 18, .inr (.inl rr))), (po, .inl (cL, 4, .inr (.inl qq)))]) 0 0 := by
  refine st_w (Qc := fun A => va_Ql (fun (r : Int64) (u : Unit) => r = pa_w fac v0) (fun (u : Unit) t => pos_w (dC, dI) A [(cp, .inr (1, [.long fac, .ref rw, .ref po, .int pl])), (rw, .inl (cL, 18, .inr (.inl rr))), (po, .inl (cL, 4, .inr (.inl qq)))] t) A) (by decide) (Nat.le_of_ble_eq_true rfl) ?_
  intro p e s m below meth c A ls hfx hK hA hP hD hS hl
  obtain ⟨hx, hb, hml, hown, htb, hr, hlocks, hin⟩ := hfx
  have hl : lv_has ls 3 [(0, .ref cp), (1, .long v0)] := hl
  refine lv_aload_n hx hb d_Copy_part_0 rfl (lv_at hl 0 rfl) ?_
  refine va_get (D := (dC, dI)) (ci := 1) (v := .long fac) (C := R_Copy) (T := F_Copy) (N := 4) hx hb htb iw_Copy hown hK.1 hP 0 rfl rfl 0 (by decide) (htb _ tw_68) (fun _ h9 => h9) rfl d_Copy_part_1 ?_
  refine lv_lconst (v := 0) hx hb d_Copy_part_4 (by decide) ?_
  refine W.lcmp hx hb d_Copy_part_5 ?_
  refine lv_if_eq (tgt := 18) hx hb d_Copy_part_6 (by decide) (fun c_1 => ?_) (fun c_1 => ?_)
  · have c_1 : (lg_cmp fac 0) = 0 := c_1
    rw [lc_eq] at c_1
    refine lv_lconst (v := 0) hx hb d_Copy_part_18 (by decide) ?_
    exact rt_l (v := 0) () hx hb hr hlocks (show (0 : Int64) = pa_w fac v0 from (by simp only [pa_w, if_pos c_1, and_self])) (hP.sub (ws' := [(cp, .inr (1, [.long fac, .ref rw, .ref po, .int pl])), (rw, .inl (cL, 18, .inr (.inl rr))), (po, .inl (cL, 4, .inr (.inl qq)))]) [0, 1, 2] rfl) (hD.sub (ws' := [(cp, .inr (1, [.long fac, .ref rw, .ref po, .int pl])), (rw, .inl (cL, 18, .inr (.inl rr))), (po, .inl (cL, 4, .inr (.inl qq)))]) [0, 1, 2] (by decide) rfl) hS d_Copy_part_19
  · have c_1 : ¬ (lg_cmp fac 0) = 0 := c_1
    rw [lc_eq] at c_1
    refine lv_lload_n hx hb d_Copy_part_9 rfl (lv_at hl 1 rfl) ?_
    refine lv_aload_n hx hb d_Copy_part_10 rfl (lv_at hl 0 rfl) ?_
    refine va_get (D := (dC, dI)) (ci := 1) (v := .long fac) (C := R_Copy) (T := F_Copy) (N := 4) hx hb htb iw_Copy hown hK.1 hP 0 rfl rfl 0 (by decide) (htb _ tw_68) (fun _ h9 => h9) rfl d_Copy_part_11 ?_
    refine lv_ldiv hx hb d_Copy_part_14 (c_1) ?_
    refine lv_goto (tgt := 19) hx hb d_Copy_part_15 (by decide) ?_
    exact rt_l (v := v0 / fac) () hx hb hr hlocks (show (v0 / fac) = pa_w fac v0 from (by simp only [pa_w, if_neg c_1, and_self])) (hP.sub (ws' := [(cp, .inr (1, [.long fac, .ref rw, .ref po, .int pl])), (rw, .inl (cL, 18, .inr (.inl rr))), (po, .inl (cL, 4, .inr (.inl qq)))]) [0, 1, 2] rfl) (hD.sub (ws' := [(cp, .inr (1, [.long fac, .ref rw, .ref po, .int pl])), (rw, .inl (cL, 18, .inr (.inl rr))), (po, .inl (cL, 4, .inr (.inl qq)))]) [0, 1, 2] (by decide) rfl) hS d_Copy_part_19

set_option maxHeartbeats 4000000 in
set_option maxRecDepth 100000 in
theorem c_Copy_isProductBeyond64Bits (l : Launch) (dC : Nat → ClassId) (dI : Nat → Nat → Nat) (cI cL : ClassId) (hs0 : Nat) (x0 : Int64) (y0 : Int64)  : ct_i l y_Copy_isProductBeyond64Bits b_Copy_isProductBeyond64Bits 4 (some .boolean) ({ frames := 0, cells := 0, slots := 0, locals := 0 }) (dC, dI) cI cL [.long x0, .long y0] [] hs0 (fun (r : Int32) (u : Unit) => r = pb_w x0 y0) (fun u => []) 0 0 := by
  refine st_w (Qc := fun A => va_Qi (fun (r : Int32) (u : Unit) => r = pb_w x0 y0) (fun (u : Unit) t => pos_w (dC, dI) A [] t) A) (by decide) (Nat.le_of_ble_eq_true rfl) ?_
  intro p e s m below meth c A ls hfx hK hA hP hD hS hl
  obtain ⟨hx, hb, hml, hown, htb, hr, hlocks, hin⟩ := hfx
  have hl : lv_has ls 4 [(0, .long x0), (2, .long y0)] := hl
  refine lv_lload_n hx hb d_Copy_isProductBeyond64Bits_0 rfl (lv_at hl 0 rfl) ?_
  refine lv_lconst (v := 0) hx hb d_Copy_isProductBeyond64Bits_1 (by decide) ?_
  refine W.lcmp hx hb d_Copy_isProductBeyond64Bits_2 ?_
  refine lv_if_ne (tgt := 8) hx hb d_Copy_isProductBeyond64Bits_3 (by decide) (fun c_1 => ?_) (fun c_1 => ?_)
  · have c_1 : ¬ (lg_cmp x0 0) = 0 := c_1
    rw [lc_eq] at c_1
    refine lv_lload_n hx hb d_Copy_isProductBeyond64Bits_8 rfl (lv_at hl 0 rfl) ?_
    refine lv_ldc2 (v := (-1)) hx hb hown (htb _ tw_214) d_Copy_isProductBeyond64Bits_9 ?_
    refine W.lcmp hx hb d_Copy_isProductBeyond64Bits_12 ?_
    refine lv_if_ne (tgt := 30) hx hb d_Copy_isProductBeyond64Bits_13 (by decide) (fun c_2 => ?_) (fun c_2 => ?_)
    · have c_2 : ¬ (lg_cmp x0 (-1)) = 0 := c_2
      rw [lc_eq] at c_2
      refine lv_lload_n hx hb d_Copy_isProductBeyond64Bits_30 rfl (lv_at hl 0 rfl) ?_
      refine lv_lload_n hx hb d_Copy_isProductBeyond64Bits_31 rfl (lv_at hl 1 rfl) ?_
      refine lv_lmul hx hb d_Copy_isProductBeyond64Bits_32 ?_
      refine lv_lload_n hx hb d_Copy_isProductBeyond64Bits_33 rfl (lv_at hl 0 rfl) ?_
      refine lv_ldiv hx hb d_Copy_isProductBeyond64Bits_34 (c_1) ?_
      refine lv_lload_n hx hb d_Copy_isProductBeyond64Bits_35 rfl (lv_at hl 1 rfl) ?_
      refine W.lcmp hx hb d_Copy_isProductBeyond64Bits_36 ?_
      refine lv_if_eq (tgt := 44) hx hb d_Copy_isProductBeyond64Bits_37 (by decide) (fun c_3 => ?_) (fun c_3 => ?_)
      · have c_3 : (lg_cmp ((x0 * y0) / x0) y0) = 0 := c_3
        rw [lc_eq] at c_3
        refine lv_iconst (v := 0) hx hb d_Copy_isProductBeyond64Bits_44 (by decide) ?_
        exact rt_z (v := 0) () hx hb hr hlocks (by decide) (show (0 : Int32) = pb_w x0 y0 from (by simp only [pb_w, if_neg c_1, if_neg c_2, if_pos c_3, and_self])) (hP.sub (ws' := []) [] rfl) (hD.sub (ws' := []) [] (by decide) rfl) hS d_Copy_isProductBeyond64Bits_45
      · have c_3 : ¬ (lg_cmp ((x0 * y0) / x0) y0) = 0 := c_3
        rw [lc_eq] at c_3
        refine lv_iconst (v := 1) hx hb d_Copy_isProductBeyond64Bits_40 (by decide) ?_
        refine lv_goto (tgt := 45) hx hb d_Copy_isProductBeyond64Bits_41 (by decide) ?_
        exact rt_z (v := 1) () hx hb hr hlocks (by decide) (show (1 : Int32) = pb_w x0 y0 from (by simp only [pb_w, if_neg c_1, if_neg c_2, if_neg c_3, and_self])) (hP.sub (ws' := []) [] rfl) (hD.sub (ws' := []) [] (by decide) rfl) hS d_Copy_isProductBeyond64Bits_45
    · have c_2 : (lg_cmp x0 (-1)) = 0 := c_2
      rw [lc_eq] at c_2
      refine lv_lload_n hx hb d_Copy_isProductBeyond64Bits_16 rfl (lv_at hl 1 rfl) ?_
      refine lv_ldc2 (v := (-9223372036854775808)) hx hb hown (htb _ tw_215) d_Copy_isProductBeyond64Bits_17 ?_
      refine W.lcmp hx hb d_Copy_isProductBeyond64Bits_20 ?_
      refine lv_if_ne (tgt := 28) hx hb d_Copy_isProductBeyond64Bits_21 (by decide) (fun c_4 => ?_) (fun c_4 => ?_)
      · have c_4 : ¬ (lg_cmp y0 (-9223372036854775808)) = 0 := c_4
        rw [lc_eq] at c_4
        refine lv_iconst (v := 0) hx hb d_Copy_isProductBeyond64Bits_28 (by decide) ?_
        exact rt_z (v := 0) () hx hb hr hlocks (by decide) (show (0 : Int32) = pb_w x0 y0 from (by simp only [pb_w, if_neg c_1, if_pos c_2, if_neg c_4, and_self])) (hP.sub (ws' := []) [] rfl) (hD.sub (ws' := []) [] (by decide) rfl) hS d_Copy_isProductBeyond64Bits_29
      · have c_4 : (lg_cmp y0 (-9223372036854775808)) = 0 := c_4
        rw [lc_eq] at c_4
        refine lv_iconst (v := 1) hx hb d_Copy_isProductBeyond64Bits_24 (by decide) ?_
        refine lv_goto (tgt := 29) hx hb d_Copy_isProductBeyond64Bits_25 (by decide) ?_
        exact rt_z (v := 1) () hx hb hr hlocks (by decide) (show (1 : Int32) = pb_w x0 y0 from (by simp only [pb_w, if_neg c_1, if_pos c_2, if_pos c_4, and_self])) (hP.sub (ws' := []) [] rfl) (hD.sub (ws' := []) [] (by decide) rfl) hS d_Copy_isProductBeyond64Bits_29
  · have c_1 : (lg_cmp x0 0) = 0 := c_1
    rw [lc_eq] at c_1
    refine lv_iconst (v := 0) hx hb d_Copy_isProductBeyond64Bits_6 (by decide) ?_
    exact rt_z (v := 0) () hx hb hr hlocks (by decide) (show (0 : Int32) = pb_w x0 y0 from (by simp only [pb_w, if_pos c_1, and_self])) (hP.sub (ws' := []) [] rfl) (hD.sub (ws' := []) [] (by decide) rfl) hS d_Copy_isProductBeyond64Bits_7

set_option maxHeartbeats 4000000 in
set_option maxRecDepth 100000 in
theorem c_Copy_multiply (l : Launch) (dC : Nat → ClassId) (dI : Nat → Nat → Nat) (cI cL : ClassId) (hs0 : Nat) (cp : Nat) (rw : Nat) (po : Nat) (fac : Int64) (rr : Nat → Int64) (qq : Nat → Int64) (pl : Int32)  : ct_i l y_Copy_multiply b_Copy_multiply 3 (some .int) ({ frames := 1, cells := 0, slots := 0, locals := 40 }) (dC, dI) cI cL [.ref cp] [(cp, .inr (1, [.long fac, .ref rw, .ref po, .int pl])), (rw, .inl (cL, 18, .inr (.inl rr))), (po, .inl (cL, 4, .inr (.inl qq)))] hs0 (fun (r : Int32) (u : (Nat → Int64)) => r = (ml_w fac rr).1 ∧ u = (ml_w fac rr).2) (fun u => [(cp, .inr (1, [.long fac, .ref rw, .ref po, .int pl])), (rw, .inl (cL, 18, .inr (.inl u))), (po, .inl (cL, 4, .inr (.inl qq)))]) 0 0 := by
  refine st_w (Qc := fun A => va_Qi (fun (r : Int32) (u : (Nat → Int64)) => r = (ml_w fac rr).1 ∧ u = (ml_w fac rr).2) (fun (u : (Nat → Int64)) t => pos_w (dC, dI) A [(cp, .inr (1, [.long fac, .ref rw, .ref po, .int pl])), (rw, .inl (cL, 18, .inr (.inl u))), (po, .inl (cL, 4, .inr (.inl qq)))] t) A) (by decide) (Nat.le_of_ble_eq_true rfl) ?_
  intro p e s m below meth c A ls hfx hK hA hP hD hS hl
  obtain ⟨hx, hb, hml, hown, htb, hr, hlocks, hin⟩ := hfx
  have hl : lv_has ls 3 [(0, .ref cp)] := hl
  refine lv_aload_n hx hb d_Copy_multiply_0 rfl (lv_at hl 0 rfl) ?_
  refine va_get (D := (dC, dI)) (ci := 1) (v := .ref rw) (C := R_Copy) (T := F_Copy) (N := 4) hx hb htb iw_Copy hown hK.1 hP 0 rfl rfl 1 (by decide) (htb _ tw_69) (fun _ h9 => h9) rfl d_Copy_multiply_1 ?_
  refine lv_bipush (v := 16) hx hb d_Copy_multiply_4 (by decide) ?_
  refine ld_l (v := rr 16) (cA := cL) hx hb hK.1 hP 1 1 rfl rfl (show ¬ (_ ∨ _) by decide) rfl d_Copy_multiply_6 ?_
  refine lv_aload_n hx hb d_Copy_multiply_7 rfl (lv_at hl 0 rfl) ?_
  refine va_get (D := (dC, dI)) (ci := 1) (v := .ref rw) (C := R_Copy) (T := F_Copy) (N := 4) hx hb htb iw_Copy hown hK.1 hP 0 rfl rfl 1 (by decide) (htb _ tw_69) (fun _ h9 => h9) rfl d_Copy_multiply_8 ?_
  refine lv_bipush (v := 17) hx hb d_Copy_multiply_11 (by decide) ?_
  refine ld_l (v := rr 17) (cA := cL) hx hb hK.1 hP 1 1 rfl rfl (show ¬ (_ ∨ _) by decide) rfl d_Copy_multiply_13 ?_
  refine lv_lmul hx hb d_Copy_multiply_14 ?_
  refine lv_lstore_n (lv' := [(1, .long ((rr 16) * (rr 17))), (0, .ref cp)]) hx hb d_Copy_multiply_15 rfl hl (by decide) rfl (fun ls hl => ?_)
  refine lv_aload_n hx hb d_Copy_multiply_16 rfl (lv_at hl 1 rfl) ?_
  refine va_get (D := (dC, dI)) (ci := 1) (v := .ref rw) (C := R_Copy) (T := F_Copy) (N := 4) hx hb htb iw_Copy hown hK.1 hP 0 rfl rfl 1 (by decide) (htb _ tw_69) (fun _ h9 => h9) rfl d_Copy_multiply_17 ?_
  refine lv_bipush (v := 16) hx hb d_Copy_multiply_20 (by decide) ?_
  refine ld_l (v := rr 16) (cA := cL) hx hb hK.1 hP 1 1 rfl rfl (show ¬ (_ ∨ _) by decide) rfl d_Copy_multiply_22 ?_
  refine lv_aload_n hx hb d_Copy_multiply_23 rfl (lv_at hl 1 rfl) ?_
  refine va_get (D := (dC, dI)) (ci := 1) (v := .ref rw) (C := R_Copy) (T := F_Copy) (N := 4) hx hb htb iw_Copy hown hK.1 hP 0 rfl rfl 1 (by decide) (htb _ tw_69) (fun _ h9 => h9) rfl d_Copy_multiply_24 ?_
  refine lv_bipush (v := 17) hx hb d_Copy_multiply_27 (by decide) ?_
  refine ld_l (v := rr 17) (cA := cL) hx hb hK.1 hP 1 1 rfl rfl (show ¬ (_ ∨ _) by decide) rfl d_Copy_multiply_29 ?_
  refine af_i (wr := [(cp, .inr (1, [.long fac, .ref rw, .ref po, .int pl])), (rw, .inl (cL, 18, .inr (.inl rr))), (po, .inl (cL, 4, .inr (.inl qq)))]) (va_runS (As := [.long (rr 16), .long (rr 17)]) (rest := []) ⟨hx, hb, hml, hown, htb⟩ (c_Copy_isProductBeyond64Bits l dC dI cI cL s.heap.size (rr 16) (rr 17) ) ⟨callB_of 2 htb (gd_w tw_213) rfl rfl rfl (htb _ tw_22) (htb _ tw_211) (by decide +kernel) ⟨Nat.le_of_ble_eq_true rfl, Nat.le_of_ble_eq_true rfl⟩, htb _ tw_212⟩ (pv_S hK (hP.sub (ws' := []) [] rfl) (hD.sub (ws' := []) [] (by decide) rfl)) rfl rfl hl.1 rfl (lv_room (Nat.le_of_ble_eq_true rfl)) d_Copy_multiply_30 ⟨Nat.le_of_ble_eq_true rfl, Nat.le_of_ble_eq_true rfl⟩) hP hD hS hA [] [0, 1, 2] rfl rfl (by decide) (by decide) (fun r_1 u_2 H locs hw hP hD hS => ?_)
  try dsimp only at hw
  subst hw
  have hP : va_P (dC, dI) classes [(cp, .inr (1, [.long fac, .ref rw, .ref po, .int pl])), (rw, .inl (cL, 18, .inr (.inl rr))), (po, .inl (cL, 4, .inr (.inl qq)))] H := hP
  have hD : va_D A [(cp, .inr (1, [.long fac, .ref rw, .ref po, .int pl])), (rw, .inl (cL, 18, .inr (.inl rr))), (po, .inl (cL, 4, .inr (.inl qq)))] := hD
  refine lv_if_ne (tgt := 44) hx hb d_Copy_multiply_33 (by decide) (fun c_3 => ?_) (fun c_3 => ?_)
  · have c_3 : ¬ (pb_w (rr 16) (rr 17)) = 0 := c_3
    refine lv_iconst (v := 2) hx hb d_Copy_multiply_44 (by decide) ?_
    exact rt_i (v := 2) rr hx hb hr hlocks (show (2 : Int32) = (ml_w fac rr).1 ∧ rr = (ml_w fac rr).2 from (by simp only [ml_w, pk_uLs, if_neg c_3, and_self])) (hP.sub (ws' := [(cp, .inr (1, [.long fac, .ref rw, .ref po, .int pl])), (rw, .inl (cL, 18, .inr (.inl rr))), (po, .inl (cL, 4, .inr (.inl qq)))]) [0, 1, 2] rfl) (hD.sub (ws' := [(cp, .inr (1, [.long fac, .ref rw, .ref po, .int pl])), (rw, .inl (cL, 18, .inr (.inl rr))), (po, .inl (cL, 4, .inr (.inl qq)))]) [0, 1, 2] (by decide) rfl) hS d_Copy_multiply_45
  · have c_3 : (pb_w (rr 16) (rr 17)) = 0 := c_3
    refine lv_aload_n hx hb d_Copy_multiply_36 rfl (lv_at hl 1 rfl) ?_
    refine lv_lload_n hx hb d_Copy_multiply_37 rfl (lv_at hl 0 rfl) ?_
    refine af_i (wr := []) (va_runV (As := [.long ((rr 16) * (rr 17))]) (rest := []) ⟨hx, hb, hml, hown, htb⟩ (c_Copy_isMultiple l dC dI cI cL H.size cp rw po fac rr qq pl ((rr 16) * (rr 17)) ) ⟨callB_of 1 htb (gd_w tw_219) rfl rfl rfl (htb _ tw_22) (htb _ tw_216) (by decide +kernel) ⟨Nat.le_of_ble_eq_true rfl, Nat.le_of_ble_eq_true rfl⟩, htb _ tw_218, htb _ tw_6⟩ (pv_V hK (hP.sub (ws' := [(cp, .inr (1, [.long fac, .ref rw, .ref po, .int pl])), (rw, .inl (cL, 18, .inr (.inl rr))), (po, .inl (cL, 4, .inr (.inl qq)))]) [0, 1, 2] rfl) (hD.sub (ws' := [(cp, .inr (1, [.long fac, .ref rw, .ref po, .int pl])), (rw, .inl (cL, 18, .inr (.inl rr))), (po, .inl (cL, 4, .inr (.inl qq)))]) [0, 1, 2] (by decide) rfl) (ci := 1) (q0 := 0) rfl rfl) rfl rfl hl.1 rfl (lv_room (Nat.le_of_ble_eq_true rfl)) d_Copy_multiply_38 ⟨Nat.le_of_ble_eq_true rfl, Nat.le_of_ble_eq_true rfl⟩) hP hD hS hA [0, 1, 2] [] rfl rfl (by decide) (by decide) (fun r_4 u_5 H locs hw hP hD hS => ?_)
    try dsimp only at hw
    subst hw
    have hP : va_P (dC, dI) classes [(cp, .inr (1, [.long fac, .ref rw, .ref po, .int pl])), (rw, .inl (cL, 18, .inr (.inl rr))), (po, .inl (cL, 4, .inr (.inl qq)))] H := hP
    have hD : va_D A [(cp, .inr (1, [.long fac, .ref rw, .ref po, .int pl])), (rw, .inl (cL, 18, .inr (.inl rr))), (po, .inl (cL, 4, .inr (.inl qq)))] := hD
    refine lv_if_ne (tgt := 46) hx hb d_Copy_multiply_41 (by decide) (fun c_6 => ?_) (fun c_6 => ?_)
    · have c_6 : ¬ (im_w fac ((rr 16) * (rr 17))) = 0 := c_6
      refine lv_aload_n hx hb d_Copy_multiply_46 rfl (lv_at hl 1 rfl) ?_
      refine va_get (D := (dC, dI)) (ci := 1) (v := .ref rw) (C := R_Copy) (T := F_Copy) (N := 4) hx hb htb iw_Copy hown hK.1 hP 0 rfl rfl 1 (by decide) (htb _ tw_69) (fun _ h9 => h9) rfl d_Copy_multiply_47 ?_
      refine lv_bipush (v := 16) hx hb d_Copy_multiply_50 (by decide) ?_
      refine lv_aload_n hx hb d_Copy_multiply_52 rfl (lv_at hl 1 rfl) ?_
      refine lv_lload_n hx hb d_Copy_multiply_53 rfl (lv_at hl 0 rfl) ?_
      refine af_l (wr := []) (va_runV (As := [.long ((rr 16) * (rr 17))]) (rest := [.int 16, .ref rw]) ⟨hx, hb, hml, hown, htb⟩ (c_Copy_part l dC dI cI cL H.size cp rw po fac rr qq pl ((rr 16) * (rr 17)) ) ⟨callB_of 1 htb (gd_w tw_223) rfl rfl rfl (htb _ tw_22) (htb _ tw_220) (by decide +kernel) ⟨Nat.le_of_ble_eq_true rfl, Nat.le_of_ble_eq_true rfl⟩, htb _ tw_222, htb _ tw_7⟩ (pv_V hK (hP.sub (ws' := [(cp, .inr (1, [.long fac, .ref rw, .ref po, .int pl])), (rw, .inl (cL, 18, .inr (.inl rr))), (po, .inl (cL, 4, .inr (.inl qq)))]) [0, 1, 2] rfl) (hD.sub (ws' := [(cp, .inr (1, [.long fac, .ref rw, .ref po, .int pl])), (rw, .inl (cL, 18, .inr (.inl rr))), (po, .inl (cL, 4, .inr (.inl qq)))]) [0, 1, 2] (by decide) rfl) (ci := 1) (q0 := 0) rfl rfl) rfl rfl hl.1 rfl (lv_room (Nat.le_of_ble_eq_true rfl)) d_Copy_multiply_54 ⟨Nat.le_of_ble_eq_true rfl, Nat.le_of_ble_eq_true rfl⟩) hP hD hS hA [0, 1, 2] [] rfl rfl (by decide) (by decide) (fun r_7 u_8 H locs hw hP hD hS => ?_)
      try dsimp only at hw
      subst hw
      have hP : va_P (dC, dI) classes [(cp, .inr (1, [.long fac, .ref rw, .ref po, .int pl])), (rw, .inl (cL, 18, .inr (.inl rr))), (po, .inl (cL, 4, .inr (.inl qq)))] H := hP
      have hD : va_D A [(cp, .inr (1, [.long fac, .ref rw, .ref po, .int pl])), (rw, .inl (cL, 18, .inr (.inl rr))), (po, .inl (cL, 4, .inr (.inl qq)))] := hD
      refine sd_l (g := vp_updL rr 16 (pa_w fac ((rr 16) * (rr 17)))) (cA := cL) hx hb hK.1 hP hD hS 1 1 rfl rfl (show ¬ (_ ∨ _) by decide) rfl d_Copy_multiply_57 (fun H locs hP hD hS => ?_)
      have hP : va_P (dC, dI) classes [(cp, .inr (1, [.long fac, .ref rw, .ref po, .int pl])), (rw, .inl (cL, 18, .inr (.inl (vp_updL rr 16 (pa_w fac ((rr 16) * (rr 17))))))), (po, .inl (cL, 4, .inr (.inl qq)))] H := hP
      have hD : va_D A [(cp, .inr (1, [.long fac, .ref rw, .ref po, .int pl])), (rw, .inl (cL, 18, .inr (.inl (vp_updL rr 16 (pa_w fac ((rr 16) * (rr 17))))))), (po, .inl (cL, 4, .inr (.inl qq)))] := hD
      refine lv_aload_n hx hb d_Copy_multiply_58 rfl (lv_at hl 1 rfl) ?_
      refine af_i (wr := []) (va_runV (As := []) (rest := []) ⟨hx, hb, hml, hown, htb⟩ (c_Copy_trapBeyondBound l dC dI cI cL H.size cp rw po fac (vp_updL rr 16 (pa_w fac ((rr 16) * (rr 17)))) qq pl ) ⟨callB_of 0 htb (gd_w tw_205) rfl rfl rfl (htb _ tw_22) (htb _ tw_202) (by decide +kernel) ⟨Nat.le_of_ble_eq_true rfl, Nat.le_of_ble_eq_true rfl⟩, htb _ tw_204, htb _ tw_4⟩ (pv_V hK (hP.sub (ws' := [(cp, .inr (1, [.long fac, .ref rw, .ref po, .int pl])), (rw, .inl (cL, 18, .inr (.inl (vp_updL rr 16 (pa_w fac ((rr 16) * (rr 17))))))), (po, .inl (cL, 4, .inr (.inl qq)))]) [0, 1, 2] rfl) (hD.sub (ws' := [(cp, .inr (1, [.long fac, .ref rw, .ref po, .int pl])), (rw, .inl (cL, 18, .inr (.inl (vp_updL rr 16 (pa_w fac ((rr 16) * (rr 17))))))), (po, .inl (cL, 4, .inr (.inl qq)))]) [0, 1, 2] (by decide) rfl) (ci := 1) (q0 := 0) rfl rfl) rfl rfl hl.1 rfl (lv_room (Nat.le_of_ble_eq_true rfl)) d_Copy_multiply_59 ⟨Nat.le_of_ble_eq_true rfl, Nat.le_of_ble_eq_true rfl⟩) hP hD hS hA [0, 1, 2] [] rfl rfl (by decide) (by decide) (fun r_9 u_10 H locs hw hP hD hS => ?_)
      try dsimp only at hw
      subst hw
      have hP : va_P (dC, dI) classes [(cp, .inr (1, [.long fac, .ref rw, .ref po, .int pl])), (rw, .inl (cL, 18, .inr (.inl (vp_updL rr 16 (pa_w fac ((rr 16) * (rr 17))))))), (po, .inl (cL, 4, .inr (.inl qq)))] H := hP
      have hD : va_D A [(cp, .inr (1, [.long fac, .ref rw, .ref po, .int pl])), (rw, .inl (cL, 18, .inr (.inl (vp_updL rr 16 (pa_w fac ((rr 16) * (rr 17))))))), (po, .inl (cL, 4, .inr (.inl qq)))] := hD
      exact rt_i (v := tb_w fac ((vp_updL rr 16 (pa_w fac ((rr 16) * (rr 17)))) 16)) (vp_updL rr 16 (pa_w fac ((rr 16) * (rr 17)))) hx hb hr hlocks (show (tb_w fac ((vp_updL rr 16 (pa_w fac ((rr 16) * (rr 17)))) 16)) = (ml_w fac rr).1 ∧ (vp_updL rr 16 (pa_w fac ((rr 16) * (rr 17)))) = (ml_w fac rr).2 from (by simp only [ml_w, pk_uLs, if_pos c_3, if_neg c_6, and_self])) (hP.sub (ws' := [(cp, .inr (1, [.long fac, .ref rw, .ref po, .int pl])), (rw, .inl (cL, 18, .inr (.inl (vp_updL rr 16 (pa_w fac ((rr 16) * (rr 17))))))), (po, .inl (cL, 4, .inr (.inl qq)))]) [0, 1, 2] rfl) (hD.sub (ws' := [(cp, .inr (1, [.long fac, .ref rw, .ref po, .int pl])), (rw, .inl (cL, 18, .inr (.inl (vp_updL rr 16 (pa_w fac ((rr 16) * (rr 17))))))), (po, .inl (cL, 4, .inr (.inl qq)))]) [0, 1, 2] (by decide) rfl) hS d_Copy_multiply_62
    · have c_6 : (im_w fac ((rr 16) * (rr 17))) = 0 := c_6
      refine lv_iconst (v := 2) hx hb d_Copy_multiply_44 (by decide) ?_
      exact rt_i (v := 2) rr hx hb hr hlocks (show (2 : Int32) = (ml_w fac rr).1 ∧ rr = (ml_w fac rr).2 from (by simp only [ml_w, pk_uLs, if_pos c_3, if_pos c_6, and_self])) (hP.sub (ws' := [(cp, .inr (1, [.long fac, .ref rw, .ref po, .int pl])), (rw, .inl (cL, 18, .inr (.inl rr))), (po, .inl (cL, 4, .inr (.inl qq)))]) [0, 1, 2] rfl) (hD.sub (ws' := [(cp, .inr (1, [.long fac, .ref rw, .ref po, .int pl])), (rw, .inl (cL, 18, .inr (.inl rr))), (po, .inl (cL, 4, .inr (.inl qq)))]) [0, 1, 2] (by decide) rfl) hS d_Copy_multiply_45

set_option maxHeartbeats 4000000 in
set_option maxRecDepth 100000 in
theorem c_Copy_lookUp (l : Launch) (dC : Nat → ClassId) (dI : Nat → Nat → Nat) (cI cL : ClassId) (hs0 : Nat) (cp : Nat) (rw : Nat) (po : Nat) (fac : Int64) (rr : Nat → Int64) (qq : Nat → Int64) (pl : Int32)  : ct_i l y_Copy_lookUp b_Copy_lookUp 3 (some .int) ({ frames := 1, cells := 0, slots := 0, locals := 40 }) (dC, dI) cI cL [.ref cp] [(cp, .inr (1, [.long fac, .ref rw, .ref po, .int pl])), (rw, .inl (cL, 18, .inr (.inl rr))), (po, .inl (cL, 4, .inr (.inl qq)))] hs0 (fun (r : Int32) (u : (Nat → Int64)) => r = (lk_w fac rr).1 ∧ u = (lk_w fac rr).2) (fun u => [(cp, .inr (1, [.long fac, .ref rw, .ref po, .int pl])), (rw, .inl (cL, 18, .inr (.inl u))), (po, .inl (cL, 4, .inr (.inl qq)))]) 0 0 := by
  refine st_w (Qc := fun A => va_Qi (fun (r : Int32) (u : (Nat → Int64)) => r = (lk_w fac rr).1 ∧ u = (lk_w fac rr).2) (fun (u : (Nat → Int64)) t => pos_w (dC, dI) A [(cp, .inr (1, [.long fac, .ref rw, .ref po, .int pl])), (rw, .inl (cL, 18, .inr (.inl u))), (po, .inl (cL, 4, .inr (.inl qq)))] t) A) (by decide) (Nat.le_of_ble_eq_true rfl) ?_
  intro p e s m below meth c A ls hfx hK hA hP hD hS hl
  obtain ⟨hx, hb, hml, hown, htb, hr, hlocks, hin⟩ := hfx
  have hl : lv_has ls 3 [(0, .ref cp)] := hl
  refine lv_aload_n hx hb d_Copy_lookUp_0 rfl (lv_at hl 0 rfl) ?_
  refine lv_aload_n hx hb d_Copy_lookUp_1 rfl (lv_at hl 0 rfl) ?_
  refine va_get (D := (dC, dI)) (ci := 1) (v := .ref rw) (C := R_Copy) (T := F_Copy) (N := 4) hx hb htb iw_Copy hown hK.1 hP 0 rfl rfl 1 (by decide) (htb _ tw_69) (fun _ h9 => h9) rfl d_Copy_lookUp_2 ?_
  refine lv_bipush (v := 16) hx hb d_Copy_lookUp_5 (by decide) ?_
  refine ld_l (v := rr 16) (cA := cL) hx hb hK.1 hP 1 1 rfl rfl (show ¬ (_ ∨ _) by decide) rfl d_Copy_lookUp_7 ?_
  refine af_i (wr := []) (va_runV (As := [.long (rr 16)]) (rest := []) ⟨hx, hb, hml, hown, htb⟩ (c_Copy_isMultiple l dC dI cI cL s.heap.size cp rw po fac rr qq pl (rr 16) ) ⟨callB_of 1 htb (gd_w tw_219) rfl rfl rfl (htb _ tw_22) (htb _ tw_216) (by decide +kernel) ⟨Nat.le_of_ble_eq_true rfl, Nat.le_of_ble_eq_true rfl⟩, htb _ tw_218, htb _ tw_6⟩ (pv_V hK (hP.sub (ws' := [(cp, .inr (1, [.long fac, .ref rw, .ref po, .int pl])), (rw, .inl (cL, 18, .inr (.inl rr))), (po, .inl (cL, 4, .inr (.inl qq)))]) [0, 1, 2] rfl) (hD.sub (ws' := [(cp, .inr (1, [.long fac, .ref rw, .ref po, .int pl])), (rw, .inl (cL, 18, .inr (.inl rr))), (po, .inl (cL, 4, .inr (.inl qq)))]) [0, 1, 2] (by decide) rfl) (ci := 1) (q0 := 0) rfl rfl) rfl rfl hl.1 rfl (lv_room (Nat.le_of_ble_eq_true rfl)) d_Copy_lookUp_8 ⟨Nat.le_of_ble_eq_true rfl, Nat.le_of_ble_eq_true rfl⟩) hP hD hS hA [0, 1, 2] [] rfl rfl (by decide) (by decide) (fun r_1 u_2 H locs hw hP hD hS => ?_)
  try dsimp only at hw
  subst hw
  have hP : va_P (dC, dI) classes [(cp, .inr (1, [.long fac, .ref rw, .ref po, .int pl])), (rw, .inl (cL, 18, .inr (.inl rr))), (po, .inl (cL, 4, .inr (.inl qq)))] H := hP
  have hD : va_D A [(cp, .inr (1, [.long fac, .ref rw, .ref po, .int pl])), (rw, .inl (cL, 18, .inr (.inl rr))), (po, .inl (cL, 4, .inr (.inl qq)))] := hD
  refine lv_if_ne (tgt := 16) hx hb d_Copy_lookUp_11 (by decide) (fun c_3 => ?_) (fun c_3 => ?_)
  · have c_3 : ¬ (im_w fac (rr 16)) = 0 := c_3
    refine lv_aload_n hx hb d_Copy_lookUp_16 rfl (lv_at hl 0 rfl) ?_
    refine lv_aload_n hx hb d_Copy_lookUp_17 rfl (lv_at hl 0 rfl) ?_
    refine va_get (D := (dC, dI)) (ci := 1) (v := .ref rw) (C := R_Copy) (T := F_Copy) (N := 4) hx hb htb iw_Copy hown hK.1 hP 0 rfl rfl 1 (by decide) (htb _ tw_69) (fun _ h9 => h9) rfl d_Copy_lookUp_18 ?_
    refine lv_bipush (v := 16) hx hb d_Copy_lookUp_21 (by decide) ?_
    refine ld_l (v := rr 16) (cA := cL) hx hb hK.1 hP 1 1 rfl rfl (show ¬ (_ ∨ _) by decide) rfl d_Copy_lookUp_23 ?_
    refine af_l (wr := []) (va_runV (As := [.long (rr 16)]) (rest := []) ⟨hx, hb, hml, hown, htb⟩ (c_Copy_part l dC dI cI cL H.size cp rw po fac rr qq pl (rr 16) ) ⟨callB_of 1 htb (gd_w tw_223) rfl rfl rfl (htb _ tw_22) (htb _ tw_220) (by decide +kernel) ⟨Nat.le_of_ble_eq_true rfl, Nat.le_of_ble_eq_true rfl⟩, htb _ tw_222, htb _ tw_7⟩ (pv_V hK (hP.sub (ws' := [(cp, .inr (1, [.long fac, .ref rw, .ref po, .int pl])), (rw, .inl (cL, 18, .inr (.inl rr))), (po, .inl (cL, 4, .inr (.inl qq)))]) [0, 1, 2] rfl) (hD.sub (ws' := [(cp, .inr (1, [.long fac, .ref rw, .ref po, .int pl])), (rw, .inl (cL, 18, .inr (.inl rr))), (po, .inl (cL, 4, .inr (.inl qq)))]) [0, 1, 2] (by decide) rfl) (ci := 1) (q0 := 0) rfl rfl) rfl rfl hl.1 rfl (lv_room (Nat.le_of_ble_eq_true rfl)) d_Copy_lookUp_24 ⟨Nat.le_of_ble_eq_true rfl, Nat.le_of_ble_eq_true rfl⟩) hP hD hS hA [0, 1, 2] [] rfl rfl (by decide) (by decide) (fun r_4 u_5 H locs hw hP hD hS => ?_)
    try dsimp only at hw
    subst hw
    have hP : va_P (dC, dI) classes [(cp, .inr (1, [.long fac, .ref rw, .ref po, .int pl])), (rw, .inl (cL, 18, .inr (.inl rr))), (po, .inl (cL, 4, .inr (.inl qq)))] H := hP
    have hD : va_D A [(cp, .inr (1, [.long fac, .ref rw, .ref po, .int pl])), (rw, .inl (cL, 18, .inr (.inl rr))), (po, .inl (cL, 4, .inr (.inl qq)))] := hD
    refine lv_lstore_n (lv' := [(1, .long (pa_w fac (rr 16))), (0, .ref cp)]) hx hb d_Copy_lookUp_27 rfl hl (by decide) rfl (fun ls hl => ?_)
    refine lv_lload_n hx hb d_Copy_lookUp_28 rfl (lv_at hl 0 rfl) ?_
    refine lv_lconst (v := 0) hx hb d_Copy_lookUp_29 (by decide) ?_
    refine W.lcmp hx hb d_Copy_lookUp_30 ?_
    refine lv_if_lt (tgt := 42) hx hb d_Copy_lookUp_31 (by decide) (fun c_6 => ?_) (fun c_6 => ?_)
    · have c_6 : (lg_cmp (pa_w fac (rr 16)) 0) < 0 := c_6
      rw [lc_lt] at c_6
      refine lv_iconst (v := 2) hx hb d_Copy_lookUp_42 (by decide) ?_
      exact rt_i (v := 2) rr hx hb hr hlocks (show (2 : Int32) = (lk_w fac rr).1 ∧ rr = (lk_w fac rr).2 from (by simp only [lk_w, if_neg c_3, if_pos c_6, and_self])) (hP.sub (ws' := [(cp, .inr (1, [.long fac, .ref rw, .ref po, .int pl])), (rw, .inl (cL, 18, .inr (.inl rr))), (po, .inl (cL, 4, .inr (.inl qq)))]) [0, 1, 2] rfl) (hD.sub (ws' := [(cp, .inr (1, [.long fac, .ref rw, .ref po, .int pl])), (rw, .inl (cL, 18, .inr (.inl rr))), (po, .inl (cL, 4, .inr (.inl qq)))]) [0, 1, 2] (by decide) rfl) hS d_Copy_lookUp_43
    · have c_6 : ¬ (lg_cmp (pa_w fac (rr 16)) 0) < 0 := c_6
      rw [lc_lt] at c_6
      refine lv_lload_n hx hb d_Copy_lookUp_34 rfl (lv_at hl 0 rfl) ?_
      refine lv_ldc2 (v := 16) hx hb hown (htb _ tw_228) d_Copy_lookUp_35 ?_
      refine W.lcmp hx hb d_Copy_lookUp_38 ?_
      refine lv_if_lt (tgt := 44) hx hb d_Copy_lookUp_39 (by decide) (fun c_7 => ?_) (fun c_7 => ?_)
      · have c_7 : (lg_cmp (pa_w fac (rr 16)) 16) < 0 := c_7
        rw [lc_lt] at c_7
        refine lv_aload_n hx hb d_Copy_lookUp_44 rfl (lv_at hl 1 rfl) ?_
        refine va_get (D := (dC, dI)) (ci := 1) (v := .ref rw) (C := R_Copy) (T := F_Copy) (N := 4) hx hb htb iw_Copy hown hK.1 hP 0 rfl rfl 1 (by decide) (htb _ tw_69) (fun _ h9 => h9) rfl d_Copy_lookUp_45 ?_
        refine lv_bipush (v := 16) hx hb d_Copy_lookUp_48 (by decide) ?_
        refine lv_aload_n hx hb d_Copy_lookUp_50 rfl (lv_at hl 1 rfl) ?_
        refine va_get (D := (dC, dI)) (ci := 1) (v := .ref rw) (C := R_Copy) (T := F_Copy) (N := 4) hx hb htb iw_Copy hown hK.1 hP 0 rfl rfl 1 (by decide) (htb _ tw_69) (fun _ h9 => h9) rfl d_Copy_lookUp_51 ?_
        refine lv_lload_n hx hb d_Copy_lookUp_54 rfl (lv_at hl 0 rfl) ?_
        refine lv_l2i (v := (pa_w fac (rr 16)).toInt32) hx hb d_Copy_lookUp_55 rfl ?_
        refine ld_l (v := rr (((pa_w fac (rr 16)).toInt32).toNatClampNeg)) (cA := cL) hx hb hK.1 hP 1 1 rfl rfl (lk_in c_6 c_7) rfl d_Copy_lookUp_56 ?_
        refine sd_l (g := vp_updL rr 16 (rr (((pa_w fac (rr 16)).toInt32).toNatClampNeg))) (cA := cL) hx hb hK.1 hP hD hS 1 1 rfl rfl (show ¬ (_ ∨ _) by decide) rfl d_Copy_lookUp_57 (fun H locs hP hD hS => ?_)
        have hP : va_P (dC, dI) classes [(cp, .inr (1, [.long fac, .ref rw, .ref po, .int pl])), (rw, .inl (cL, 18, .inr (.inl (vp_updL rr 16 (rr (((pa_w fac (rr 16)).toInt32).toNatClampNeg)))))), (po, .inl (cL, 4, .inr (.inl qq)))] H := hP
        have hD : va_D A [(cp, .inr (1, [.long fac, .ref rw, .ref po, .int pl])), (rw, .inl (cL, 18, .inr (.inl (vp_updL rr 16 (rr (((pa_w fac (rr 16)).toInt32).toNatClampNeg)))))), (po, .inl (cL, 4, .inr (.inl qq)))] := hD
        refine lv_iconst (v := 0) hx hb d_Copy_lookUp_58 (by decide) ?_
        exact rt_i (v := 0) (vp_updL rr 16 (rr (((pa_w fac (rr 16)).toInt32).toNatClampNeg))) hx hb hr hlocks (show (0 : Int32) = (lk_w fac rr).1 ∧ (vp_updL rr 16 (rr (((pa_w fac (rr 16)).toInt32).toNatClampNeg))) = (lk_w fac rr).2 from (by simp only [lk_w, if_neg c_3, if_neg c_6, if_pos c_7, and_self])) (hP.sub (ws' := [(cp, .inr (1, [.long fac, .ref rw, .ref po, .int pl])), (rw, .inl (cL, 18, .inr (.inl (vp_updL rr 16 (rr (((pa_w fac (rr 16)).toInt32).toNatClampNeg)))))), (po, .inl (cL, 4, .inr (.inl qq)))]) [0, 1, 2] rfl) (hD.sub (ws' := [(cp, .inr (1, [.long fac, .ref rw, .ref po, .int pl])), (rw, .inl (cL, 18, .inr (.inl (vp_updL rr 16 (rr (((pa_w fac (rr 16)).toInt32).toNatClampNeg)))))), (po, .inl (cL, 4, .inr (.inl qq)))]) [0, 1, 2] (by decide) rfl) hS d_Copy_lookUp_59
      · have c_7 : ¬ (lg_cmp (pa_w fac (rr 16)) 16) < 0 := c_7
        rw [lc_lt] at c_7
        refine lv_iconst (v := 2) hx hb d_Copy_lookUp_42 (by decide) ?_
        exact rt_i (v := 2) rr hx hb hr hlocks (show (2 : Int32) = (lk_w fac rr).1 ∧ rr = (lk_w fac rr).2 from (by simp only [lk_w, if_neg c_3, if_neg c_6, if_neg c_7, and_self])) (hP.sub (ws' := [(cp, .inr (1, [.long fac, .ref rw, .ref po, .int pl])), (rw, .inl (cL, 18, .inr (.inl rr))), (po, .inl (cL, 4, .inr (.inl qq)))]) [0, 1, 2] rfl) (hD.sub (ws' := [(cp, .inr (1, [.long fac, .ref rw, .ref po, .int pl])), (rw, .inl (cL, 18, .inr (.inl rr))), (po, .inl (cL, 4, .inr (.inl qq)))]) [0, 1, 2] (by decide) rfl) hS d_Copy_lookUp_43
  · have c_3 : (im_w fac (rr 16)) = 0 := c_3
    refine lv_iconst (v := 2) hx hb d_Copy_lookUp_14 (by decide) ?_
    exact rt_i (v := 2) rr hx hb hr hlocks (show (2 : Int32) = (lk_w fac rr).1 ∧ rr = (lk_w fac rr).2 from (by simp only [lk_w, if_pos c_3, and_self])) (hP.sub (ws' := [(cp, .inr (1, [.long fac, .ref rw, .ref po, .int pl])), (rw, .inl (cL, 18, .inr (.inl rr))), (po, .inl (cL, 4, .inr (.inl qq)))]) [0, 1, 2] rfl) (hD.sub (ws' := [(cp, .inr (1, [.long fac, .ref rw, .ref po, .int pl])), (rw, .inl (cL, 18, .inr (.inl rr))), (po, .inl (cL, 4, .inr (.inl qq)))]) [0, 1, 2] (by decide) rfl) hS d_Copy_lookUp_15

set_option maxHeartbeats 4000000 in
set_option maxRecDepth 100000 in
theorem c_Copy_move (l : Launch) (dC : Nat → ClassId) (dI : Nat → Nat → Nat) (cI cL : ClassId) (hs0 : Nat) (cp : Nat) (rw : Nat) (po : Nat) (fac : Int64) (rr : Nat → Int64) (qq : Nat → Int64) (pl : Int32) (o0 : Int32) (n0 : Int32) (hv : ii_w o0 n0 = 1) : ct_v l y_Copy_move b_Copy_move 3 none ({ frames := 0, cells := 0, slots := 0, locals := 0 }) (dC, dI) cI cL [.ref cp, .int o0, .int n0] [(cp, .inr (1, [.long fac, .ref rw, .ref po, .int pl])), (rw, .inl (cL, 18, .inr (.inl rr))), (po, .inl (cL, 4, .inr (.inl qq)))] hs0 (fun (u : (Nat → Int64) × (Nat → Int64) × Int32) => u.1 = (mv_w fac o0 n0 rr qq pl).1 ∧ u.2.1 = (mv_w fac o0 n0 rr qq pl).2.1 ∧ u.2.2 = (mv_w fac o0 n0 rr qq pl).2.2) (fun u => [(cp, .inr (1, [.long fac, .ref rw, .ref po, .int u.2.2])), (rw, .inl (cL, 18, .inr (.inl u.1))), (po, .inl (cL, 4, .inr (.inl u.2.1)))]) 0 0 := by
  refine st_w (Qc := fun A => va_Qv (fun (u : (Nat → Int64) × (Nat → Int64) × Int32) => u.1 = (mv_w fac o0 n0 rr qq pl).1 ∧ u.2.1 = (mv_w fac o0 n0 rr qq pl).2.1 ∧ u.2.2 = (mv_w fac o0 n0 rr qq pl).2.2) (fun (u : (Nat → Int64) × (Nat → Int64) × Int32) t => pos_w (dC, dI) A [(cp, .inr (1, [.long fac, .ref rw, .ref po, .int u.2.2])), (rw, .inl (cL, 18, .inr (.inl u.1))), (po, .inl (cL, 4, .inr (.inl u.2.1)))] t) A) (by decide) (Nat.le_of_ble_eq_true rfl) ?_
  intro p e s m below meth c A ls hfx hK hA hP hD hS hl
  obtain ⟨hx, hb, hml, hown, htb, hr, hlocks, hin⟩ := hfx
  have hl : lv_has ls 3 [(0, .ref cp), (1, .int o0), (2, .int n0)] := hl
  refine lv_iload_n hx hb d_Copy_move_0 rfl (lv_at hl 1 rfl) ?_
  by_cases c_1 : o0 = 0
  · refine lv_tableIn (tgt := 72) hx hb d_Copy_move_1 (by rw [c_1]; decide) (by rw [c_1]; decide) (by rw [c_1]; rfl) (by decide) ?_
    refine lv_aload_n hx hb d_Copy_move_72 rfl (lv_at hl 0 rfl) ?_
    refine va_get (D := (dC, dI)) (ci := 1) (v := .ref rw) (C := R_Copy) (T := F_Copy) (N := 4) hx hb htb iw_Copy hown hK.1 hP 0 rfl rfl 1 (by decide) (htb _ tw_69) (fun _ h9 => h9) rfl d_Copy_move_73 ?_
    refine lv_bipush (v := 16) hx hb d_Copy_move_76 (by decide) ?_
    refine lv_iload_n hx hb d_Copy_move_78 rfl (lv_at hl 2 rfl) ?_
    refine lv_i2l (v := n0.toInt64) hx hb d_Copy_move_79 (by first | rfl | decide) ?_
    refine lv_aload_n hx hb d_Copy_move_80 rfl (lv_at hl 0 rfl) ?_
    refine va_get (D := (dC, dI)) (ci := 1) (v := .long fac) (C := R_Copy) (T := F_Copy) (N := 4) hx hb htb iw_Copy hown hK.1 hP 0 rfl rfl 0 (by decide) (htb _ tw_68) (fun _ h9 => h9) rfl d_Copy_move_81 ?_
    refine lv_lmul hx hb d_Copy_move_84 ?_
    refine sd_l (g := vp_updL rr 16 (n0.toInt64 * fac)) (cA := cL) hx hb hK.1 hP hD hS 1 1 rfl rfl (show ¬ (_ ∨ _) by decide) rfl d_Copy_move_85 (fun H locs hP hD hS => ?_)
    have hP : va_P (dC, dI) classes [(cp, .inr (1, [.long fac, .ref rw, .ref po, .int pl])), (rw, .inl (cL, 18, .inr (.inl (vp_updL rr 16 (n0.toInt64 * fac))))), (po, .inl (cL, 4, .inr (.inl qq)))] H := hP
    have hD : va_D A [(cp, .inr (1, [.long fac, .ref rw, .ref po, .int pl])), (rw, .inl (cL, 18, .inr (.inl (vp_updL rr 16 (n0.toInt64 * fac))))), (po, .inl (cL, 4, .inr (.inl qq)))] := hD
    refine lv_goto (tgt := 261) hx hb d_Copy_move_86 (by decide) ?_
    exact rt_v ((vp_updL rr 16 (n0.toInt64 * fac)), qq, pl) hx hb hr hlocks (show (vp_updL rr 16 (n0.toInt64 * fac)) = (mv_w fac o0 n0 rr qq pl).1 ∧ qq = (mv_w fac o0 n0 rr qq pl).2.1 ∧ pl = (mv_w fac o0 n0 rr qq pl).2.2 from (by simp only [mv_w, if_pos c_1, and_self])) (hP.sub (ws' := [(cp, .inr (1, [.long fac, .ref rw, .ref po, .int pl])), (rw, .inl (cL, 18, .inr (.inl (vp_updL rr 16 (n0.toInt64 * fac))))), (po, .inl (cL, 4, .inr (.inl qq)))]) [0, 1, 2] rfl) (hD.sub (ws' := [(cp, .inr (1, [.long fac, .ref rw, .ref po, .int pl])), (rw, .inl (cL, 18, .inr (.inl (vp_updL rr 16 (n0.toInt64 * fac))))), (po, .inl (cL, 4, .inr (.inl qq)))]) [0, 1, 2] (by decide) rfl) hS d_Copy_move_261
  by_cases c_2 : o0 = 1
  · refine lv_tableIn (tgt := 89) hx hb d_Copy_move_1 (by rw [c_2]; decide) (by rw [c_2]; decide) (by rw [c_2]; rfl) (by decide) ?_
    refine lv_aload_n hx hb d_Copy_move_89 rfl (lv_at hl 0 rfl) ?_
    refine va_get (D := (dC, dI)) (ci := 1) (v := .ref rw) (C := R_Copy) (T := F_Copy) (N := 4) hx hb htb iw_Copy hown hK.1 hP 0 rfl rfl 1 (by decide) (htb _ tw_69) (fun _ h9 => h9) rfl d_Copy_move_90 ?_
    refine lv_bipush (v := 16) hx hb d_Copy_move_93 (by decide) ?_
    refine lv_aload_n hx hb d_Copy_move_95 rfl (lv_at hl 0 rfl) ?_
    refine va_get (D := (dC, dI)) (ci := 1) (v := .ref rw) (C := R_Copy) (T := F_Copy) (N := 4) hx hb htb iw_Copy hown hK.1 hP 0 rfl rfl 1 (by decide) (htb _ tw_69) (fun _ h9 => h9) rfl d_Copy_move_96 ?_
    refine lv_iload_n hx hb d_Copy_move_99 rfl (lv_at hl 2 rfl) ?_
    refine ld_l (v := rr n0.toNatClampNeg) (cA := cL) hx hb hK.1 hP 1 1 rfl rfl (ii_in1 (by have q9 := hv; rw [c_2] at q9; exact q9)) rfl d_Copy_move_100 ?_
    refine sd_l (g := vp_updL rr 16 (rr n0.toNatClampNeg)) (cA := cL) hx hb hK.1 hP hD hS 1 1 rfl rfl (show ¬ (_ ∨ _) by decide) rfl d_Copy_move_101 (fun H locs hP hD hS => ?_)
    have hP : va_P (dC, dI) classes [(cp, .inr (1, [.long fac, .ref rw, .ref po, .int pl])), (rw, .inl (cL, 18, .inr (.inl (vp_updL rr 16 (rr n0.toNatClampNeg))))), (po, .inl (cL, 4, .inr (.inl qq)))] H := hP
    have hD : va_D A [(cp, .inr (1, [.long fac, .ref rw, .ref po, .int pl])), (rw, .inl (cL, 18, .inr (.inl (vp_updL rr 16 (rr n0.toNatClampNeg))))), (po, .inl (cL, 4, .inr (.inl qq)))] := hD
    refine lv_goto (tgt := 261) hx hb d_Copy_move_102 (by decide) ?_
    exact rt_v ((vp_updL rr 16 (rr n0.toNatClampNeg)), qq, pl) hx hb hr hlocks (show (vp_updL rr 16 (rr n0.toNatClampNeg)) = (mv_w fac o0 n0 rr qq pl).1 ∧ qq = (mv_w fac o0 n0 rr qq pl).2.1 ∧ pl = (mv_w fac o0 n0 rr qq pl).2.2 from (by simp only [mv_w, if_neg c_1, if_pos c_2, and_self])) (hP.sub (ws' := [(cp, .inr (1, [.long fac, .ref rw, .ref po, .int pl])), (rw, .inl (cL, 18, .inr (.inl (vp_updL rr 16 (rr n0.toNatClampNeg))))), (po, .inl (cL, 4, .inr (.inl qq)))]) [0, 1, 2] rfl) (hD.sub (ws' := [(cp, .inr (1, [.long fac, .ref rw, .ref po, .int pl])), (rw, .inl (cL, 18, .inr (.inl (vp_updL rr 16 (rr n0.toNatClampNeg))))), (po, .inl (cL, 4, .inr (.inl qq)))]) [0, 1, 2] (by decide) rfl) hS d_Copy_move_261
  by_cases c_3 : o0 = 2
  · refine lv_tableIn (tgt := 105) hx hb d_Copy_move_1 (by rw [c_3]; decide) (by rw [c_3]; decide) (by rw [c_3]; rfl) (by decide) ?_
    refine lv_aload_n hx hb d_Copy_move_105 rfl (lv_at hl 0 rfl) ?_
    refine va_get (D := (dC, dI)) (ci := 1) (v := .ref rw) (C := R_Copy) (T := F_Copy) (N := 4) hx hb htb iw_Copy hown hK.1 hP 0 rfl rfl 1 (by decide) (htb _ tw_69) (fun _ h9 => h9) rfl d_Copy_move_106 ?_
    refine lv_iload_n hx hb d_Copy_move_109 rfl (lv_at hl 2 rfl) ?_
    refine lv_aload_n hx hb d_Copy_move_110 rfl (lv_at hl 0 rfl) ?_
    refine va_get (D := (dC, dI)) (ci := 1) (v := .ref rw) (C := R_Copy) (T := F_Copy) (N := 4) hx hb htb iw_Copy hown hK.1 hP 0 rfl rfl 1 (by decide) (htb _ tw_69) (fun _ h9 => h9) rfl d_Copy_move_111 ?_
    refine lv_bipush (v := 16) hx hb d_Copy_move_114 (by decide) ?_
    refine ld_l (v := rr 16) (cA := cL) hx hb hK.1 hP 1 1 rfl rfl (show ¬ (_ ∨ _) by decide) rfl d_Copy_move_116 ?_
    refine sd_l (g := vp_updL rr n0.toNatClampNeg (rr 16)) (cA := cL) hx hb hK.1 hP hD hS 1 1 rfl rfl (ii_in2 (by have q9 := hv; rw [c_3] at q9; exact q9)) rfl d_Copy_move_117 (fun H locs hP hD hS => ?_)
    have hP : va_P (dC, dI) classes [(cp, .inr (1, [.long fac, .ref rw, .ref po, .int pl])), (rw, .inl (cL, 18, .inr (.inl (vp_updL rr n0.toNatClampNeg (rr 16))))), (po, .inl (cL, 4, .inr (.inl qq)))] H := hP
    have hD : va_D A [(cp, .inr (1, [.long fac, .ref rw, .ref po, .int pl])), (rw, .inl (cL, 18, .inr (.inl (vp_updL rr n0.toNatClampNeg (rr 16))))), (po, .inl (cL, 4, .inr (.inl qq)))] := hD
    refine lv_goto (tgt := 261) hx hb d_Copy_move_118 (by decide) ?_
    exact rt_v ((vp_updL rr n0.toNatClampNeg (rr 16)), qq, pl) hx hb hr hlocks (show (vp_updL rr n0.toNatClampNeg (rr 16)) = (mv_w fac o0 n0 rr qq pl).1 ∧ qq = (mv_w fac o0 n0 rr qq pl).2.1 ∧ pl = (mv_w fac o0 n0 rr qq pl).2.2 from (by simp only [mv_w, if_neg c_1, if_neg c_2, if_pos c_3, and_self])) (hP.sub (ws' := [(cp, .inr (1, [.long fac, .ref rw, .ref po, .int pl])), (rw, .inl (cL, 18, .inr (.inl (vp_updL rr n0.toNatClampNeg (rr 16))))), (po, .inl (cL, 4, .inr (.inl qq)))]) [0, 1, 2] rfl) (hD.sub (ws' := [(cp, .inr (1, [.long fac, .ref rw, .ref po, .int pl])), (rw, .inl (cL, 18, .inr (.inl (vp_updL rr n0.toNatClampNeg (rr 16))))), (po, .inl (cL, 4, .inr (.inl qq)))]) [0, 1, 2] (by decide) rfl) hS d_Copy_move_261
  by_cases c_4 : o0 = 3
  · refine lv_tableIn (tgt := 121) hx hb d_Copy_move_1 (by rw [c_4]; decide) (by rw [c_4]; decide) (by rw [c_4]; rfl) (by decide) ?_
    refine lv_aload_n hx hb d_Copy_move_121 rfl (lv_at hl 0 rfl) ?_
    refine va_get (D := (dC, dI)) (ci := 1) (v := .ref rw) (C := R_Copy) (T := F_Copy) (N := 4) hx hb htb iw_Copy hown hK.1 hP 0 rfl rfl 1 (by decide) (htb _ tw_69) (fun _ h9 => h9) rfl d_Copy_move_122 ?_
    refine lv_bipush (v := 17) hx hb d_Copy_move_125 (by decide) ?_
    refine lv_aload_n hx hb d_Copy_move_127 rfl (lv_at hl 0 rfl) ?_
    refine va_get (D := (dC, dI)) (ci := 1) (v := .ref rw) (C := R_Copy) (T := F_Copy) (N := 4) hx hb htb iw_Copy hown hK.1 hP 0 rfl rfl 1 (by decide) (htb _ tw_69) (fun _ h9 => h9) rfl d_Copy_move_128 ?_
    refine lv_bipush (v := 16) hx hb d_Copy_move_131 (by decide) ?_
    refine ld_l (v := rr 16) (cA := cL) hx hb hK.1 hP 1 1 rfl rfl (show ¬ (_ ∨ _) by decide) rfl d_Copy_move_133 ?_
    refine sd_l (g := vp_updL rr 17 (rr 16)) (cA := cL) hx hb hK.1 hP hD hS 1 1 rfl rfl (show ¬ (_ ∨ _) by decide) rfl d_Copy_move_134 (fun H locs hP hD hS => ?_)
    have hP : va_P (dC, dI) classes [(cp, .inr (1, [.long fac, .ref rw, .ref po, .int pl])), (rw, .inl (cL, 18, .inr (.inl (vp_updL rr 17 (rr 16))))), (po, .inl (cL, 4, .inr (.inl qq)))] H := hP
    have hD : va_D A [(cp, .inr (1, [.long fac, .ref rw, .ref po, .int pl])), (rw, .inl (cL, 18, .inr (.inl (vp_updL rr 17 (rr 16))))), (po, .inl (cL, 4, .inr (.inl qq)))] := hD
    refine lv_goto (tgt := 261) hx hb d_Copy_move_135 (by decide) ?_
    exact rt_v ((vp_updL rr 17 (rr 16)), qq, pl) hx hb hr hlocks (show (vp_updL rr 17 (rr 16)) = (mv_w fac o0 n0 rr qq pl).1 ∧ qq = (mv_w fac o0 n0 rr qq pl).2.1 ∧ pl = (mv_w fac o0 n0 rr qq pl).2.2 from (by simp only [mv_w, if_neg c_1, if_neg c_2, if_neg c_3, if_pos c_4, and_self])) (hP.sub (ws' := [(cp, .inr (1, [.long fac, .ref rw, .ref po, .int pl])), (rw, .inl (cL, 18, .inr (.inl (vp_updL rr 17 (rr 16))))), (po, .inl (cL, 4, .inr (.inl qq)))]) [0, 1, 2] rfl) (hD.sub (ws' := [(cp, .inr (1, [.long fac, .ref rw, .ref po, .int pl])), (rw, .inl (cL, 18, .inr (.inl (vp_updL rr 17 (rr 16))))), (po, .inl (cL, 4, .inr (.inl qq)))]) [0, 1, 2] (by decide) rfl) hS d_Copy_move_261
  by_cases c_5 : o0 = 7
  · refine lv_tableIn (tgt := 138) hx hb d_Copy_move_1 (by rw [c_5]; decide) (by rw [c_5]; decide) (by rw [c_5]; rfl) (by decide) ?_
    refine lv_aload_n hx hb d_Copy_move_138 rfl (lv_at hl 0 rfl) ?_
    refine va_get (D := (dC, dI)) (ci := 1) (v := .ref rw) (C := R_Copy) (T := F_Copy) (N := 4) hx hb htb iw_Copy hown hK.1 hP 0 rfl rfl 1 (by decide) (htb _ tw_69) (fun _ h9 => h9) rfl d_Copy_move_139 ?_
    refine lv_bipush (v := 16) hx hb d_Copy_move_142 (by decide) ?_
    refine lv_aload_n hx hb d_Copy_move_144 rfl (lv_at hl 0 rfl) ?_
    refine va_get (D := (dC, dI)) (ci := 1) (v := .ref rw) (C := R_Copy) (T := F_Copy) (N := 4) hx hb htb iw_Copy hown hK.1 hP 0 rfl rfl 1 (by decide) (htb _ tw_69) (fun _ h9 => h9) rfl d_Copy_move_145 ?_
    refine lv_bipush (v := 16) hx hb d_Copy_move_148 (by decide) ?_
    refine ld_l (v := rr 16) (cA := cL) hx hb hK.1 hP 1 1 rfl rfl (show ¬ (_ ∨ _) by decide) rfl d_Copy_move_150 ?_
    refine lv_aload_n hx hb d_Copy_move_151 rfl (lv_at hl 0 rfl) ?_
    refine va_get (D := (dC, dI)) (ci := 1) (v := .ref rw) (C := R_Copy) (T := F_Copy) (N := 4) hx hb htb iw_Copy hown hK.1 hP 0 rfl rfl 1 (by decide) (htb _ tw_69) (fun _ h9 => h9) rfl d_Copy_move_152 ?_
    refine lv_bipush (v := 17) hx hb d_Copy_move_155 (by decide) ?_
    refine ld_l (v := rr 17) (cA := cL) hx hb hK.1 hP 1 1 rfl rfl (show ¬ (_ ∨ _) by decide) rfl d_Copy_move_157 ?_
    refine W.lcmp hx hb d_Copy_move_158 ?_
    refine lv_if_ge (tgt := 169) hx hb d_Copy_move_159 (by decide) (fun c_6 => ?_) (fun c_6 => ?_)
    · have c_6 : 0 ≤ (lg_cmp (rr 16) (rr 17)) := c_6
      rw [lc_ge] at c_6
      refine lv_lconst (v := 0) hx hb d_Copy_move_169 (by decide) ?_
      refine sd_l (g := vp_updL rr 16 0) (cA := cL) hx hb hK.1 hP hD hS 1 1 rfl rfl (show ¬ (_ ∨ _) by decide) rfl d_Copy_move_170 (fun H locs hP hD hS => ?_)
      have hP : va_P (dC, dI) classes [(cp, .inr (1, [.long fac, .ref rw, .ref po, .int pl])), (rw, .inl (cL, 18, .inr (.inl (vp_updL rr 16 0)))), (po, .inl (cL, 4, .inr (.inl qq)))] H := hP
      have hD : va_D A [(cp, .inr (1, [.long fac, .ref rw, .ref po, .int pl])), (rw, .inl (cL, 18, .inr (.inl (vp_updL rr 16 0)))), (po, .inl (cL, 4, .inr (.inl qq)))] := hD
      refine lv_goto (tgt := 261) hx hb d_Copy_move_171 (by decide) ?_
      exact rt_v ((vp_updL rr 16 0), qq, pl) hx hb hr hlocks (show (vp_updL rr 16 0) = (mv_w fac o0 n0 rr qq pl).1 ∧ qq = (mv_w fac o0 n0 rr qq pl).2.1 ∧ pl = (mv_w fac o0 n0 rr qq pl).2.2 from (by simp only [mv_w, if_neg c_1, if_neg c_2, if_neg c_3, if_neg c_4, if_pos c_5, if_neg c_6, and_self])) (hP.sub (ws' := [(cp, .inr (1, [.long fac, .ref rw, .ref po, .int pl])), (rw, .inl (cL, 18, .inr (.inl (vp_updL rr 16 0)))), (po, .inl (cL, 4, .inr (.inl qq)))]) [0, 1, 2] rfl) (hD.sub (ws' := [(cp, .inr (1, [.long fac, .ref rw, .ref po, .int pl])), (rw, .inl (cL, 18, .inr (.inl (vp_updL rr 16 0)))), (po, .inl (cL, 4, .inr (.inl qq)))]) [0, 1, 2] (by decide) rfl) hS d_Copy_move_261
    · have c_6 : ¬ 0 ≤ (lg_cmp (rr 16) (rr 17)) := c_6
      rw [lc_ge, Decidable.not_not] at c_6
      refine lv_aload_n hx hb d_Copy_move_162 rfl (lv_at hl 0 rfl) ?_
      refine va_get (D := (dC, dI)) (ci := 1) (v := .long fac) (C := R_Copy) (T := F_Copy) (N := 4) hx hb htb iw_Copy hown hK.1 hP 0 rfl rfl 0 (by decide) (htb _ tw_68) (fun _ h9 => h9) rfl d_Copy_move_163 ?_
      refine lv_goto (tgt := 170) hx hb d_Copy_move_166 (by decide) ?_
      refine sd_l (g := vp_updL rr 16 fac) (cA := cL) hx hb hK.1 hP hD hS 1 1 rfl rfl (show ¬ (_ ∨ _) by decide) rfl d_Copy_move_170 (fun H locs hP hD hS => ?_)
      have hP : va_P (dC, dI) classes [(cp, .inr (1, [.long fac, .ref rw, .ref po, .int pl])), (rw, .inl (cL, 18, .inr (.inl (vp_updL rr 16 fac)))), (po, .inl (cL, 4, .inr (.inl qq)))] H := hP
      have hD : va_D A [(cp, .inr (1, [.long fac, .ref rw, .ref po, .int pl])), (rw, .inl (cL, 18, .inr (.inl (vp_updL rr 16 fac)))), (po, .inl (cL, 4, .inr (.inl qq)))] := hD
      refine lv_goto (tgt := 261) hx hb d_Copy_move_171 (by decide) ?_
      exact rt_v ((vp_updL rr 16 fac), qq, pl) hx hb hr hlocks (show (vp_updL rr 16 fac) = (mv_w fac o0 n0 rr qq pl).1 ∧ qq = (mv_w fac o0 n0 rr qq pl).2.1 ∧ pl = (mv_w fac o0 n0 rr qq pl).2.2 from (by simp only [mv_w, if_neg c_1, if_neg c_2, if_neg c_3, if_neg c_4, if_pos c_5, if_pos c_6, and_self])) (hP.sub (ws' := [(cp, .inr (1, [.long fac, .ref rw, .ref po, .int pl])), (rw, .inl (cL, 18, .inr (.inl (vp_updL rr 16 fac)))), (po, .inl (cL, 4, .inr (.inl qq)))]) [0, 1, 2] rfl) (hD.sub (ws' := [(cp, .inr (1, [.long fac, .ref rw, .ref po, .int pl])), (rw, .inl (cL, 18, .inr (.inl (vp_updL rr 16 fac)))), (po, .inl (cL, 4, .inr (.inl qq)))]) [0, 1, 2] (by decide) rfl) hS d_Copy_move_261
  by_cases c_7 : o0 = 8
  · refine lv_tableIn (tgt := 174) hx hb d_Copy_move_1 (by rw [c_7]; decide) (by rw [c_7]; decide) (by rw [c_7]; rfl) (by decide) ?_
    refine lv_aload_n hx hb d_Copy_move_174 rfl (lv_at hl 0 rfl) ?_
    refine va_get (D := (dC, dI)) (ci := 1) (v := .ref rw) (C := R_Copy) (T := F_Copy) (N := 4) hx hb htb iw_Copy hown hK.1 hP 0 rfl rfl 1 (by decide) (htb _ tw_69) (fun _ h9 => h9) rfl d_Copy_move_175 ?_
    refine lv_bipush (v := 16) hx hb d_Copy_move_178 (by decide) ?_
    refine lv_aload_n hx hb d_Copy_move_180 rfl (lv_at hl 0 rfl) ?_
    refine va_get (D := (dC, dI)) (ci := 1) (v := .ref rw) (C := R_Copy) (T := F_Copy) (N := 4) hx hb htb iw_Copy hown hK.1 hP 0 rfl rfl 1 (by decide) (htb _ tw_69) (fun _ h9 => h9) rfl d_Copy_move_181 ?_
    refine lv_bipush (v := 16) hx hb d_Copy_move_184 (by decide) ?_
    refine ld_l (v := rr 16) (cA := cL) hx hb hK.1 hP 1 1 rfl rfl (show ¬ (_ ∨ _) by decide) rfl d_Copy_move_186 ?_
    refine lv_aload_n hx hb d_Copy_move_187 rfl (lv_at hl 0 rfl) ?_
    refine va_get (D := (dC, dI)) (ci := 1) (v := .ref rw) (C := R_Copy) (T := F_Copy) (N := 4) hx hb htb iw_Copy hown hK.1 hP 0 rfl rfl 1 (by decide) (htb _ tw_69) (fun _ h9 => h9) rfl d_Copy_move_188 ?_
    refine lv_bipush (v := 17) hx hb d_Copy_move_191 (by decide) ?_
    refine ld_l (v := rr 17) (cA := cL) hx hb hK.1 hP 1 1 rfl rfl (show ¬ (_ ∨ _) by decide) rfl d_Copy_move_193 ?_
    refine W.lcmp hx hb d_Copy_move_194 ?_
    refine lv_if_ne (tgt := 205) hx hb d_Copy_move_195 (by decide) (fun c_8 => ?_) (fun c_8 => ?_)
    · have c_8 : ¬ (lg_cmp (rr 16) (rr 17)) = 0 := c_8
      rw [lc_eq] at c_8
      refine lv_lconst (v := 0) hx hb d_Copy_move_205 (by decide) ?_
      refine sd_l (g := vp_updL rr 16 0) (cA := cL) hx hb hK.1 hP hD hS 1 1 rfl rfl (show ¬ (_ ∨ _) by decide) rfl d_Copy_move_206 (fun H locs hP hD hS => ?_)
      have hP : va_P (dC, dI) classes [(cp, .inr (1, [.long fac, .ref rw, .ref po, .int pl])), (rw, .inl (cL, 18, .inr (.inl (vp_updL rr 16 0)))), (po, .inl (cL, 4, .inr (.inl qq)))] H := hP
      have hD : va_D A [(cp, .inr (1, [.long fac, .ref rw, .ref po, .int pl])), (rw, .inl (cL, 18, .inr (.inl (vp_updL rr 16 0)))), (po, .inl (cL, 4, .inr (.inl qq)))] := hD
      refine lv_goto (tgt := 261) hx hb d_Copy_move_207 (by decide) ?_
      exact rt_v ((vp_updL rr 16 0), qq, pl) hx hb hr hlocks (show (vp_updL rr 16 0) = (mv_w fac o0 n0 rr qq pl).1 ∧ qq = (mv_w fac o0 n0 rr qq pl).2.1 ∧ pl = (mv_w fac o0 n0 rr qq pl).2.2 from (by simp only [mv_w, if_neg c_1, if_neg c_2, if_neg c_3, if_neg c_4, if_neg c_5, if_pos c_7, if_neg c_8, and_self])) (hP.sub (ws' := [(cp, .inr (1, [.long fac, .ref rw, .ref po, .int pl])), (rw, .inl (cL, 18, .inr (.inl (vp_updL rr 16 0)))), (po, .inl (cL, 4, .inr (.inl qq)))]) [0, 1, 2] rfl) (hD.sub (ws' := [(cp, .inr (1, [.long fac, .ref rw, .ref po, .int pl])), (rw, .inl (cL, 18, .inr (.inl (vp_updL rr 16 0)))), (po, .inl (cL, 4, .inr (.inl qq)))]) [0, 1, 2] (by decide) rfl) hS d_Copy_move_261
    · have c_8 : (lg_cmp (rr 16) (rr 17)) = 0 := c_8
      rw [lc_eq] at c_8
      refine lv_aload_n hx hb d_Copy_move_198 rfl (lv_at hl 0 rfl) ?_
      refine va_get (D := (dC, dI)) (ci := 1) (v := .long fac) (C := R_Copy) (T := F_Copy) (N := 4) hx hb htb iw_Copy hown hK.1 hP 0 rfl rfl 0 (by decide) (htb _ tw_68) (fun _ h9 => h9) rfl d_Copy_move_199 ?_
      refine lv_goto (tgt := 206) hx hb d_Copy_move_202 (by decide) ?_
      refine sd_l (g := vp_updL rr 16 fac) (cA := cL) hx hb hK.1 hP hD hS 1 1 rfl rfl (show ¬ (_ ∨ _) by decide) rfl d_Copy_move_206 (fun H locs hP hD hS => ?_)
      have hP : va_P (dC, dI) classes [(cp, .inr (1, [.long fac, .ref rw, .ref po, .int pl])), (rw, .inl (cL, 18, .inr (.inl (vp_updL rr 16 fac)))), (po, .inl (cL, 4, .inr (.inl qq)))] H := hP
      have hD : va_D A [(cp, .inr (1, [.long fac, .ref rw, .ref po, .int pl])), (rw, .inl (cL, 18, .inr (.inl (vp_updL rr 16 fac)))), (po, .inl (cL, 4, .inr (.inl qq)))] := hD
      refine lv_goto (tgt := 261) hx hb d_Copy_move_207 (by decide) ?_
      exact rt_v ((vp_updL rr 16 fac), qq, pl) hx hb hr hlocks (show (vp_updL rr 16 fac) = (mv_w fac o0 n0 rr qq pl).1 ∧ qq = (mv_w fac o0 n0 rr qq pl).2.1 ∧ pl = (mv_w fac o0 n0 rr qq pl).2.2 from (by simp only [mv_w, if_neg c_1, if_neg c_2, if_neg c_3, if_neg c_4, if_neg c_5, if_pos c_7, if_pos c_8, and_self])) (hP.sub (ws' := [(cp, .inr (1, [.long fac, .ref rw, .ref po, .int pl])), (rw, .inl (cL, 18, .inr (.inl (vp_updL rr 16 fac)))), (po, .inl (cL, 4, .inr (.inl qq)))]) [0, 1, 2] rfl) (hD.sub (ws' := [(cp, .inr (1, [.long fac, .ref rw, .ref po, .int pl])), (rw, .inl (cL, 18, .inr (.inl (vp_updL rr 16 fac)))), (po, .inl (cL, 4, .inr (.inl qq)))]) [0, 1, 2] (by decide) rfl) hS d_Copy_move_261
  by_cases c_9 : o0 = 10
  · refine lv_tableIn (tgt := 210) hx hb d_Copy_move_1 (by rw [c_9]; decide) (by rw [c_9]; decide) (by rw [c_9]; rfl) (by decide) ?_
    refine lv_aload_n hx hb d_Copy_move_210 rfl (lv_at hl 0 rfl) ?_
    refine lv_iload_n hx hb d_Copy_move_211 rfl (lv_at hl 2 rfl) ?_
    refine va_put (D := (dC, dI)) (ci := 1) (v := .int n0) (ty := .int) (C := R_Copy) (T := F_Copy) (N := 4) hx hb htb iw_Copy t_Copy t_Copy_ok n_Copy hown hK.1 hP hD hS 0 rfl rfl 3 (by decide) (htb _ tw_73) (fun _ h9 => h9) rfl (by decide +kernel) rfl rfl (Nat.le_of_ble_eq_true rfl) d_Copy_move_212 (fun H locs hP hD hS => ?_)
    have hP : va_P (dC, dI) classes [(cp, .inr (1, [.long fac, .ref rw, .ref po, .int n0])), (rw, .inl (cL, 18, .inr (.inl rr))), (po, .inl (cL, 4, .inr (.inl qq)))] H := hP
    have hD : va_D A [(cp, .inr (1, [.long fac, .ref rw, .ref po, .int n0])), (rw, .inl (cL, 18, .inr (.inl rr))), (po, .inl (cL, 4, .inr (.inl qq)))] := hD
    refine lv_goto (tgt := 261) hx hb d_Copy_move_215 (by decide) ?_
    exact rt_v (rr, qq, n0) hx hb hr hlocks (show rr = (mv_w fac o0 n0 rr qq pl).1 ∧ qq = (mv_w fac o0 n0 rr qq pl).2.1 ∧ n0 = (mv_w fac o0 n0 rr qq pl).2.2 from (by simp only [mv_w, if_neg c_1, if_neg c_2, if_neg c_3, if_neg c_4, if_neg c_5, if_neg c_7, if_pos c_9, and_self])) (hP.sub (ws' := [(cp, .inr (1, [.long fac, .ref rw, .ref po, .int n0])), (rw, .inl (cL, 18, .inr (.inl rr))), (po, .inl (cL, 4, .inr (.inl qq)))]) [0, 1, 2] rfl) (hD.sub (ws' := [(cp, .inr (1, [.long fac, .ref rw, .ref po, .int n0])), (rw, .inl (cL, 18, .inr (.inl rr))), (po, .inl (cL, 4, .inr (.inl qq)))]) [0, 1, 2] (by decide) rfl) hS d_Copy_move_261
  by_cases c_10 : o0 = 11
  · refine lv_tableIn (tgt := 218) hx hb d_Copy_move_1 (by rw [c_10]; decide) (by rw [c_10]; decide) (by rw [c_10]; rfl) (by decide) ?_
    refine lv_aload_n hx hb d_Copy_move_218 rfl (lv_at hl 0 rfl) ?_
    refine lv_aload_n hx hb d_Copy_move_219 rfl (lv_at hl 0 rfl) ?_
    refine va_get (D := (dC, dI)) (ci := 1) (v := .ref rw) (C := R_Copy) (T := F_Copy) (N := 4) hx hb htb iw_Copy hown hK.1 hP 0 rfl rfl 1 (by decide) (htb _ tw_69) (fun _ h9 => h9) rfl d_Copy_move_220 ?_
    refine lv_bipush (v := 16) hx hb d_Copy_move_223 (by decide) ?_
    refine ld_l (v := rr 16) (cA := cL) hx hb hK.1 hP 1 1 rfl rfl (show ¬ (_ ∨ _) by decide) rfl d_Copy_move_225 ?_
    refine lv_lconst (v := 0) hx hb d_Copy_move_226 (by decide) ?_
    refine W.lcmp hx hb d_Copy_move_227 ?_
    refine lv_if_ne (tgt := 235) hx hb d_Copy_move_228 (by decide) (fun c_11 => ?_) (fun c_11 => ?_)
    · have c_11 : ¬ (lg_cmp (rr 16) 0) = 0 := c_11
      rw [lc_eq] at c_11
      refine lv_aload_n hx hb d_Copy_move_235 rfl (lv_at hl 0 rfl) ?_
      refine va_get (D := (dC, dI)) (ci := 1) (v := .int pl) (C := R_Copy) (T := F_Copy) (N := 4) hx hb htb iw_Copy hown hK.1 hP 0 rfl rfl 3 (by decide) (htb _ tw_73) (fun _ h9 => h9) rfl d_Copy_move_236 ?_
      refine va_put (D := (dC, dI)) (ci := 1) (v := .int pl) (ty := .int) (C := R_Copy) (T := F_Copy) (N := 4) hx hb htb iw_Copy t_Copy t_Copy_ok n_Copy hown hK.1 hP hD hS 0 rfl rfl 3 (by decide) (htb _ tw_73) (fun _ h9 => h9) rfl (by decide +kernel) rfl rfl (Nat.le_of_ble_eq_true rfl) d_Copy_move_239 (fun H locs hP hD hS => ?_)
      have hP : va_P (dC, dI) classes [(cp, .inr (1, [.long fac, .ref rw, .ref po, .int pl])), (rw, .inl (cL, 18, .inr (.inl rr))), (po, .inl (cL, 4, .inr (.inl qq)))] H := hP
      have hD : va_D A [(cp, .inr (1, [.long fac, .ref rw, .ref po, .int pl])), (rw, .inl (cL, 18, .inr (.inl rr))), (po, .inl (cL, 4, .inr (.inl qq)))] := hD
      refine lv_goto (tgt := 261) hx hb d_Copy_move_242 (by decide) ?_
      exact rt_v (rr, qq, pl) hx hb hr hlocks (show rr = (mv_w fac o0 n0 rr qq pl).1 ∧ qq = (mv_w fac o0 n0 rr qq pl).2.1 ∧ pl = (mv_w fac o0 n0 rr qq pl).2.2 from (by simp only [mv_w, if_neg c_1, if_neg c_2, if_neg c_3, if_neg c_4, if_neg c_5, if_neg c_7, if_neg c_9, if_pos c_10, if_neg c_11, and_self])) (hP.sub (ws' := [(cp, .inr (1, [.long fac, .ref rw, .ref po, .int pl])), (rw, .inl (cL, 18, .inr (.inl rr))), (po, .inl (cL, 4, .inr (.inl qq)))]) [0, 1, 2] rfl) (hD.sub (ws' := [(cp, .inr (1, [.long fac, .ref rw, .ref po, .int pl])), (rw, .inl (cL, 18, .inr (.inl rr))), (po, .inl (cL, 4, .inr (.inl qq)))]) [0, 1, 2] (by decide) rfl) hS d_Copy_move_261
    · have c_11 : (lg_cmp (rr 16) 0) = 0 := c_11
      rw [lc_eq] at c_11
      refine lv_iload_n hx hb d_Copy_move_231 rfl (lv_at hl 2 rfl) ?_
      refine lv_goto (tgt := 239) hx hb d_Copy_move_232 (by decide) ?_
      refine va_put (D := (dC, dI)) (ci := 1) (v := .int n0) (ty := .int) (C := R_Copy) (T := F_Copy) (N := 4) hx hb htb iw_Copy t_Copy t_Copy_ok n_Copy hown hK.1 hP hD hS 0 rfl rfl 3 (by decide) (htb _ tw_73) (fun _ h9 => h9) rfl (by decide +kernel) rfl rfl (Nat.le_of_ble_eq_true rfl) d_Copy_move_239 (fun H locs hP hD hS => ?_)
      have hP : va_P (dC, dI) classes [(cp, .inr (1, [.long fac, .ref rw, .ref po, .int n0])), (rw, .inl (cL, 18, .inr (.inl rr))), (po, .inl (cL, 4, .inr (.inl qq)))] H := hP
      have hD : va_D A [(cp, .inr (1, [.long fac, .ref rw, .ref po, .int n0])), (rw, .inl (cL, 18, .inr (.inl rr))), (po, .inl (cL, 4, .inr (.inl qq)))] := hD
      refine lv_goto (tgt := 261) hx hb d_Copy_move_242 (by decide) ?_
      exact rt_v (rr, qq, n0) hx hb hr hlocks (show rr = (mv_w fac o0 n0 rr qq pl).1 ∧ qq = (mv_w fac o0 n0 rr qq pl).2.1 ∧ n0 = (mv_w fac o0 n0 rr qq pl).2.2 from (by simp only [mv_w, if_neg c_1, if_neg c_2, if_neg c_3, if_neg c_4, if_neg c_5, if_neg c_7, if_neg c_9, if_pos c_10, if_pos c_11, and_self])) (hP.sub (ws' := [(cp, .inr (1, [.long fac, .ref rw, .ref po, .int n0])), (rw, .inl (cL, 18, .inr (.inl rr))), (po, .inl (cL, 4, .inr (.inl qq)))]) [0, 1, 2] rfl) (hD.sub (ws' := [(cp, .inr (1, [.long fac, .ref rw, .ref po, .int n0])), (rw, .inl (cL, 18, .inr (.inl rr))), (po, .inl (cL, 4, .inr (.inl qq)))]) [0, 1, 2] (by decide) rfl) hS d_Copy_move_261
  by_cases c_12 : o0 = 13
  · refine lv_tableIn (tgt := 245) hx hb d_Copy_move_1 (by rw [c_12]; decide) (by rw [c_12]; decide) (by rw [c_12]; rfl) (by decide) ?_
    refine lv_aload_n hx hb d_Copy_move_245 rfl (lv_at hl 0 rfl) ?_
    refine va_get (D := (dC, dI)) (ci := 1) (v := .ref po) (C := R_Copy) (T := F_Copy) (N := 4) hx hb htb iw_Copy hown hK.1 hP 0 rfl rfl 2 (by decide) (htb _ tw_71) (fun _ h9 => h9) rfl d_Copy_move_246 ?_
    refine lv_iload_n hx hb d_Copy_move_249 rfl (lv_at hl 2 rfl) ?_
    refine lv_aload_n hx hb d_Copy_move_250 rfl (lv_at hl 0 rfl) ?_
    refine va_get (D := (dC, dI)) (ci := 1) (v := .ref rw) (C := R_Copy) (T := F_Copy) (N := 4) hx hb htb iw_Copy hown hK.1 hP 0 rfl rfl 1 (by decide) (htb _ tw_69) (fun _ h9 => h9) rfl d_Copy_move_251 ?_
    refine lv_bipush (v := 16) hx hb d_Copy_move_254 (by decide) ?_
    refine ld_l (v := rr 16) (cA := cL) hx hb hK.1 hP 1 1 rfl rfl (show ¬ (_ ∨ _) by decide) rfl d_Copy_move_256 ?_
    refine sd_l (g := vp_updL qq n0.toNatClampNeg (rr 16)) (cA := cL) hx hb hK.1 hP hD hS 2 1 rfl rfl (ii_in13 (by have q9 := hv; rw [c_12] at q9; exact q9)) rfl d_Copy_move_257 (fun H locs hP hD hS => ?_)
    have hP : va_P (dC, dI) classes [(cp, .inr (1, [.long fac, .ref rw, .ref po, .int pl])), (rw, .inl (cL, 18, .inr (.inl rr))), (po, .inl (cL, 4, .inr (.inl (vp_updL qq n0.toNatClampNeg (rr 16)))))] H := hP
    have hD : va_D A [(cp, .inr (1, [.long fac, .ref rw, .ref po, .int pl])), (rw, .inl (cL, 18, .inr (.inl rr))), (po, .inl (cL, 4, .inr (.inl (vp_updL qq n0.toNatClampNeg (rr 16)))))] := hD
    refine lv_goto (tgt := 261) hx hb d_Copy_move_258 (by decide) ?_
    exact rt_v (rr, (vp_updL qq n0.toNatClampNeg (rr 16)), pl) hx hb hr hlocks (show rr = (mv_w fac o0 n0 rr qq pl).1 ∧ (vp_updL qq n0.toNatClampNeg (rr 16)) = (mv_w fac o0 n0 rr qq pl).2.1 ∧ pl = (mv_w fac o0 n0 rr qq pl).2.2 from (by simp only [mv_w, if_neg c_1, if_neg c_2, if_neg c_3, if_neg c_4, if_neg c_5, if_neg c_7, if_neg c_9, if_neg c_10, if_pos c_12, and_self])) (hP.sub (ws' := [(cp, .inr (1, [.long fac, .ref rw, .ref po, .int pl])), (rw, .inl (cL, 18, .inr (.inl rr))), (po, .inl (cL, 4, .inr (.inl (vp_updL qq n0.toNatClampNeg (rr 16)))))]) [0, 1, 2] rfl) (hD.sub (ws' := [(cp, .inr (1, [.long fac, .ref rw, .ref po, .int pl])), (rw, .inl (cL, 18, .inr (.inl rr))), (po, .inl (cL, 4, .inr (.inl (vp_updL qq n0.toNatClampNeg (rr 16)))))]) [0, 1, 2] (by decide) rfl) hS d_Copy_move_261
  refine lv_tableE (tgt := 261) hx hb d_Copy_move_1 (by decide) (fun j hj he => by have q_0 := lv_neT c_1 (a := 0) (by decide); have q_1 := lv_neT c_2 (a := 1) (by decide); have q_2 := lv_neT c_3 (a := 2) (by decide); have q_3 := lv_neT c_4 (a := 3) (by decide); have q_4 := lv_neT c_5 (a := 7) (by decide); have q_5 := lv_neT c_7 (a := 8) (by decide); have q_6 := lv_neT c_9 (a := 10) (by decide); have q_7 := lv_neT c_10 (a := 11) (by decide); have q_8 := lv_neT c_12 (a := 13) (by decide); rcases (show j = 0 ∨ j = 1 ∨ j = 2 ∨ j = 3 ∨ j = 4 ∨ j = 5 ∨ j = 6 ∨ j = 7 ∨ j = 8 ∨ j = 9 ∨ j = 10 ∨ j = 11 ∨ j = 12 ∨ j = 13 by omega) with rfl | rfl | rfl | rfl | rfl | rfl | rfl | rfl | rfl | rfl | rfl | rfl | rfl | rfl <;> first | rfl | (exfalso; omega)) ?_
  exact rt_v (rr, qq, pl) hx hb hr hlocks (show rr = (mv_w fac o0 n0 rr qq pl).1 ∧ qq = (mv_w fac o0 n0 rr qq pl).2.1 ∧ pl = (mv_w fac o0 n0 rr qq pl).2.2 from (by simp only [mv_w, if_neg c_1, if_neg c_2, if_neg c_3, if_neg c_4, if_neg c_5, if_neg c_7, if_neg c_9, if_neg c_10, if_neg c_12, and_self])) (hP.sub (ws' := [(cp, .inr (1, [.long fac, .ref rw, .ref po, .int pl])), (rw, .inl (cL, 18, .inr (.inl rr))), (po, .inl (cL, 4, .inr (.inl qq)))]) [0, 1, 2] rfl) (hD.sub (ws' := [(cp, .inr (1, [.long fac, .ref rw, .ref po, .int pl])), (rw, .inl (cL, 18, .inr (.inl rr))), (po, .inl (cL, 4, .inr (.inl qq)))]) [0, 1, 2] (by decide) rfl) hS d_Copy_move_261
