theorem tw_188 : (Cond.code y_Arrs_fill_l b_Arrs_fill_l 5 none) ∈ TB_w := List.mem_filter.mpr ⟨List.mem_of_getElem? (i := 188) rfl, by decide +kernel⟩
theorem tw_31 : (Cond.initialized R_Arrs) ∈ TB_w := List.mem_filter.mpr ⟨List.mem_of_getElem? (i := 31) (by decide +kernel), by decide +kernel⟩
theorem tw_186 : (Cond.methodLink R_Copy 26 y_Arrs_fill_l) ∈ TB_w := List.mem_filter.mpr ⟨List.mem_of_getElem? (i := 186) (by decide +kernel), by decide +kernel⟩
theorem tw_187 : (Cond.static y_Arrs_fill_l) ∈ TB_w := List.mem_filter.mpr ⟨List.mem_of_getElem? (i := 187) (by decide +kernel), by decide +kernel⟩
theorem tw_120 : (Cond.fieldLink R_Gate 21 "TwinGate" "first" "LTwinGate$Copy;") ∈ TB_w := List.mem_filter.mpr ⟨List.mem_of_getElem? (i := 120) (by decide +kernel), by decide +kernel⟩
theorem tw_121 : (Cond.fieldLink R_Gate 27 "TwinGate" "second" "LTwinGate$Copy;") ∈ TB_w := List.mem_filter.mpr ⟨List.mem_of_getElem? (i := 121) (by decide +kernel), by decide +kernel⟩
theorem tw_122 : (Cond.fieldLink R_Gate 33 "TwinGate" "plan" "LTwinGate$FlipPlan;") ∈ TB_w := List.mem_filter.mpr ⟨List.mem_of_getElem? (i := 122) (by decide +kernel), by decide +kernel⟩
theorem tw_100 : (Cond.fieldLink R_Gate 149 "TwinGate$FlipPlan" "size" "I") ∈ TB_w := List.mem_filter.mpr ⟨List.mem_of_getElem? (i := 100) (by decide +kernel), by decide +kernel⟩
theorem tw_98 : (Cond.fieldLink R_Gate 169 "TwinGate$FlipPlan" "steps" "[I") ∈ TB_w := List.mem_filter.mpr ⟨List.mem_of_getElem? (i := 98) (by decide +kernel), by decide +kernel⟩
theorem tw_128 : (Cond.fieldLink R_Gate 55 "TwinGate" "steps" "I") ∈ TB_w := List.mem_filter.mpr ⟨List.mem_of_getElem? (i := 128) (by decide +kernel), by decide +kernel⟩
theorem tw_92 : (Cond.fieldLink R_Gate 171 "TwinGate$FlipPlan" "copies" "[I") ∈ TB_w := List.mem_filter.mpr ⟨List.mem_of_getElem? (i := 92) (by decide +kernel), by decide +kernel⟩
theorem tw_196 : (Cond.code y_Gate_copyOf b_Gate_copyOf 2 (some (.object "TwinGate$Copy"))) ∈ TB_w := List.mem_filter.mpr ⟨List.mem_of_getElem? (i := 196) rfl, by decide +kernel⟩
theorem tw_193 : (Cond.methodLink R_Gate 141 y_Gate_copyOf) ∈ TB_w := List.mem_filter.mpr ⟨List.mem_of_getElem? (i := 193) (by decide +kernel), by decide +kernel⟩
theorem tw_195 : (Cond.instanceMethod y_Gate_copyOf) ∈ TB_w := List.mem_filter.mpr ⟨List.mem_of_getElem? (i := 195) (by decide +kernel), by decide +kernel⟩
theorem tw_3 : (Cond.selects R_Gate y_Gate_copyOf y_Gate_copyOf) ∈ TB_w := List.mem_filter.mpr ⟨List.mem_of_getElem? (i := 3) (by decide +kernel), by decide +kernel⟩
theorem tw_70 : (Cond.fieldLink R_Gate 145 "TwinGate$Copy" "row" "[J") ∈ TB_w := List.mem_filter.mpr ⟨List.mem_of_getElem? (i := 70) (by decide +kernel), by decide +kernel⟩
theorem tw_94 : (Cond.fieldLink R_Gate 174 "TwinGate$FlipPlan" "cells" "[I") ∈ TB_w := List.mem_filter.mpr ⟨List.mem_of_getElem? (i := 94) (by decide +kernel), by decide +kernel⟩
theorem tw_96 : (Cond.fieldLink R_Gate 177 "TwinGate$FlipPlan" "bits" "[I") ∈ TB_w := List.mem_filter.mpr ⟨List.mem_of_getElem? (i := 96) (by decide +kernel), by decide +kernel⟩
theorem tw_129 : (Cond.fieldLink R_Gate 58 "TwinGate" "flipsDone" "I") ∈ TB_w := List.mem_filter.mpr ⟨List.mem_of_getElem? (i := 129) (by decide +kernel), by decide +kernel⟩
set_option maxHeartbeats 4000000 in
set_option maxRecDepth 100000 in
theorem c_Arrs_fill_l (l : Launch) (dC : Nat → ClassId) (dI : Nat → Nat → Nat) (cI cL : ClassId) (hs0 : Nat) (qa : Nat) (ff : Nat → Int64) (v0 : Int64)  : ct_v l y_Arrs_fill_l b_Arrs_fill_l 5 none ({ frames := 0, cells := 0, slots := 0, locals := 0 }) (dC, dI) cI cL [.ref qa, .long v0] [(qa, .inl (cL, 4, .inr (.inl ff)))] hs0 (fun (u : (Nat → Int64)) => u = f4_w ff v0) (fun u => [(qa, .inl (cL, 4, .inr (.inl u)))]) 0 0 := by
  refine st_w (Qc := fun A => va_Qv (fun (u : (Nat → Int64)) => u = f4_w ff v0) (fun (u : (Nat → Int64)) t => pos_w (dC, dI) A [(qa, .inl (cL, 4, .inr (.inl u)))] t) A) (by decide) (Nat.le_of_ble_eq_true rfl) ?_
  intro p e s m below meth c A ls hfx hK hA hP hD hS hl
  obtain ⟨hx, hb, hml, hown, htb, hr, hlocks, hin⟩ := hfx
  have hl : lv_has ls 5 [(0, .ref qa), (1, .long v0)] := hl
  refine lv_iconst (v := 0) hx hb d_Arrs_fill_l_0 (by decide) ?_
  refine lv_istore_n (lv' := [(3, .int 0), (0, .ref qa), (1, .long v0)]) hx hb d_Arrs_fill_l_1 rfl hl (by decide) rfl (fun ls hl => ?_)
  refine lv_aload_n hx hb d_Arrs_fill_l_2 rfl (lv_at hl 1 rfl) ?_
  refine va_alen (v := 4) (cA := cL) hx hb hK.1 hP 0 1 rfl rfl rfl d_Arrs_fill_l_3 ?_
  refine lv_istore (lv' := [(4, .int 4), (3, .int 0), (0, .ref qa), (1, .long v0)]) hx hb d_Arrs_fill_l_4 hl (by decide) rfl (fun ls hl => ?_)
  refine lv_iload_n hx hb d_Arrs_fill_l_6 rfl (lv_at hl 1 rfl) ?_
  refine lv_iload hx hb d_Arrs_fill_l_7 (lv_at hl 0 rfl) ?_
  refine lv_icmp_ge (tgt := 22) hx hb d_Arrs_fill_l_9 (by decide) (fun c_1 => ?_) (fun c_1 => ?_)
  · exact absurd c_1 (by decide)
  · skip
    refine lv_aload_n hx hb d_Arrs_fill_l_12 rfl (lv_at hl 2 rfl) ?_
    refine lv_iload_n hx hb d_Arrs_fill_l_13 rfl (lv_at hl 1 rfl) ?_
    refine lv_lload_n hx hb d_Arrs_fill_l_14 rfl (lv_at hl 3 rfl) ?_
    refine sd_l (g := vp_updL ff 0 v0) (cA := cL) hx hb hK.1 hP hD hS 0 1 rfl rfl (show ¬ (_ ∨ _) by decide) rfl d_Arrs_fill_l_15 (fun H locs hP hD hS => ?_)
    have hP : va_P (dC, dI) classes [(qa, .inl (cL, 4, .inr (.inl (vp_updL ff 0 v0))))] H := hP
    have hD : va_D A [(qa, .inl (cL, 4, .inr (.inl (vp_updL ff 0 v0))))] := hD
    refine lv_iinc (v := 1) (lv' := [(3, .int 1), (4, .int 4), (0, .ref qa), (1, .long v0)]) hx hb d_Arrs_fill_l_16 hl (k := 1) rfl (by first | rfl | decide) (by decide) rfl (fun ls hl => ?_)
    refine lv_goto (tgt := 6) hx hb d_Arrs_fill_l_19 (by decide) ?_
    refine lv_iload_n hx hb d_Arrs_fill_l_6 rfl (lv_at hl 0 rfl) ?_
    refine lv_iload hx hb d_Arrs_fill_l_7 (lv_at hl 1 rfl) ?_
    refine lv_icmp_ge (tgt := 22) hx hb d_Arrs_fill_l_9 (by decide) (fun c_2 => ?_) (fun c_2 => ?_)
    · exact absurd c_2 (by decide)
    · skip
      refine lv_aload_n hx hb d_Arrs_fill_l_12 rfl (lv_at hl 2 rfl) ?_
      refine lv_iload_n hx hb d_Arrs_fill_l_13 rfl (lv_at hl 0 rfl) ?_
      refine lv_lload_n hx hb d_Arrs_fill_l_14 rfl (lv_at hl 3 rfl) ?_
      refine sd_l (g := vp_updL (vp_updL ff 0 v0) 1 v0) (cA := cL) hx hb hK.1 hP hD hS 0 1 rfl rfl (show ¬ (_ ∨ _) by decide) rfl d_Arrs_fill_l_15 (fun H locs hP hD hS => ?_)
      have hP : va_P (dC, dI) classes [(qa, .inl (cL, 4, .inr (.inl (vp_updL (vp_updL ff 0 v0) 1 v0))))] H := hP
      have hD : va_D A [(qa, .inl (cL, 4, .inr (.inl (vp_updL (vp_updL ff 0 v0) 1 v0))))] := hD
      refine lv_iinc (v := 2) (lv' := [(3, .int 2), (4, .int 4), (0, .ref qa), (1, .long v0)]) hx hb d_Arrs_fill_l_16 hl (k := 0) rfl (by first | rfl | decide) (by decide) rfl (fun ls hl => ?_)
      refine lv_goto (tgt := 6) hx hb d_Arrs_fill_l_19 (by decide) ?_
      refine lv_iload_n hx hb d_Arrs_fill_l_6 rfl (lv_at hl 0 rfl) ?_
      refine lv_iload hx hb d_Arrs_fill_l_7 (lv_at hl 1 rfl) ?_
      refine lv_icmp_ge (tgt := 22) hx hb d_Arrs_fill_l_9 (by decide) (fun c_3 => ?_) (fun c_3 => ?_)
      · exact absurd c_3 (by decide)
      · skip
        refine lv_aload_n hx hb d_Arrs_fill_l_12 rfl (lv_at hl 2 rfl) ?_
        refine lv_iload_n hx hb d_Arrs_fill_l_13 rfl (lv_at hl 0 rfl) ?_
        refine lv_lload_n hx hb d_Arrs_fill_l_14 rfl (lv_at hl 3 rfl) ?_
        refine sd_l (g := vp_updL (vp_updL (vp_updL ff 0 v0) 1 v0) 2 v0) (cA := cL) hx hb hK.1 hP hD hS 0 1 rfl rfl (show ¬ (_ ∨ _) by decide) rfl d_Arrs_fill_l_15 (fun H locs hP hD hS => ?_)
        have hP : va_P (dC, dI) classes [(qa, .inl (cL, 4, .inr (.inl (vp_updL (vp_updL (vp_updL ff 0 v0) 1 v0) 2 v0))))] H := hP
        have hD : va_D A [(qa, .inl (cL, 4, .inr (.inl (vp_updL (vp_updL (vp_updL ff 0 v0) 1 v0) 2 v0))))] := hD
        refine lv_iinc (v := 3) (lv' := [(3, .int 3), (4, .int 4), (0, .ref qa), (1, .long v0)]) hx hb d_Arrs_fill_l_16 hl (k := 0) rfl (by first | rfl | decide) (by decide) rfl (fun ls hl => ?_)
        refine lv_goto (tgt := 6) hx hb d_Arrs_fill_l_19 (by decide) ?_
        refine lv_iload_n hx hb d_Arrs_fill_l_6 rfl (lv_at hl 0 rfl) ?_
        refine lv_iload hx hb d_Arrs_fill_l_7 (lv_at hl 1 rfl) ?_
        refine lv_icmp_ge (tgt := 22) hx hb d_Arrs_fill_l_9 (by decide) (fun c_4 => ?_) (fun c_4 => ?_)
        · exact absurd c_4 (by decide)
        · skip
          refine lv_aload_n hx hb d_Arrs_fill_l_12 rfl (lv_at hl 2 rfl) ?_
          refine lv_iload_n hx hb d_Arrs_fill_l_13 rfl (lv_at hl 0 rfl) ?_
          refine lv_lload_n hx hb d_Arrs_fill_l_14 rfl (lv_at hl 3 rfl) ?_
          refine sd_l (g := vp_updL (vp_updL (vp_updL (vp_updL ff 0 v0) 1 v0) 2 v0) 3 v0) (cA := cL) hx hb hK.1 hP hD hS 0 1 rfl rfl (show ¬ (_ ∨ _) by decide) rfl d_Arrs_fill_l_15 (fun H locs hP hD hS => ?_)
          have hP : va_P (dC, dI) classes [(qa, .inl (cL, 4, .inr (.inl (vp_updL (vp_updL (vp_updL (vp_updL ff 0 v0) 1 v0) 2 v0) 3 v0))))] H := hP
          have hD : va_D A [(qa, .inl (cL, 4, .inr (.inl (vp_updL (vp_updL (vp_updL (vp_updL ff 0 v0) 1 v0) 2 v0) 3 v0))))] := hD
          refine lv_iinc (v := 4) (lv' := [(3, .int 4), (4, .int 4), (0, .ref qa), (1, .long v0)]) hx hb d_Arrs_fill_l_16 hl (k := 0) rfl (by first | rfl | decide) (by decide) rfl (fun ls hl => ?_)
          refine lv_goto (tgt := 6) hx hb d_Arrs_fill_l_19 (by decide) ?_
          refine lv_iload_n hx hb d_Arrs_fill_l_6 rfl (lv_at hl 0 rfl) ?_
          refine lv_iload hx hb d_Arrs_fill_l_7 (lv_at hl 1 rfl) ?_
          refine lv_icmp_ge (tgt := 22) hx hb d_Arrs_fill_l_9 (by decide) (fun c_5 => ?_) (fun c_5 => ?_)
          · skip
            exact rt_v (vp_updL (vp_updL (vp_updL (vp_updL ff 0 v0) 1 v0) 2 v0) 3 v0) hx hb hr hlocks (show (vp_updL (vp_updL (vp_updL (vp_updL ff 0 v0) 1 v0) 2 v0) 3 v0) = f4_w ff v0 from (by simp only [f4_w, and_self])) (hP.sub (ws' := [(qa, .inl (cL, 4, .inr (.inl (vp_updL (vp_updL (vp_updL (vp_updL ff 0 v0) 1 v0) 2 v0) 3 v0))))]) [0] rfl) (hD.sub (ws' := [(qa, .inl (cL, 4, .inr (.inl (vp_updL (vp_updL (vp_updL (vp_updL ff 0 v0) 1 v0) 2 v0) 3 v0))))]) [0] (by decide) rfl) hS d_Arrs_fill_l_22
          · exact absurd (by decide) c_5

set_option maxHeartbeats 4000000 in
set_option maxRecDepth 100000 in
theorem c_Arrs_fill_i (l : Launch) (dC : Nat → ClassId) (dI : Nat → Nat → Nat) (cI cL : ClassId) (hs0 : Nat) (qa : Nat) (ff : Nat → Int32) (v0 : Int32)  : ct_v l y_Arrs_fill_i b_Arrs_fill_i 4 none ({ frames := 0, cells := 0, slots := 0, locals := 0 }) (dC, dI) cI cL [.ref qa, .int v0] [(qa, .inl (cI, 4, .inl ff))] hs0 (fun (u : (Nat → Int32)) => u = g4_w ff v0) (fun u => [(qa, .inl (cI, 4, .inl u))]) 0 0 := by
  refine st_w (Qc := fun A => va_Qv (fun (u : (Nat → Int32)) => u = g4_w ff v0) (fun (u : (Nat → Int32)) t => pos_w (dC, dI) A [(qa, .inl (cI, 4, .inl u))] t) A) (by decide) (Nat.le_of_ble_eq_true rfl) ?_
  intro p e s m below meth c A ls hfx hK hA hP hD hS hl
  obtain ⟨hx, hb, hml, hown, htb, hr, hlocks, hin⟩ := hfx
  have hl : lv_has ls 4 [(0, .ref qa), (1, .int v0)] := hl
  refine lv_iconst (v := 0) hx hb d_Arrs_fill_i_0 (by decide) ?_
  refine lv_istore_n (lv' := [(2, .int 0), (0, .ref qa), (1, .int v0)]) hx hb d_Arrs_fill_i_1 rfl hl (by decide) rfl (fun ls hl => ?_)
  refine lv_aload_n hx hb d_Arrs_fill_i_2 rfl (lv_at hl 1 rfl) ?_
  refine va_alen (v := 4) (cA := cI) hx hb hK.1 hP 0 0 rfl rfl rfl d_Arrs_fill_i_3 ?_
  refine lv_istore_n (lv' := [(3, .int 4), (2, .int 0), (0, .ref qa), (1, .int v0)]) hx hb d_Arrs_fill_i_4 rfl hl (by decide) rfl (fun ls hl => ?_)
  refine lv_iload_n hx hb d_Arrs_fill_i_5 rfl (lv_at hl 1 rfl) ?_
  refine lv_iload_n hx hb d_Arrs_fill_i_6 rfl (lv_at hl 0 rfl) ?_
  refine lv_icmp_ge (tgt := 20) hx hb d_Arrs_fill_i_7 (by decide) (fun c_1 => ?_) (fun c_1 => ?_)
  · exact absurd c_1 (by decide)
  · skip
    refine lv_aload_n hx hb d_Arrs_fill_i_10 rfl (lv_at hl 2 rfl) ?_
    refine lv_iload_n hx hb d_Arrs_fill_i_11 rfl (lv_at hl 1 rfl) ?_
    refine lv_iload_n hx hb d_Arrs_fill_i_12 rfl (lv_at hl 3 rfl) ?_
    refine sd_i (g := upd ff 0 v0) (cA := cI) hx hb hK.1 hP hD hS 0 0 rfl rfl (show ¬ (_ ∨ _) by decide) rfl d_Arrs_fill_i_13 (fun H locs hP hD hS => ?_)
    have hP : va_P (dC, dI) classes [(qa, .inl (cI, 4, .inl (upd ff 0 v0)))] H := hP
    have hD : va_D A [(qa, .inl (cI, 4, .inl (upd ff 0 v0)))] := hD
    refine lv_iinc (v := 1) (lv' := [(2, .int 1), (3, .int 4), (0, .ref qa), (1, .int v0)]) hx hb d_Arrs_fill_i_14 hl (k := 1) rfl (by first | rfl | decide) (by decide) rfl (fun ls hl => ?_)
    refine lv_goto (tgt := 5) hx hb d_Arrs_fill_i_17 (by decide) ?_
    refine lv_iload_n hx hb d_Arrs_fill_i_5 rfl (lv_at hl 0 rfl) ?_
    refine lv_iload_n hx hb d_Arrs_fill_i_6 rfl (lv_at hl 1 rfl) ?_
    refine lv_icmp_ge (tgt := 20) hx hb d_Arrs_fill_i_7 (by decide) (fun c_2 => ?_) (fun c_2 => ?_)
    · exact absurd c_2 (by decide)
    · skip
      refine lv_aload_n hx hb d_Arrs_fill_i_10 rfl (lv_at hl 2 rfl) ?_
      refine lv_iload_n hx hb d_Arrs_fill_i_11 rfl (lv_at hl 0 rfl) ?_
      refine lv_iload_n hx hb d_Arrs_fill_i_12 rfl (lv_at hl 3 rfl) ?_
      refine sd_i (g := upd (upd ff 0 v0) 1 v0) (cA := cI) hx hb hK.1 hP hD hS 0 0 rfl rfl (show ¬ (_ ∨ _) by decide) rfl d_Arrs_fill_i_13 (fun H locs hP hD hS => ?_)
      have hP : va_P (dC, dI) classes [(qa, .inl (cI, 4, .inl (upd (upd ff 0 v0) 1 v0)))] H := hP
      have hD : va_D A [(qa, .inl (cI, 4, .inl (upd (upd ff 0 v0) 1 v0)))] := hD
      refine lv_iinc (v := 2) (lv' := [(2, .int 2), (3, .int 4), (0, .ref qa), (1, .int v0)]) hx hb d_Arrs_fill_i_14 hl (k := 0) rfl (by first | rfl | decide) (by decide) rfl (fun ls hl => ?_)
      refine lv_goto (tgt := 5) hx hb d_Arrs_fill_i_17 (by decide) ?_
      refine lv_iload_n hx hb d_Arrs_fill_i_5 rfl (lv_at hl 0 rfl) ?_
      refine lv_iload_n hx hb d_Arrs_fill_i_6 rfl (lv_at hl 1 rfl) ?_
      refine lv_icmp_ge (tgt := 20) hx hb d_Arrs_fill_i_7 (by decide) (fun c_3 => ?_) (fun c_3 => ?_)
      · exact absurd c_3 (by decide)
      · skip
        refine lv_aload_n hx hb d_Arrs_fill_i_10 rfl (lv_at hl 2 rfl) ?_
        refine lv_iload_n hx hb d_Arrs_fill_i_11 rfl (lv_at hl 0 rfl) ?_
        refine lv_iload_n hx hb d_Arrs_fill_i_12 rfl (lv_at hl 3 rfl) ?_
        refine sd_i (g := upd (upd (upd ff 0 v0) 1 v0) 2 v0) (cA := cI) hx hb hK.1 hP hD hS 0 0 rfl rfl (show ¬ (_ ∨ _) by decide) rfl d_Arrs_fill_i_13 (fun H locs hP hD hS => ?_)
        have hP : va_P (dC, dI) classes [(qa, .inl (cI, 4, .inl (upd (upd (upd ff 0 v0) 1 v0) 2 v0)))] H := hP
        have hD : va_D A [(qa, .inl (cI, 4, .inl (upd (upd (upd ff 0 v0) 1 v0) 2 v0)))] := hD
        refine lv_iinc (v := 3) (lv' := [(2, .int 3), (3, .int 4), (0, .ref qa), (1, .int v0)]) hx hb d_Arrs_fill_i_14 hl (k := 0) rfl (by first | rfl | decide) (by decide) rfl (fun ls hl => ?_)
        refine lv_goto (tgt := 5) hx hb d_Arrs_fill_i_17 (by decide) ?_
        refine lv_iload_n hx hb d_Arrs_fill_i_5 rfl (lv_at hl 0 rfl) ?_
        refine lv_iload_n hx hb d_Arrs_fill_i_6 rfl (lv_at hl 1 rfl) ?_
        refine lv_icmp_ge (tgt := 20) hx hb d_Arrs_fill_i_7 (by decide) (fun c_4 => ?_) (fun c_4 => ?_)
        · exact absurd c_4 (by decide)
        · skip
          refine lv_aload_n hx hb d_Arrs_fill_i_10 rfl (lv_at hl 2 rfl) ?_
          refine lv_iload_n hx hb d_Arrs_fill_i_11 rfl (lv_at hl 0 rfl) ?_
          refine lv_iload_n hx hb d_Arrs_fill_i_12 rfl (lv_at hl 3 rfl) ?_
          refine sd_i (g := upd (upd (upd (upd ff 0 v0) 1 v0) 2 v0) 3 v0) (cA := cI) hx hb hK.1 hP hD hS 0 0 rfl rfl (show ¬ (_ ∨ _) by decide) rfl d_Arrs_fill_i_13 (fun H locs hP hD hS => ?_)
          have hP : va_P (dC, dI) classes [(qa, .inl (cI, 4, .inl (upd (upd (upd (upd ff 0 v0) 1 v0) 2 v0) 3 v0)))] H := hP
          have hD : va_D A [(qa, .inl (cI, 4, .inl (upd (upd (upd (upd ff 0 v0) 1 v0) 2 v0) 3 v0)))] := hD
          refine lv_iinc (v := 4) (lv' := [(2, .int 4), (3, .int 4), (0, .ref qa), (1, .int v0)]) hx hb d_Arrs_fill_i_14 hl (k := 0) rfl (by first | rfl | decide) (by decide) rfl (fun ls hl => ?_)
          refine lv_goto (tgt := 5) hx hb d_Arrs_fill_i_17 (by decide) ?_
          refine lv_iload_n hx hb d_Arrs_fill_i_5 rfl (lv_at hl 0 rfl) ?_
          refine lv_iload_n hx hb d_Arrs_fill_i_6 rfl (lv_at hl 1 rfl) ?_
          refine lv_icmp_ge (tgt := 20) hx hb d_Arrs_fill_i_7 (by decide) (fun c_5 => ?_) (fun c_5 => ?_)
          · skip
            exact rt_v (upd (upd (upd (upd ff 0 v0) 1 v0) 2 v0) 3 v0) hx hb hr hlocks (show (upd (upd (upd (upd ff 0 v0) 1 v0) 2 v0) 3 v0) = g4_w ff v0 from (by simp only [g4_w, and_self])) (hP.sub (ws' := [(qa, .inl (cI, 4, .inl (upd (upd (upd (upd ff 0 v0) 1 v0) 2 v0) 3 v0)))]) [0] rfl) (hD.sub (ws' := [(qa, .inl (cI, 4, .inl (upd (upd (upd (upd ff 0 v0) 1 v0) 2 v0) 3 v0)))]) [0] (by decide) rfl) hS d_Arrs_fill_i_20
          · exact absurd (by decide) c_5

set_option maxHeartbeats 4000000 in
set_option maxRecDepth 100000 in
theorem c_Copy_begin (l : Launch) (dC : Nat → ClassId) (dI : Nat → Nat → Nat) (cI cL : ClassId) (hs0 : Nat) (cp : Nat) (rw : Nat) (po : Nat) (fac : Int64) (rr : Nat → Int64) (qq : Nat → Int64) (pl : Int32)  : ct_v l y_Copy_begin b_Copy_begin 1 none ({ frames := 1, cells := 0, slots := 0, locals := 40 }) (dC, dI) cI cL [.ref cp] [(cp, .inr (1, [.long fac, .ref rw, .ref po, .int pl])), (rw, .inl (cL, 18, .inr (.inl rr))), (po, .inl (cL, 4, .inr (.inl qq)))] hs0 (fun (u : (Nat → Int64) × (Nat → Int64)) => u.1 = bg_w rr ∧ u.2 = f4_w qq 0) (fun u => [(cp, .inr (1, [.long fac, .ref rw, .ref po, .int 0])), (rw, .inl (cL, 18, .inr (.inl u.1))), (po, .inl (cL, 4, .inr (.inl u.2)))]) 0 0 := by
  refine st_w (Qc := fun A => va_Qv (fun (u : (Nat → Int64) × (Nat → Int64)) => u.1 = bg_w rr ∧ u.2 = f4_w qq 0) (fun (u : (Nat → Int64) × (Nat → Int64)) t => pos_w (dC, dI) A [(cp, .inr (1, [.long fac, .ref rw, .ref po, .int 0])), (rw, .inl (cL, 18, .inr (.inl u.1))), (po, .inl (cL, 4, .inr (.inl u.2)))] t) A) (by decide) (Nat.le_of_ble_eq_true rfl) ?_
  intro p e s m below meth c A ls hfx hK hA hP hD hS hl
  obtain ⟨hx, hb, hml, hown, htb, hr, hlocks, hin⟩ := hfx
  have hl : lv_has ls 1 [(0, .ref cp)] := hl
  refine lv_aload_n hx hb d_Copy_begin_0 rfl (lv_at hl 0 rfl) ?_
  refine lv_iconst (v := 0) hx hb d_Copy_begin_1 (by decide) ?_
  refine va_put (D := (dC, dI)) (ci := 1) (v := .int 0) (ty := .int) (C := R_Copy) (T := F_Copy) (N := 4) hx hb htb iw_Copy t_Copy t_Copy_ok n_Copy hown hK.1 hP hD hS 0 rfl rfl 3 (by decide) (htb _ tw_73) (fun _ h9 => h9) rfl (by decide +kernel) rfl rfl (Nat.le_of_ble_eq_true rfl) d_Copy_begin_2 (fun H locs hP hD hS => ?_)
  have hP : va_P (dC, dI) classes [(cp, .inr (1, [.long fac, .ref rw, .ref po, .int 0])), (rw, .inl (cL, 18, .inr (.inl rr))), (po, .inl (cL, 4, .inr (.inl qq)))] H := hP
  have hD : va_D A [(cp, .inr (1, [.long fac, .ref rw, .ref po, .int 0])), (rw, .inl (cL, 18, .inr (.inl rr))), (po, .inl (cL, 4, .inr (.inl qq)))] := hD
  refine lv_aload_n hx hb d_Copy_begin_5 rfl (lv_at hl 0 rfl) ?_
  refine va_get (D := (dC, dI)) (ci := 1) (v := .ref rw) (C := R_Copy) (T := F_Copy) (N := 4) hx hb htb iw_Copy hown hK.1 hP 0 rfl rfl 1 (by decide) (htb _ tw_69) (fun _ h9 => h9) rfl d_Copy_begin_6 ?_
  refine lv_bipush (v := 16) hx hb d_Copy_begin_9 (by decide) ?_
  refine lv_lconst (v := 0) hx hb d_Copy_begin_11 (by decide) ?_
  refine sd_l (g := vp_updL rr 16 0) (cA := cL) hx hb hK.1 hP hD hS 1 1 rfl rfl (show ¬ (_ ∨ _) by decide) rfl d_Copy_begin_12 (fun H locs hP hD hS => ?_)
  have hP : va_P (dC, dI) classes [(cp, .inr (1, [.long fac, .ref rw, .ref po, .int 0])), (rw, .inl (cL, 18, .inr (.inl (vp_updL rr 16 0)))), (po, .inl (cL, 4, .inr (.inl qq)))] H := hP
  have hD : va_D A [(cp, .inr (1, [.long fac, .ref rw, .ref po, .int 0])), (rw, .inl (cL, 18, .inr (.inl (vp_updL rr 16 0)))), (po, .inl (cL, 4, .inr (.inl qq)))] := hD
  refine lv_aload_n hx hb d_Copy_begin_13 rfl (lv_at hl 0 rfl) ?_
  refine va_get (D := (dC, dI)) (ci := 1) (v := .ref rw) (C := R_Copy) (T := F_Copy) (N := 4) hx hb htb iw_Copy hown hK.1 hP 0 rfl rfl 1 (by decide) (htb _ tw_69) (fun _ h9 => h9) rfl d_Copy_begin_14 ?_
  refine lv_bipush (v := 17) hx hb d_Copy_begin_17 (by decide) ?_
  refine lv_lconst (v := 0) hx hb d_Copy_begin_19 (by decide) ?_
  refine sd_l (g := vp_updL (vp_updL rr 16 0) 17 0) (cA := cL) hx hb hK.1 hP hD hS 1 1 rfl rfl (show ¬ (_ ∨ _) by decide) rfl d_Copy_begin_20 (fun H locs hP hD hS => ?_)
  have hP : va_P (dC, dI) classes [(cp, .inr (1, [.long fac, .ref rw, .ref po, .int 0])), (rw, .inl (cL, 18, .inr (.inl (vp_updL (vp_updL rr 16 0) 17 0)))), (po, .inl (cL, 4, .inr (.inl qq)))] H := hP
  have hD : va_D A [(cp, .inr (1, [.long fac, .ref rw, .ref po, .int 0])), (rw, .inl (cL, 18, .inr (.inl (vp_updL (vp_updL rr 16 0) 17 0)))), (po, .inl (cL, 4, .inr (.inl qq)))] := hD
  refine lv_aload_n hx hb d_Copy_begin_21 rfl (lv_at hl 0 rfl) ?_
  refine va_get (D := (dC, dI)) (ci := 1) (v := .ref po) (C := R_Copy) (T := F_Copy) (N := 4) hx hb htb iw_Copy hown hK.1 hP 0 rfl rfl 2 (by decide) (htb _ tw_71) (fun _ h9 => h9) rfl d_Copy_begin_22 ?_
  refine lv_lconst (v := 0) hx hb d_Copy_begin_25 (by decide) ?_
  refine af_v (wr := [(cp, .inr (1, [.long fac, .ref rw, .ref po, .int 0])), (rw, .inl (cL, 18, .inr (.inl (vp_updL (vp_updL rr 16 0) 17 0))))]) (va_runS (As := [.ref po, .long 0]) (rest := []) ⟨hx, hb, hml, hown, htb⟩ (c_Arrs_fill_l l dC dI cI cL H.size po qq 0 ) ⟨callB_of 2 htb (gd_w tw_188) rfl rfl rfl (htb _ tw_31) (htb _ tw_186) (by decide +kernel) ⟨Nat.le_of_ble_eq_true rfl, Nat.le_of_ble_eq_true rfl⟩, htb _ tw_187⟩ (pv_S hK (hP.sub (ws' := [(po, .inl (cL, 4, .inr (.inl qq)))]) [2] rfl) (hD.sub (ws' := [(po, .inl (cL, 4, .inr (.inl qq)))]) [2] (by decide) rfl)) rfl rfl hl.1 rfl (lv_room (Nat.le_of_ble_eq_true rfl)) d_Copy_begin_26 ⟨Nat.le_of_ble_eq_true rfl, Nat.le_of_ble_eq_true rfl⟩) hP hD hS hA [2] [0, 1] rfl rfl (by decide) (by decide) (fun u_2 H locs hw hP hD hS => ?_)
  obtain ⟨z_3, rfl⟩ : ∃ z, z = u_2 := ⟨_, rfl⟩
  try dsimp only at hw
  subst hw
  have hP : va_P (dC, dI) classes [(cp, .inr (1, [.long fac, .ref rw, .ref po, .int 0])), (rw, .inl (cL, 18, .inr (.inl (vp_updL (vp_updL rr 16 0) 17 0)))), (po, .inl (cL, 4, .inr (.inl (f4_w qq 0))))] H := hP
  have hD : va_D A [(cp, .inr (1, [.long fac, .ref rw, .ref po, .int 0])), (rw, .inl (cL, 18, .inr (.inl (vp_updL (vp_updL rr 16 0) 17 0)))), (po, .inl (cL, 4, .inr (.inl (f4_w qq 0))))] := hD
  exact rt_v ((vp_updL (vp_updL rr 16 0) 17 0), f4_w qq 0) hx hb hr hlocks (show (vp_updL (vp_updL rr 16 0) 17 0) = bg_w rr ∧ (f4_w qq 0) = f4_w qq 0 from (by simp only [bg_w, and_self])) (hP.sub (ws' := [(cp, .inr (1, [.long fac, .ref rw, .ref po, .int 0])), (rw, .inl (cL, 18, .inr (.inl (vp_updL (vp_updL rr 16 0) 17 0)))), (po, .inl (cL, 4, .inr (.inl (f4_w qq 0))))]) [0, 1, 2] rfl) (hD.sub (ws' := [(cp, .inr (1, [.long fac, .ref rw, .ref po, .int 0])), (rw, .inl (cL, 18, .inr (.inl (vp_updL (vp_updL rr 16 0) 17 0)))), (po, .inl (cL, 4, .inr (.inl (f4_w qq 0))))]) [0, 1, 2] (by decide) rfl) hS d_Copy_begin_29

set_option maxHeartbeats 4000000 in
set_option maxRecDepth 100000 in
theorem c_Gate_copyOf0 (l : Launch) (dC : Nat → ClassId) (dI : Nat → Nat → Nat) (cI cL : ClassId) (hs0 : Nat) (x0 : Nat) (lm : Nat) (pg : Nat) (a_cp : Nat) (b_cp : Nat) (pn : Nat) (gv : Nat) (sh : Nat) (bg : Int32) (lt : Int32) (em : Int32) (sp : Int32) (fd : Int32) (k0 : Int32) (hk : k0 = 0) : ct_r l y_Gate_copyOf b_Gate_copyOf 2 (some (.object "TwinGate$Copy")) ({ frames := 0, cells := 0, slots := 0, locals := 0 }) (dC, dI) cI cL [.ref x0, .int k0] [(x0, .inr (0, [.int (nI lm), .ref pg, .ref a_cp, .ref b_cp, .ref pn, .ref gv, .ref sh, .int bg, .int lt, .int em, .int sp, .int fd]))] hs0 (fun (u : Unit) (x : Nat) => x = a_cp) (fun u => [(x0, .inr (0, [.int (nI lm), .ref pg, .ref a_cp, .ref b_cp, .ref pn, .ref gv, .ref sh, .int bg, .int lt, .int em, .int sp, .int fd]))]) 0 0 := by
  refine st_w (Qc := fun A => va_Qr (fun _ => True) (fun (u : Unit) x t => (fun (u : Unit) (x : Nat) => x = a_cp) u x ∧ pos_w (dC, dI) A [(x0, .inr (0, [.int (nI lm), .ref pg, .ref a_cp, .ref b_cp, .ref pn, .ref gv, .ref sh, .int bg, .int lt, .int em, .int sp, .int fd]))] t) A) (by decide) (Nat.le_of_ble_eq_true rfl) ?_
  intro p e s m below meth c A ls hfx hK hA hP hD hS hl
  obtain ⟨hx, hb, hml, hown, htb, hr, hlocks, hin⟩ := hfx
  have hl : lv_has ls 2 [(0, .ref x0), (1, .int k0)] := hl
  refine lv_iload_n hx hb d_Gate_copyOf_0 rfl (lv_at hl 1 rfl) ?_
  refine lv_if_ne (tgt := 11) hx hb d_Gate_copyOf_1 (by decide) (fun c_1 => ?_) (fun c_1 => ?_)
  · exact absurd (hk) c_1
  · skip
    refine lv_aload_n hx hb d_Gate_copyOf_4 rfl (lv_at hl 0 rfl) ?_
    refine va_get (D := (dC, dI)) (ci := 0) (v := .ref a_cp) (C := R_Gate) (T := F_Gate) (N := 12) hx hb htb iw_Gate hown hK.1 hP 0 rfl rfl 2 (by decide) (htb _ tw_120) (fun _ h9 => h9) rfl d_Gate_copyOf_5 ?_
    refine lv_goto (tgt := 15) hx hb d_Gate_copyOf_8 (by decide) ?_
    exact rt_r () hx hb hr (Or.inl ⟨_, rfl⟩) hlocks rfl (hP.sub (ws' := [(x0, .inr (0, [.int (nI lm), .ref pg, .ref a_cp, .ref b_cp, .ref pn, .ref gv, .ref sh, .int bg, .int lt, .int em, .int sp, .int fd]))]) [0] rfl) (hD.sub (ws' := [(x0, .inr (0, [.int (nI lm), .ref pg, .ref a_cp, .ref b_cp, .ref pn, .ref gv, .ref sh, .int bg, .int lt, .int em, .int sp, .int fd]))]) [0] (by decide) rfl) hS d_Gate_copyOf_15

set_option maxHeartbeats 4000000 in
set_option maxRecDepth 100000 in
theorem c_Gate_copyOf1 (l : Launch) (dC : Nat → ClassId) (dI : Nat → Nat → Nat) (cI cL : ClassId) (hs0 : Nat) (x0 : Nat) (lm : Nat) (pg : Nat) (a_cp : Nat) (b_cp : Nat) (pn : Nat) (gv : Nat) (sh : Nat) (bg : Int32) (lt : Int32) (em : Int32) (sp : Int32) (fd : Int32) (k0 : Int32) (hk : ¬ k0 = 0) : ct_r l y_Gate_copyOf b_Gate_copyOf 2 (some (.object "TwinGate$Copy")) ({ frames := 0, cells := 0, slots := 0, locals := 0 }) (dC, dI) cI cL [.ref x0, .int k0] [(x0, .inr (0, [.int (nI lm), .ref pg, .ref a_cp, .ref b_cp, .ref pn, .ref gv, .ref sh, .int bg, .int lt, .int em, .int sp, .int fd]))] hs0 (fun (u : Unit) (x : Nat) => x = b_cp) (fun u => [(x0, .inr (0, [.int (nI lm), .ref pg, .ref a_cp, .ref b_cp, .ref pn, .ref gv, .ref sh, .int bg, .int lt, .int em, .int sp, .int fd]))]) 0 0 := by
  refine st_w (Qc := fun A => va_Qr (fun _ => True) (fun (u : Unit) x t => (fun (u : Unit) (x : Nat) => x = b_cp) u x ∧ pos_w (dC, dI) A [(x0, .inr (0, [.int (nI lm), .ref pg, .ref a_cp, .ref b_cp, .ref pn, .ref gv, .ref sh, .int bg, .int lt, .int em, .int sp, .int fd]))] t) A) (by decide) (Nat.le_of_ble_eq_true rfl) ?_
  intro p e s m below meth c A ls hfx hK hA hP hD hS hl
  obtain ⟨hx, hb, hml, hown, htb, hr, hlocks, hin⟩ := hfx
  have hl : lv_has ls 2 [(0, .ref x0), (1, .int k0)] := hl
  refine lv_iload_n hx hb d_Gate_copyOf_0 rfl (lv_at hl 1 rfl) ?_
  refine lv_if_ne (tgt := 11) hx hb d_Gate_copyOf_1 (by decide) (fun c_1 => ?_) (fun c_1 => ?_)
  · skip
    refine lv_aload_n hx hb d_Gate_copyOf_11 rfl (lv_at hl 0 rfl) ?_
    refine va_get (D := (dC, dI)) (ci := 0) (v := .ref b_cp) (C := R_Gate) (T := F_Gate) (N := 12) hx hb htb iw_Gate hown hK.1 hP 0 rfl rfl 3 (by decide) (htb _ tw_121) (fun _ h9 => h9) rfl d_Gate_copyOf_12 ?_
    exact rt_r () hx hb hr (Or.inl ⟨_, rfl⟩) hlocks rfl (hP.sub (ws' := [(x0, .inr (0, [.int (nI lm), .ref pg, .ref a_cp, .ref b_cp, .ref pn, .ref gv, .ref sh, .int bg, .int lt, .int em, .int sp, .int fd]))]) [0] rfl) (hD.sub (ws' := [(x0, .inr (0, [.int (nI lm), .ref pg, .ref a_cp, .ref b_cp, .ref pn, .ref gv, .ref sh, .int bg, .int lt, .int em, .int sp, .int fd]))]) [0] (by decide) rfl) hS d_Gate_copyOf_15
  · exact absurd c_1 (hk)

set_option maxHeartbeats 4000000 in
set_option maxRecDepth 100000 in
theorem c_Gate_doFlipsAhead (l : Launch) (dC : Nat → ClassId) (dI : Nat → Nat → Nat) (cI cL : ClassId) (hs0 : Nat) (x0 : Nat) (lm : Nat) (pg : Nat) (a_cp : Nat) (b_cp : Nat) (pn : Nat) (gv : Nat) (sh : Nat) (bg : Int32) (lt : Int32) (em : Int32) (sp : Int32) (fd : Int32) (a_rw : Nat) (a_po : Nat) (a_rr : Nat → Int64) (a_pl : Int32) (b_rw : Nat) (b_po : Nat) (b_rr : Nat → Int64) (b_pl : Int32) (ka : Nat) (kb : Nat) (kc : Nat) (kd : Nat) (fc : Nat → Int32) (fl : Nat → Int32) (fb : Nat → Int32) (fs : Nat → Int32) (np : Nat) (hnp : np ≤ 4) (hpl : pl_ok fl np) : ct_v l y_Gate_doFlipsAhead b_Gate_doFlipsAhead 2 none ({ frames := 1, cells := 0, slots := 0, locals := 40 }) (dC, dI) cI cL [.ref x0] [(x0, .inr (0, [.int (nI lm), .ref pg, .ref a_cp, .ref b_cp, .ref pn, .ref gv, .ref sh, .int bg, .int lt, .int em, .int sp, .int fd])), (a_cp, .inr (1, [.long 1, .ref a_rw, .ref a_po, .int a_pl])), (a_rw, .inl (cL, 18, .inr (.inl a_rr))), (b_cp, .inr (1, [.long 58659, .ref b_rw, .ref b_po, .int b_pl])), (b_rw, .inl (cL, 18, .inr (.inl b_rr))), (pn, .inr (2, [.ref ka, .ref kb, .ref kc, .ref kd, .int (nI np)])), (ka, .inl (cI, 4, .inl fc)), (kb, .inl (cI, 4, .inl fl)), (kc, .inl (cI, 4, .inl fb)), (kd, .inl (cI, 4, .inl fs))] hs0 (fun (u : (Nat → Int64) × (Nat → Int64) × Int32) => u.1 = (fl_w fc fl fb fs sp np 0 a_rr b_rr fd).1 ∧ u.2.1 = (fl_w fc fl fb fs sp np 0 a_rr b_rr fd).2.1 ∧ u.2.2 = (fl_w fc fl fb fs sp np 0 a_rr b_rr fd).2.2) (fun u => [(x0, .inr (0, [.int (nI lm), .ref pg, .ref a_cp, .ref b_cp, .ref pn, .ref gv, .ref sh, .int bg, .int lt, .int em, .int sp, .int u.2.2])), (a_cp, .inr (1, [.long 1, .ref a_rw, .ref a_po, .int a_pl])), (a_rw, .inl (cL, 18, .inr (.inl u.1))), (b_cp, .inr (1, [.long 58659, .ref b_rw, .ref b_po, .int b_pl])), (b_rw, .inl (cL, 18, .inr (.inl u.2.1))), (pn, .inr (2, [.ref ka, .ref kb, .ref kc, .ref kd, .int (nI np)])), (ka, .inl (cI, 4, .inl fc)), (kb, .inl (cI, 4, .inl fl)), (kc, .inl (cI, 4, .inl fb)), (kd, .inl (cI, 4, .inl fs))]) 0 0 := by
  refine st_w (Qc := fun A => va_Qv (fun (u : (Nat → Int64) × (Nat → Int64) × Int32) => u.1 = (fl_w fc fl fb fs sp np 0 a_rr b_rr fd).1 ∧ u.2.1 = (fl_w fc fl fb fs sp np 0 a_rr b_rr fd).2.1 ∧ u.2.2 = (fl_w fc fl fb fs sp np 0 a_rr b_rr fd).2.2) (fun (u : (Nat → Int64) × (Nat → Int64) × Int32) t => pos_w (dC, dI) A [(x0, .inr (0, [.int (nI lm), .ref pg, .ref a_cp, .ref b_cp, .ref pn, .ref gv, .ref sh, .int bg, .int lt, .int em, .int sp, .int u.2.2])), (a_cp, .inr (1, [.long 1, .ref a_rw, .ref a_po, .int a_pl])), (a_rw, .inl (cL, 18, .inr (.inl u.1))), (b_cp, .inr (1, [.long 58659, .ref b_rw, .ref b_po, .int b_pl])), (b_rw, .inl (cL, 18, .inr (.inl u.2.1))), (pn, .inr (2, [.ref ka, .ref kb, .ref kc, .ref kd, .int (nI np)])), (ka, .inl (cI, 4, .inl fc)), (kb, .inl (cI, 4, .inl fl)), (kc, .inl (cI, 4, .inl fb)), (kd, .inl (cI, 4, .inl fs))] t) A) (by decide) (Nat.le_of_ble_eq_true rfl) ?_
  intro p e s m below meth c A ls hfx hK hA hP hD hS hl
  obtain ⟨hx, hb, hml, hown, htb, hr, hlocks, hin⟩ := hfx
  have hl : lv_has ls 2 [(0, .ref x0)] := hl
  refine lv_iconst (v := 0) hx hb d_Gate_doFlipsAhead_0 (by decide) ?_
  refine lv_istore_n (lv' := [(1, .int 0), (0, .ref x0)]) hx hb d_Gate_doFlipsAhead_1 rfl hl (by decide) rfl (fun ls hl => ?_)
  have lp_0 : ∀ (n : Nat) (k : Nat) (ra : Nat → Int64) (rb : Nat → Int64) (fv : Int32) (H : Heap) (locs : List Loc) (ls : Array Slot), (k + n = np) → (fl_w fc fl fb fs sp n k ra rb fv = fl_w fc fl fb fs sp np 0 a_rr b_rr fd) → va_P (dC, dI) classes [(x0, .inr (0, [.int (nI lm), .ref pg, .ref a_cp, .ref b_cp, .ref pn, .ref gv, .ref sh, .int bg, .int lt, .int em, .int sp, .int fv])), (a_cp, .inr (1, [.long 1, .ref a_rw, .ref a_po, .int a_pl])), (a_rw, .inl (cL, 18, .inr (.inl ra))), (b_cp, .inr (1, [.long 58659, .ref b_rw, .ref b_po, .int b_pl])), (b_rw, .inl (cL, 18, .inr (.inl rb))), (pn, .inr (2, [.ref ka, .ref kb, .ref kc, .ref kd, .int (nI np)])), (ka, .inl (cI, 4, .inl fc)), (kb, .inl (cI, 4, .inl fl)), (kc, .inl (cI, 4, .inl fb)), (kd, .inl (cI, 4, .inl fs))] H → va_D A [(x0, .inr (0, [.int (nI lm), .ref pg, .ref a_cp, .ref b_cp, .ref pn, .ref gv, .ref sh, .int bg, .int lt, .int em, .int sp, .int fv])), (a_cp, .inr (1, [.long 1, .ref a_rw, .ref a_po, .int a_pl])), (a_rw, .inl (cL, 18, .inr (.inl ra))), (b_cp, .inr (1, [.long 58659, .ref b_rw, .ref b_po, .int b_pl])), (b_rw, .inl (cL, 18, .inr (.inl rb))), (pn, .inr (2, [.ref ka, .ref kb, .ref kc, .ref kd, .int (nI np)])), (ka, .inl (cI, 4, .inl fc)), (kb, .inl (cI, 4, .inl fl)), (kc, .inl (cI, 4, .inl fb)), (kd, .inl (cI, 4, .inl fs))] → va_S A s.heap H locs → lv_has ls 2 [(0, .ref x0), (1, .int (nI k))] → W p l e ({ frames := 1, cells := 0, slots := 0, locals := 40 }) s m ([.ref x0].toArray) below meth c H locs 0 0 (MQ below (va_Qv (fun (u : (Nat → Int64) × (Nat → Int64) × Int32) => u.1 = (fl_w fc fl fb fs sp np 0 a_rr b_rr fd).1 ∧ u.2.1 = (fl_w fc fl fb fs sp np 0 a_rr b_rr fd).2.1 ∧ u.2.2 = (fl_w fc fl fb fs sp np 0 a_rr b_rr fd).2.2) (fun (u : (Nat → Int64) × (Nat → Int64) × Int32) t => pos_w (dC, dI) A [(x0, .inr (0, [.int (nI lm), .ref pg, .ref a_cp, .ref b_cp, .ref pn, .ref gv, .ref sh, .int bg, .int lt, .int em, .int sp, .int u.2.2])), (a_cp, .inr (1, [.long 1, .ref a_rw, .ref a_po, .int a_pl])), (a_rw, .inl (cL, 18, .inr (.inl u.1))), (b_cp, .inr (1, [.long 58659, .ref b_rw, .ref b_po, .int b_pl])), (b_rw, .inl (cL, 18, .inr (.inl u.2.1))), (pn, .inr (2, [.ref ka, .ref kb, .ref kc, .ref kd, .int (nI np)])), (ka, .inl (cI, 4, .inl fc)), (kb, .inl (cI, 4, .inl fl)), (kc, .inl (cI, 4, .inl fb)), (kd, .inl (cI, 4, .inl fs))] t) A) ([.ref x0].toArray) s 0 0 A) (F0 m 2 ls []) := by
    intro n
    induction n with
    | zero =>
      intro k ra rb fv H locs ls hn hF hP hD hS hl
      refine lv_iload_n hx hb d_Gate_doFlipsAhead_2 rfl (lv_at hl 1 rfl) ?_
      refine lv_aload_n hx hb d_Gate_doFlipsAhead_3 rfl (lv_at hl 0 rfl) ?_
      refine va_get (D := (dC, dI)) (ci := 0) (v := .ref pn) (C := R_Gate) (T := F_Gate) (N := 12) hx hb htb iw_Gate hown hK.1 hP 0 rfl rfl 4 (by decide) (htb _ tw_122) (fun _ h9 => h9) rfl d_Gate_doFlipsAhead_4 ?_
      refine va_get (D := (dC, dI)) (ci := 2) (v := .int (nI np)) (C := R_Plan) (T := F_Plan) (N := 5) hx hb htb iw_Plan hown hK.1 hP 5 rfl rfl 4 (by decide) (htb _ tw_100) (fun _ h9 => h9) rfl d_Gate_doFlipsAhead_7 ?_
      refine lv_icmp_ge (tgt := 85) hx hb d_Gate_doFlipsAhead_10 (by decide) (fun c_1 => ?_) (fun c_1 => ?_)
      · skip
        exact rt_v (ra, rb, fv) hx hb hr hlocks (show ra = (fl_w fc fl fb fs sp np 0 a_rr b_rr fd).1 ∧ rb = (fl_w fc fl fb fs sp np 0 a_rr b_rr fd).2.1 ∧ fv = (fl_w fc fl fb fs sp np 0 a_rr b_rr fd).2.2 from (by rw [← hF]; simp only [fl_w, and_self])) (hP.sub (ws' := [(x0, .inr (0, [.int (nI lm), .ref pg, .ref a_cp, .ref b_cp, .ref pn, .ref gv, .ref sh, .int bg, .int lt, .int em, .int sp, .int fv])), (a_cp, .inr (1, [.long 1, .ref a_rw, .ref a_po, .int a_pl])), (a_rw, .inl (cL, 18, .inr (.inl ra))), (b_cp, .inr (1, [.long 58659, .ref b_rw, .ref b_po, .int b_pl])), (b_rw, .inl (cL, 18, .inr (.inl rb))), (pn, .inr (2, [.ref ka, .ref kb, .ref kc, .ref kd, .int (nI np)])), (ka, .inl (cI, 4, .inl fc)), (kb, .inl (cI, 4, .inl fl)), (kc, .inl (cI, 4, .inl fb)), (kd, .inl (cI, 4, .inl fs))]) [0, 1, 2, 3, 4, 5, 6, 7, 8, 9] rfl) (hD.sub (ws' := [(x0, .inr (0, [.int (nI lm), .ref pg, .ref a_cp, .ref b_cp, .ref pn, .ref gv, .ref sh, .int bg, .int lt, .int em, .int sp, .int fv])), (a_cp, .inr (1, [.long 1, .ref a_rw, .ref a_po, .int a_pl])), (a_rw, .inl (cL, 18, .inr (.inl ra))), (b_cp, .inr (1, [.long 58659, .ref b_rw, .ref b_po, .int b_pl])), (b_rw, .inl (cL, 18, .inr (.inl rb))), (pn, .inr (2, [.ref ka, .ref kb, .ref kc, .ref kd, .int (nI np)])), (ka, .inl (cI, 4, .inl fc)), (kb, .inl (cI, 4, .inl fl)), (kc, .inl (cI, 4, .inl fb)), (kd, .inl (cI, 4, .inl fs))]) [0, 1, 2, 3, 4, 5, 6, 7, 8, 9] (by decide) rfl) hS d_Gate_doFlipsAhead_85
      · exact absurd (nI_le (by omega) (by omega)) c_1
    | succ n ih =>
      intro k ra rb fv H locs ls hn hF hP hD hS hl
      refine lv_iload_n hx hb d_Gate_doFlipsAhead_2 rfl (lv_at hl 1 rfl) ?_
      refine lv_aload_n hx hb d_Gate_doFlipsAhead_3 rfl (lv_at hl 0 rfl) ?_
      refine va_get (D := (dC, dI)) (ci := 0) (v := .ref pn) (C := R_Gate) (T := F_Gate) (N := 12) hx hb htb iw_Gate hown hK.1 hP 0 rfl rfl 4 (by decide) (htb _ tw_122) (fun _ h9 => h9) rfl d_Gate_doFlipsAhead_4 ?_
      refine va_get (D := (dC, dI)) (ci := 2) (v := .int (nI np)) (C := R_Plan) (T := F_Plan) (N := 5) hx hb htb iw_Plan hown hK.1 hP 5 rfl rfl 4 (by decide) (htb _ tw_100) (fun _ h9 => h9) rfl d_Gate_doFlipsAhead_7 ?_
      refine lv_icmp_ge (tgt := 85) hx hb d_Gate_doFlipsAhead_10 (by decide) (fun c_2 => ?_) (fun c_2 => ?_)
      · exact absurd c_2 (nI_ge (by omega) (by omega))
      · skip
        refine lv_aload_n hx hb d_Gate_doFlipsAhead_13 rfl (lv_at hl 0 rfl) ?_
        refine va_get (D := (dC, dI)) (ci := 0) (v := .ref pn) (C := R_Gate) (T := F_Gate) (N := 12) hx hb htb iw_Gate hown hK.1 hP 0 rfl rfl 4 (by decide) (htb _ tw_122) (fun _ h9 => h9) rfl d_Gate_doFlipsAhead_14 ?_
        refine va_get (D := (dC, dI)) (ci := 2) (v := .ref kd) (C := R_Plan) (T := F_Plan) (N := 5) hx hb htb iw_Plan hown hK.1 hP 5 rfl rfl 3 (by decide) (htb _ tw_98) (fun _ h9 => h9) rfl d_Gate_doFlipsAhead_17 ?_
        refine lv_iload_n hx hb d_Gate_doFlipsAhead_20 rfl (lv_at hl 1 rfl) ?_
        refine ld_i (v := fs k) (cA := cI) hx hb hK.1 hP 9 0 rfl rfl (vp_in_nI (by omega) (by decide)) (congrArg fs (nI_clamp (by omega))) d_Gate_doFlipsAhead_21 ?_
        refine lv_aload_n hx hb d_Gate_doFlipsAhead_22 rfl (lv_at hl 0 rfl) ?_
        refine va_get (D := (dC, dI)) (ci := 0) (v := .int sp) (C := R_Gate) (T := F_Gate) (N := 12) hx hb htb iw_Gate hown hK.1 hP 0 rfl rfl 10 (by decide) (htb _ tw_128) (fun _ h9 => h9) rfl d_Gate_doFlipsAhead_23 ?_
        refine lv_icmp_ne (tgt := 79) hx hb d_Gate_doFlipsAhead_26 (by decide) (fun c_3 => ?_) (fun c_3 => ?_)
        · have c_3 : ¬ (fs k) = sp := c_3
          refine lv_iinc (v := nI (k + 1)) (lv' := [(1, .int (nI (k + 1))), (0, .ref x0)]) hx hb d_Gate_doFlipsAhead_79 hl (k := 1) rfl (nI_1 k) (by decide) rfl (fun ls hl => ?_)
          refine lv_goto (tgt := 2) hx hb d_Gate_doFlipsAhead_82 (by decide) ?_
          exact ih (k + 1) ra rb fv H locs ls (by omega) (by rw [← hF]; simp only [fl_w, if_neg c_3]) (hP.sub (ws' := [(x0, .inr (0, [.int (nI lm), .ref pg, .ref a_cp, .ref b_cp, .ref pn, .ref gv, .ref sh, .int bg, .int lt, .int em, .int sp, .int fv])), (a_cp, .inr (1, [.long 1, .ref a_rw, .ref a_po, .int a_pl])), (a_rw, .inl (cL, 18, .inr (.inl ra))), (b_cp, .inr (1, [.long 58659, .ref b_rw, .ref b_po, .int b_pl])), (b_rw, .inl (cL, 18, .inr (.inl rb))), (pn, .inr (2, [.ref ka, .ref kb, .ref kc, .ref kd, .int (nI np)])), (ka, .inl (cI, 4, .inl fc)), (kb, .inl (cI, 4, .inl fl)), (kc, .inl (cI, 4, .inl fb)), (kd, .inl (cI, 4, .inl fs))]) [0, 1, 2, 3, 4, 5, 6, 7, 8, 9] rfl) (hD.sub (ws' := [(x0, .inr (0, [.int (nI lm), .ref pg, .ref a_cp, .ref b_cp, .ref pn, .ref gv, .ref sh, .int bg, .int lt, .int em, .int sp, .int fv])), (a_cp, .inr (1, [.long 1, .ref a_rw, .ref a_po, .int a_pl])), (a_rw, .inl (cL, 18, .inr (.inl ra))), (b_cp, .inr (1, [.long 58659, .ref b_rw, .ref b_po, .int b_pl])), (b_rw, .inl (cL, 18, .inr (.inl rb))), (pn, .inr (2, [.ref ka, .ref kb, .ref kc, .ref kd, .int (nI np)])), (ka, .inl (cI, 4, .inl fc)), (kb, .inl (cI, 4, .inl fl)), (kc, .inl (cI, 4, .inl fb)), (kd, .inl (cI, 4, .inl fs))]) [0, 1, 2, 3, 4, 5, 6, 7, 8, 9] (by decide) rfl) hS (lv_sub hl [1, 0] rfl)
        · have c_3 : (fs k) = sp := c_3
          refine lv_aload_n hx hb d_Gate_doFlipsAhead_29 rfl (lv_at hl 0 rfl) ?_
          refine lv_aload_n hx hb d_Gate_doFlipsAhead_30 rfl (lv_at hl 0 rfl) ?_
          refine va_get (D := (dC, dI)) (ci := 0) (v := .ref pn) (C := R_Gate) (T := F_Gate) (N := 12) hx hb htb iw_Gate hown hK.1 hP 0 rfl rfl 4 (by decide) (htb _ tw_122) (fun _ h9 => h9) rfl d_Gate_doFlipsAhead_31 ?_
          refine va_get (D := (dC, dI)) (ci := 2) (v := .ref ka) (C := R_Plan) (T := F_Plan) (N := 5) hx hb htb iw_Plan hown hK.1 hP 5 rfl rfl 0 (by decide) (htb _ tw_92) (fun _ h9 => h9) rfl d_Gate_doFlipsAhead_34 ?_
          refine lv_iload_n hx hb d_Gate_doFlipsAhead_37 rfl (lv_at hl 1 rfl) ?_
          refine ld_i (v := fc k) (cA := cI) hx hb hK.1 hP 6 0 rfl rfl (vp_in_nI (by omega) (by decide)) (congrArg fc (nI_clamp (by omega))) d_Gate_doFlipsAhead_38 ?_
          by_cases c_4 : fc k = 0
          · skip
            refine af_r (wr := [(a_cp, .inr (1, [.long 1, .ref a_rw, .ref a_po, .int a_pl])), (a_rw, .inl (cL, 18, .inr (.inl ra))), (b_cp, .inr (1, [.long 58659, .ref b_rw, .ref b_po, .int b_pl])), (b_rw, .inl (cL, 18, .inr (.inl rb))), (pn, .inr (2, [.ref ka, .ref kb, .ref kc, .ref kd, .int (nI np)])), (ka, .inl (cI, 4, .inl fc)), (kb, .inl (cI, 4, .inl fl)), (kc, .inl (cI, 4, .inl fb)), (kd, .inl (cI, 4, .inl fs))]) (va_runV (As := [.int (fc k)]) (rest := []) ⟨hx, hb, hml, hown, htb⟩ (c_Gate_copyOf0 l dC dI cI cL H.size x0 lm pg a_cp b_cp pn gv sh bg lt em sp fv (fc k) c_4) ⟨callB_of 1 htb (gd_w tw_196) rfl rfl rfl (htb _ tw_20) (htb _ tw_193) (by decide +kernel) ⟨Nat.le_of_ble_eq_true rfl, Nat.le_of_ble_eq_true rfl⟩, htb _ tw_195, htb _ tw_3⟩ (pv_V hK (hP.sub (ws' := [(x0, .inr (0, [.int (nI lm), .ref pg, .ref a_cp, .ref b_cp, .ref pn, .ref gv, .ref sh, .int bg, .int lt, .int em, .int sp, .int fv]))]) [0] rfl) (hD.sub (ws' := [(x0, .inr (0, [.int (nI lm), .ref pg, .ref a_cp, .ref b_cp, .ref pn, .ref gv, .ref sh, .int bg, .int lt, .int em, .int sp, .int fv]))]) [0] (by decide) rfl) (ci := 0) (q0 := 0) rfl rfl) rfl rfl hl.1 rfl (lv_room (Nat.le_of_ble_eq_true rfl)) d_Gate_doFlipsAhead_39 ⟨Nat.le_of_ble_eq_true rfl, Nat.le_of_ble_eq_true rfl⟩) hP hD hS hA [0] [1, 2, 3, 4, 5, 6, 7, 8, 9] rfl rfl (by decide) (by decide) (fun u_6 r_5 H locs hw hP hD hS => ?_)
            have hw : a_cp = r_5 := Eq.symm hw
            subst hw
            have hP : va_P (dC, dI) classes [(a_cp, .inr (1, [.long 1, .ref a_rw, .ref a_po, .int a_pl])), (a_rw, .inl (cL, 18, .inr (.inl ra))), (b_cp, .inr (1, [.long 58659, .ref b_rw, .ref b_po, .int b_pl])), (b_rw, .inl (cL, 18, .inr (.inl rb))), (pn, .inr (2, [.ref ka, .ref kb, .ref kc, .ref kd, .int (nI np)])), (ka, .inl (cI, 4, .inl fc)), (kb, .inl (cI, 4, .inl fl)), (kc, .inl (cI, 4, .inl fb)), (kd, .inl (cI, 4, .inl fs)), (x0, .inr (0, [.int (nI lm), .ref pg, .ref a_cp, .ref b_cp, .ref pn, .ref gv, .ref sh, .int bg, .int lt, .int em, .int sp, .int fv]))] H := hP
            have hD : va_D A [(a_cp, .inr (1, [.long 1, .ref a_rw, .ref a_po, .int a_pl])), (a_rw, .inl (cL, 18, .inr (.inl ra))), (b_cp, .inr (1, [.long 58659, .ref b_rw, .ref b_po, .int b_pl])), (b_rw, .inl (cL, 18, .inr (.inl rb))), (pn, .inr (2, [.ref ka, .ref kb, .ref kc, .ref kd, .int (nI np)])), (ka, .inl (cI, 4, .inl fc)), (kb, .inl (cI, 4, .inl fl)), (kc, .inl (cI, 4, .inl fb)), (kd, .inl (cI, 4, .inl fs)), (x0, .inr (0, [.int (nI lm), .ref pg, .ref a_cp, .ref b_cp, .ref pn, .ref gv, .ref sh, .int bg, .int lt, .int em, .int sp, .int fv]))] := hD
            refine va_get (D := (dC, dI)) (ci := 1) (v := .ref a_rw) (C := R_Copy) (T := F_Copy) (N := 4) hx hb htb iw_Copy hown hK.1 hP 0 rfl rfl 1 (by decide) (htb _ tw_70) (fun _ h9 => h9) rfl d_Gate_doFlipsAhead_42 ?_
            refine lv_aload_n hx hb d_Gate_doFlipsAhead_45 rfl (lv_at hl 0 rfl) ?_
            refine va_get (D := (dC, dI)) (ci := 0) (v := .ref pn) (C := R_Gate) (T := F_Gate) (N := 12) hx hb htb iw_Gate hown hK.1 hP 9 rfl rfl 4 (by decide) (htb _ tw_122) (fun _ h9 => h9) rfl d_Gate_doFlipsAhead_46 ?_
            refine va_get (D := (dC, dI)) (ci := 2) (v := .ref kb) (C := R_Plan) (T := F_Plan) (N := 5) hx hb htb iw_Plan hown hK.1 hP 4 rfl rfl 1 (by decide) (htb _ tw_94) (fun _ h9 => h9) rfl d_Gate_doFlipsAhead_49 ?_
            refine lv_iload_n hx hb d_Gate_doFlipsAhead_52 rfl (lv_at hl 1 rfl) ?_
            refine ld_i (v := fl k) (cA := cI) hx hb hK.1 hP 6 0 rfl rfl (vp_in_nI (by omega) (by decide)) (congrArg fl (nI_clamp (by omega))) d_Gate_doFlipsAhead_53 ?_
            refine lv_dup2_11 hx hb d_Gate_doFlipsAhead_54 rfl rfl ?_
            refine ld_l (v := ra ((fl k).toNatClampNeg)) (cA := cL) hx hb hK.1 hP 1 1 rfl rfl (hpl k (by omega)) rfl d_Gate_doFlipsAhead_55 ?_
            refine lv_lconst (v := 1) hx hb d_Gate_doFlipsAhead_56 (by decide) ?_
            refine lv_aload_n hx hb d_Gate_doFlipsAhead_57 rfl (lv_at hl 0 rfl) ?_
            refine va_get (D := (dC, dI)) (ci := 0) (v := .ref pn) (C := R_Gate) (T := F_Gate) (N := 12) hx hb htb iw_Gate hown hK.1 hP 9 rfl rfl 4 (by decide) (htb _ tw_122) (fun _ h9 => h9) rfl d_Gate_doFlipsAhead_58 ?_
            refine va_get (D := (dC, dI)) (ci := 2) (v := .ref kc) (C := R_Plan) (T := F_Plan) (N := 5) hx hb htb iw_Plan hown hK.1 hP 4 rfl rfl 2 (by decide) (htb _ tw_96) (fun _ h9 => h9) rfl d_Gate_doFlipsAhead_61 ?_
            refine lv_iload_n hx hb d_Gate_doFlipsAhead_64 rfl (lv_at hl 1 rfl) ?_
            refine ld_i (v := fb k) (cA := cI) hx hb hK.1 hP 7 0 rfl rfl (vp_in_nI (by omega) (by decide)) (congrArg fb (nI_clamp (by omega))) d_Gate_doFlipsAhead_65 ?_
            refine lv_lshl (v := 1 <<< ((fb k).toInt64 &&& 63)) hx hb d_Gate_doFlipsAhead_66 rfl ?_
            refine lv_lxor hx hb d_Gate_doFlipsAhead_67 ?_
            refine sd_l (g := vp_updL ra ((fl k).toNatClampNeg) ((ra ((fl k).toNatClampNeg)) ^^^ (1 <<< ((fb k).toInt64 &&& 63)))) (cA := cL) hx hb hK.1 hP hD hS 1 1 rfl rfl (hpl k (by omega)) rfl d_Gate_doFlipsAhead_68 (fun H locs hP hD hS => ?_)
            have hP : va_P (dC, dI) classes [(a_cp, .inr (1, [.long 1, .ref a_rw, .ref a_po, .int a_pl])), (a_rw, .inl (cL, 18, .inr (.inl (vp_updL ra ((fl k).toNatClampNeg) ((ra ((fl k).toNatClampNeg)) ^^^ (1 <<< ((fb k).toInt64 &&& 63))))))), (b_cp, .inr (1, [.long 58659, .ref b_rw, .ref b_po, .int b_pl])), (b_rw, .inl (cL, 18, .inr (.inl rb))), (pn, .inr (2, [.ref ka, .ref kb, .ref kc, .ref kd, .int (nI np)])), (ka, .inl (cI, 4, .inl fc)), (kb, .inl (cI, 4, .inl fl)), (kc, .inl (cI, 4, .inl fb)), (kd, .inl (cI, 4, .inl fs)), (x0, .inr (0, [.int (nI lm), .ref pg, .ref a_cp, .ref b_cp, .ref pn, .ref gv, .ref sh, .int bg, .int lt, .int em, .int sp, .int fv]))] H := hP
            have hD : va_D A [(a_cp, .inr (1, [.long 1, .ref a_rw, .ref a_po, .int a_pl])), (a_rw, .inl (cL, 18, .inr (.inl (vp_updL ra ((fl k).toNatClampNeg) ((ra ((fl k).toNatClampNeg)) ^^^ (1 <<< ((fb k).toInt64 &&& 63))))))), (b_cp, .inr (1, [.long 58659, .ref b_rw, .ref b_po, .int b_pl])), (b_rw, .inl (cL, 18, .inr (.inl rb))), (pn, .inr (2, [.ref ka, .ref kb, .ref kc, .ref kd, .int (nI np)])), (ka, .inl (cI, 4, .inl fc)), (kb, .inl (cI, 4, .inl fl)), (kc, .inl (cI, 4, .inl fb)), (kd, .inl (cI, 4, .inl fs)), (x0, .inr (0, [.int (nI lm), .ref pg, .ref a_cp, .ref b_cp, .ref pn, .ref gv, .ref sh, .int bg, .int lt, .int em, .int sp, .int fv]))] := hD
            refine lv_aload_n hx hb d_Gate_doFlipsAhead_69 rfl (lv_at hl 0 rfl) ?_
            refine lv_dup hx hb d_Gate_doFlipsAhead_70 rfl ?_
            refine va_get (D := (dC, dI)) (ci := 0) (v := .int fv) (C := R_Gate) (T := F_Gate) (N := 12) hx hb htb iw_Gate hown hK.1 hP 9 rfl rfl 11 (by decide) (htb _ tw_129) (fun _ h9 => h9) rfl d_Gate_doFlipsAhead_71 ?_
            refine lv_iconst (v := 1) hx hb d_Gate_doFlipsAhead_74 (by decide) ?_
            refine lv_iadd hx hb d_Gate_doFlipsAhead_75 ?_
            refine va_put (D := (dC, dI)) (ci := 0) (v := .int (fv + 1)) (ty := .int) (C := R_Gate) (T := F_Gate) (N := 12) hx hb htb iw_Gate t_Gate t_Gate_ok n_Gate hown hK.1 hP hD hS 9 rfl rfl 11 (by decide) (htb _ tw_129) (fun _ h9 => h9) rfl (by decide +kernel) rfl rfl (Nat.le_of_ble_eq_true rfl) d_Gate_doFlipsAhead_76 (fun H locs hP hD hS => ?_)
            have hP : va_P (dC, dI) classes [(a_cp, .inr (1, [.long 1, .ref a_rw, .ref a_po, .int a_pl])), (a_rw, .inl (cL, 18, .inr (.inl (vp_updL ra ((fl k).toNatClampNeg) ((ra ((fl k).toNatClampNeg)) ^^^ (1 <<< ((fb k).toInt64 &&& 63))))))), (b_cp, .inr (1, [.long 58659, .ref b_rw, .ref b_po, .int b_pl])), (b_rw, .inl (cL, 18, .inr (.inl rb))), (pn, .inr (2, [.ref ka, .ref kb, .ref kc, .ref kd, .int (nI np)])), (ka, .inl (cI, 4, .inl fc)), (kb, .inl (cI, 4, .inl fl)), (kc, .inl (cI, 4, .inl fb)), (kd, .inl (cI, 4, .inl fs)), (x0, .inr (0, [.int (nI lm), .ref pg, .ref a_cp, .ref b_cp, .ref pn, .ref gv, .ref sh, .int bg, .int lt, .int em, .int sp, .int (fv + 1)]))] H := hP
            have hD : va_D A [(a_cp, .inr (1, [.long 1, .ref a_rw, .ref a_po, .int a_pl])), (a_rw, .inl (cL, 18, .inr (.inl (vp_updL ra ((fl k).toNatClampNeg) ((ra ((fl k).toNatClampNeg)) ^^^ (1 <<< ((fb k).toInt64 &&& 63))))))), (b_cp, .inr (1, [.long 58659, .ref b_rw, .ref b_po, .int b_pl])), (b_rw, .inl (cL, 18, .inr (.inl rb))), (pn, .inr (2, [.ref ka, .ref kb, .ref kc, .ref kd, .int (nI np)])), (ka, .inl (cI, 4, .inl fc)), (kb, .inl (cI, 4, .inl fl)), (kc, .inl (cI, 4, .inl fb)), (kd, .inl (cI, 4, .inl fs)), (x0, .inr (0, [.int (nI lm), .ref pg, .ref a_cp, .ref b_cp, .ref pn, .ref gv, .ref sh, .int bg, .int lt, .int em, .int sp, .int (fv + 1)]))] := hD
            refine lv_iinc (v := nI (k + 1)) (lv' := [(1, .int (nI (k + 1))), (0, .ref x0)]) hx hb d_Gate_doFlipsAhead_79 hl (k := 1) rfl (nI_1 k) (by decide) rfl (fun ls hl => ?_)
            refine lv_goto (tgt := 2) hx hb d_Gate_doFlipsAhead_82 (by decide) ?_
            exact ih (k + 1) (vp_updL ra ((fl k).toNatClampNeg) ((ra ((fl k).toNatClampNeg)) ^^^ (1 <<< ((fb k).toInt64 &&& 63)))) rb (fv + 1) H locs ls (by omega) (by rw [← hF]; simp only [fl_w, if_pos c_3, if_pos c_4]) (hP.sub (ws' := [(x0, .inr (0, [.int (nI lm), .ref pg, .ref a_cp, .ref b_cp, .ref pn, .ref gv, .ref sh, .int bg, .int lt, .int em, .int sp, .int (fv + 1)])), (a_cp, .inr (1, [.long 1, .ref a_rw, .ref a_po, .int a_pl])), (a_rw, .inl (cL, 18, .inr (.inl (vp_updL ra ((fl k).toNatClampNeg) ((ra ((fl k).toNatClampNeg)) ^^^ (1 <<< ((fb k).toInt64 &&& 63))))))), (b_cp, .inr (1, [.long 58659, .ref b_rw, .ref b_po, .int b_pl])), (b_rw, .inl (cL, 18, .inr (.inl rb))), (pn, .inr (2, [.ref ka, .ref kb, .ref kc, .ref kd, .int (nI np)])), (ka, .inl (cI, 4, .inl fc)), (kb, .inl (cI, 4, .inl fl)), (kc, .inl (cI, 4, .inl fb)), (kd, .inl (cI, 4, .inl fs))]) [9, 0, 1, 2, 3, 4, 5, 6, 7, 8] rfl) (hD.sub (ws' := [(x0, .inr (0, [.int (nI lm), .ref pg, .ref a_cp, .ref b_cp, .ref pn, .ref gv, .ref sh, .int bg, .int lt, .int em, .int sp, .int (fv + 1)])), (a_cp, .inr (1, [.long 1, .ref a_rw, .ref a_po, .int a_pl])), (a_rw, .inl (cL, 18, .inr (.inl (vp_updL ra ((fl k).toNatClampNeg) ((ra ((fl k).toNatClampNeg)) ^^^ (1 <<< ((fb k).toInt64 &&& 63))))))), (b_cp, .inr (1, [.long 58659, .ref b_rw, .ref b_po, .int b_pl])), (b_rw, .inl (cL, 18, .inr (.inl rb))), (pn, .inr (2, [.ref ka, .ref kb, .ref kc, .ref kd, .int (nI np)])), (ka, .inl (cI, 4, .inl fc)), (kb, .inl (cI, 4, .inl fl)), (kc, .inl (cI, 4, .inl fb)), (kd, .inl (cI, 4, .inl fs))]) [9, 0, 1, 2, 3, 4, 5, 6, 7, 8] (by decide) rfl) hS (lv_sub hl [1, 0] rfl)
          · skip
            refine af_r (wr := [(a_cp, .inr (1, [.long 1, .ref a_rw, .ref a_po, .int a_pl])), (a_rw, .inl (cL, 18, .inr (.inl ra))), (b_cp, .inr (1, [.long 58659, .ref b_rw, .ref b_po, .int b_pl])), (b_rw, .inl (cL, 18, .inr (.inl rb))), (pn, .inr (2, [.ref ka, .ref kb, .ref kc, .ref kd, .int (nI np)])), (ka, .inl (cI, 4, .inl fc)), (kb, .inl (cI, 4, .inl fl)), (kc, .inl (cI, 4, .inl fb)), (kd, .inl (cI, 4, .inl fs))]) (va_runV (As := [.int (fc k)]) (rest := []) ⟨hx, hb, hml, hown, htb⟩ (c_Gate_copyOf1 l dC dI cI cL H.size x0 lm pg a_cp b_cp pn gv sh bg lt em sp fv (fc k) c_4) ⟨callB_of 1 htb (gd_w tw_196) rfl rfl rfl (htb _ tw_20) (htb _ tw_193) (by decide +kernel) ⟨Nat.le_of_ble_eq_true rfl, Nat.le_of_ble_eq_true rfl⟩, htb _ tw_195, htb _ tw_3⟩ (pv_V hK (hP.sub (ws' := [(x0, .inr (0, [.int (nI lm), .ref pg, .ref a_cp, .ref b_cp, .ref pn, .ref gv, .ref sh, .int bg, .int lt, .int em, .int sp, .int fv]))]) [0] rfl) (hD.sub (ws' := [(x0, .inr (0, [.int (nI lm), .ref pg, .ref a_cp, .ref b_cp, .ref pn, .ref gv, .ref sh, .int bg, .int lt, .int em, .int sp, .int fv]))]) [0] (by decide) rfl) (ci := 0) (q0 := 0) rfl rfl) rfl rfl hl.1 rfl (lv_room (Nat.le_of_ble_eq_true rfl)) d_Gate_doFlipsAhead_39 ⟨Nat.le_of_ble_eq_true rfl, Nat.le_of_ble_eq_true rfl⟩) hP hD hS hA [0] [1, 2, 3, 4, 5, 6, 7, 8, 9] rfl rfl (by decide) (by decide) (fun u_8 r_7 H locs hw hP hD hS => ?_)
            have hw : b_cp = r_7 := Eq.symm hw
            subst hw
            have hP : va_P (dC, dI) classes [(a_cp, .inr (1, [.long 1, .ref a_rw, .ref a_po, .int a_pl])), (a_rw, .inl (cL, 18, .inr (.inl ra))), (b_cp, .inr (1, [.long 58659, .ref b_rw, .ref b_po, .int b_pl])), (b_rw, .inl (cL, 18, .inr (.inl rb))), (pn, .inr (2, [.ref ka, .ref kb, .ref kc, .ref kd, .int (nI np)])), (ka, .inl (cI, 4, .inl fc)), (kb, .inl (cI, 4, .inl fl)), (kc, .inl (cI, 4, .inl fb)), (kd, .inl (cI, 4, .inl fs)), (x0, .inr (0, [.int (nI lm), .ref pg, .ref a_cp, .ref b_cp, .ref pn, .ref gv, .ref sh, .int bg, .int lt, .int em, .int sp, .int fv]))] H := hP
            have hD : va_D A [(a_cp, .inr (1, [.long 1, .ref a_rw, .ref a_po, .int a_pl])), (a_rw, .inl (cL, 18, .inr (.inl ra))), (b_cp, .inr (1, [.long 58659, .ref b_rw, .ref b_po, .int b_pl])), (b_rw, .inl (cL, 18, .inr (.inl rb))), (pn, .inr (2, [.ref ka, .ref kb, .ref kc, .ref kd, .int (nI np)])), (ka, .inl (cI, 4, .inl fc)), (kb, .inl (cI, 4, .inl fl)), (kc, .inl (cI, 4, .inl fb)), (kd, .inl (cI, 4, .inl fs)), (x0, .inr (0, [.int (nI lm), .ref pg, .ref a_cp, .ref b_cp, .ref pn, .ref gv, .ref sh, .int bg, .int lt, .int em, .int sp, .int fv]))] := hD
            refine va_get (D := (dC, dI)) (ci := 1) (v := .ref b_rw) (C := R_Copy) (T := F_Copy) (N := 4) hx hb htb iw_Copy hown hK.1 hP 2 rfl rfl 1 (by decide) (htb _ tw_70) (fun _ h9 => h9) rfl d_Gate_doFlipsAhead_42 ?_
            refine lv_aload_n hx hb d_Gate_doFlipsAhead_45 rfl (lv_at hl 0 rfl) ?_
            refine va_get (D := (dC, dI)) (ci := 0) (v := .ref pn) (C := R_Gate) (T := F_Gate) (N := 12) hx hb htb iw_Gate hown hK.1 hP 9 rfl rfl 4 (by decide) (htb _ tw_122) (fun _ h9 => h9) rfl d_Gate_doFlipsAhead_46 ?_
            refine va_get (D := (dC, dI)) (ci := 2) (v := .ref kb) (C := R_Plan) (T := F_Plan) (N := 5) hx hb htb iw_Plan hown hK.1 hP 4 rfl rfl 1 (by decide) (htb _ tw_94) (fun _ h9 => h9) rfl d_Gate_doFlipsAhead_49 ?_
            refine lv_iload_n hx hb d_Gate_doFlipsAhead_52 rfl (lv_at hl 1 rfl) ?_
            refine ld_i (v := fl k) (cA := cI) hx hb hK.1 hP 6 0 rfl rfl (vp_in_nI (by omega) (by decide)) (congrArg fl (nI_clamp (by omega))) d_Gate_doFlipsAhead_53 ?_
            refine lv_dup2_11 hx hb d_Gate_doFlipsAhead_54 rfl rfl ?_
            refine ld_l (v := rb ((fl k).toNatClampNeg)) (cA := cL) hx hb hK.1 hP 3 1 rfl rfl (hpl k (by omega)) rfl d_Gate_doFlipsAhead_55 ?_
            refine lv_lconst (v := 1) hx hb d_Gate_doFlipsAhead_56 (by decide) ?_
            refine lv_aload_n hx hb d_Gate_doFlipsAhead_57 rfl (lv_at hl 0 rfl) ?_
            refine va_get (D := (dC, dI)) (ci := 0) (v := .ref pn) (C := R_Gate) (T := F_Gate) (N := 12) hx hb htb iw_Gate hown hK.1 hP 9 rfl rfl 4 (by decide) (htb _ tw_122) (fun _ h9 => h9) rfl d_Gate_doFlipsAhead_58 ?_
            refine va_get (D := (dC, dI)) (ci := 2) (v := .ref kc) (C := R_Plan) (T := F_Plan) (N := 5) hx hb htb iw_Plan hown hK.1 hP 4 rfl rfl 2 (by decide) (htb _ tw_96) (fun _ h9 => h9) rfl d_Gate_doFlipsAhead_61 ?_
            refine lv_iload_n hx hb d_Gate_doFlipsAhead_64 rfl (lv_at hl 1 rfl) ?_
            refine ld_i (v := fb k) (cA := cI) hx hb hK.1 hP 7 0 rfl rfl (vp_in_nI (by omega) (by decide)) (congrArg fb (nI_clamp (by omega))) d_Gate_doFlipsAhead_65 ?_
            refine lv_lshl (v := 1 <<< ((fb k).toInt64 &&& 63)) hx hb d_Gate_doFlipsAhead_66 rfl ?_
            refine lv_lxor hx hb d_Gate_doFlipsAhead_67 ?_
            refine sd_l (g := vp_updL rb ((fl k).toNatClampNeg) ((rb ((fl k).toNatClampNeg)) ^^^ (1 <<< ((fb k).toInt64 &&& 63)))) (cA := cL) hx hb hK.1 hP hD hS 3 1 rfl rfl (hpl k (by omega)) rfl d_Gate_doFlipsAhead_68 (fun H locs hP hD hS => ?_)
            have hP : va_P (dC, dI) classes [(a_cp, .inr (1, [.long 1, .ref a_rw, .ref a_po, .int a_pl])), (a_rw, .inl (cL, 18, .inr (.inl ra))), (b_cp, .inr (1, [.long 58659, .ref b_rw, .ref b_po, .int b_pl])), (b_rw, .inl (cL, 18, .inr (.inl (vp_updL rb ((fl k).toNatClampNeg) ((rb ((fl k).toNatClampNeg)) ^^^ (1 <<< ((fb k).toInt64 &&& 63))))))), (pn, .inr (2, [.ref ka, .ref kb, .ref kc, .ref kd, .int (nI np)])), (ka, .inl (cI, 4, .inl fc)), (kb, .inl (cI, 4, .inl fl)), (kc, .inl (cI, 4, .inl fb)), (kd, .inl (cI, 4, .inl fs)), (x0, .inr (0, [.int (nI lm), .ref pg, .ref a_cp, .ref b_cp, .ref pn, .ref gv, .ref sh, .int bg, .int lt, .int em, .int sp, .int fv]))] H := hP
            have hD : va_D A [(a_cp, .inr (1, [.long 1, .ref a_rw, .ref a_po, .int a_pl])), (a_rw, .inl (cL, 18, .inr (.inl ra))), (b_cp, .inr (1, [.long 58659, .ref b_rw, .ref b_po, .int b_pl])), (b_rw, .inl (cL, 18, .inr (.inl (vp_updL rb ((fl k).toNatClampNeg) ((rb ((fl k).toNatClampNeg)) ^^^ (1 <<< ((fb k).toInt64 &&& 63))))))), (pn, .inr (2, [.ref ka, .ref kb, .ref kc, .ref kd, .int (nI np)])), (ka, .inl (cI, 4, .inl fc)), (kb, .inl (cI, 4, .inl fl)), (kc, .inl (cI, 4, .inl fb)), (kd, .inl (cI, 4, .inl fs)), (x0, .inr (0, [.int (nI lm), .ref pg, .ref a_cp, .ref b_cp, .ref pn, .ref gv, .ref sh, .int bg, .int lt, .int em, .int sp, .int fv]))] := hD
            refine lv_aload_n hx hb d_Gate_doFlipsAhead_69 rfl (lv_at hl 0 rfl) ?_
            refine lv_dup hx hb d_Gate_doFlipsAhead_70 rfl ?_
            refine va_get (D := (dC, dI)) (ci := 0) (v := .int fv) (C := R_Gate) (T := F_Gate) (N := 12) hx hb htb iw_Gate hown hK.1 hP 9 rfl rfl 11 (by decide) (htb _ tw_129) (fun _ h9 => h9) rfl d_Gate_doFlipsAhead_71 ?_
            refine lv_iconst (v := 1) hx hb d_Gate_doFlipsAhead_74 (by decide) ?_
            refine lv_iadd hx hb d_Gate_doFlipsAhead_75 ?_
            refine va_put (D := (dC, dI)) (ci := 0) (v := .int (fv + 1)) (ty := .int) (C := R_Gate) (T := F_Gate) (N := 12) hx hb htb iw_Gate t_Gate t_Gate_ok n_Gate hown hK.1 hP hD hS 9 rfl rfl 11 (by decide) (htb _ tw_129) (fun _ h9 => h9) rfl (by decide +kernel) rfl rfl (Nat.le_of_ble_eq_true rfl) d_Gate_doFlipsAhead_76 (fun H locs hP hD hS => ?_)
            have hP : va_P (dC, dI) classes [(a_cp, .inr (1, [.long 1, .ref a_rw, .ref a_po, .int a_pl])), (a_rw, .inl (cL, 18, .inr (.inl ra))), (b_cp, .inr (1, [.long 58659, .ref b_rw, .ref b_po, .int b_pl])), (b_rw, .inl (cL, 18, .inr (.inl (vp_updL rb ((fl k).toNatClampNeg) ((rb ((fl k).toNatClampNeg)) ^^^ (1 <<< ((fb k).toInt64 &&& 63))))))), (pn, .inr (2, [.ref ka, .ref kb, .ref kc, .ref kd, .int (nI np)])), (ka, .inl (cI, 4, .inl fc)), (kb, .inl (cI, 4, .inl fl)), (kc, .inl (cI, 4, .inl fb)), (kd, .inl (cI, 4, .inl fs)), (x0, .inr (0, [.int (nI lm), .ref pg, .ref a_cp, .ref b_cp, .ref pn, .ref gv, .ref sh, .int bg, .int lt, .int em, .int sp, .int (fv + 1)]))] H := hP
            have hD : va_D A [(a_cp, .inr (1, [.long 1, .ref a_rw, .ref a_po, .int a_pl])), (a_rw, .inl (cL, 18, .inr (.inl ra))), (b_cp, .inr (1, [.long 58659, .ref b_rw, .ref b_po, .int b_pl])), (b_rw, .inl (cL, 18, .inr (.inl (vp_updL rb ((fl k).toNatClampNeg) ((rb ((fl k).toNatClampNeg)) ^^^ (1 <<< ((fb k).toInt64 &&& 63))))))), (pn, .inr (2, [.ref ka, .ref kb, .ref kc, .ref kd, .int (nI np)])), (ka, .inl (cI, 4, .inl fc)), (kb, .inl (cI, 4, .inl fl)), (kc, .inl (cI, 4, .inl fb)), (kd, .inl (cI, 4, .inl fs)), (x0, .inr (0, [.int (nI lm), .ref pg, .ref a_cp, .ref b_cp, .ref pn, .ref gv, .ref sh, .int bg, .int lt, .int em, .int sp, .int (fv + 1)]))] := hD
            refine lv_iinc (v := nI (k + 1)) (lv' := [(1, .int (nI (k + 1))), (0, .ref x0)]) hx hb d_Gate_doFlipsAhead_79 hl (k := 1) rfl (nI_1 k) (by decide) rfl (fun ls hl => ?_)
            refine lv_goto (tgt := 2) hx hb d_Gate_doFlipsAhead_82 (by decide) ?_
            exact ih (k + 1) ra (vp_updL rb ((fl k).toNatClampNeg) ((rb ((fl k).toNatClampNeg)) ^^^ (1 <<< ((fb k).toInt64 &&& 63)))) (fv + 1) H locs ls (by omega) (by rw [← hF]; simp only [fl_w, if_pos c_3, if_neg c_4]) (hP.sub (ws' := [(x0, .inr (0, [.int (nI lm), .ref pg, .ref a_cp, .ref b_cp, .ref pn, .ref gv, .ref sh, .int bg, .int lt, .int em, .int sp, .int (fv + 1)])), (a_cp, .inr (1, [.long 1, .ref a_rw, .ref a_po, .int a_pl])), (a_rw, .inl (cL, 18, .inr (.inl ra))), (b_cp, .inr (1, [.long 58659, .ref b_rw, .ref b_po, .int b_pl])), (b_rw, .inl (cL, 18, .inr (.inl (vp_updL rb ((fl k).toNatClampNeg) ((rb ((fl k).toNatClampNeg)) ^^^ (1 <<< ((fb k).toInt64 &&& 63))))))), (pn, .inr (2, [.ref ka, .ref kb, .ref kc, .ref kd, .int (nI np)])), (ka, .inl (cI, 4, .inl fc)), (kb, .inl (cI, 4, .inl fl)), (kc, .inl (cI, 4, .inl fb)), (kd, .inl (cI, 4, .inl fs))]) [9, 0, 1, 2, 3, 4, 5, 6, 7, 8] rfl) (hD.sub (ws' := [(x0, .inr (0, [.int (nI lm), .ref pg, .ref a_cp, .ref b_cp, .ref pn, .ref gv, .ref sh, .int bg, .int lt, .int em, .int sp, .int (fv + 1)])), (a_cp, .inr (1, [.long 1, .ref a_rw, .ref a_po, .int a_pl])), (a_rw, .inl (cL, 18, .inr (.inl ra))), (b_cp, .inr (1, [.long 58659, .ref b_rw, .ref b_po, .int b_pl])), (b_rw, .inl (cL, 18, .inr (.inl (vp_updL rb ((fl k).toNatClampNeg) ((rb ((fl k).toNatClampNeg)) ^^^ (1 <<< ((fb k).toInt64 &&& 63))))))), (pn, .inr (2, [.ref ka, .ref kb, .ref kc, .ref kd, .int (nI np)])), (ka, .inl (cI, 4, .inl fc)), (kb, .inl (cI, 4, .inl fl)), (kc, .inl (cI, 4, .inl fb)), (kd, .inl (cI, 4, .inl fs))]) [9, 0, 1, 2, 3, 4, 5, 6, 7, 8] (by decide) rfl) hS (lv_sub hl [1, 0] rfl)
  exact lp_0 np 0 a_rr b_rr fd s.heap _ ls (by omega) rfl (hP.sub (ws' := [(x0, .inr (0, [.int (nI lm), .ref pg, .ref a_cp, .ref b_cp, .ref pn, .ref gv, .ref sh, .int bg, .int lt, .int em, .int sp, .int fd])), (a_cp, .inr (1, [.long 1, .ref a_rw, .ref a_po, .int a_pl])), (a_rw, .inl (cL, 18, .inr (.inl a_rr))), (b_cp, .inr (1, [.long 58659, .ref b_rw, .ref b_po, .int b_pl])), (b_rw, .inl (cL, 18, .inr (.inl b_rr))), (pn, .inr (2, [.ref ka, .ref kb, .ref kc, .ref kd, .int (nI np)])), (ka, .inl (cI, 4, .inl fc)), (kb, .inl (cI, 4, .inl fl)), (kc, .inl (cI, 4, .inl fb)), (kd, .inl (cI, 4, .inl fs))]) [0, 1, 2, 3, 4, 5, 6, 7, 8, 9] rfl) (hD.sub (ws' := [(x0, .inr (0, [.int (nI lm), .ref pg, .ref a_cp, .ref b_cp, .ref pn, .ref gv, .ref sh, .int bg, .int lt, .int em, .int sp, .int fd])), (a_cp, .inr (1, [.long 1, .ref a_rw, .ref a_po, .int a_pl])), (a_rw, .inl (cL, 18, .inr (.inl a_rr))), (b_cp, .inr (1, [.long 58659, .ref b_rw, .ref b_po, .int b_pl])), (b_rw, .inl (cL, 18, .inr (.inl b_rr))), (pn, .inr (2, [.ref ka, .ref kb, .ref kc, .ref kd, .int (nI np)])), (ka, .inl (cI, 4, .inl fc)), (kb, .inl (cI, 4, .inl fl)), (kc, .inl (cI, 4, .inl fb)), (kd, .inl (cI, 4, .inl fs))]) [0, 1, 2, 3, 4, 5, 6, 7, 8, 9] (by decide) rfl) hS (lv_sub hl [1, 0] rfl)
