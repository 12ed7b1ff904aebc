theorem tw_72 : (Cond.fieldLink R_Gate 180 "TwinGate$Copy" "ports" "[J") ∈ TB_w := List.mem_filter.mpr ⟨List.mem_of_getElem? (i := 72) (by decide +kernel), by decide +kernel⟩
theorem tw_84 : (Cond.constantLong R_Gate 25 58659) ∈ TB_w := List.mem_filter.mpr ⟨List.mem_of_getElem? (i := 84) (by decide +kernel), by decide +kernel⟩
theorem tw_124 : (Cond.fieldLink R_Gate 41 "TwinGate" "shown" "[I") ∈ TB_w := List.mem_filter.mpr ⟨List.mem_of_getElem? (i := 124) (by decide +kernel), by decide +kernel⟩
theorem tw_127 : (Cond.fieldLink R_Gate 52 "TwinGate" "emittedCycles" "I") ∈ TB_w := List.mem_filter.mpr ⟨List.mem_of_getElem? (i := 127) (by decide +kernel), by decide +kernel⟩
theorem tw_99 : (Cond.fieldLink R_Plan 24 "TwinGate$FlipPlan" "size" "I") ∈ TB_w := List.mem_filter.mpr ⟨List.mem_of_getElem? (i := 99) (by decide +kernel), by decide +kernel⟩
theorem tw_51 : (Cond.fieldLink R_Prog 18 "TwinGate$Program" "size" "I") ∈ TB_w := List.mem_filter.mpr ⟨List.mem_of_getElem? (i := 51) (by decide +kernel), by decide +kernel⟩
theorem tw_47 : (Cond.fieldLink R_Prog 9 "TwinGate$Program" "ops" "[I") ∈ TB_w := List.mem_filter.mpr ⟨List.mem_of_getElem? (i := 47) (by decide +kernel), by decide +kernel⟩
theorem tw_49 : (Cond.fieldLink R_Prog 15 "TwinGate$Program" "numbers" "[I") ∈ TB_w := List.mem_filter.mpr ⟨List.mem_of_getElem? (i := 49) (by decide +kernel), by decide +kernel⟩
theorem tw_91 : (Cond.fieldLink R_Plan 9 "TwinGate$FlipPlan" "copies" "[I") ∈ TB_w := List.mem_filter.mpr ⟨List.mem_of_getElem? (i := 91) (by decide +kernel), by decide +kernel⟩
theorem tw_93 : (Cond.fieldLink R_Plan 15 "TwinGate$FlipPlan" "cells" "[I") ∈ TB_w := List.mem_filter.mpr ⟨List.mem_of_getElem? (i := 93) (by decide +kernel), by decide +kernel⟩
theorem tw_95 : (Cond.fieldLink R_Plan 18 "TwinGate$FlipPlan" "bits" "[I") ∈ TB_w := List.mem_filter.mpr ⟨List.mem_of_getElem? (i := 95) (by decide +kernel), by decide +kernel⟩
theorem tw_97 : (Cond.fieldLink R_Plan 21 "TwinGate$FlipPlan" "steps" "[I") ∈ TB_w := List.mem_filter.mpr ⟨List.mem_of_getElem? (i := 97) (by decide +kernel), by decide +kernel⟩
set_option maxHeartbeats 4000000 in
set_option maxRecDepth 100000 in
theorem c_Gate_copiesAgree (l : Launch) (dC : Nat → ClassId) (dI : Nat → Nat → Nat) (cI cL : ClassId) (hs0 : Nat) (x0 : Nat) (lm : Nat) (pg : Nat) (a_cp : Nat) (b_cp : Nat) (pn : Nat) (gv : Nat) (sh : Nat) (bg : Int32) (lt : Int32) (em : Int32) (sp : Int32) (fd : Int32) (a_rw : Nat) (a_po : Nat) (a_qq : Nat → Int64) (a_pl : Int32) (b_rw : Nat) (b_po : Nat) (b_qq : Nat → Int64) (b_pl : Int32)  : ct_i l y_Gate_copiesAgree b_Gate_copiesAgree 4 (some .boolean) ({ frames := 0, cells := 0, slots := 0, locals := 0 }) (dC, dI) cI cL [.ref x0] [(x0, .inr (0, [.int (nI lm), .ref pg, .ref a_cp, .ref b_cp, .ref pn, .ref gv, .ref sh, .int bg, .int lt, .int em, .int sp, .int fd])), (a_cp, .inr (1, [.long 1, .ref a_rw, .ref a_po, .int a_pl])), (a_po, .inl (cL, 4, .inr (.inl a_qq))), (b_cp, .inr (1, [.long 58659, .ref b_rw, .ref b_po, .int b_pl])), (b_po, .inl (cL, 4, .inr (.inl b_qq)))] hs0 (fun (r : Int32) (u : Unit) => r = ca_w a_qq b_qq) (fun u => [(x0, .inr (0, [.int (nI lm), .ref pg, .ref a_cp, .ref b_cp, .ref pn, .ref gv, .ref sh, .int bg, .int lt, .int em, .int sp, .int fd])), (a_cp, .inr (1, [.long 1, .ref a_rw, .ref a_po, .int a_pl])), (a_po, .inl (cL, 4, .inr (.inl a_qq))), (b_cp, .inr (1, [.long 58659, .ref b_rw, .ref b_po, .int b_pl])), (b_po, .inl (cL, 4, .inr (.inl b_qq)))]) 0 0 := by
  refine st_w (Qc := fun A => va_Qi (fun (r : Int32) (u : Unit) => r = ca_w a_qq b_qq) (fun (u : Unit) t => pos_w (dC, dI) A [(x0, .inr (0, [.int (nI lm), .ref pg, .ref a_cp, .ref b_cp, .ref pn, .ref gv, .ref sh, .int bg, .int lt, .int em, .int sp, .int fd])), (a_cp, .inr (1, [.long 1, .ref a_rw, .ref a_po, .int a_pl])), (a_po, .inl (cL, 4, .inr (.inl a_qq))), (b_cp, .inr (1, [.long 58659, .ref b_rw, .ref b_po, .int b_pl])), (b_po, .inl (cL, 4, .inr (.inl b_qq)))] t) A) (by decide) (Nat.le_of_ble_eq_true rfl) ?_
  intro p e s m below meth c A ls hfx hK hA hP hD hS hl
  obtain ⟨hx, hb, hml, hown, htb, hr, hlocks, hin⟩ := hfx
  have hl : lv_has ls 4 [(0, .ref x0)] := hl
  refine lv_iconst (v := 0) hx hb d_Gate_copiesAgree_0 (by decide) ?_
  refine lv_istore_n (lv' := [(1, .int 0), (0, .ref x0)]) hx hb d_Gate_copiesAgree_1 rfl hl (by decide) rfl (fun ls hl => ?_)
  refine lv_iload_n hx hb d_Gate_copiesAgree_2 rfl (lv_at hl 0 rfl) ?_
  refine lv_iconst (v := 4) hx hb d_Gate_copiesAgree_3 (by decide) ?_
  refine lv_icmp_ge (tgt := 51) hx hb d_Gate_copiesAgree_4 (by decide) (fun c_1 => ?_) (fun c_1 => ?_)
  · exact absurd c_1 (by decide)
  · skip
    refine lv_aload_n hx hb d_Gate_copiesAgree_7 rfl (lv_at hl 1 rfl) ?_
    refine va_get (D := (dC, dI)) (ci := 0) (v := .ref a_cp) (C := R_Gate) (T := F_Gate) (N := 12) hx hb htb iw_Gate hown hK.1 hP 0 rfl rfl 2 (by decide) (htb _ tw_120) (fun _ h9 => h9) rfl d_Gate_copiesAgree_8 ?_
    refine va_get (D := (dC, dI)) (ci := 1) (v := .ref a_po) (C := R_Copy) (T := F_Copy) (N := 4) hx hb htb iw_Copy hown hK.1 hP 1 rfl rfl 2 (by decide) (htb _ tw_72) (fun _ h9 => h9) rfl d_Gate_copiesAgree_11 ?_
    refine lv_iload_n hx hb d_Gate_copiesAgree_14 rfl (lv_at hl 0 rfl) ?_
    refine ld_l (v := a_qq 0) (cA := cL) hx hb hK.1 hP 2 1 rfl rfl (show ¬ (_ ∨ _) by decide) rfl d_Gate_copiesAgree_15 ?_
    refine lv_lstore_n (lv' := [(2, .long (a_qq 0)), (1, .int 0), (0, .ref x0)]) hx hb d_Gate_copiesAgree_16 rfl hl (by decide) rfl (fun ls hl => ?_)
    refine lv_lload_n hx hb d_Gate_copiesAgree_17 rfl (lv_at hl 0 rfl) ?_
    refine lv_lload_n hx hb d_Gate_copiesAgree_18 rfl (lv_at hl 0 rfl) ?_
    refine lv_l2i (v := (a_qq 0).toInt32) hx hb d_Gate_copiesAgree_19 rfl ?_
    refine lv_i2l (v := ((a_qq 0).toInt32).toInt64) hx hb d_Gate_copiesAgree_20 (by first | rfl | decide) ?_
    refine W.lcmp hx hb d_Gate_copiesAgree_21 ?_
    refine lv_if_ne (tgt := 43) hx hb d_Gate_copiesAgree_22 (by decide) (fun c_2 => ?_) (fun c_2 => ?_)
    · have c_2 : ¬ (lg_cmp (a_qq 0) (((a_qq 0).toInt32).toInt64)) = 0 := c_2
      rw [lc_eq] at c_2
      refine lv_iconst (v := 0) hx hb d_Gate_copiesAgree_43 (by decide) ?_
      exact rt_z (v := 0) () hx hb hr hlocks (by decide) (show (0 : Int32) = ca_w a_qq b_qq from (by simp only [ca_w, if_neg c_2, and_self])) (hP.sub (ws' := [(x0, .inr (0, [.int (nI lm), .ref pg, .ref a_cp, .ref b_cp, .ref pn, .ref gv, .ref sh, .int bg, .int lt, .int em, .int sp, .int fd])), (a_cp, .inr (1, [.long 1, .ref a_rw, .ref a_po, .int a_pl])), (a_po, .inl (cL, 4, .inr (.inl a_qq))), (b_cp, .inr (1, [.long 58659, .ref b_rw, .ref b_po, .int b_pl])), (b_po, .inl (cL, 4, .inr (.inl b_qq)))]) [0, 1, 2, 3, 4] rfl) (hD.sub (ws' := [(x0, .inr (0, [.int (nI lm), .ref pg, .ref a_cp, .ref b_cp, .ref pn, .ref gv, .ref sh, .int bg, .int lt, .int em, .int sp, .int fd])), (a_cp, .inr (1, [.long 1, .ref a_rw, .ref a_po, .int a_pl])), (a_po, .inl (cL, 4, .inr (.inl a_qq))), (b_cp, .inr (1, [.long 58659, .ref b_rw, .ref b_po, .int b_pl])), (b_po, .inl (cL, 4, .inr (.inl b_qq)))]) [0, 1, 2, 3, 4] (by decide) rfl) hS d_Gate_copiesAgree_44
    · have c_2 : (lg_cmp (a_qq 0) (((a_qq 0).toInt32).toInt64)) = 0 := c_2
      rw [lc_eq] at c_2
      refine lv_lload_n hx hb d_Gate_copiesAgree_25 rfl (lv_at hl 0 rfl) ?_
      refine lv_ldc2 (v := 58659) hx hb hown (htb _ tw_84) d_Gate_copiesAgree_26 ?_
      refine lv_lmul hx hb d_Gate_copiesAgree_29 ?_
      refine lv_aload_n hx hb d_Gate_copiesAgree_30 rfl (lv_at hl 2 rfl) ?_
      refine va_get (D := (dC, dI)) (ci := 0) (v := .ref b_cp) (C := R_Gate) (T := F_Gate) (N := 12) hx hb htb iw_Gate hown hK.1 hP 0 rfl rfl 3 (by decide) (htb _ tw_121) (fun _ h9 => h9) rfl d_Gate_copiesAgree_31 ?_
      refine va_get (D := (dC, dI)) (ci := 1) (v := .ref b_po) (C := R_Copy) (T := F_Copy) (N := 4) hx hb htb iw_Copy hown hK.1 hP 3 rfl rfl 2 (by decide) (htb _ tw_72) (fun _ h9 => h9) rfl d_Gate_copiesAgree_34 ?_
      refine lv_iload_n hx hb d_Gate_copiesAgree_37 rfl (lv_at hl 1 rfl) ?_
      refine ld_l (v := b_qq 0) (cA := cL) hx hb hK.1 hP 4 1 rfl rfl (show ¬ (_ ∨ _) by decide) rfl d_Gate_copiesAgree_38 ?_
      refine W.lcmp hx hb d_Gate_copiesAgree_39 ?_
      refine lv_if_eq (tgt := 45) hx hb d_Gate_copiesAgree_40 (by decide) (fun c_3 => ?_) (fun c_3 => ?_)
      · have c_3 : (lg_cmp ((a_qq 0) * 58659) (b_qq 0)) = 0 := c_3
        rw [lc_eq] at c_3
        refine lv_iinc (v := 1) (lv' := [(1, .int 1), (2, .long (a_qq 0)), (0, .ref x0)]) hx hb d_Gate_copiesAgree_45 hl (k := 1) rfl (by first | rfl | decide) (by decide) rfl (fun ls hl => ?_)
        refine lv_goto (tgt := 2) hx hb d_Gate_copiesAgree_48 (by decide) ?_
        refine lv_iload_n hx hb d_Gate_copiesAgree_2 rfl (lv_at hl 0 rfl) ?_
        refine lv_iconst (v := 4) hx hb d_Gate_copiesAgree_3 (by decide) ?_
        refine lv_icmp_ge (tgt := 51) hx hb d_Gate_copiesAgree_4 (by decide) (fun c_4 => ?_) (fun c_4 => ?_)
        · exact absurd c_4 (by decide)
        · skip
          refine lv_aload_n hx hb d_Gate_copiesAgree_7 rfl (lv_at hl 2 rfl) ?_
          refine va_get (D := (dC, dI)) (ci := 0) (v := .ref a_cp) (C := R_Gate) (T := F_Gate) (N := 12) hx hb htb iw_Gate hown hK.1 hP 0 rfl rfl 2 (by decide) (htb _ tw_120) (fun _ h9 => h9) rfl d_Gate_copiesAgree_8 ?_
          refine va_get (D := (dC, dI)) (ci := 1) (v := .ref a_po) (C := R_Copy) (T := F_Copy) (N := 4) hx hb htb iw_Copy hown hK.1 hP 1 rfl rfl 2 (by decide) (htb _ tw_72) (fun _ h9 => h9) rfl d_Gate_copiesAgree_11 ?_
          refine lv_iload_n hx hb d_Gate_copiesAgree_14 rfl (lv_at hl 0 rfl) ?_
          refine ld_l (v := a_qq 1) (cA := cL) hx hb hK.1 hP 2 1 rfl rfl (show ¬ (_ ∨ _) by decide) rfl d_Gate_copiesAgree_15 ?_
          refine lv_lstore_n (lv' := [(2, .long (a_qq 1)), (1, .int 1), (0, .ref x0)]) hx hb d_Gate_copiesAgree_16 rfl hl (by decide) rfl (fun ls hl => ?_)
          refine lv_lload_n hx hb d_Gate_copiesAgree_17 rfl (lv_at hl 0 rfl) ?_
          refine lv_lload_n hx hb d_Gate_copiesAgree_18 rfl (lv_at hl 0 rfl) ?_
          refine lv_l2i (v := (a_qq 1).toInt32) hx hb d_Gate_copiesAgree_19 rfl ?_
          refine lv_i2l (v := ((a_qq 1).toInt32).toInt64) hx hb d_Gate_copiesAgree_20 (by first | rfl | decide) ?_
          refine W.lcmp hx hb d_Gate_copiesAgree_21 ?_
          refine lv_if_ne (tgt := 43) hx hb d_Gate_copiesAgree_22 (by decide) (fun c_5 => ?_) (fun c_5 => ?_)
          · have c_5 : ¬ (lg_cmp (a_qq 1) (((a_qq 1).toInt32).toInt64)) = 0 := c_5
            rw [lc_eq] at c_5
            refine lv_iconst (v := 0) hx hb d_Gate_copiesAgree_43 (by decide) ?_
            exact rt_z (v := 0) () hx hb hr hlocks (by decide) (show (0 : Int32) = ca_w a_qq b_qq from (by simp only [ca_w, if_pos c_2, if_pos c_3, if_neg c_5, and_self])) (hP.sub (ws' := [(x0, .inr (0, [.int (nI lm), .ref pg, .ref a_cp, .ref b_cp, .ref pn, .ref gv, .ref sh, .int bg, .int lt, .int em, .int sp, .int fd])), (a_cp, .inr (1, [.long 1, .ref a_rw, .ref a_po, .int a_pl])), (a_po, .inl (cL, 4, .inr (.inl a_qq))), (b_cp, .inr (1, [.long 58659, .ref b_rw, .ref b_po, .int b_pl])), (b_po, .inl (cL, 4, .inr (.inl b_qq)))]) [0, 1, 2, 3, 4] rfl) (hD.sub (ws' := [(x0, .inr (0, [.int (nI lm), .ref pg, .ref a_cp, .ref b_cp, .ref pn, .ref gv, .ref sh, .int bg, .int lt, .int em, .int sp, .int fd])), (a_cp, .inr (1, [.long 1, .ref a_rw, .ref a_po, .int a_pl])), (a_po, .inl (cL, 4, .inr (.inl a_qq))), (b_cp, .inr (1, [.long 58659, .ref b_rw, .ref b_po, .int b_pl])), (b_po, .inl (cL, 4, .inr (.inl b_qq)))]) [0, 1, 2, 3, 4] (by decide) rfl) hS d_Gate_copiesAgree_44
          · have c_5 : (lg_cmp (a_qq 1) (((a_qq 1).toInt32).toInt64)) = 0 := c_5
            rw [lc_eq] at c_5
            refine lv_lload_n hx hb d_Gate_copiesAgree_25 rfl (lv_at hl 0 rfl) ?_
            refine lv_ldc2 (v := 58659) hx hb hown (htb _ tw_84) d_Gate_copiesAgree_26 ?_
            refine lv_lmul hx hb d_Gate_copiesAgree_29 ?_
            refine lv_aload_n hx hb d_Gate_copiesAgree_30 rfl (lv_at hl 2 rfl) ?_
            refine va_get (D := (dC, dI)) (ci := 0) (v := .ref b_cp) (C := R_Gate) (T := F_Gate) (N := 12) hx hb htb iw_Gate hown hK.1 hP 0 rfl rfl 3 (by decide) (htb _ tw_121) (fun _ h9 => h9) rfl d_Gate_copiesAgree_31 ?_
            refine va_get (D := (dC, dI)) (ci := 1) (v := .ref b_po) (C := R_Copy) (T := F_Copy) (N := 4) hx hb htb iw_Copy hown hK.1 hP 3 rfl rfl 2 (by decide) (htb _ tw_72) (fun _ h9 => h9) rfl d_Gate_copiesAgree_34 ?_
            refine lv_iload_n hx hb d_Gate_copiesAgree_37 rfl (lv_at hl 1 rfl) ?_
            refine ld_l (v := b_qq 1) (cA := cL) hx hb hK.1 hP 4 1 rfl rfl (show ¬ (_ ∨ _) by decide) rfl d_Gate_copiesAgree_38 ?_
            refine W.lcmp hx hb d_Gate_copiesAgree_39 ?_
            refine lv_if_eq (tgt := 45) hx hb d_Gate_copiesAgree_40 (by decide) (fun c_6 => ?_) (fun c_6 => ?_)
            · have c_6 : (lg_cmp ((a_qq 1) * 58659) (b_qq 1)) = 0 := c_6
              rw [lc_eq] at c_6
              refine lv_iinc (v := 2) (lv' := [(1, .int 2), (2, .long (a_qq 1)), (0, .ref x0)]) hx hb d_Gate_copiesAgree_45 hl (k := 1) rfl (by first | rfl | decide) (by decide) rfl (fun ls hl => ?_)
              refine lv_goto (tgt := 2) hx hb d_Gate_copiesAgree_48 (by decide) ?_
              refine lv_iload_n hx hb d_Gate_copiesAgree_2 rfl (lv_at hl 0 rfl) ?_
              refine lv_iconst (v := 4) hx hb d_Gate_copiesAgree_3 (by decide) ?_
              refine lv_icmp_ge (tgt := 51) hx hb d_Gate_copiesAgree_4 (by decide) (fun c_7 => ?_) (fun c_7 => ?_)
              · exact absurd c_7 (by decide)
              · skip
                refine lv_aload_n hx hb d_Gate_copiesAgree_7 rfl (lv_at hl 2 rfl) ?_
                refine va_get (D := (dC, dI)) (ci := 0) (v := .ref a_cp) (C := R_Gate) (T := F_Gate) (N := 12) hx hb htb iw_Gate hown hK.1 hP 0 rfl rfl 2 (by decide) (htb _ tw_120) (fun _ h9 => h9) rfl d_Gate_copiesAgree_8 ?_
                refine va_get (D := (dC, dI)) (ci := 1) (v := .ref a_po) (C := R_Copy) (T := F_Copy) (N := 4) hx hb htb iw_Copy hown hK.1 hP 1 rfl rfl 2 (by decide) (htb _ tw_72) (fun _ h9 => h9) rfl d_Gate_copiesAgree_11 ?_
                refine lv_iload_n hx hb d_Gate_copiesAgree_14 rfl (lv_at hl 0 rfl) ?_
                refine ld_l (v := a_qq 2) (cA := cL) hx hb hK.1 hP 2 1 rfl rfl (show ¬ (_ ∨ _) by decide) rfl d_Gate_copiesAgree_15 ?_
                refine lv_lstore_n (lv' := [(2, .long (a_qq 2)), (1, .int 2), (0, .ref x0)]) hx hb d_Gate_copiesAgree_16 rfl hl (by decide) rfl (fun ls hl => ?_)
                refine lv_lload_n hx hb d_Gate_copiesAgree_17 rfl (lv_at hl 0 rfl) ?_
                refine lv_lload_n hx hb d_Gate_copiesAgree_18 rfl (lv_at hl 0 rfl) ?_
                refine lv_l2i (v := (a_qq 2).toInt32) hx hb d_Gate_copiesAgree_19 rfl ?_
                refine lv_i2l (v := ((a_qq 2).toInt32).toInt64) hx hb d_Gate_copiesAgree_20 (by first | rfl | decide) ?_
                refine W.lcmp hx hb d_Gate_copiesAgree_21 ?_
                refine lv_if_ne (tgt := 43) hx hb d_Gate_copiesAgree_22 (by decide) (fun c_8 => ?_) (fun c_8 => ?_)
                · have c_8 : ¬ (lg_cmp (a_qq 2) (((a_qq 2).toInt32).toInt64)) = 0 := c_8
                  rw [lc_eq] at c_8
                  refine lv_iconst (v := 0) hx hb d_Gate_copiesAgree_43 (by decide) ?_
                  exact rt_z (v := 0) () hx hb hr hlocks (by decide) (show (0 : Int32) = ca_w a_qq b_qq from (by simp only [ca_w, if_pos c_2, if_pos c_3, if_pos c_5, if_pos c_6, if_neg c_8, and_self])) (hP.sub (ws' := [(x0, .inr (0, [.int (nI lm), .ref pg, .ref a_cp, .ref b_cp, .ref pn, .ref gv, .ref sh, .int bg, .int lt, .int em, .int sp, .int fd])), (a_cp, .inr (1, [.long 1, .ref a_rw, .ref a_po, .int a_pl])), (a_po, .inl (cL, 4, .inr (.inl a_qq))), (b_cp, .inr (1, [.long 58659, .ref b_rw, .ref b_po, .int b_pl])), (b_po, .inl (cL, 4, .inr (.inl b_qq)))]) [0, 1, 2, 3, 4] rfl) (hD.sub (ws' := [(x0, .inr (0, [.int (nI lm), .ref pg, .ref a_cp, .ref b_cp, .ref pn, .ref gv, .ref sh, .int bg, .int lt, .int em, .int sp, .int fd])), (a_cp, .inr (1, [.long 1, .ref a_rw, .ref a_po, .int a_pl])), (a_po, .inl (cL, 4, .inr (.inl a_qq))), (b_cp, .inr (1, [.long 58659, .ref b_rw, .ref b_po, .int b_pl])), (b_po, .inl (cL, 4, .inr (.inl b_qq)))]) [0, 1, 2, 3, 4] (by decide) rfl) hS d_Gate_copiesAgree_44
                · have c_8 : (lg_cmp (a_qq 2) (((a_qq 2).toInt32).toInt64)) = 0 := c_8
                  rw [lc_eq] at c_8
                  refine lv_lload_n hx hb d_Gate_copiesAgree_25 rfl (lv_at hl 0 rfl) ?_
                  refine lv_ldc2 (v := 58659) hx hb hown (htb _ tw_84) d_Gate_copiesAgree_26 ?_
                  refine lv_lmul hx hb d_Gate_copiesAgree_29 ?_
                  refine lv_aload_n hx hb d_Gate_copiesAgree_30 rfl (lv_at hl 2 rfl) ?_
                  refine va_get (D := (dC, dI)) (ci := 0) (v := .ref b_cp) (C := R_Gate) (T := F_Gate) (N := 12) hx hb htb iw_Gate hown hK.1 hP 0 rfl rfl 3 (by decide) (htb _ tw_121) (fun _ h9 => h9) rfl d_Gate_copiesAgree_31 ?_
                  refine va_get (D := (dC, dI)) (ci := 1) (v := .ref b_po) (C := R_Copy) (T := F_Copy) (N := 4) hx hb htb iw_Copy hown hK.1 hP 3 rfl rfl 2 (by decide) (htb _ tw_72) (fun _ h9 => h9) rfl d_Gate_copiesAgree_34 ?_
                  refine lv_iload_n hx hb d_Gate_copiesAgree_37 rfl (lv_at hl 1 rfl) ?_
                  refine ld_l (v := b_qq 2) (cA := cL) hx hb hK.1 hP 4 1 rfl rfl (show ¬ (_ ∨ _) by decide) rfl d_Gate_copiesAgree_38 ?_
                  refine W.lcmp hx hb d_Gate_copiesAgree_39 ?_
                  refine lv_if_eq (tgt := 45) hx hb d_Gate_copiesAgree_40 (by decide) (fun c_9 => ?_) (fun c_9 => ?_)
                  · have c_9 : (lg_cmp ((a_qq 2) * 58659) (b_qq 2)) = 0 := c_9
                    rw [lc_eq] at c_9
                    refine lv_iinc (v := 3) (lv' := [(1, .int 3), (2, .long (a_qq 2)), (0, .ref x0)]) hx hb d_Gate_copiesAgree_45 hl (k := 1) rfl (by first | rfl | decide) (by decide) rfl (fun ls hl => ?_)
                    refine lv_goto (tgt := 2) hx hb d_Gate_copiesAgree_48 (by decide) ?_
                    refine lv_iload_n hx hb d_Gate_copiesAgree_2 rfl (lv_at hl 0 rfl) ?_
                    refine lv_iconst (v := 4) hx hb d_Gate_copiesAgree_3 (by decide) ?_
                    refine lv_icmp_ge (tgt := 51) hx hb d_Gate_copiesAgree_4 (by decide) (fun c_10 => ?_) (fun c_10 => ?_)
                    · exact absurd c_10 (by decide)
                    · skip
                      refine lv_aload_n hx hb d_Gate_copiesAgree_7 rfl (lv_at hl 2 rfl) ?_
                      refine va_get (D := (dC, dI)) (ci := 0) (v := .ref a_cp) (C := R_Gate) (T := F_Gate) (N := 12) hx hb htb iw_Gate hown hK.1 hP 0 rfl rfl 2 (by decide) (htb _ tw_120) (fun _ h9 => h9) rfl d_Gate_copiesAgree_8 ?_
                      refine va_get (D := (dC, dI)) (ci := 1) (v := .ref a_po) (C := R_Copy) (T := F_Copy) (N := 4) hx hb htb iw_Copy hown hK.1 hP 1 rfl rfl 2 (by decide) (htb _ tw_72) (fun _ h9 => h9) rfl d_Gate_copiesAgree_11 ?_
                      refine lv_iload_n hx hb d_Gate_copiesAgree_14 rfl (lv_at hl 0 rfl) ?_
                      refine ld_l (v := a_qq 3) (cA := cL) hx hb hK.1 hP 2 1 rfl rfl (show ¬ (_ ∨ _) by decide) rfl d_Gate_copiesAgree_15 ?_
                      refine lv_lstore_n (lv' := [(2, .long (a_qq 3)), (1, .int 3), (0, .ref x0)]) hx hb d_Gate_copiesAgree_16 rfl hl (by decide) rfl (fun ls hl => ?_)
                      refine lv_lload_n hx hb d_Gate_copiesAgree_17 rfl (lv_at hl 0 rfl) ?_
                      refine lv_lload_n hx hb d_Gate_copiesAgree_18 rfl (lv_at hl 0 rfl) ?_
                      refine lv_l2i (v := (a_qq 3).toInt32) hx hb d_Gate_copiesAgree_19 rfl ?_
                      refine lv_i2l (v := ((a_qq 3).toInt32).toInt64) hx hb d_Gate_copiesAgree_20 (by first | rfl | decide) ?_
                      refine W.lcmp hx hb d_Gate_copiesAgree_21 ?_
                      refine lv_if_ne (tgt := 43) hx hb d_Gate_copiesAgree_22 (by decide) (fun c_11 => ?_) (fun c_11 => ?_)
                      · have c_11 : ¬ (lg_cmp (a_qq 3) (((a_qq 3).toInt32).toInt64)) = 0 := c_11
                        rw [lc_eq] at c_11
                        refine lv_iconst (v := 0) hx hb d_Gate_copiesAgree_43 (by decide) ?_
                        exact rt_z (v := 0) () hx hb hr hlocks (by decide) (show (0 : Int32) = ca_w a_qq b_qq from (by simp only [ca_w, if_pos c_2, if_pos c_3, if_pos c_5, if_pos c_6, if_pos c_8, if_pos c_9, if_neg c_11, and_self])) (hP.sub (ws' := [(x0, .inr (0, [.int (nI lm), .ref pg, .ref a_cp, .ref b_cp, .ref pn, .ref gv, .ref sh, .int bg, .int lt, .int em, .int sp, .int fd])), (a_cp, .inr (1, [.long 1, .ref a_rw, .ref a_po, .int a_pl])), (a_po, .inl (cL, 4, .inr (.inl a_qq))), (b_cp, .inr (1, [.long 58659, .ref b_rw, .ref b_po, .int b_pl])), (b_po, .inl (cL, 4, .inr (.inl b_qq)))]) [0, 1, 2, 3, 4] rfl) (hD.sub (ws' := [(x0, .inr (0, [.int (nI lm), .ref pg, .ref a_cp, .ref b_cp, .ref pn, .ref gv, .ref sh, .int bg, .int lt, .int em, .int sp, .int fd])), (a_cp, .inr (1, [.long 1, .ref a_rw, .ref a_po, .int a_pl])), (a_po, .inl (cL, 4, .inr (.inl a_qq))), (b_cp, .inr (1, [.long 58659, .ref b_rw, .ref b_po, .int b_pl])), (b_po, .inl (cL, 4, .inr (.inl b_qq)))]) [0, 1, 2, 3, 4] (by decide) rfl) hS d_Gate_copiesAgree_44
                      · have c_11 : (lg_cmp (a_qq 3) (((a_qq 3).toInt32).toInt64)) = 0 := c_11
                        rw [lc_eq] at c_11
                        refine lv_lload_n hx hb d_Gate_copiesAgree_25 rfl (lv_at hl 0 rfl) ?_
                        refine lv_ldc2 (v := 58659) hx hb hown (htb _ tw_84) d_Gate_copiesAgree_26 ?_
                        refine lv_lmul hx hb d_Gate_copiesAgree_29 ?_
                        refine lv_aload_n hx hb d_Gate_copiesAgree_30 rfl (lv_at hl 2 rfl) ?_
                        refine va_get (D := (dC, dI)) (ci := 0) (v := .ref b_cp) (C := R_Gate) (T := F_Gate) (N := 12) hx hb htb iw_Gate hown hK.1 hP 0 rfl rfl 3 (by decide) (htb _ tw_121) (fun _ h9 => h9) rfl d_Gate_copiesAgree_31 ?_
                        refine va_get (D := (dC, dI)) (ci := 1) (v := .ref b_po) (C := R_Copy) (T := F_Copy) (N := 4) hx hb htb iw_Copy hown hK.1 hP 3 rfl rfl 2 (by decide) (htb _ tw_72) (fun _ h9 => h9) rfl d_Gate_copiesAgree_34 ?_
                        refine lv_iload_n hx hb d_Gate_copiesAgree_37 rfl (lv_at hl 1 rfl) ?_
                        refine ld_l (v := b_qq 3) (cA := cL) hx hb hK.1 hP 4 1 rfl rfl (show ¬ (_ ∨ _) by decide) rfl d_Gate_copiesAgree_38 ?_
                        refine W.lcmp hx hb d_Gate_copiesAgree_39 ?_
                        refine lv_if_eq (tgt := 45) hx hb d_Gate_copiesAgree_40 (by decide) (fun c_12 => ?_) (fun c_12 => ?_)
                        · have c_12 : (lg_cmp ((a_qq 3) * 58659) (b_qq 3)) = 0 := c_12
                          rw [lc_eq] at c_12
                          refine lv_iinc (v := 4) (lv' := [(1, .int 4), (2, .long (a_qq 3)), (0, .ref x0)]) hx hb d_Gate_copiesAgree_45 hl (k := 1) rfl (by first | rfl | decide) (by decide) rfl (fun ls hl => ?_)
                          refine lv_goto (tgt := 2) hx hb d_Gate_copiesAgree_48 (by decide) ?_
                          refine lv_iload_n hx hb d_Gate_copiesAgree_2 rfl (lv_at hl 0 rfl) ?_
                          refine lv_iconst (v := 4) hx hb d_Gate_copiesAgree_3 (by decide) ?_
                          refine lv_icmp_ge (tgt := 51) hx hb d_Gate_copiesAgree_4 (by decide) (fun c_13 => ?_) (fun c_13 => ?_)
                          · skip
                            refine lv_iconst (v := 1) hx hb d_Gate_copiesAgree_51 (by decide) ?_
                            exact rt_z (v := 1) () hx hb hr hlocks (by decide) (show (1 : Int32) = ca_w a_qq b_qq from (by simp only [ca_w, if_pos c_2, if_pos c_3, if_pos c_5, if_pos c_6, if_pos c_8, if_pos c_9, if_pos c_11, if_pos c_12, and_self])) (hP.sub (ws' := [(x0, .inr (0, [.int (nI lm), .ref pg, .ref a_cp, .ref b_cp, .ref pn, .ref gv, .ref sh, .int bg, .int lt, .int em, .int sp, .int fd])), (a_cp, .inr (1, [.long 1, .ref a_rw, .ref a_po, .int a_pl])), (a_po, .inl (cL, 4, .inr (.inl a_qq))), (b_cp, .inr (1, [.long 58659, .ref b_rw, .ref b_po, .int b_pl])), (b_po, .inl (cL, 4, .inr (.inl b_qq)))]) [0, 1, 2, 3, 4] rfl) (hD.sub (ws' := [(x0, .inr (0, [.int (nI lm), .ref pg, .ref a_cp, .ref b_cp, .ref pn, .ref gv, .ref sh, .int bg, .int lt, .int em, .int sp, .int fd])), (a_cp, .inr (1, [.long 1, .ref a_rw, .ref a_po, .int a_pl])), (a_po, .inl (cL, 4, .inr (.inl a_qq))), (b_cp, .inr (1, [.long 58659, .ref b_rw, .ref b_po, .int b_pl])), (b_po, .inl (cL, 4, .inr (.inl b_qq)))]) [0, 1, 2, 3, 4] (by decide) rfl) hS d_Gate_copiesAgree_52
                          · exact absurd (by decide) c_13
                        · have c_12 : ¬ (lg_cmp ((a_qq 3) * 58659) (b_qq 3)) = 0 := c_12
                          rw [lc_eq] at c_12
                          refine lv_iconst (v := 0) hx hb d_Gate_copiesAgree_43 (by decide) ?_
                          exact rt_z (v := 0) () hx hb hr hlocks (by decide) (show (0 : Int32) = ca_w a_qq b_qq from (by simp only [ca_w, if_pos c_2, if_pos c_3, if_pos c_5, if_pos c_6, if_pos c_8, if_pos c_9, if_pos c_11, if_neg c_12, and_self])) (hP.sub (ws' := [(x0, .inr (0, [.int (nI lm), .ref pg, .ref a_cp, .ref b_cp, .ref pn, .ref gv, .ref sh, .int bg, .int lt, .int em, .int sp, .int fd])), (a_cp, .inr (1, [.long 1, .ref a_rw, .ref a_po, .int a_pl])), (a_po, .inl (cL, 4, .inr (.inl a_qq))), (b_cp, .inr (1, [.long 58659, .ref b_rw, .ref b_po, .int b_pl])), (b_po, .inl (cL, 4, .inr (.inl b_qq)))]) [0, 1, 2, 3, 4] rfl) (hD.sub (ws' := [(x0, .inr (0, [.int (nI lm), .ref pg, .ref a_cp, .ref b_cp, .ref pn, .ref gv, .ref sh, .int bg, .int lt, .int em, .int sp, .int fd])), (a_cp, .inr (1, [.long 1, .ref a_rw, .ref a_po, .int a_pl])), (a_po, .inl (cL, 4, .inr (.inl a_qq))), (b_cp, .inr (1, [.long 58659, .ref b_rw, .ref b_po, .int b_pl])), (b_po, .inl (cL, 4, .inr (.inl b_qq)))]) [0, 1, 2, 3, 4] (by decide) rfl) hS d_Gate_copiesAgree_44
                  · have c_9 : ¬ (lg_cmp ((a_qq 2) * 58659) (b_qq 2)) = 0 := c_9
                    rw [lc_eq] at c_9
                    refine lv_iconst (v := 0) hx hb d_Gate_copiesAgree_43 (by decide) ?_
                    exact rt_z (v := 0) () hx hb hr hlocks (by decide) (show (0 : Int32) = ca_w a_qq b_qq from (by simp only [ca_w, if_pos c_2, if_pos c_3, if_pos c_5, if_pos c_6, if_pos c_8, if_neg c_9, and_self])) (hP.sub (ws' := [(x0, .inr (0, [.int (nI lm), .ref pg, .ref a_cp, .ref b_cp, .ref pn, .ref gv, .ref sh, .int bg, .int lt, .int em, .int sp, .int fd])), (a_cp, .inr (1, [.long 1, .ref a_rw, .ref a_po, .int a_pl])), (a_po, .inl (cL, 4, .inr (.inl a_qq))), (b_cp, .inr (1, [.long 58659, .ref b_rw, .ref b_po, .int b_pl])), (b_po, .inl (cL, 4, .inr (.inl b_qq)))]) [0, 1, 2, 3, 4] rfl) (hD.sub (ws' := [(x0, .inr (0, [.int (nI lm), .ref pg, .ref a_cp, .ref b_cp, .ref pn, .ref gv, .ref sh, .int bg, .int lt, .int em, .int sp, .int fd])), (a_cp, .inr (1, [.long 1, .ref a_rw, .ref a_po, .int a_pl])), (a_po, .inl (cL, 4, .inr (.inl a_qq))), (b_cp, .inr (1, [.long 58659, .ref b_rw, .ref b_po, .int b_pl])), (b_po, .inl (cL, 4, .inr (.inl b_qq)))]) [0, 1, 2, 3, 4] (by decide) rfl) hS d_Gate_copiesAgree_44
            · have c_6 : ¬ (lg_cmp ((a_qq 1) * 58659) (b_qq 1)) = 0 := c_6
              rw [lc_eq] at c_6
              refine lv_iconst (v := 0) hx hb d_Gate_copiesAgree_43 (by decide) ?_
              exact rt_z (v := 0) () hx hb hr hlocks (by decide) (show (0 : Int32) = ca_w a_qq b_qq from (by simp only [ca_w, if_pos c_2, if_pos c_3, if_pos c_5, if_neg c_6, and_self])) (hP.sub (ws' := [(x0, .inr (0, [.int (nI lm), .ref pg, .ref a_cp, .ref b_cp, .ref pn, .ref gv, .ref sh, .int bg, .int lt, .int em, .int sp, .int fd])), (a_cp, .inr (1, [.long 1, .ref a_rw, .ref a_po, .int a_pl])), (a_po, .inl (cL, 4, .inr (.inl a_qq))), (b_cp, .inr (1, [.long 58659, .ref b_rw, .ref b_po, .int b_pl])), (b_po, .inl (cL, 4, .inr (.inl b_qq)))]) [0, 1, 2, 3, 4] rfl) (hD.sub (ws' := [(x0, .inr (0, [.int (nI lm), .ref pg, .ref a_cp, .ref b_cp, .ref pn, .ref gv, .ref sh, .int bg, .int lt, .int em, .int sp, .int fd])), (a_cp, .inr (1, [.long 1, .ref a_rw, .ref a_po, .int a_pl])), (a_po, .inl (cL, 4, .inr (.inl a_qq))), (b_cp, .inr (1, [.long 58659, .ref b_rw, .ref b_po, .int b_pl])), (b_po, .inl (cL, 4, .inr (.inl b_qq)))]) [0, 1, 2, 3, 4] (by decide) rfl) hS d_Gate_copiesAgree_44
      · have c_3 : ¬ (lg_cmp ((a_qq 0) * 58659) (b_qq 0)) = 0 := c_3
        rw [lc_eq] at c_3
        refine lv_iconst (v := 0) hx hb d_Gate_copiesAgree_43 (by decide) ?_
        exact rt_z (v := 0) () hx hb hr hlocks (by decide) (show (0 : Int32) = ca_w a_qq b_qq from (by simp only [ca_w, if_pos c_2, if_neg c_3, and_self])) (hP.sub (ws' := [(x0, .inr (0, [.int (nI lm), .ref pg, .ref a_cp, .ref b_cp, .ref pn, .ref gv, .ref sh, .int bg, .int lt, .int em, .int sp, .int fd])), (a_cp, .inr (1, [.long 1, .ref a_rw, .ref a_po, .int a_pl])), (a_po, .inl (cL, 4, .inr (.inl a_qq))), (b_cp, .inr (1, [.long 58659, .ref b_rw, .ref b_po, .int b_pl])), (b_po, .inl (cL, 4, .inr (.inl b_qq)))]) [0, 1, 2, 3, 4] rfl) (hD.sub (ws' := [(x0, .inr (0, [.int (nI lm), .ref pg, .ref a_cp, .ref b_cp, .ref pn, .ref gv, .ref sh, .int bg, .int lt, .int em, .int sp, .int fd])), (a_cp, .inr (1, [.long 1, .ref a_rw, .ref a_po, .int a_pl])), (a_po, .inl (cL, 4, .inr (.inl a_qq))), (b_cp, .inr (1, [.long 58659, .ref b_rw, .ref b_po, .int b_pl])), (b_po, .inl (cL, 4, .inr (.inl b_qq)))]) [0, 1, 2, 3, 4] (by decide) rfl) hS d_Gate_copiesAgree_44

set_option maxHeartbeats 4000000 in
set_option maxRecDepth 100000 in
theorem c_Gate_emit (l : Launch) (dC : Nat → ClassId) (dI : Nat → Nat → Nat) (cI cL : ClassId) (hs0 : Nat) (x0 : Nat) (lm : Nat) (pg : Nat) (a_cp : Nat) (b_cp : Nat) (pn : Nat) (gv : Nat) (sh : Nat) (bg : Int32) (lt : Int32) (em : Int32) (sp : Int32) (fd : Int32) (a_rw : Nat) (a_po : Nat) (a_qq : Nat → Int64) (a_pl : Int32) (ss : Nat → Int32)  : ct_v l y_Gate_emit b_Gate_emit 2 none ({ frames := 0, cells := 0, slots := 0, locals := 0 }) (dC, dI) cI cL [.ref x0] [(x0, .inr (0, [.int (nI lm), .ref pg, .ref a_cp, .ref b_cp, .ref pn, .ref gv, .ref sh, .int bg, .int lt, .int em, .int sp, .int fd])), (sh, .inl (cI, 4, .inl ss)), (a_cp, .inr (1, [.long 1, .ref a_rw, .ref a_po, .int a_pl])), (a_po, .inl (cL, 4, .inr (.inl a_qq)))] hs0 (fun (u : (Nat → Int32) × Int32) => u.1 = e4_w ss a_qq ∧ u.2 = em + 1) (fun u => [(x0, .inr (0, [.int (nI lm), .ref pg, .ref a_cp, .ref b_cp, .ref pn, .ref gv, .ref sh, .int bg, .int lt, .int u.2, .int sp, .int fd])), (sh, .inl (cI, 4, .inl u.1)), (a_cp, .inr (1, [.long 1, .ref a_rw, .ref a_po, .int a_pl])), (a_po, .inl (cL, 4, .inr (.inl a_qq)))]) 0 0 := by
  refine st_w (Qc := fun A => va_Qv (fun (u : (Nat → Int32) × Int32) => u.1 = e4_w ss a_qq ∧ u.2 = em + 1) (fun (u : (Nat → Int32) × Int32) t => pos_w (dC, dI) A [(x0, .inr (0, [.int (nI lm), .ref pg, .ref a_cp, .ref b_cp, .ref pn, .ref gv, .ref sh, .int bg, .int lt, .int u.2, .int sp, .int fd])), (sh, .inl (cI, 4, .inl u.1)), (a_cp, .inr (1, [.long 1, .ref a_rw, .ref a_po, .int a_pl])), (a_po, .inl (cL, 4, .inr (.inl a_qq)))] t) A) (by decide) (Nat.le_of_ble_eq_true rfl) ?_
  intro p e s m below meth c A ls hfx hK hA hP hD hS hl
  obtain ⟨hx, hb, hml, hown, htb, hr, hlocks, hin⟩ := hfx
  have hl : lv_has ls 2 [(0, .ref x0)] := hl
  refine lv_iconst (v := 0) hx hb d_Gate_emit_0 (by decide) ?_
  refine lv_istore_n (lv' := [(1, .int 0), (0, .ref x0)]) hx hb d_Gate_emit_1 rfl hl (by decide) rfl (fun ls hl => ?_)
  refine lv_iload_n hx hb d_Gate_emit_2 rfl (lv_at hl 0 rfl) ?_
  refine lv_iconst (v := 4) hx hb d_Gate_emit_3 (by decide) ?_
  refine lv_icmp_ge (tgt := 29) hx hb d_Gate_emit_4 (by decide) (fun c_1 => ?_) (fun c_1 => ?_)
  · exact absurd c_1 (by decide)
  · skip
    refine lv_aload_n hx hb d_Gate_emit_7 rfl (lv_at hl 1 rfl) ?_
    refine va_get (D := (dC, dI)) (ci := 0) (v := .ref sh) (C := R_Gate) (T := F_Gate) (N := 12) hx hb htb iw_Gate hown hK.1 hP 0 rfl rfl 6 (by decide) (htb _ tw_124) (fun _ h9 => h9) rfl d_Gate_emit_8 ?_
    refine lv_iload_n hx hb d_Gate_emit_11 rfl (lv_at hl 0 rfl) ?_
    refine lv_aload_n hx hb d_Gate_emit_12 rfl (lv_at hl 1 rfl) ?_
    refine va_get (D := (dC, dI)) (ci := 0) (v := .ref a_cp) (C := R_Gate) (T := F_Gate) (N := 12) hx hb htb iw_Gate hown hK.1 hP 0 rfl rfl 2 (by decide) (htb _ tw_120) (fun _ h9 => h9) rfl d_Gate_emit_13 ?_
    refine va_get (D := (dC, dI)) (ci := 1) (v := .ref a_po) (C := R_Copy) (T := F_Copy) (N := 4) hx hb htb iw_Copy hown hK.1 hP 2 rfl rfl 2 (by decide) (htb _ tw_72) (fun _ h9 => h9) rfl d_Gate_emit_16 ?_
    refine lv_iload_n hx hb d_Gate_emit_19 rfl (lv_at hl 0 rfl) ?_
    refine ld_l (v := a_qq 0) (cA := cL) hx hb hK.1 hP 3 1 rfl rfl (show ¬ (_ ∨ _) by decide) rfl d_Gate_emit_20 ?_
    refine lv_l2i (v := (a_qq 0).toInt32) hx hb d_Gate_emit_21 rfl ?_
    refine sd_i (g := upd ss 0 ((a_qq 0).toInt32)) (cA := cI) hx hb hK.1 hP hD hS 1 0 rfl rfl (show ¬ (_ ∨ _) by decide) rfl d_Gate_emit_22 (fun H locs hP hD hS => ?_)
    have hP : va_P (dC, dI) classes [(x0, .inr (0, [.int (nI lm), .ref pg, .ref a_cp, .ref b_cp, .ref pn, .ref gv, .ref sh, .int bg, .int lt, .int em, .int sp, .int fd])), (sh, .inl (cI, 4, .inl (upd ss 0 ((a_qq 0).toInt32)))), (a_cp, .inr (1, [.long 1, .ref a_rw, .ref a_po, .int a_pl])), (a_po, .inl (cL, 4, .inr (.inl a_qq)))] H := hP
    have hD : va_D A [(x0, .inr (0, [.int (nI lm), .ref pg, .ref a_cp, .ref b_cp, .ref pn, .ref gv, .ref sh, .int bg, .int lt, .int em, .int sp, .int fd])), (sh, .inl (cI, 4, .inl (upd ss 0 ((a_qq 0).toInt32)))), (a_cp, .inr (1, [.long 1, .ref a_rw, .ref a_po, .int a_pl])), (a_po, .inl (cL, 4, .inr (.inl a_qq)))] := hD
    refine lv_iinc (v := 1) (lv' := [(1, .int 1), (0, .ref x0)]) hx hb d_Gate_emit_23 hl (k := 0) rfl (by first | rfl | decide) (by decide) rfl (fun ls hl => ?_)
    refine lv_goto (tgt := 2) hx hb d_Gate_emit_26 (by decide) ?_
    refine lv_iload_n hx hb d_Gate_emit_2 rfl (lv_at hl 0 rfl) ?_
    refine lv_iconst (v := 4) hx hb d_Gate_emit_3 (by decide) ?_
    refine lv_icmp_ge (tgt := 29) hx hb d_Gate_emit_4 (by decide) (fun c_2 => ?_) (fun c_2 => ?_)
    · exact absurd c_2 (by decide)
    · skip
      refine lv_aload_n hx hb d_Gate_emit_7 rfl (lv_at hl 1 rfl) ?_
      refine va_get (D := (dC, dI)) (ci := 0) (v := .ref sh) (C := R_Gate) (T := F_Gate) (N := 12) hx hb htb iw_Gate hown hK.1 hP 0 rfl rfl 6 (by decide) (htb _ tw_124) (fun _ h9 => h9) rfl d_Gate_emit_8 ?_
      refine lv_iload_n hx hb d_Gate_emit_11 rfl (lv_at hl 0 rfl) ?_
      refine lv_aload_n hx hb d_Gate_emit_12 rfl (lv_at hl 1 rfl) ?_
      refine va_get (D := (dC, dI)) (ci := 0) (v := .ref a_cp) (C := R_Gate) (T := F_Gate) (N := 12) hx hb htb iw_Gate hown hK.1 hP 0 rfl rfl 2 (by decide) (htb _ tw_120) (fun _ h9 => h9) rfl d_Gate_emit_13 ?_
      refine va_get (D := (dC, dI)) (ci := 1) (v := .ref a_po) (C := R_Copy) (T := F_Copy) (N := 4) hx hb htb iw_Copy hown hK.1 hP 2 rfl rfl 2 (by decide) (htb _ tw_72) (fun _ h9 => h9) rfl d_Gate_emit_16 ?_
      refine lv_iload_n hx hb d_Gate_emit_19 rfl (lv_at hl 0 rfl) ?_
      refine ld_l (v := a_qq 1) (cA := cL) hx hb hK.1 hP 3 1 rfl rfl (show ¬ (_ ∨ _) by decide) rfl d_Gate_emit_20 ?_
      refine lv_l2i (v := (a_qq 1).toInt32) hx hb d_Gate_emit_21 rfl ?_
      refine sd_i (g := upd (upd ss 0 ((a_qq 0).toInt32)) 1 ((a_qq 1).toInt32)) (cA := cI) hx hb hK.1 hP hD hS 1 0 rfl rfl (show ¬ (_ ∨ _) by decide) rfl d_Gate_emit_22 (fun H locs hP hD hS => ?_)
      have hP : va_P (dC, dI) classes [(x0, .inr (0, [.int (nI lm), .ref pg, .ref a_cp, .ref b_cp, .ref pn, .ref gv, .ref sh, .int bg, .int lt, .int em, .int sp, .int fd])), (sh, .inl (cI, 4, .inl (upd (upd ss 0 ((a_qq 0).toInt32)) 1 ((a_qq 1).toInt32)))), (a_cp, .inr (1, [.long 1, .ref a_rw, .ref a_po, .int a_pl])), (a_po, .inl (cL, 4, .inr (.inl a_qq)))] H := hP
      have hD : va_D A [(x0, .inr (0, [.int (nI lm), .ref pg, .ref a_cp, .ref b_cp, .ref pn, .ref gv, .ref sh, .int bg, .int lt, .int em, .int sp, .int fd])), (sh, .inl (cI, 4, .inl (upd (upd ss 0 ((a_qq 0).toInt32)) 1 ((a_qq 1).toInt32)))), (a_cp, .inr (1, [.long 1, .ref a_rw, .ref a_po, .int a_pl])), (a_po, .inl (cL, 4, .inr (.inl a_qq)))] := hD
      refine lv_iinc (v := 2) (lv' := [(1, .int 2), (0, .ref x0)]) hx hb d_Gate_emit_23 hl (k := 0) rfl (by first | rfl | decide) (by decide) rfl (fun ls hl => ?_)
      refine lv_goto (tgt := 2) hx hb d_Gate_emit_26 (by decide) ?_
      refine lv_iload_n hx hb d_Gate_emit_2 rfl (lv_at hl 0 rfl) ?_
      refine lv_iconst (v := 4) hx hb d_Gate_emit_3 (by decide) ?_
      refine lv_icmp_ge (tgt := 29) hx hb d_Gate_emit_4 (by decide) (fun c_3 => ?_) (fun c_3 => ?_)
      · exact absurd c_3 (by decide)
      · skip
        refine lv_aload_n hx hb d_Gate_emit_7 rfl (lv_at hl 1 rfl) ?_
        refine va_get (D := (dC, dI)) (ci := 0) (v := .ref sh) (C := R_Gate) (T := F_Gate) (N := 12) hx hb htb iw_Gate hown hK.1 hP 0 rfl rfl 6 (by decide) (htb _ tw_124) (fun _ h9 => h9) rfl d_Gate_emit_8 ?_
        refine lv_iload_n hx hb d_Gate_emit_11 rfl (lv_at hl 0 rfl) ?_
        refine lv_aload_n hx hb d_Gate_emit_12 rfl (lv_at hl 1 rfl) ?_
        refine va_get (D := (dC, dI)) (ci := 0) (v := .ref a_cp) (C := R_Gate) (T := F_Gate) (N := 12) hx hb htb iw_Gate hown hK.1 hP 0 rfl rfl 2 (by decide) (htb _ tw_120) (fun _ h9 => h9) rfl d_Gate_emit_13 ?_
        refine va_get (D := (dC, dI)) (ci := 1) (v := .ref a_po) (C := R_Copy) (T := F_Copy) (N := 4) hx hb htb iw_Copy hown hK.1 hP 2 rfl rfl 2 (by decide) (htb _ tw_72) (fun _ h9 => h9) rfl d_Gate_emit_16 ?_
        refine lv_iload_n hx hb d_Gate_emit_19 rfl (lv_at hl 0 rfl) ?_
        refine ld_l (v := a_qq 2) (cA := cL) hx hb hK.1 hP 3 1 rfl rfl (show ¬ (_ ∨ _) by decide) rfl d_Gate_emit_20 ?_
        refine lv_l2i (v := (a_qq 2).toInt32) hx hb d_Gate_emit_21 rfl ?_
        refine sd_i (g := upd (upd (upd ss 0 ((a_qq 0).toInt32)) 1 ((a_qq 1).toInt32)) 2 ((a_qq 2).toInt32)) (cA := cI) hx hb hK.1 hP hD hS 1 0 rfl rfl (show ¬ (_ ∨ _) by decide) rfl d_Gate_emit_22 (fun H locs hP hD hS => ?_)
        have hP : va_P (dC, dI) classes [(x0, .inr (0, [.int (nI lm), .ref pg, .ref a_cp, .ref b_cp, .ref pn, .ref gv, .ref sh, .int bg, .int lt, .int em, .int sp, .int fd])), (sh, .inl (cI, 4, .inl (upd (upd (upd ss 0 ((a_qq 0).toInt32)) 1 ((a_qq 1).toInt32)) 2 ((a_qq 2).toInt32)))), (a_cp, .inr (1, [.long 1, .ref a_rw, .ref a_po, .int a_pl])), (a_po, .inl (cL, 4, .inr (.inl a_qq)))] H := hP
        have hD : va_D A [(x0, .inr (0, [.int (nI lm), .ref pg, .ref a_cp, .ref b_cp, .ref pn, .ref gv, .ref sh, .int bg, .int lt, .int em, .int sp, .int fd])), (sh, .inl (cI, 4, .inl (upd (upd (upd ss 0 ((a_qq 0).toInt32)) 1 ((a_qq 1).toInt32)) 2 ((a_qq 2).toInt32)))), (a_cp, .inr (1, [.long 1, .ref a_rw, .ref a_po, .int a_pl])), (a_po, .inl (cL, 4, .inr (.inl a_qq)))] := hD
        refine lv_iinc (v := 3) (lv' := [(1, .int 3), (0, .ref x0)]) hx hb d_Gate_emit_23 hl (k := 0) rfl (by first | rfl | decide) (by decide) rfl (fun ls hl => ?_)
        refine lv_goto (tgt := 2) hx hb d_Gate_emit_26 (by decide) ?_
        refine lv_iload_n hx hb d_Gate_emit_2 rfl (lv_at hl 0 rfl) ?_
        refine lv_iconst (v := 4) hx hb d_Gate_emit_3 (by decide) ?_
        refine lv_icmp_ge (tgt := 29) hx hb d_Gate_emit_4 (by decide) (fun c_4 => ?_) (fun c_4 => ?_)
        · exact absurd c_4 (by decide)
        · skip
          refine lv_aload_n hx hb d_Gate_emit_7 rfl (lv_at hl 1 rfl) ?_
          refine va_get (D := (dC, dI)) (ci := 0) (v := .ref sh) (C := R_Gate) (T := F_Gate) (N := 12) hx hb htb iw_Gate hown hK.1 hP 0 rfl rfl 6 (by decide) (htb _ tw_124) (fun _ h9 => h9) rfl d_Gate_emit_8 ?_
          refine lv_iload_n hx hb d_Gate_emit_11 rfl (lv_at hl 0 rfl) ?_
          refine lv_aload_n hx hb d_Gate_emit_12 rfl (lv_at hl 1 rfl) ?_
          refine va_get (D := (dC, dI)) (ci := 0) (v := .ref a_cp) (C := R_Gate) (T := F_Gate) (N := 12) hx hb htb iw_Gate hown hK.1 hP 0 rfl rfl 2 (by decide) (htb _ tw_120) (fun _ h9 => h9) rfl d_Gate_emit_13 ?_
          refine va_get (D := (dC, dI)) (ci := 1) (v := .ref a_po) (C := R_Copy) (T := F_Copy) (N := 4) hx hb htb iw_Copy hown hK.1 hP 2 rfl rfl 2 (by decide) (htb _ tw_72) (fun _ h9 => h9) rfl d_Gate_emit_16 ?_
          refine lv_iload_n hx hb d_Gate_emit_19 rfl (lv_at hl 0 rfl) ?_
          refine ld_l (v := a_qq 3) (cA := cL) hx hb hK.1 hP 3 1 rfl rfl (show ¬ (_ ∨ _) by decide) rfl d_Gate_emit_20 ?_
          refine lv_l2i (v := (a_qq 3).toInt32) hx hb d_Gate_emit_21 rfl ?_
          refine sd_i (g := upd (upd (upd (upd ss 0 ((a_qq 0).toInt32)) 1 ((a_qq 1).toInt32)) 2 ((a_qq 2).toInt32)) 3 ((a_qq 3).toInt32)) (cA := cI) hx hb hK.1 hP hD hS 1 0 rfl rfl (show ¬ (_ ∨ _) by decide) rfl d_Gate_emit_22 (fun H locs hP hD hS => ?_)
          have hP : va_P (dC, dI) classes [(x0, .inr (0, [.int (nI lm), .ref pg, .ref a_cp, .ref b_cp, .ref pn, .ref gv, .ref sh, .int bg, .int lt, .int em, .int sp, .int fd])), (sh, .inl (cI, 4, .inl (upd (upd (upd (upd ss 0 ((a_qq 0).toInt32)) 1 ((a_qq 1).toInt32)) 2 ((a_qq 2).toInt32)) 3 ((a_qq 3).toInt32)))), (a_cp, .inr (1, [.long 1, .ref a_rw, .ref a_po, .int a_pl])), (a_po, .inl (cL, 4, .inr (.inl a_qq)))] H := hP
          have hD : va_D A [(x0, .inr (0, [.int (nI lm), .ref pg, .ref a_cp, .ref b_cp, .ref pn, .ref gv, .ref sh, .int bg, .int lt, .int em, .int sp, .int fd])), (sh, .inl (cI, 4, .inl (upd (upd (upd (upd ss 0 ((a_qq 0).toInt32)) 1 ((a_qq 1).toInt32)) 2 ((a_qq 2).toInt32)) 3 ((a_qq 3).toInt32)))), (a_cp, .inr (1, [.long 1, .ref a_rw, .ref a_po, .int a_pl])), (a_po, .inl (cL, 4, .inr (.inl a_qq)))] := hD
          refine lv_iinc (v := 4) (lv' := [(1, .int 4), (0, .ref x0)]) hx hb d_Gate_emit_23 hl (k := 0) rfl (by first | rfl | decide) (by decide) rfl (fun ls hl => ?_)
          refine lv_goto (tgt := 2) hx hb d_Gate_emit_26 (by decide) ?_
          refine lv_iload_n hx hb d_Gate_emit_2 rfl (lv_at hl 0 rfl) ?_
          refine lv_iconst (v := 4) hx hb d_Gate_emit_3 (by decide) ?_
          refine lv_icmp_ge (tgt := 29) hx hb d_Gate_emit_4 (by decide) (fun c_5 => ?_) (fun c_5 => ?_)
          · skip
            refine lv_aload_n hx hb d_Gate_emit_29 rfl (lv_at hl 1 rfl) ?_
            refine lv_dup hx hb d_Gate_emit_30 rfl ?_
            refine va_get (D := (dC, dI)) (ci := 0) (v := .int em) (C := R_Gate) (T := F_Gate) (N := 12) hx hb htb iw_Gate hown hK.1 hP 0 rfl rfl 9 (by decide) (htb _ tw_127) (fun _ h9 => h9) rfl d_Gate_emit_31 ?_
            refine lv_iconst (v := 1) hx hb d_Gate_emit_34 (by decide) ?_
            refine lv_iadd hx hb d_Gate_emit_35 ?_
            refine va_put (D := (dC, dI)) (ci := 0) (v := .int (em + 1)) (ty := .int) (C := R_Gate) (T := F_Gate) (N := 12) hx hb htb iw_Gate t_Gate t_Gate_ok n_Gate hown hK.1 hP hD hS 0 rfl rfl 9 (by decide) (htb _ tw_127) (fun _ h9 => h9) rfl (by decide +kernel) rfl rfl (Nat.le_of_ble_eq_true rfl) d_Gate_emit_36 (fun H locs hP hD hS => ?_)
            have hP : va_P (dC, dI) classes [(x0, .inr (0, [.int (nI lm), .ref pg, .ref a_cp, .ref b_cp, .ref pn, .ref gv, .ref sh, .int bg, .int lt, .int (em + 1), .int sp, .int fd])), (sh, .inl (cI, 4, .inl (upd (upd (upd (upd ss 0 ((a_qq 0).toInt32)) 1 ((a_qq 1).toInt32)) 2 ((a_qq 2).toInt32)) 3 ((a_qq 3).toInt32)))), (a_cp, .inr (1, [.long 1, .ref a_rw, .ref a_po, .int a_pl])), (a_po, .inl (cL, 4, .inr (.inl a_qq)))] H := hP
            have hD : va_D A [(x0, .inr (0, [.int (nI lm), .ref pg, .ref a_cp, .ref b_cp, .ref pn, .ref gv, .ref sh, .int bg, .int lt, .int (em + 1), .int sp, .int fd])), (sh, .inl (cI, 4, .inl (upd (upd (upd (upd ss 0 ((a_qq 0).toInt32)) 1 ((a_qq 1).toInt32)) 2 ((a_qq 2).toInt32)) 3 ((a_qq 3).toInt32)))), (a_cp, .inr (1, [.long 1, .ref a_rw, .ref a_po, .int a_pl])), (a_po, .inl (cL, 4, .inr (.inl a_qq)))] := hD
            exact rt_v ((upd (upd (upd (upd ss 0 ((a_qq 0).toInt32)) 1 ((a_qq 1).toInt32)) 2 ((a_qq 2).toInt32)) 3 ((a_qq 3).toInt32)), em + 1) hx hb hr hlocks (show (upd (upd (upd (upd ss 0 ((a_qq 0).toInt32)) 1 ((a_qq 1).toInt32)) 2 ((a_qq 2).toInt32)) 3 ((a_qq 3).toInt32)) = e4_w ss a_qq ∧ (em + 1) = em + 1 from (by simp only [e4_w, and_self])) (hP.sub (ws' := [(x0, .inr (0, [.int (nI lm), .ref pg, .ref a_cp, .ref b_cp, .ref pn, .ref gv, .ref sh, .int bg, .int lt, .int (em + 1), .int sp, .int fd])), (sh, .inl (cI, 4, .inl (upd (upd (upd (upd ss 0 ((a_qq 0).toInt32)) 1 ((a_qq 1).toInt32)) 2 ((a_qq 2).toInt32)) 3 ((a_qq 3).toInt32)))), (a_cp, .inr (1, [.long 1, .ref a_rw, .ref a_po, .int a_pl])), (a_po, .inl (cL, 4, .inr (.inl a_qq)))]) [0, 1, 2, 3] rfl) (hD.sub (ws' := [(x0, .inr (0, [.int (nI lm), .ref pg, .ref a_cp, .ref b_cp, .ref pn, .ref gv, .ref sh, .int bg, .int lt, .int (em + 1), .int sp, .int fd])), (sh, .inl (cI, 4, .inl (upd (upd (upd (upd ss 0 ((a_qq 0).toInt32)) 1 ((a_qq 1).toInt32)) 2 ((a_qq 2).toInt32)) 3 ((a_qq 3).toInt32)))), (a_cp, .inr (1, [.long 1, .ref a_rw, .ref a_po, .int a_pl])), (a_po, .inl (cL, 4, .inr (.inl a_qq)))]) [0, 1, 2, 3] (by decide) rfl) hS d_Gate_emit_39
          · exact absurd (by decide) c_5

set_option maxHeartbeats 4000000 in
set_option maxRecDepth 100000 in
theorem c_Plan_forgetAll (l : Launch) (dC : Nat → ClassId) (dI : Nat → Nat → Nat) (cI cL : ClassId) (hs0 : Nat) (pn : Nat) (ka : Nat) (kb : Nat) (kc : Nat) (kd : Nat) (fc : Nat → Int32) (fl : Nat → Int32) (fb : Nat → Int32) (fs : Nat → Int32) (np : Nat)  : ct_v l y_Plan_forgetAll b_Plan_forgetAll 1 none ({ frames := 0, cells := 0, slots := 0, locals := 0 }) (dC, dI) cI cL [.ref pn] [(pn, .inr (2, [.ref ka, .ref kb, .ref kc, .ref kd, .int (nI np)])), (ka, .inl (cI, 4, .inl fc)), (kb, .inl (cI, 4, .inl fl)), (kc, .inl (cI, 4, .inl fb)), (kd, .inl (cI, 4, .inl fs))] hs0 (fun (u : Unit) => True) (fun u => [(pn, .inr (2, [.ref ka, .ref kb, .ref kc, .ref kd, .int 0])), (ka, .inl (cI, 4, .inl fc)), (kb, .inl (cI, 4, .inl fl)), (kc, .inl (cI, 4, .inl fb)), (kd, .inl (cI, 4, .inl fs))]) 0 0 := by
  refine st_w (Qc := fun A => va_Qv (fun (u : Unit) => True) (fun (u : Unit) t => pos_w (dC, dI) A [(pn, .inr (2, [.ref ka, .ref kb, .ref kc, .ref kd, .int 0])), (ka, .inl (cI, 4, .inl fc)), (kb, .inl (cI, 4, .inl fl)), (kc, .inl (cI, 4, .inl fb)), (kd, .inl (cI, 4, .inl fs))] t) A) (by decide) (Nat.le_of_ble_eq_true rfl) ?_
  intro p e s m below meth c A ls hfx hK hA hP hD hS hl
  obtain ⟨hx, hb, hml, hown, htb, hr, hlocks, hin⟩ := hfx
  have hl : lv_has ls 1 [(0, .ref pn)] := hl
  refine lv_aload_n hx hb d_Plan_forgetAll_0 rfl (lv_at hl 0 rfl) ?_
  refine lv_iconst (v := 0) hx hb d_Plan_forgetAll_1 (by decide) ?_
  refine va_put (D := (dC, dI)) (ci := 2) (v := .int 0) (ty := .int) (C := R_Plan) (T := F_Plan) (N := 5) hx hb htb iw_Plan t_Plan t_Plan_ok n_Plan hown hK.1 hP hD hS 0 rfl rfl 4 (by decide) (htb _ tw_99) (fun _ h9 => h9) rfl (by decide +kernel) rfl rfl (Nat.le_of_ble_eq_true rfl) d_Plan_forgetAll_2 (fun H locs hP hD hS => ?_)
  have hP : va_P (dC, dI) classes [(pn, .inr (2, [.ref ka, .ref kb, .ref kc, .ref kd, .int 0])), (ka, .inl (cI, 4, .inl fc)), (kb, .inl (cI, 4, .inl fl)), (kc, .inl (cI, 4, .inl fb)), (kd, .inl (cI, 4, .inl fs))] H := hP
  have hD : va_D A [(pn, .inr (2, [.ref ka, .ref kb, .ref kc, .ref kd, .int 0])), (ka, .inl (cI, 4, .inl fc)), (kb, .inl (cI, 4, .inl fl)), (kc, .inl (cI, 4, .inl fb)), (kd, .inl (cI, 4, .inl fs))] := hD
  exact rt_v () hx hb hr hlocks (show True from trivial) (hP.sub (ws' := [(pn, .inr (2, [.ref ka, .ref kb, .ref kc, .ref kd, .int 0])), (ka, .inl (cI, 4, .inl fc)), (kb, .inl (cI, 4, .inl fl)), (kc, .inl (cI, 4, .inl fb)), (kd, .inl (cI, 4, .inl fs))]) [0, 1, 2, 3, 4] rfl) (hD.sub (ws' := [(pn, .inr (2, [.ref ka, .ref kb, .ref kc, .ref kd, .int 0])), (ka, .inl (cI, 4, .inl fc)), (kb, .inl (cI, 4, .inl fl)), (kc, .inl (cI, 4, .inl fb)), (kd, .inl (cI, 4, .inl fs))]) [0, 1, 2, 3, 4] (by decide) rfl) hS d_Plan_forgetAll_5

set_option maxHeartbeats 4000000 in
set_option maxRecDepth 100000 in
theorem c_Plan_isFull (l : Launch) (dC : Nat → ClassId) (dI : Nat → Nat → Nat) (cI cL : ClassId) (hs0 : Nat) (pn : Nat) (ka : Nat) (kb : Nat) (kc : Nat) (kd : Nat) (fc : Nat → Int32) (fl : Nat → Int32) (fb : Nat → Int32) (fs : Nat → Int32) (np : Nat)  : ct_i l y_Plan_isFull b_Plan_isFull 1 (some .boolean) ({ frames := 0, cells := 0, slots := 0, locals := 0 }) (dC, dI) cI cL [.ref pn] [(pn, .inr (2, [.ref ka, .ref kb, .ref kc, .ref kd, .int (nI np)])), (ka, .inl (cI, 4, .inl fc)), (kb, .inl (cI, 4, .inl fl)), (kc, .inl (cI, 4, .inl fb)), (kd, .inl (cI, 4, .inl fs))] hs0 (fun (r : Int32) (u : Unit) => r = fu_w np) (fun u => [(pn, .inr (2, [.ref ka, .ref kb, .ref kc, .ref kd, .int (nI np)])), (ka, .inl (cI, 4, .inl fc)), (kb, .inl (cI, 4, .inl fl)), (kc, .inl (cI, 4, .inl fb)), (kd, .inl (cI, 4, .inl fs))]) 0 0 := by
  refine st_w (Qc := fun A => va_Qi (fun (r : Int32) (u : Unit) => r = fu_w np) (fun (u : Unit) t => pos_w (dC, dI) A [(pn, .inr (2, [.ref ka, .ref kb, .ref kc, .ref kd, .int (nI np)])), (ka, .inl (cI, 4, .inl fc)), (kb, .inl (cI, 4, .inl fl)), (kc, .inl (cI, 4, .inl fb)), (kd, .inl (cI, 4, .inl fs))] t) A) (by decide) (Nat.le_of_ble_eq_true rfl) ?_
  intro p e s m below meth c A ls hfx hK hA hP hD hS hl
  obtain ⟨hx, hb, hml, hown, htb, hr, hlocks, hin⟩ := hfx
  have hl : lv_has ls 1 [(0, .ref pn)] := hl
  refine lv_aload_n hx hb d_Plan_isFull_0 rfl (lv_at hl 0 rfl) ?_
  refine va_get (D := (dC, dI)) (ci := 2) (v := .int (nI np)) (C := R_Plan) (T := F_Plan) (N := 5) hx hb htb iw_Plan hown hK.1 hP 0 rfl rfl 4 (by decide) (htb _ tw_99) (fun _ h9 => h9) rfl d_Plan_isFull_1 ?_
  refine lv_iconst (v := 4) hx hb d_Plan_isFull_4 (by decide) ?_
  refine lv_icmp_lt (tgt := 12) hx hb d_Plan_isFull_5 (by decide) (fun c_1 => ?_) (fun c_1 => ?_)
  · have c_1 : (nI np) < 4 := c_1
    refine lv_iconst (v := 0) hx hb d_Plan_isFull_12 (by decide) ?_
    exact rt_z (v := 0) () hx hb hr hlocks (by decide) (show (0 : Int32) = fu_w np from (by simp only [fu_w, if_pos c_1, and_self])) (hP.sub (ws' := [(pn, .inr (2, [.ref ka, .ref kb, .ref kc, .ref kd, .int (nI np)])), (ka, .inl (cI, 4, .inl fc)), (kb, .inl (cI, 4, .inl fl)), (kc, .inl (cI, 4, .inl fb)), (kd, .inl (cI, 4, .inl fs))]) [0, 1, 2, 3, 4] rfl) (hD.sub (ws' := [(pn, .inr (2, [.ref ka, .ref kb, .ref kc, .ref kd, .int (nI np)])), (ka, .inl (cI, 4, .inl fc)), (kb, .inl (cI, 4, .inl fl)), (kc, .inl (cI, 4, .inl fb)), (kd, .inl (cI, 4, .inl fs))]) [0, 1, 2, 3, 4] (by decide) rfl) hS d_Plan_isFull_13
  · have c_1 : ¬ (nI np) < 4 := c_1
    refine lv_iconst (v := 1) hx hb d_Plan_isFull_8 (by decide) ?_
    refine lv_goto (tgt := 13) hx hb d_Plan_isFull_9 (by decide) ?_
    exact rt_z (v := 1) () hx hb hr hlocks (by decide) (show (1 : Int32) = fu_w np from (by simp only [fu_w, if_neg c_1, and_self])) (hP.sub (ws' := [(pn, .inr (2, [.ref ka, .ref kb, .ref kc, .ref kd, .int (nI np)])), (ka, .inl (cI, 4, .inl fc)), (kb, .inl (cI, 4, .inl fl)), (kc, .inl (cI, 4, .inl fb)), (kd, .inl (cI, 4, .inl fs))]) [0, 1, 2, 3, 4] rfl) (hD.sub (ws' := [(pn, .inr (2, [.ref ka, .ref kb, .ref kc, .ref kd, .int (nI np)])), (ka, .inl (cI, 4, .inl fc)), (kb, .inl (cI, 4, .inl fl)), (kc, .inl (cI, 4, .inl fb)), (kd, .inl (cI, 4, .inl fs))]) [0, 1, 2, 3, 4] (by decide) rfl) hS d_Plan_isFull_13

set_option maxHeartbeats 4000000 in
set_option maxRecDepth 100000 in
theorem c_Prog_isFull (l : Launch) (dC : Nat → ClassId) (dI : Nat → Nat → Nat) (cI cL : ClassId) (hs0 : Nat) (pg : Nat) (oa : Nat) (na : Nat) (ops : Nat → Int32) (nums : Nat → Int32) (sz : Int32)  : ct_i l y_Prog_isFull b_Prog_isFull 1 (some .boolean) ({ frames := 0, cells := 0, slots := 0, locals := 0 }) (dC, dI) cI cL [.ref pg] [(pg, .inr (3, [.ref oa, .ref na, .int sz])), (oa, .inl (cI, 100, .inl ops)), (na, .inl (cI, 100, .inl nums))] hs0 (fun (r : Int32) (u : Unit) => r = gu_w sz) (fun u => [(pg, .inr (3, [.ref oa, .ref na, .int sz])), (oa, .inl (cI, 100, .inl ops)), (na, .inl (cI, 100, .inl nums))]) 0 0 := by
  refine st_w (Qc := fun A => va_Qi (fun (r : Int32) (u : Unit) => r = gu_w sz) (fun (u : Unit) t => pos_w (dC, dI) A [(pg, .inr (3, [.ref oa, .ref na, .int sz])), (oa, .inl (cI, 100, .inl ops)), (na, .inl (cI, 100, .inl nums))] t) A) (by decide) (Nat.le_of_ble_eq_true rfl) ?_
  intro p e s m below meth c A ls hfx hK hA hP hD hS hl
  obtain ⟨hx, hb, hml, hown, htb, hr, hlocks, hin⟩ := hfx
  have hl : lv_has ls 1 [(0, .ref pg)] := hl
  refine lv_aload_n hx hb d_Prog_isFull_0 rfl (lv_at hl 0 rfl) ?_
  refine va_get (D := (dC, dI)) (ci := 3) (v := .int sz) (C := R_Prog) (T := F_Prog) (N := 3) hx hb htb iw_Prog hown hK.1 hP 0 rfl rfl 2 (by decide) (htb _ tw_51) (fun _ h9 => h9) rfl d_Prog_isFull_1 ?_
  refine lv_bipush (v := 100) hx hb d_Prog_isFull_4 (by decide) ?_
  refine lv_icmp_lt (tgt := 13) hx hb d_Prog_isFull_6 (by decide) (fun c_1 => ?_) (fun c_1 => ?_)
  · have c_1 : sz < 100 := c_1
    refine lv_iconst (v := 0) hx hb d_Prog_isFull_13 (by decide) ?_
    exact rt_z (v := 0) () hx hb hr hlocks (by decide) (show (0 : Int32) = gu_w sz from (by simp only [gu_w, if_pos c_1, and_self])) (hP.sub (ws' := [(pg, .inr (3, [.ref oa, .ref na, .int sz])), (oa, .inl (cI, 100, .inl ops)), (na, .inl (cI, 100, .inl nums))]) [0, 1, 2] rfl) (hD.sub (ws' := [(pg, .inr (3, [.ref oa, .ref na, .int sz])), (oa, .inl (cI, 100, .inl ops)), (na, .inl (cI, 100, .inl nums))]) [0, 1, 2] (by decide) rfl) hS d_Prog_isFull_14
  · have c_1 : ¬ sz < 100 := c_1
    refine lv_iconst (v := 1) hx hb d_Prog_isFull_9 (by decide) ?_
    refine lv_goto (tgt := 14) hx hb d_Prog_isFull_10 (by decide) ?_
    exact rt_z (v := 1) () hx hb hr hlocks (by decide) (show (1 : Int32) = gu_w sz from (by simp only [gu_w, if_neg c_1, and_self])) (hP.sub (ws' := [(pg, .inr (3, [.ref oa, .ref na, .int sz])), (oa, .inl (cI, 100, .inl ops)), (na, .inl (cI, 100, .inl nums))]) [0, 1, 2] rfl) (hD.sub (ws' := [(pg, .inr (3, [.ref oa, .ref na, .int sz])), (oa, .inl (cI, 100, .inl ops)), (na, .inl (cI, 100, .inl nums))]) [0, 1, 2] (by decide) rfl) hS d_Prog_isFull_14

set_option maxHeartbeats 4000000 in
set_option maxRecDepth 100000 in
theorem c_Prog_append (l : Launch) (dC : Nat → ClassId) (dI : Nat → Nat → Nat) (cI cL : ClassId) (hs0 : Nat) (pg : Nat) (oa : Nat) (na : Nat) (ops : Nat → Int32) (nums : Nat → Int32) (sz : Int32) (o0 : Int32) (n0 : Int32) (hi : vp_in sz 100) : ct_v l y_Prog_append b_Prog_append 3 none ({ frames := 0, cells := 0, slots := 0, locals := 0 }) (dC, dI) cI cL [.ref pg, .int o0, .int n0] [(pg, .inr (3, [.ref oa, .ref na, .int sz])), (oa, .inl (cI, 100, .inl ops)), (na, .inl (cI, 100, .inl nums))] hs0 (fun (u : (Nat → Int32) × (Nat → Int32) × Int32) => u.1 = upd ops sz.toNatClampNeg o0 ∧ u.2.1 = upd nums sz.toNatClampNeg n0 ∧ u.2.2 = sz + 1) (fun u => [(pg, .inr (3, [.ref oa, .ref na, .int u.2.2])), (oa, .inl (cI, 100, .inl u.1)), (na, .inl (cI, 100, .inl u.2.1))]) 0 0 := by
  refine st_w (Qc := fun A => va_Qv (fun (u : (Nat → Int32) × (Nat → Int32) × Int32) => u.1 = upd ops sz.toNatClampNeg o0 ∧ u.2.1 = upd nums sz.toNatClampNeg n0 ∧ u.2.2 = sz + 1) (fun (u : (Nat → Int32) × (Nat → Int32) × Int32) t => pos_w (dC, dI) A [(pg, .inr (3, [.ref oa, .ref na, .int u.2.2])), (oa, .inl (cI, 100, .inl u.1)), (na, .inl (cI, 100, .inl u.2.1))] t) A) (by decide) (Nat.le_of_ble_eq_true rfl) ?_
  intro p e s m below meth c A ls hfx hK hA hP hD hS hl
  obtain ⟨hx, hb, hml, hown, htb, hr, hlocks, hin⟩ := hfx
  have hl : lv_has ls 3 [(0, .ref pg), (1, .int o0), (2, .int n0)] := hl
  refine lv_aload_n hx hb d_Prog_append_0 rfl (lv_at hl 0 rfl) ?_
  refine va_get (D := (dC, dI)) (ci := 3) (v := .ref oa) (C := R_Prog) (T := F_Prog) (N := 3) hx hb htb iw_Prog hown hK.1 hP 0 rfl rfl 0 (by decide) (htb _ tw_47) (fun _ h9 => h9) rfl d_Prog_append_1 ?_
  refine lv_aload_n hx hb d_Prog_append_4 rfl (lv_at hl 0 rfl) ?_
  refine va_get (D := (dC, dI)) (ci := 3) (v := .int sz) (C := R_Prog) (T := F_Prog) (N := 3) hx hb htb iw_Prog hown hK.1 hP 0 rfl rfl 2 (by decide) (htb _ tw_51) (fun _ h9 => h9) rfl d_Prog_append_5 ?_
  refine lv_iload_n hx hb d_Prog_append_8 rfl (lv_at hl 1 rfl) ?_
  refine sd_i (g := upd ops sz.toNatClampNeg o0) (cA := cI) hx hb hK.1 hP hD hS 1 0 rfl rfl hi rfl d_Prog_append_9 (fun H locs hP hD hS => ?_)
  have hP : va_P (dC, dI) classes [(pg, .inr (3, [.ref oa, .ref na, .int sz])), (oa, .inl (cI, 100, .inl (upd ops sz.toNatClampNeg o0))), (na, .inl (cI, 100, .inl nums))] H := hP
  have hD : va_D A [(pg, .inr (3, [.ref oa, .ref na, .int sz])), (oa, .inl (cI, 100, .inl (upd ops sz.toNatClampNeg o0))), (na, .inl (cI, 100, .inl nums))] := hD
  refine lv_aload_n hx hb d_Prog_append_10 rfl (lv_at hl 0 rfl) ?_
  refine va_get (D := (dC, dI)) (ci := 3) (v := .ref na) (C := R_Prog) (T := F_Prog) (N := 3) hx hb htb iw_Prog hown hK.1 hP 0 rfl rfl 1 (by decide) (htb _ tw_49) (fun _ h9 => h9) rfl d_Prog_append_11 ?_
  refine lv_aload_n hx hb d_Prog_append_14 rfl (lv_at hl 0 rfl) ?_
  refine va_get (D := (dC, dI)) (ci := 3) (v := .int sz) (C := R_Prog) (T := F_Prog) (N := 3) hx hb htb iw_Prog hown hK.1 hP 0 rfl rfl 2 (by decide) (htb _ tw_51) (fun _ h9 => h9) rfl d_Prog_append_15 ?_
  refine lv_iload_n hx hb d_Prog_append_18 rfl (lv_at hl 2 rfl) ?_
  refine sd_i (g := upd nums sz.toNatClampNeg n0) (cA := cI) hx hb hK.1 hP hD hS 2 0 rfl rfl hi rfl d_Prog_append_19 (fun H locs hP hD hS => ?_)
  have hP : va_P (dC, dI) classes [(pg, .inr (3, [.ref oa, .ref na, .int sz])), (oa, .inl (cI, 100, .inl (upd ops sz.toNatClampNeg o0))), (na, .inl (cI, 100, .inl (upd nums sz.toNatClampNeg n0)))] H := hP
  have hD : va_D A [(pg, .inr (3, [.ref oa, .ref na, .int sz])), (oa, .inl (cI, 100, .inl (upd ops sz.toNatClampNeg o0))), (na, .inl (cI, 100, .inl (upd nums sz.toNatClampNeg n0)))] := hD
  refine lv_aload_n hx hb d_Prog_append_20 rfl (lv_at hl 0 rfl) ?_
  refine lv_dup hx hb d_Prog_append_21 rfl ?_
  refine va_get (D := (dC, dI)) (ci := 3) (v := .int sz) (C := R_Prog) (T := F_Prog) (N := 3) hx hb htb iw_Prog hown hK.1 hP 0 rfl rfl 2 (by decide) (htb _ tw_51) (fun _ h9 => h9) rfl d_Prog_append_22 ?_
  refine lv_iconst (v := 1) hx hb d_Prog_append_25 (by decide) ?_
  refine lv_iadd hx hb d_Prog_append_26 ?_
  refine va_put (D := (dC, dI)) (ci := 3) (v := .int (sz + 1)) (ty := .int) (C := R_Prog) (T := F_Prog) (N := 3) hx hb htb iw_Prog t_Prog t_Prog_ok n_Prog hown hK.1 hP hD hS 0 rfl rfl 2 (by decide) (htb _ tw_51) (fun _ h9 => h9) rfl (by decide +kernel) rfl rfl (Nat.le_of_ble_eq_true rfl) d_Prog_append_27 (fun H locs hP hD hS => ?_)
  have hP : va_P (dC, dI) classes [(pg, .inr (3, [.ref oa, .ref na, .int (sz + 1)])), (oa, .inl (cI, 100, .inl (upd ops sz.toNatClampNeg o0))), (na, .inl (cI, 100, .inl (upd nums sz.toNatClampNeg n0)))] H := hP
  have hD : va_D A [(pg, .inr (3, [.ref oa, .ref na, .int (sz + 1)])), (oa, .inl (cI, 100, .inl (upd ops sz.toNatClampNeg o0))), (na, .inl (cI, 100, .inl (upd nums sz.toNatClampNeg n0)))] := hD
  exact rt_v ((upd ops sz.toNatClampNeg o0), (upd nums sz.toNatClampNeg n0), sz + 1) hx hb hr hlocks (show (upd ops sz.toNatClampNeg o0) = upd ops sz.toNatClampNeg o0 ∧ (upd nums sz.toNatClampNeg n0) = upd nums sz.toNatClampNeg n0 ∧ (sz + 1) = sz + 1 from (by simp only [and_self])) (hP.sub (ws' := [(pg, .inr (3, [.ref oa, .ref na, .int (sz + 1)])), (oa, .inl (cI, 100, .inl (upd ops sz.toNatClampNeg o0))), (na, .inl (cI, 100, .inl (upd nums sz.toNatClampNeg n0)))]) [0, 1, 2] rfl) (hD.sub (ws' := [(pg, .inr (3, [.ref oa, .ref na, .int (sz + 1)])), (oa, .inl (cI, 100, .inl (upd ops sz.toNatClampNeg o0))), (na, .inl (cI, 100, .inl (upd nums sz.toNatClampNeg n0)))]) [0, 1, 2] (by decide) rfl) hS d_Prog_append_30

set_option maxHeartbeats 4000000 in
set_option maxRecDepth 100000 in
theorem c_Plan_append (l : Launch) (dC : Nat → ClassId) (dI : Nat → Nat → Nat) (cI cL : ClassId) (hs0 : Nat) (pn : Nat) (ka : Nat) (kb : Nat) (kc : Nat) (kd : Nat) (fc : Nat → Int32) (fl : Nat → Int32) (fb : Nat → Int32) (fs : Nat → Int32) (np : Nat) (p1 : Int32) (p2 : Int32) (p3 : Int32) (p4 : Int32) (hi : np < 4) : ct_v l y_Plan_append b_Plan_append 5 none ({ frames := 0, cells := 0, slots := 0, locals := 0 }) (dC, dI) cI cL [.ref pn, .int p1, .int p2, .int p3, .int p4] [(pn, .inr (2, [.ref ka, .ref kb, .ref kc, .ref kd, .int (nI np)])), (ka, .inl (cI, 4, .inl fc)), (kb, .inl (cI, 4, .inl fl)), (kc, .inl (cI, 4, .inl fb)), (kd, .inl (cI, 4, .inl fs))] hs0 (fun (u : (Nat → Int32) × (Nat → Int32) × (Nat → Int32) × (Nat → Int32)) => u.1 = upd fc np p1 ∧ u.2.1 = upd fl np p2 ∧ u.2.2.1 = upd fb np p3 ∧ u.2.2.2 = upd fs np p4) (fun u => [(pn, .inr (2, [.ref ka, .ref kb, .ref kc, .ref kd, .int (nI (np + 1))])), (ka, .inl (cI, 4, .inl u.1)), (kb, .inl (cI, 4, .inl u.2.1)), (kc, .inl (cI, 4, .inl u.2.2.1)), (kd, .inl (cI, 4, .inl u.2.2.2))]) 0 0 := by
  refine st_w (Qc := fun A => va_Qv (fun (u : (Nat → Int32) × (Nat → Int32) × (Nat → Int32) × (Nat → Int32)) => u.1 = upd fc np p1 ∧ u.2.1 = upd fl np p2 ∧ u.2.2.1 = upd fb np p3 ∧ u.2.2.2 = upd fs np p4) (fun (u : (Nat → Int32) × (Nat → Int32) × (Nat → Int32) × (Nat → Int32)) t => pos_w (dC, dI) A [(pn, .inr (2, [.ref ka, .ref kb, .ref kc, .ref kd, .int (nI (np + 1))])), (ka, .inl (cI, 4, .inl u.1)), (kb, .inl (cI, 4, .inl u.2.1)), (kc, .inl (cI, 4, .inl u.2.2.1)), (kd, .inl (cI, 4, .inl u.2.2.2))] t) A) (by decide) (Nat.le_of_ble_eq_true rfl) ?_
  intro p e s m below meth c A ls hfx hK hA hP hD hS hl
  obtain ⟨hx, hb, hml, hown, htb, hr, hlocks, hin⟩ := hfx
  have hl : lv_has ls 5 [(0, .ref pn), (1, .int p1), (2, .int p2), (3, .int p3), (4, .int p4)] := hl
  refine lv_aload_n hx hb d_Plan_append_0 rfl (lv_at hl 0 rfl) ?_
  refine va_get (D := (dC, dI)) (ci := 2) (v := .ref ka) (C := R_Plan) (T := F_Plan) (N := 5) hx hb htb iw_Plan hown hK.1 hP 0 rfl rfl 0 (by decide) (htb _ tw_91) (fun _ h9 => h9) rfl d_Plan_append_1 ?_
  refine lv_aload_n hx hb d_Plan_append_4 rfl (lv_at hl 0 rfl) ?_
  refine va_get (D := (dC, dI)) (ci := 2) (v := .int (nI np)) (C := R_Plan) (T := F_Plan) (N := 5) hx hb htb iw_Plan hown hK.1 hP 0 rfl rfl 4 (by decide) (htb _ tw_99) (fun _ h9 => h9) rfl d_Plan_append_5 ?_
  refine lv_iload_n hx hb d_Plan_append_8 rfl (lv_at hl 1 rfl) ?_
  refine sd_i (g := upd fc np p1) (cA := cI) hx hb hK.1 hP hD hS 1 0 rfl rfl (vp_in_nI hi (by decide)) (by rw [(nI_clamp (by omega))]) d_Plan_append_9 (fun H locs hP hD hS => ?_)
  have hP : va_P (dC, dI) classes [(pn, .inr (2, [.ref ka, .ref kb, .ref kc, .ref kd, .int (nI np)])), (ka, .inl (cI, 4, .inl (upd fc np p1))), (kb, .inl (cI, 4, .inl fl)), (kc, .inl (cI, 4, .inl fb)), (kd, .inl (cI, 4, .inl fs))] H := hP
  have hD : va_D A [(pn, .inr (2, [.ref ka, .ref kb, .ref kc, .ref kd, .int (nI np)])), (ka, .inl (cI, 4, .inl (upd fc np p1))), (kb, .inl (cI, 4, .inl fl)), (kc, .inl (cI, 4, .inl fb)), (kd, .inl (cI, 4, .inl fs))] := hD
  refine lv_aload_n hx hb d_Plan_append_10 rfl (lv_at hl 0 rfl) ?_
  refine va_get (D := (dC, dI)) (ci := 2) (v := .ref kb) (C := R_Plan) (T := F_Plan) (N := 5) hx hb htb iw_Plan hown hK.1 hP 0 rfl rfl 1 (by decide) (htb _ tw_93) (fun _ h9 => h9) rfl d_Plan_append_11 ?_
  refine lv_aload_n hx hb d_Plan_append_14 rfl (lv_at hl 0 rfl) ?_
  refine va_get (D := (dC, dI)) (ci := 2) (v := .int (nI np)) (C := R_Plan) (T := F_Plan) (N := 5) hx hb htb iw_Plan hown hK.1 hP 0 rfl rfl 4 (by decide) (htb _ tw_99) (fun _ h9 => h9) rfl d_Plan_append_15 ?_
  refine lv_iload_n hx hb d_Plan_append_18 rfl (lv_at hl 2 rfl) ?_
  refine sd_i (g := upd fl np p2) (cA := cI) hx hb hK.1 hP hD hS 2 0 rfl rfl (vp_in_nI hi (by decide)) (by rw [(nI_clamp (by omega))]) d_Plan_append_19 (fun H locs hP hD hS => ?_)
  have hP : va_P (dC, dI) classes [(pn, .inr (2, [.ref ka, .ref kb, .ref kc, .ref kd, .int (nI np)])), (ka, .inl (cI, 4, .inl (upd fc np p1))), (kb, .inl (cI, 4, .inl (upd fl np p2))), (kc, .inl (cI, 4, .inl fb)), (kd, .inl (cI, 4, .inl fs))] H := hP
  have hD : va_D A [(pn, .inr (2, [.ref ka, .ref kb, .ref kc, .ref kd, .int (nI np)])), (ka, .inl (cI, 4, .inl (upd fc np p1))), (kb, .inl (cI, 4, .inl (upd fl np p2))), (kc, .inl (cI, 4, .inl fb)), (kd, .inl (cI, 4, .inl fs))] := hD
  refine lv_aload_n hx hb d_Plan_append_20 rfl (lv_at hl 0 rfl) ?_
  refine va_get (D := (dC, dI)) (ci := 2) (v := .ref kc) (C := R_Plan) (T := F_Plan) (N := 5) hx hb htb iw_Plan hown hK.1 hP 0 rfl rfl 2 (by decide) (htb _ tw_95) (fun _ h9 => h9) rfl d_Plan_append_21 ?_
  refine lv_aload_n hx hb d_Plan_append_24 rfl (lv_at hl 0 rfl) ?_
  refine va_get (D := (dC, dI)) (ci := 2) (v := .int (nI np)) (C := R_Plan) (T := F_Plan) (N := 5) hx hb htb iw_Plan hown hK.1 hP 0 rfl rfl 4 (by decide) (htb _ tw_99) (fun _ h9 => h9) rfl d_Plan_append_25 ?_
  refine lv_iload_n hx hb d_Plan_append_28 rfl (lv_at hl 3 rfl) ?_
  refine sd_i (g := upd fb np p3) (cA := cI) hx hb hK.1 hP hD hS 3 0 rfl rfl (vp_in_nI hi (by decide)) (by rw [(nI_clamp (by omega))]) d_Plan_append_29 (fun H locs hP hD hS => ?_)
  have hP : va_P (dC, dI) classes [(pn, .inr (2, [.ref ka, .ref kb, .ref kc, .ref kd, .int (nI np)])), (ka, .inl (cI, 4, .inl (upd fc np p1))), (kb, .inl (cI, 4, .inl (upd fl np p2))), (kc, .inl (cI, 4, .inl (upd fb np p3))), (kd, .inl (cI, 4, .inl fs))] H := hP
  have hD : va_D A [(pn, .inr (2, [.ref ka, .ref kb, .ref kc, .ref kd, .int (nI np)])), (ka, .inl (cI, 4, .inl (upd fc np p1))), (kb, .inl (cI, 4, .inl (upd fl np p2))), (kc, .inl (cI, 4, .inl (upd fb np p3))), (kd, .inl (cI, 4, .inl fs))] := hD
  refine lv_aload_n hx hb d_Plan_append_30 rfl (lv_at hl 0 rfl) ?_
  refine va_get (D := (dC, dI)) (ci := 2) (v := .ref kd) (C := R_Plan) (T := F_Plan) (N := 5) hx hb htb iw_Plan hown hK.1 hP 0 rfl rfl 3 (by decide) (htb _ tw_97) (fun _ h9 => h9) rfl d_Plan_append_31 ?_
  refine lv_aload_n hx hb d_Plan_append_34 rfl (lv_at hl 0 rfl) ?_
  refine va_get (D := (dC, dI)) (ci := 2) (v := .int (nI np)) (C := R_Plan) (T := F_Plan) (N := 5) hx hb htb iw_Plan hown hK.1 hP 0 rfl rfl 4 (by decide) (htb _ tw_99) (fun _ h9 => h9) rfl d_Plan_append_35 ?_
  refine lv_iload hx hb d_Plan_append_38 (lv_at hl 4 rfl) ?_
  refine sd_i (g := upd fs np p4) (cA := cI) hx hb hK.1 hP hD hS 4 0 rfl rfl (vp_in_nI hi (by decide)) (by rw [(nI_clamp (by omega))]) d_Plan_append_40 (fun H locs hP hD hS => ?_)
  have hP : va_P (dC, dI) classes [(pn, .inr (2, [.ref ka, .ref kb, .ref kc, .ref kd, .int (nI np)])), (ka, .inl (cI, 4, .inl (upd fc np p1))), (kb, .inl (cI, 4, .inl (upd fl np p2))), (kc, .inl (cI, 4, .inl (upd fb np p3))), (kd, .inl (cI, 4, .inl (upd fs np p4)))] H := hP
  have hD : va_D A [(pn, .inr (2, [.ref ka, .ref kb, .ref kc, .ref kd, .int (nI np)])), (ka, .inl (cI, 4, .inl (upd fc np p1))), (kb, .inl (cI, 4, .inl (upd fl np p2))), (kc, .inl (cI, 4, .inl (upd fb np p3))), (kd, .inl (cI, 4, .inl (upd fs np p4)))] := hD
  refine lv_aload_n hx hb d_Plan_append_41 rfl (lv_at hl 0 rfl) ?_
  refine lv_dup hx hb d_Plan_append_42 rfl ?_
  refine va_get (D := (dC, dI)) (ci := 2) (v := .int (nI np)) (C := R_Plan) (T := F_Plan) (N := 5) hx hb htb iw_Plan hown hK.1 hP 0 rfl rfl 4 (by decide) (htb _ tw_99) (fun _ h9 => h9) rfl d_Plan_append_43 ?_
  refine lv_iconst (v := 1) hx hb d_Plan_append_46 (by decide) ?_
  refine lv_iadd hx hb d_Plan_append_47 ?_
  refine tp_i (nI_1 np) ?_
  refine va_put (D := (dC, dI)) (ci := 2) (v := .int (nI (np + 1))) (ty := .int) (C := R_Plan) (T := F_Plan) (N := 5) hx hb htb iw_Plan t_Plan t_Plan_ok n_Plan hown hK.1 hP hD hS 0 rfl rfl 4 (by decide) (htb _ tw_99) (fun _ h9 => h9) rfl (by decide +kernel) rfl rfl (Nat.le_of_ble_eq_true rfl) d_Plan_append_48 (fun H locs hP hD hS => ?_)
  have hP : va_P (dC, dI) classes [(pn, .inr (2, [.ref ka, .ref kb, .ref kc, .ref kd, .int (nI (np + 1))])), (ka, .inl (cI, 4, .inl (upd fc np p1))), (kb, .inl (cI, 4, .inl (upd fl np p2))), (kc, .inl (cI, 4, .inl (upd fb np p3))), (kd, .inl (cI, 4, .inl (upd fs np p4)))] H := hP
  have hD : va_D A [(pn, .inr (2, [.ref ka, .ref kb, .ref kc, .ref kd, .int (nI (np + 1))])), (ka, .inl (cI, 4, .inl (upd fc np p1))), (kb, .inl (cI, 4, .inl (upd fl np p2))), (kc, .inl (cI, 4, .inl (upd fb np p3))), (kd, .inl (cI, 4, .inl (upd fs np p4)))] := hD
  exact rt_v ((upd fc np p1), (upd fl np p2), (upd fb np p3), (upd fs np p4)) hx hb hr hlocks (show (upd fc np p1) = upd fc np p1 ∧ (upd fl np p2) = upd fl np p2 ∧ (upd fb np p3) = upd fb np p3 ∧ (upd fs np p4) = upd fs np p4 from (by simp only [and_self])) (hP.sub (ws' := [(pn, .inr (2, [.ref ka, .ref kb, .ref kc, .ref kd, .int (nI (np + 1))])), (ka, .inl (cI, 4, .inl (upd fc np p1))), (kb, .inl (cI, 4, .inl (upd fl np p2))), (kc, .inl (cI, 4, .inl (upd fb np p3))), (kd, .inl (cI, 4, .inl (upd fs np p4)))]) [0, 1, 2, 3, 4] rfl) (hD.sub (ws' := [(pn, .inr (2, [.ref ka, .ref kb, .ref kc, .ref kd, .int (nI (np + 1))])), (ka, .inl (cI, 4, .inl (upd fc np p1))), (kb, .inl (cI, 4, .inl (upd fl np p2))), (kc, .inl (cI, 4, .inl (upd fb np p3))), (kd, .inl (cI, 4, .inl (upd fs np p4)))]) [0, 1, 2, 3, 4] (by decide) rfl) hS d_Plan_append_51
