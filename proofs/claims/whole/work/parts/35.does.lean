theorem tw_428 : (Cond.fieldLink R_Modl 26 "TwinGateModel" "held" "[J") ∈ TB_w := List.mem_filter.mpr ⟨List.mem_of_getElem? (i := 428) (by decide +kernel), by decide +kernel⟩
set_option maxRecDepth 20000 in
theorem tw_522 : (Cond.code y_Modl_may b_Modl_may 4 (some .boolean)) ∈ TB_w := List.mem_filter.mpr ⟨List.mem_of_getElem? (i := 522) rfl, by decide +kernel⟩
theorem tw_519 : (Cond.methodLink R_Modl 91 y_Modl_may) ∈ TB_w := List.mem_filter.mpr ⟨List.mem_of_getElem? (i := 519) (by decide +kernel), by decide +kernel⟩
theorem tw_521 : (Cond.instanceMethod y_Modl_may) ∈ TB_w := List.mem_filter.mpr ⟨List.mem_of_getElem? (i := 521) (by decide +kernel), by decide +kernel⟩
theorem tw_17 : (Cond.selects R_Modl y_Modl_may y_Modl_may) ∈ TB_w := List.mem_filter.mpr ⟨List.mem_of_getElem? (i := 17) (by decide +kernel), by decide +kernel⟩
theorem tw_516 : (Cond.constantLong R_Modl 79 (-1)) ∈ TB_w := List.mem_filter.mpr ⟨List.mem_of_getElem? (i := 516) (by decide +kernel), by decide +kernel⟩
theorem tw_517 : (Cond.constantLong R_Modl 81 (-9223372036854775808)) ∈ TB_w := List.mem_filter.mpr ⟨List.mem_of_getElem? (i := 517) (by decide +kernel), by decide +kernel⟩
theorem tw_434 : (Cond.fieldLink R_Modl 83 "TwinGateModel" "place" "I") ∈ TB_w := List.mem_filter.mpr ⟨List.mem_of_getElem? (i := 434) (by decide +kernel), by decide +kernel⟩
theorem tw_426 : (Cond.fieldLink R_Modl 20 "TwinGateModel" "given" "[I") ∈ TB_w := List.mem_filter.mpr ⟨List.mem_of_getElem? (i := 426) (by decide +kernel), by decide +kernel⟩
theorem tw_429 : (Cond.fieldLink R_Modl 30 "TwinGateModel" "put" "[J") ∈ TB_w := List.mem_filter.mpr ⟨List.mem_of_getElem? (i := 429) (by decide +kernel), by decide +kernel⟩
theorem tw_435 : (Cond.fieldLink R_Modl 86 "TwinGateModel" "ended" "Z") ∈ TB_w := List.mem_filter.mpr ⟨List.mem_of_getElem? (i := 435) (by decide +kernel), by decide +kernel⟩
theorem tw_518 : (Cond.constantLong R_Modl 89 16) ∈ TB_w := List.mem_filter.mpr ⟨List.mem_of_getElem? (i := 518) (by decide +kernel), by decide +kernel⟩
set_option maxHeartbeats 4000000 in
set_option maxRecDepth 100000 in
theorem c_Modl_does0 (l : Launch) (dC : Nat → ClassId) (dI : Nat → Nat → Nat) (cI cL : ClassId) (hs0 : Nat) (y0 : Nat) (th : Int32) (lm : Nat) (sz : Int32) (em : Int32) (lt : Int32) (sp : Int32) (np : Nat) (fd : Int32) (bg : Int32) (m_op : Nat) (m_nu : Nat) (m_gv : Nat) (m_sh : Nat) (m_he : Nat) (m_pu : Nat) (m_pc : Nat) (m_pl : Nat) (m_pb : Nat) (m_ps : Nat) (pv : Int32) (ev : Int32) (ra : Nat → Int64) (rb : Nat → Int64) (qa : Nat → Int64) (qb : Nat → Int64) (gg : Nat → Int32) (o0 : Int32) (n0 : Int32) (hv : ii_w o0 n0 = 1) : ct_i l y_Modl_does b_Modl_does 13 (some .boolean) ({ frames := 2, cells := 0, slots := 0, locals := 80 }) (dC, dI) cI cL [.ref y0, .int 0, .int o0, .int n0] [(y0, .inr (4, [.int th, .int (nI lm), .int sz, .int em, .int lt, .int sp, .int (nI np), .int fd, .int bg, .ref m_op, .ref m_nu, .ref m_gv, .ref m_sh, .ref m_he, .ref m_pu, .ref m_pc, .ref m_pl, .ref m_pb, .ref m_ps, .int pv, .int ev])), (m_he, .inl (cL, 36, .inr (.inl (hh_w ra rb)))), (m_pu, .inl (cL, 8, .inr (.inl (pp_w qa qb)))), (m_gv, .inl (cI, 4, .inl gg))] hs0 (fun (r : Int32) (u : (Nat → Int64) × (Nat → Int64) × Int32 × Int32) => r = dz_w (de_w 1 o0 n0 gg ra qa pv).1 ∧ u.1 = (de_w 1 o0 n0 gg ra qa pv).2.1 ∧ u.2.1 = (de_w 1 o0 n0 gg ra qa pv).2.2.1 ∧ u.2.2.1 = (de_w 1 o0 n0 gg ra qa pv).2.2.2 ∧ u.2.2.2 = en_w (de_w 1 o0 n0 gg ra qa pv).1 ev) (fun u => [(y0, .inr (4, [.int th, .int (nI lm), .int sz, .int em, .int lt, .int sp, .int (nI np), .int fd, .int bg, .ref m_op, .ref m_nu, .ref m_gv, .ref m_sh, .ref m_he, .ref m_pu, .ref m_pc, .ref m_pl, .ref m_pb, .ref m_ps, .int u.2.2.1, .int u.2.2.2])), (m_he, .inl (cL, 36, .inr (.inl (hh_w u.1 rb)))), (m_pu, .inl (cL, 8, .inr (.inl (pp_w u.2.1 qb)))), (m_gv, .inl (cI, 4, .inl gg))]) 0 0 := by
  refine st_w (Qc := fun A => va_Qi (fun (r : Int32) (u : (Nat → Int64) × (Nat → Int64) × Int32 × Int32) => r = dz_w (de_w 1 o0 n0 gg ra qa pv).1 ∧ u.1 = (de_w 1 o0 n0 gg ra qa pv).2.1 ∧ u.2.1 = (de_w 1 o0 n0 gg ra qa pv).2.2.1 ∧ u.2.2.1 = (de_w 1 o0 n0 gg ra qa pv).2.2.2 ∧ u.2.2.2 = en_w (de_w 1 o0 n0 gg ra qa pv).1 ev) (fun (u : (Nat → Int64) × (Nat → Int64) × Int32 × Int32) t => pos_w (dC, dI) A [(y0, .inr (4, [.int th, .int (nI lm), .int sz, .int em, .int lt, .int sp, .int (nI np), .int fd, .int bg, .ref m_op, .ref m_nu, .ref m_gv, .ref m_sh, .ref m_he, .ref m_pu, .ref m_pc, .ref m_pl, .ref m_pb, .ref m_ps, .int u.2.2.1, .int u.2.2.2])), (m_he, .inl (cL, 36, .inr (.inl (hh_w u.1 rb)))), (m_pu, .inl (cL, 8, .inr (.inl (pp_w u.2.1 qb)))), (m_gv, .inl (cI, 4, .inl gg))] t) A) (by decide) (Nat.le_of_ble_eq_true rfl) ?_
  intro p e s m below meth c A ls hfx hK hA hP hD hS hl
  obtain ⟨hx, hb, hml, hown, htb, hr, hlocks, hin⟩ := hfx
  have hl : lv_has ls 13 [(0, .ref y0), (1, .int 0), (2, .int o0), (3, .int n0)] := hl
  refine lv_bipush (v := 18) hx hb d_Modl_does_0 (by decide) ?_
  refine lv_iload_n hx hb d_Modl_does_2 rfl (lv_at hl 1 rfl) ?_
  refine lv_imul hx hb d_Modl_does_3 ?_
  refine W.eq (g2 := F0 m 4 ls [.int 0]) rfl ?_
  refine lv_istore (lv' := [(4, .int 0), (0, .ref y0), (1, .int 0), (2, .int o0), (3, .int n0)]) hx hb d_Modl_does_4 hl (by decide) rfl (fun ls hl => ?_)
  refine lv_aload_n hx hb d_Modl_does_6 rfl (lv_at hl 1 rfl) ?_
  refine va_get (D := (dC, dI)) (ci := 4) (v := .ref m_he) (C := R_Modl) (T := F_Modl) (N := 21) hx hb htb iw_Modl hown hK.1 hP 0 rfl rfl 13 (by decide) (htb _ tw_428) (fun _ h9 => h9) rfl d_Modl_does_7 ?_
  refine lv_iload hx hb d_Modl_does_10 (lv_at hl 0 rfl) ?_
  refine lv_bipush (v := 16) hx hb d_Modl_does_12 (by decide) ?_
  refine lv_iadd hx hb d_Modl_does_14 ?_
  refine W.eq (g2 := F0 m 15 ls [.int 16, .ref m_he]) rfl ?_
  refine ld_l (v := ra 16) (cA := cL) hx hb hK.1 hP 1 1 rfl rfl (show ¬ (_ ∨ _) by decide) rfl d_Modl_does_15 ?_
  refine lv_lstore (lv' := [(5, .long (ra 16)), (4, .int 0), (0, .ref y0), (1, .int 0), (2, .int o0), (3, .int n0)]) hx hb d_Modl_does_16 hl (by decide) rfl (fun ls hl => ?_)
  refine lv_aload_n hx hb d_Modl_does_18 rfl (lv_at hl 2 rfl) ?_
  refine va_get (D := (dC, dI)) (ci := 4) (v := .ref m_he) (C := R_Modl) (T := F_Modl) (N := 21) hx hb htb iw_Modl hown hK.1 hP 0 rfl rfl 13 (by decide) (htb _ tw_428) (fun _ h9 => h9) rfl d_Modl_does_19 ?_
  refine lv_iload hx hb d_Modl_does_22 (lv_at hl 1 rfl) ?_
  refine lv_bipush (v := 17) hx hb d_Modl_does_24 (by decide) ?_
  refine lv_iadd hx hb d_Modl_does_26 ?_
  refine W.eq (g2 := F0 m 27 ls [.int 17, .ref m_he]) rfl ?_
  refine ld_l (v := ra 17) (cA := cL) hx hb hK.1 hP 1 1 rfl rfl (show ¬ (_ ∨ _) by decide) rfl d_Modl_does_27 ?_
  refine lv_lstore (lv' := [(7, .long (ra 17)), (5, .long (ra 16)), (4, .int 0), (0, .ref y0), (1, .int 0), (2, .int o0), (3, .int n0)]) hx hb d_Modl_does_28 hl (by decide) rfl (fun ls hl => ?_)
  refine lv_lload hx hb d_Modl_does_30 (lv_at hl 1 rfl) ?_
  refine lv_lstore (lv' := [(9, .long (ra 16)), (7, .long (ra 17)), (5, .long (ra 16)), (4, .int 0), (0, .ref y0), (1, .int 0), (2, .int o0), (3, .int n0)]) hx hb d_Modl_does_32 hl (by decide) rfl (fun ls hl => ?_)
  refine lv_iload_n hx hb d_Modl_does_34 rfl (lv_at hl 6 rfl) ?_
  by_cases c_1 : o0 = 0
  · refine lv_tableIn (tgt := 108) hx hb d_Modl_does_35 (by rw [c_1]; decide) (by rw [c_1]; decide) (by rw [c_1]; rfl) (by decide) ?_
    subst c_1
    refine lv_iload_n hx hb d_Modl_does_108 rfl (lv_at hl 7 rfl) ?_
    refine lv_i2l (v := n0.toInt64) hx hb d_Modl_does_109 (by first | rfl | decide) ?_
    refine lv_aload_n hx hb d_Modl_does_110 rfl (lv_at hl 4 rfl) ?_
    refine lv_iload_n hx hb d_Modl_does_111 rfl (lv_at hl 5 rfl) ?_
    refine af_l (wr := [(m_he, .inl (cL, 36, .inr (.inl (hh_w ra rb)))), (m_pu, .inl (cL, 8, .inr (.inl (pp_w qa qb)))), (m_gv, .inl (cI, 4, .inl gg))]) (va_runV (As := [.int 0]) (rest := [.long n0.toInt64]) ⟨hx, hb, hml, hown, htb⟩ (c_Modl_times0 l dC dI cI cL s.heap.size y0 th lm sz em lt sp np fd bg m_op m_nu m_gv m_sh m_he m_pu m_pc m_pl m_pb m_ps pv ev ) ⟨callB_of 1 htb (gd_w tw_514) rfl rfl rfl (htb _ tw_25) (htb _ tw_511) (by decide +kernel) ⟨Nat.le_of_ble_eq_true rfl, Nat.le_of_ble_eq_true rfl⟩, htb _ tw_513, htb _ tw_16⟩ (pv_V hK (hP.sub (ws' := [(y0, .inr (4, [.int th, .int (nI lm), .int sz, .int em, .int lt, .int sp, .int (nI np), .int fd, .int bg, .ref m_op, .ref m_nu, .ref m_gv, .ref m_sh, .ref m_he, .ref m_pu, .ref m_pc, .ref m_pl, .ref m_pb, .ref m_ps, .int pv, .int ev]))]) [0] rfl) (hD.sub (ws' := [(y0, .inr (4, [.int th, .int (nI lm), .int sz, .int em, .int lt, .int sp, .int (nI np), .int fd, .int bg, .ref m_op, .ref m_nu, .ref m_gv, .ref m_sh, .ref m_he, .ref m_pu, .ref m_pc, .ref m_pl, .ref m_pb, .ref m_ps, .int pv, .int ev]))]) [0] (by decide) rfl) (ci := 4) (q0 := 0) rfl rfl) rfl rfl hl.1 rfl (lv_room (Nat.le_of_ble_eq_true rfl)) d_Modl_does_112 ⟨Nat.le_of_ble_eq_true rfl, Nat.le_of_ble_eq_true rfl⟩) hP hD hS hA [0] [1, 2, 3] rfl rfl (by decide) (by decide) (fun r_2 u_3 H locs hw hP hD hS => ?_)
    try dsimp only at hw
    subst hw
    have hP : va_P (dC, dI) classes [(m_he, .inl (cL, 36, .inr (.inl (hh_w ra rb)))), (m_pu, .inl (cL, 8, .inr (.inl (pp_w qa qb)))), (m_gv, .inl (cI, 4, .inl gg)), (y0, .inr (4, [.int th, .int (nI lm), .int sz, .int em, .int lt, .int sp, .int (nI np), .int fd, .int bg, .ref m_op, .ref m_nu, .ref m_gv, .ref m_sh, .ref m_he, .ref m_pu, .ref m_pc, .ref m_pl, .ref m_pb, .ref m_ps, .int pv, .int ev]))] H := hP
    have hD : va_D A [(m_he, .inl (cL, 36, .inr (.inl (hh_w ra rb)))), (m_pu, .inl (cL, 8, .inr (.inl (pp_w qa qb)))), (m_gv, .inl (cI, 4, .inl gg)), (y0, .inr (4, [.int th, .int (nI lm), .int sz, .int em, .int lt, .int sp, .int (nI np), .int fd, .int bg, .ref m_op, .ref m_nu, .ref m_gv, .ref m_sh, .ref m_he, .ref m_pu, .ref m_pc, .ref m_pl, .ref m_pb, .ref m_ps, .int pv, .int ev]))] := hD
    refine lv_lmul hx hb d_Modl_does_115 ?_
    refine lv_lstore (lv' := [(9, .long (n0.toInt64 * 1)), (7, .long (ra 17)), (5, .long (ra 16)), (4, .int 0), (0, .ref y0), (1, .int 0), (2, .int 0), (3, .int n0)]) hx hb d_Modl_does_116 hl (by decide) rfl (fun ls hl => ?_)
    refine lv_goto (tgt := 434) hx hb d_Modl_does_118 (by decide) ?_
    refine lv_aload_n hx hb d_Modl_does_434 rfl (lv_at hl 4 rfl) ?_
    refine va_get (D := (dC, dI)) (ci := 4) (v := .ref m_he) (C := R_Modl) (T := F_Modl) (N := 21) hx hb htb iw_Modl hown hK.1 hP 3 rfl rfl 13 (by decide) (htb _ tw_428) (fun _ h9 => h9) rfl d_Modl_does_435 ?_
    refine lv_iload hx hb d_Modl_does_438 (lv_at hl 3 rfl) ?_
    refine lv_bipush (v := 16) hx hb d_Modl_does_440 (by decide) ?_
    refine lv_iadd hx hb d_Modl_does_442 ?_
    refine W.eq (g2 := F0 m 443 ls [.int 16, .ref m_he]) rfl ?_
    refine lv_lload hx hb d_Modl_does_443 (lv_at hl 0 rfl) ?_
    refine sd_l (g := hh_w (vp_updL ra 16 (n0.toInt64 * 1)) rb) (cA := cL) hx hb hK.1 hP hD hS 0 1 rfl rfl (show ¬ (_ ∨ _) by decide) (hh_k0 (k := 16) (by decide)) d_Modl_does_445 (fun H locs hP hD hS => ?_)
    have hP : va_P (dC, dI) classes [(m_he, .inl (cL, 36, .inr (.inl (hh_w (vp_updL ra 16 (n0.toInt64 * 1)) rb)))), (m_pu, .inl (cL, 8, .inr (.inl (pp_w qa qb)))), (m_gv, .inl (cI, 4, .inl gg)), (y0, .inr (4, [.int th, .int (nI lm), .int sz, .int em, .int lt, .int sp, .int (nI np), .int fd, .int bg, .ref m_op, .ref m_nu, .ref m_gv, .ref m_sh, .ref m_he, .ref m_pu, .ref m_pc, .ref m_pl, .ref m_pb, .ref m_ps, .int pv, .int ev]))] H := hP
    have hD : va_D A [(m_he, .inl (cL, 36, .inr (.inl (hh_w (vp_updL ra 16 (n0.toInt64 * 1)) rb)))), (m_pu, .inl (cL, 8, .inr (.inl (pp_w qa qb)))), (m_gv, .inl (cI, 4, .inl gg)), (y0, .inr (4, [.int th, .int (nI lm), .int sz, .int em, .int lt, .int sp, .int (nI np), .int fd, .int bg, .ref m_op, .ref m_nu, .ref m_gv, .ref m_sh, .ref m_he, .ref m_pu, .ref m_pc, .ref m_pl, .ref m_pb, .ref m_ps, .int pv, .int ev]))] := hD
    refine lv_iload_n hx hb d_Modl_does_446 rfl (lv_at hl 6 rfl) ?_
    refine lv_iconst (v := 3) hx hb d_Modl_does_447 (by decide) ?_
    refine lv_icmp_le (tgt := 457) hx hb d_Modl_does_448 (by decide) (fun c_4 => ?_) (fun c_4 => ?_)
    · skip
      refine lv_iload_n hx hb d_Modl_does_457 rfl (lv_at hl 6 rfl) ?_
      refine lv_bipush (v := 9) hx hb d_Modl_does_458 (by decide) ?_
      refine lv_icmp_eq (tgt := 469) hx hb d_Modl_does_460 (by decide) (fun c_5 => ?_) (fun c_5 => ?_)
      · exact absurd c_5 (by decide)
      · skip
        refine lv_iload_n hx hb d_Modl_does_463 rfl (lv_at hl 6 rfl) ?_
        refine lv_bipush (v := 12) hx hb d_Modl_does_464 (by decide) ?_
        refine lv_icmp_ne (tgt := 473) hx hb d_Modl_does_466 (by decide) (fun c_6 => ?_) (fun c_6 => ?_)
        · skip
          refine lv_iconst (v := 0) hx hb d_Modl_does_473 (by decide) ?_
          refine lv_istore (lv' := [(11, .int 0), (9, .long (n0.toInt64 * 1)), (7, .long (ra 17)), (5, .long (ra 16)), (4, .int 0), (0, .ref y0), (1, .int 0), (2, .int 0), (3, .int n0)]) hx hb d_Modl_does_474 hl (by decide) rfl (fun ls hl => ?_)
          refine lv_iload hx hb d_Modl_does_476 (lv_at hl 0 rfl) ?_
          refine lv_if_eq (tgt := 491) hx hb d_Modl_does_478 (by decide) (fun c_7 => ?_) (fun c_7 => ?_)
          · skip
            refine lv_iconst (v := 1) hx hb d_Modl_does_491 (by decide) ?_
            refine lv_goto (tgt := 496) hx hb d_Modl_does_492 (by decide) ?_
            exact rt_z (v := 1) ((vp_updL ra 16 (n0.toInt64 * 1)), qa, pv, ev) hx hb hr hlocks (by decide) (show (1 : Int32) = dz_w (de_w 1 0 n0 gg ra qa pv).1 ∧ (vp_updL ra 16 (n0.toInt64 * 1)) = (de_w 1 0 n0 gg ra qa pv).2.1 ∧ qa = (de_w 1 0 n0 gg ra qa pv).2.2.1 ∧ pv = (de_w 1 0 n0 gg ra qa pv).2.2.2 ∧ ev = en_w (de_w 1 0 n0 gg ra qa pv).1 ev from (by exact ⟨rfl, rfl, rfl, rfl, rfl⟩)) (hP.sub (ws' := [(y0, .inr (4, [.int th, .int (nI lm), .int sz, .int em, .int lt, .int sp, .int (nI np), .int fd, .int bg, .ref m_op, .ref m_nu, .ref m_gv, .ref m_sh, .ref m_he, .ref m_pu, .ref m_pc, .ref m_pl, .ref m_pb, .ref m_ps, .int pv, .int ev])), (m_he, .inl (cL, 36, .inr (.inl (hh_w (vp_updL ra 16 (n0.toInt64 * 1)) rb)))), (m_pu, .inl (cL, 8, .inr (.inl (pp_w qa qb)))), (m_gv, .inl (cI, 4, .inl gg))]) [3, 0, 1, 2] rfl) (hD.sub (ws' := [(y0, .inr (4, [.int th, .int (nI lm), .int sz, .int em, .int lt, .int sp, .int (nI np), .int fd, .int bg, .ref m_op, .ref m_nu, .ref m_gv, .ref m_sh, .ref m_he, .ref m_pu, .ref m_pc, .ref m_pl, .ref m_pb, .ref m_ps, .int pv, .int ev])), (m_he, .inl (cL, 36, .inr (.inl (hh_w (vp_updL ra 16 (n0.toInt64 * 1)) rb)))), (m_pu, .inl (cL, 8, .inr (.inl (pp_w qa qb)))), (m_gv, .inl (cI, 4, .inl gg))]) [3, 0, 1, 2] (by decide) rfl) hS d_Modl_does_496
          · exact absurd (by decide) c_7
        · exact absurd c_6 (by decide)
    · exact absurd (by decide) c_4
  by_cases c_8 : o0 = 1
  · refine lv_tableIn (tgt := 121) hx hb d_Modl_does_35 (by rw [c_8]; decide) (by rw [c_8]; decide) (by rw [c_8]; rfl) (by decide) ?_
    subst c_8
    refine lv_aload_n hx hb d_Modl_does_121 rfl (lv_at hl 4 rfl) ?_
    refine va_get (D := (dC, dI)) (ci := 4) (v := .ref m_he) (C := R_Modl) (T := F_Modl) (N := 21) hx hb htb iw_Modl hown hK.1 hP 0 rfl rfl 13 (by decide) (htb _ tw_428) (fun _ h9 => h9) rfl d_Modl_does_122 ?_
    refine lv_iload hx hb d_Modl_does_125 (lv_at hl 3 rfl) ?_
    refine lv_iload_n hx hb d_Modl_does_127 rfl (lv_at hl 7 rfl) ?_
    refine lv_iadd hx hb d_Modl_does_128 ?_
    refine tp_i (Int32.zero_add _) ?_
    refine ld_l (v := ra n0.toNatClampNeg) (cA := cL) hx hb hK.1 hP 1 1 rfl rfl (vp_mono (ii_in1 hv) (by decide)) (hh_r0 (ii_in1 hv)) d_Modl_does_129 ?_
    refine lv_lstore (lv' := [(9, .long (ra n0.toNatClampNeg)), (7, .long (ra 17)), (5, .long (ra 16)), (4, .int 0), (0, .ref y0), (1, .int 0), (2, .int 1), (3, .int n0)]) hx hb d_Modl_does_130 hl (by decide) rfl (fun ls hl => ?_)
    refine lv_goto (tgt := 434) hx hb d_Modl_does_132 (by decide) ?_
    refine lv_aload_n hx hb d_Modl_does_434 rfl (lv_at hl 4 rfl) ?_
    refine va_get (D := (dC, dI)) (ci := 4) (v := .ref m_he) (C := R_Modl) (T := F_Modl) (N := 21) hx hb htb iw_Modl hown hK.1 hP 0 rfl rfl 13 (by decide) (htb _ tw_428) (fun _ h9 => h9) rfl d_Modl_does_435 ?_
    refine lv_iload hx hb d_Modl_does_438 (lv_at hl 3 rfl) ?_
    refine lv_bipush (v := 16) hx hb d_Modl_does_440 (by decide) ?_
    refine lv_iadd hx hb d_Modl_does_442 ?_
    refine W.eq (g2 := F0 m 443 ls [.int 16, .ref m_he]) rfl ?_
    refine lv_lload hx hb d_Modl_does_443 (lv_at hl 0 rfl) ?_
    refine sd_l (g := hh_w (vp_updL ra 16 (ra n0.toNatClampNeg)) rb) (cA := cL) hx hb hK.1 hP hD hS 1 1 rfl rfl (show ¬ (_ ∨ _) by decide) (hh_k0 (k := 16) (by decide)) d_Modl_does_445 (fun H locs hP hD hS => ?_)
    have hP : va_P (dC, dI) classes [(y0, .inr (4, [.int th, .int (nI lm), .int sz, .int em, .int lt, .int sp, .int (nI np), .int fd, .int bg, .ref m_op, .ref m_nu, .ref m_gv, .ref m_sh, .ref m_he, .ref m_pu, .ref m_pc, .ref m_pl, .ref m_pb, .ref m_ps, .int pv, .int ev])), (m_he, .inl (cL, 36, .inr (.inl (hh_w (vp_updL ra 16 (ra n0.toNatClampNeg)) rb)))), (m_pu, .inl (cL, 8, .inr (.inl (pp_w qa qb)))), (m_gv, .inl (cI, 4, .inl gg))] H := hP
    have hD : va_D A [(y0, .inr (4, [.int th, .int (nI lm), .int sz, .int em, .int lt, .int sp, .int (nI np), .int fd, .int bg, .ref m_op, .ref m_nu, .ref m_gv, .ref m_sh, .ref m_he, .ref m_pu, .ref m_pc, .ref m_pl, .ref m_pb, .ref m_ps, .int pv, .int ev])), (m_he, .inl (cL, 36, .inr (.inl (hh_w (vp_updL ra 16 (ra n0.toNatClampNeg)) rb)))), (m_pu, .inl (cL, 8, .inr (.inl (pp_w qa qb)))), (m_gv, .inl (cI, 4, .inl gg))] := hD
    refine lv_iload_n hx hb d_Modl_does_446 rfl (lv_at hl 6 rfl) ?_
    refine lv_iconst (v := 3) hx hb d_Modl_does_447 (by decide) ?_
    refine lv_icmp_le (tgt := 457) hx hb d_Modl_does_448 (by decide) (fun c_9 => ?_) (fun c_9 => ?_)
    · skip
      refine lv_iload_n hx hb d_Modl_does_457 rfl (lv_at hl 6 rfl) ?_
      refine lv_bipush (v := 9) hx hb d_Modl_does_458 (by decide) ?_
      refine lv_icmp_eq (tgt := 469) hx hb d_Modl_does_460 (by decide) (fun c_10 => ?_) (fun c_10 => ?_)
      · exact absurd c_10 (by decide)
      · skip
        refine lv_iload_n hx hb d_Modl_does_463 rfl (lv_at hl 6 rfl) ?_
        refine lv_bipush (v := 12) hx hb d_Modl_does_464 (by decide) ?_
        refine lv_icmp_ne (tgt := 473) hx hb d_Modl_does_466 (by decide) (fun c_11 => ?_) (fun c_11 => ?_)
        · skip
          refine lv_iconst (v := 0) hx hb d_Modl_does_473 (by decide) ?_
          refine lv_istore (lv' := [(11, .int 0), (9, .long (ra n0.toNatClampNeg)), (7, .long (ra 17)), (5, .long (ra 16)), (4, .int 0), (0, .ref y0), (1, .int 0), (2, .int 1), (3, .int n0)]) hx hb d_Modl_does_474 hl (by decide) rfl (fun ls hl => ?_)
          refine lv_iload hx hb d_Modl_does_476 (lv_at hl 0 rfl) ?_
          refine lv_if_eq (tgt := 491) hx hb d_Modl_does_478 (by decide) (fun c_12 => ?_) (fun c_12 => ?_)
          · skip
            refine lv_iconst (v := 1) hx hb d_Modl_does_491 (by decide) ?_
            refine lv_goto (tgt := 496) hx hb d_Modl_does_492 (by decide) ?_
            exact rt_z (v := 1) ((vp_updL ra 16 (ra n0.toNatClampNeg)), qa, pv, ev) hx hb hr hlocks (by decide) (show (1 : Int32) = dz_w (de_w 1 1 n0 gg ra qa pv).1 ∧ (vp_updL ra 16 (ra n0.toNatClampNeg)) = (de_w 1 1 n0 gg ra qa pv).2.1 ∧ qa = (de_w 1 1 n0 gg ra qa pv).2.2.1 ∧ pv = (de_w 1 1 n0 gg ra qa pv).2.2.2 ∧ ev = en_w (de_w 1 1 n0 gg ra qa pv).1 ev from (by exact ⟨rfl, rfl, rfl, rfl, rfl⟩)) (hP.sub (ws' := [(y0, .inr (4, [.int th, .int (nI lm), .int sz, .int em, .int lt, .int sp, .int (nI np), .int fd, .int bg, .ref m_op, .ref m_nu, .ref m_gv, .ref m_sh, .ref m_he, .ref m_pu, .ref m_pc, .ref m_pl, .ref m_pb, .ref m_ps, .int pv, .int ev])), (m_he, .inl (cL, 36, .inr (.inl (hh_w (vp_updL ra 16 (ra n0.toNatClampNeg)) rb)))), (m_pu, .inl (cL, 8, .inr (.inl (pp_w qa qb)))), (m_gv, .inl (cI, 4, .inl gg))]) [0, 1, 2, 3] rfl) (hD.sub (ws' := [(y0, .inr (4, [.int th, .int (nI lm), .int sz, .int em, .int lt, .int sp, .int (nI np), .int fd, .int bg, .ref m_op, .ref m_nu, .ref m_gv, .ref m_sh, .ref m_he, .ref m_pu, .ref m_pc, .ref m_pl, .ref m_pb, .ref m_ps, .int pv, .int ev])), (m_he, .inl (cL, 36, .inr (.inl (hh_w (vp_updL ra 16 (ra n0.toNatClampNeg)) rb)))), (m_pu, .inl (cL, 8, .inr (.inl (pp_w qa qb)))), (m_gv, .inl (cI, 4, .inl gg))]) [0, 1, 2, 3] (by decide) rfl) hS d_Modl_does_496
          · exact absurd (by decide) c_12
        · exact absurd c_11 (by decide)
    · exact absurd (by decide) c_9
  by_cases c_13 : o0 = 2
  · refine lv_tableIn (tgt := 135) hx hb d_Modl_does_35 (by rw [c_13]; decide) (by rw [c_13]; decide) (by rw [c_13]; rfl) (by decide) ?_
    subst c_13
    refine lv_aload_n hx hb d_Modl_does_135 rfl (lv_at hl 4 rfl) ?_
    refine va_get (D := (dC, dI)) (ci := 4) (v := .ref m_he) (C := R_Modl) (T := F_Modl) (N := 21) hx hb htb iw_Modl hown hK.1 hP 0 rfl rfl 13 (by decide) (htb _ tw_428) (fun _ h9 => h9) rfl d_Modl_does_136 ?_
    refine lv_iload hx hb d_Modl_does_139 (lv_at hl 3 rfl) ?_
    refine lv_iload_n hx hb d_Modl_does_141 rfl (lv_at hl 7 rfl) ?_
    refine lv_iadd hx hb d_Modl_does_142 ?_
    refine tp_i (Int32.zero_add _) ?_
    refine lv_lload hx hb d_Modl_does_143 (lv_at hl 2 rfl) ?_
    refine sd_l (g := hh_w (vp_updL ra n0.toNatClampNeg (ra 16)) rb) (cA := cL) hx hb hK.1 hP hD hS 1 1 rfl rfl (vp_mono (ii_in2 hv) (by decide)) (hh_u0 (ii_in2 hv)) d_Modl_does_145 (fun H locs hP hD hS => ?_)
    have hP : va_P (dC, dI) classes [(y0, .inr (4, [.int th, .int (nI lm), .int sz, .int em, .int lt, .int sp, .int (nI np), .int fd, .int bg, .ref m_op, .ref m_nu, .ref m_gv, .ref m_sh, .ref m_he, .ref m_pu, .ref m_pc, .ref m_pl, .ref m_pb, .ref m_ps, .int pv, .int ev])), (m_he, .inl (cL, 36, .inr (.inl (hh_w (vp_updL ra n0.toNatClampNeg (ra 16)) rb)))), (m_pu, .inl (cL, 8, .inr (.inl (pp_w qa qb)))), (m_gv, .inl (cI, 4, .inl gg))] H := hP
    have hD : va_D A [(y0, .inr (4, [.int th, .int (nI lm), .int sz, .int em, .int lt, .int sp, .int (nI np), .int fd, .int bg, .ref m_op, .ref m_nu, .ref m_gv, .ref m_sh, .ref m_he, .ref m_pu, .ref m_pc, .ref m_pl, .ref m_pb, .ref m_ps, .int pv, .int ev])), (m_he, .inl (cL, 36, .inr (.inl (hh_w (vp_updL ra n0.toNatClampNeg (ra 16)) rb)))), (m_pu, .inl (cL, 8, .inr (.inl (pp_w qa qb)))), (m_gv, .inl (cI, 4, .inl gg))] := hD
    refine lv_goto (tgt := 434) hx hb d_Modl_does_146 (by decide) ?_
    refine lv_aload_n hx hb d_Modl_does_434 rfl (lv_at hl 4 rfl) ?_
    refine va_get (D := (dC, dI)) (ci := 4) (v := .ref m_he) (C := R_Modl) (T := F_Modl) (N := 21) hx hb htb iw_Modl hown hK.1 hP 0 rfl rfl 13 (by decide) (htb _ tw_428) (fun _ h9 => h9) rfl d_Modl_does_435 ?_
    refine lv_iload hx hb d_Modl_does_438 (lv_at hl 3 rfl) ?_
    refine lv_bipush (v := 16) hx hb d_Modl_does_440 (by decide) ?_
    refine lv_iadd hx hb d_Modl_does_442 ?_
    refine W.eq (g2 := F0 m 443 ls [.int 16, .ref m_he]) rfl ?_
    refine lv_lload hx hb d_Modl_does_443 (lv_at hl 0 rfl) ?_
    refine sd_l (g := hh_w (vp_updL (vp_updL ra n0.toNatClampNeg (ra 16)) 16 (ra 16)) rb) (cA := cL) hx hb hK.1 hP hD hS 1 1 rfl rfl (show ¬ (_ ∨ _) by decide) (hh_k0 (k := 16) (by decide)) d_Modl_does_445 (fun H locs hP hD hS => ?_)
    have hP : va_P (dC, dI) classes [(y0, .inr (4, [.int th, .int (nI lm), .int sz, .int em, .int lt, .int sp, .int (nI np), .int fd, .int bg, .ref m_op, .ref m_nu, .ref m_gv, .ref m_sh, .ref m_he, .ref m_pu, .ref m_pc, .ref m_pl, .ref m_pb, .ref m_ps, .int pv, .int ev])), (m_he, .inl (cL, 36, .inr (.inl (hh_w (vp_updL (vp_updL ra n0.toNatClampNeg (ra 16)) 16 (ra 16)) rb)))), (m_pu, .inl (cL, 8, .inr (.inl (pp_w qa qb)))), (m_gv, .inl (cI, 4, .inl gg))] H := hP
    have hD : va_D A [(y0, .inr (4, [.int th, .int (nI lm), .int sz, .int em, .int lt, .int sp, .int (nI np), .int fd, .int bg, .ref m_op, .ref m_nu, .ref m_gv, .ref m_sh, .ref m_he, .ref m_pu, .ref m_pc, .ref m_pl, .ref m_pb, .ref m_ps, .int pv, .int ev])), (m_he, .inl (cL, 36, .inr (.inl (hh_w (vp_updL (vp_updL ra n0.toNatClampNeg (ra 16)) 16 (ra 16)) rb)))), (m_pu, .inl (cL, 8, .inr (.inl (pp_w qa qb)))), (m_gv, .inl (cI, 4, .inl gg))] := hD
    refine lv_iload_n hx hb d_Modl_does_446 rfl (lv_at hl 6 rfl) ?_
    refine lv_iconst (v := 3) hx hb d_Modl_does_447 (by decide) ?_
    refine lv_icmp_le (tgt := 457) hx hb d_Modl_does_448 (by decide) (fun c_14 => ?_) (fun c_14 => ?_)
    · skip
      refine lv_iload_n hx hb d_Modl_does_457 rfl (lv_at hl 6 rfl) ?_
      refine lv_bipush (v := 9) hx hb d_Modl_does_458 (by decide) ?_
      refine lv_icmp_eq (tgt := 469) hx hb d_Modl_does_460 (by decide) (fun c_15 => ?_) (fun c_15 => ?_)
      · exact absurd c_15 (by decide)
      · skip
        refine lv_iload_n hx hb d_Modl_does_463 rfl (lv_at hl 6 rfl) ?_
        refine lv_bipush (v := 12) hx hb d_Modl_does_464 (by decide) ?_
        refine lv_icmp_ne (tgt := 473) hx hb d_Modl_does_466 (by decide) (fun c_16 => ?_) (fun c_16 => ?_)
        · skip
          refine lv_iconst (v := 0) hx hb d_Modl_does_473 (by decide) ?_
          refine lv_istore (lv' := [(11, .int 0), (9, .long (ra 16)), (7, .long (ra 17)), (5, .long (ra 16)), (4, .int 0), (0, .ref y0), (1, .int 0), (2, .int 2), (3, .int n0)]) hx hb d_Modl_does_474 hl (by decide) rfl (fun ls hl => ?_)
          refine lv_iload hx hb d_Modl_does_476 (lv_at hl 0 rfl) ?_
          refine lv_if_eq (tgt := 491) hx hb d_Modl_does_478 (by decide) (fun c_17 => ?_) (fun c_17 => ?_)
          · skip
            refine lv_iconst (v := 1) hx hb d_Modl_does_491 (by decide) ?_
            refine lv_goto (tgt := 496) hx hb d_Modl_does_492 (by decide) ?_
            exact rt_z (v := 1) ((vp_updL (vp_updL ra n0.toNatClampNeg (ra 16)) 16 (ra 16)), qa, pv, ev) hx hb hr hlocks (by decide) (show (1 : Int32) = dz_w (de_w 1 2 n0 gg ra qa pv).1 ∧ (vp_updL (vp_updL ra n0.toNatClampNeg (ra 16)) 16 (ra 16)) = (de_w 1 2 n0 gg ra qa pv).2.1 ∧ qa = (de_w 1 2 n0 gg ra qa pv).2.2.1 ∧ pv = (de_w 1 2 n0 gg ra qa pv).2.2.2 ∧ ev = en_w (de_w 1 2 n0 gg ra qa pv).1 ev from (⟨rfl, up_n (ii_n16 hv), rfl, rfl, rfl⟩)) (hP.sub (ws' := [(y0, .inr (4, [.int th, .int (nI lm), .int sz, .int em, .int lt, .int sp, .int (nI np), .int fd, .int bg, .ref m_op, .ref m_nu, .ref m_gv, .ref m_sh, .ref m_he, .ref m_pu, .ref m_pc, .ref m_pl, .ref m_pb, .ref m_ps, .int pv, .int ev])), (m_he, .inl (cL, 36, .inr (.inl (hh_w (vp_updL (vp_updL ra n0.toNatClampNeg (ra 16)) 16 (ra 16)) rb)))), (m_pu, .inl (cL, 8, .inr (.inl (pp_w qa qb)))), (m_gv, .inl (cI, 4, .inl gg))]) [0, 1, 2, 3] rfl) (hD.sub (ws' := [(y0, .inr (4, [.int th, .int (nI lm), .int sz, .int em, .int lt, .int sp, .int (nI np), .int fd, .int bg, .ref m_op, .ref m_nu, .ref m_gv, .ref m_sh, .ref m_he, .ref m_pu, .ref m_pc, .ref m_pl, .ref m_pb, .ref m_ps, .int pv, .int ev])), (m_he, .inl (cL, 36, .inr (.inl (hh_w (vp_updL (vp_updL ra n0.toNatClampNeg (ra 16)) 16 (ra 16)) rb)))), (m_pu, .inl (cL, 8, .inr (.inl (pp_w qa qb)))), (m_gv, .inl (cI, 4, .inl gg))]) [0, 1, 2, 3] (by decide) rfl) hS d_Modl_does_496
          · exact absurd (by decide) c_17
        · exact absurd c_16 (by decide)
    · exact absurd (by decide) c_14
  by_cases c_18 : o0 = 3
  · refine lv_tableIn (tgt := 149) hx hb d_Modl_does_35 (by rw [c_18]; decide) (by rw [c_18]; decide) (by rw [c_18]; rfl) (by decide) ?_
    subst c_18
    refine lv_aload_n hx hb d_Modl_does_149 rfl (lv_at hl 4 rfl) ?_
    refine va_get (D := (dC, dI)) (ci := 4) (v := .ref m_he) (C := R_Modl) (T := F_Modl) (N := 21) hx hb htb iw_Modl hown hK.1 hP 0 rfl rfl 13 (by decide) (htb _ tw_428) (fun _ h9 => h9) rfl d_Modl_does_150 ?_
    refine lv_iload hx hb d_Modl_does_153 (lv_at hl 3 rfl) ?_
    refine lv_bipush (v := 17) hx hb d_Modl_does_155 (by decide) ?_
    refine lv_iadd hx hb d_Modl_does_157 ?_
    refine W.eq (g2 := F0 m 158 ls [.int 17, .ref m_he]) rfl ?_
    refine lv_lload hx hb d_Modl_does_158 (lv_at hl 2 rfl) ?_
    refine sd_l (g := hh_w (vp_updL ra 17 (ra 16)) rb) (cA := cL) hx hb hK.1 hP hD hS 1 1 rfl rfl (show ¬ (_ ∨ _) by decide) (hh_k0 (k := 17) (by decide)) d_Modl_does_160 (fun H locs hP hD hS => ?_)
    have hP : va_P (dC, dI) classes [(y0, .inr (4, [.int th, .int (nI lm), .int sz, .int em, .int lt, .int sp, .int (nI np), .int fd, .int bg, .ref m_op, .ref m_nu, .ref m_gv, .ref m_sh, .ref m_he, .ref m_pu, .ref m_pc, .ref m_pl, .ref m_pb, .ref m_ps, .int pv, .int ev])), (m_he, .inl (cL, 36, .inr (.inl (hh_w (vp_updL ra 17 (ra 16)) rb)))), (m_pu, .inl (cL, 8, .inr (.inl (pp_w qa qb)))), (m_gv, .inl (cI, 4, .inl gg))] H := hP
    have hD : va_D A [(y0, .inr (4, [.int th, .int (nI lm), .int sz, .int em, .int lt, .int sp, .int (nI np), .int fd, .int bg, .ref m_op, .ref m_nu, .ref m_gv, .ref m_sh, .ref m_he, .ref m_pu, .ref m_pc, .ref m_pl, .ref m_pb, .ref m_ps, .int pv, .int ev])), (m_he, .inl (cL, 36, .inr (.inl (hh_w (vp_updL ra 17 (ra 16)) rb)))), (m_pu, .inl (cL, 8, .inr (.inl (pp_w qa qb)))), (m_gv, .inl (cI, 4, .inl gg))] := hD
    refine lv_goto (tgt := 434) hx hb d_Modl_does_161 (by decide) ?_
    refine lv_aload_n hx hb d_Modl_does_434 rfl (lv_at hl 4 rfl) ?_
    refine va_get (D := (dC, dI)) (ci := 4) (v := .ref m_he) (C := R_Modl) (T := F_Modl) (N := 21) hx hb htb iw_Modl hown hK.1 hP 0 rfl rfl 13 (by decide) (htb _ tw_428) (fun _ h9 => h9) rfl d_Modl_does_435 ?_
    refine lv_iload hx hb d_Modl_does_438 (lv_at hl 3 rfl) ?_
    refine lv_bipush (v := 16) hx hb d_Modl_does_440 (by decide) ?_
    refine lv_iadd hx hb d_Modl_does_442 ?_
    refine W.eq (g2 := F0 m 443 ls [.int 16, .ref m_he]) rfl ?_
    refine lv_lload hx hb d_Modl_does_443 (lv_at hl 0 rfl) ?_
    refine sd_l (g := hh_w (vp_updL (vp_updL ra 17 (ra 16)) 16 (ra 16)) rb) (cA := cL) hx hb hK.1 hP hD hS 1 1 rfl rfl (show ¬ (_ ∨ _) by decide) (hh_k0 (k := 16) (by decide)) d_Modl_does_445 (fun H locs hP hD hS => ?_)
    have hP : va_P (dC, dI) classes [(y0, .inr (4, [.int th, .int (nI lm), .int sz, .int em, .int lt, .int sp, .int (nI np), .int fd, .int bg, .ref m_op, .ref m_nu, .ref m_gv, .ref m_sh, .ref m_he, .ref m_pu, .ref m_pc, .ref m_pl, .ref m_pb, .ref m_ps, .int pv, .int ev])), (m_he, .inl (cL, 36, .inr (.inl (hh_w (vp_updL (vp_updL ra 17 (ra 16)) 16 (ra 16)) rb)))), (m_pu, .inl (cL, 8, .inr (.inl (pp_w qa qb)))), (m_gv, .inl (cI, 4, .inl gg))] H := hP
    have hD : va_D A [(y0, .inr (4, [.int th, .int (nI lm), .int sz, .int em, .int lt, .int sp, .int (nI np), .int fd, .int bg, .ref m_op, .ref m_nu, .ref m_gv, .ref m_sh, .ref m_he, .ref m_pu, .ref m_pc, .ref m_pl, .ref m_pb, .ref m_ps, .int pv, .int ev])), (m_he, .inl (cL, 36, .inr (.inl (hh_w (vp_updL (vp_updL ra 17 (ra 16)) 16 (ra 16)) rb)))), (m_pu, .inl (cL, 8, .inr (.inl (pp_w qa qb)))), (m_gv, .inl (cI, 4, .inl gg))] := hD
    refine lv_iload_n hx hb d_Modl_does_446 rfl (lv_at hl 6 rfl) ?_
    refine lv_iconst (v := 3) hx hb d_Modl_does_447 (by decide) ?_
    refine lv_icmp_le (tgt := 457) hx hb d_Modl_does_448 (by decide) (fun c_19 => ?_) (fun c_19 => ?_)
    · skip
      refine lv_iload_n hx hb d_Modl_does_457 rfl (lv_at hl 6 rfl) ?_
      refine lv_bipush (v := 9) hx hb d_Modl_does_458 (by decide) ?_
      refine lv_icmp_eq (tgt := 469) hx hb d_Modl_does_460 (by decide) (fun c_20 => ?_) (fun c_20 => ?_)
      · exact absurd c_20 (by decide)
      · skip
        refine lv_iload_n hx hb d_Modl_does_463 rfl (lv_at hl 6 rfl) ?_
        refine lv_bipush (v := 12) hx hb d_Modl_does_464 (by decide) ?_
        refine lv_icmp_ne (tgt := 473) hx hb d_Modl_does_466 (by decide) (fun c_21 => ?_) (fun c_21 => ?_)
        · skip
          refine lv_iconst (v := 0) hx hb d_Modl_does_473 (by decide) ?_
          refine lv_istore (lv' := [(11, .int 0), (9, .long (ra 16)), (7, .long (ra 17)), (5, .long (ra 16)), (4, .int 0), (0, .ref y0), (1, .int 0), (2, .int 3), (3, .int n0)]) hx hb d_Modl_does_474 hl (by decide) rfl (fun ls hl => ?_)
          refine lv_iload hx hb d_Modl_does_476 (lv_at hl 0 rfl) ?_
          refine lv_if_eq (tgt := 491) hx hb d_Modl_does_478 (by decide) (fun c_22 => ?_) (fun c_22 => ?_)
          · skip
            refine lv_iconst (v := 1) hx hb d_Modl_does_491 (by decide) ?_
            refine lv_goto (tgt := 496) hx hb d_Modl_does_492 (by decide) ?_
            exact rt_z (v := 1) ((vp_updL (vp_updL ra 17 (ra 16)) 16 (ra 16)), qa, pv, ev) hx hb hr hlocks (by decide) (show (1 : Int32) = dz_w (de_w 1 3 n0 gg ra qa pv).1 ∧ (vp_updL (vp_updL ra 17 (ra 16)) 16 (ra 16)) = (de_w 1 3 n0 gg ra qa pv).2.1 ∧ qa = (de_w 1 3 n0 gg ra qa pv).2.2.1 ∧ pv = (de_w 1 3 n0 gg ra qa pv).2.2.2 ∧ ev = en_w (de_w 1 3 n0 gg ra qa pv).1 ev from (⟨rfl, up_17 ra, rfl, rfl, rfl⟩)) (hP.sub (ws' := [(y0, .inr (4, [.int th, .int (nI lm), .int sz, .int em, .int lt, .int sp, .int (nI np), .int fd, .int bg, .ref m_op, .ref m_nu, .ref m_gv, .ref m_sh, .ref m_he, .ref m_pu, .ref m_pc, .ref m_pl, .ref m_pb, .ref m_ps, .int pv, .int ev])), (m_he, .inl (cL, 36, .inr (.inl (hh_w (vp_updL (vp_updL ra 17 (ra 16)) 16 (ra 16)) rb)))), (m_pu, .inl (cL, 8, .inr (.inl (pp_w qa qb)))), (m_gv, .inl (cI, 4, .inl gg))]) [0, 1, 2, 3] rfl) (hD.sub (ws' := [(y0, .inr (4, [.int th, .int (nI lm), .int sz, .int em, .int lt, .int sp, .int (nI np), .int fd, .int bg, .ref m_op, .ref m_nu, .ref m_gv, .ref m_sh, .ref m_he, .ref m_pu, .ref m_pc, .ref m_pl, .ref m_pb, .ref m_ps, .int pv, .int ev])), (m_he, .inl (cL, 36, .inr (.inl (hh_w (vp_updL (vp_updL ra 17 (ra 16)) 16 (ra 16)) rb)))), (m_pu, .inl (cL, 8, .inr (.inl (pp_w qa qb)))), (m_gv, .inl (cI, 4, .inl gg))]) [0, 1, 2, 3] (by decide) rfl) hS d_Modl_does_496
          · exact absurd (by decide) c_22
        · exact absurd c_21 (by decide)
    · exact absurd (by decide) c_19
  by_cases c_23 : o0 = 4
  · refine lv_tableIn (tgt := 164) hx hb d_Modl_does_35 (by rw [c_23]; decide) (by rw [c_23]; decide) (by rw [c_23]; rfl) (by decide) ?_
    subst c_23
    refine lv_lload hx hb d_Modl_does_164 (lv_at hl 2 rfl) ?_
    refine lv_lload hx hb d_Modl_does_166 (lv_at hl 1 rfl) ?_
    refine lv_ladd hx hb d_Modl_does_168 ?_
    refine lv_lstore (lv' := [(9, .long ((ra 16) + (ra 17))), (7, .long (ra 17)), (5, .long (ra 16)), (4, .int 0), (0, .ref y0), (1, .int 0), (2, .int 4), (3, .int n0)]) hx hb d_Modl_does_169 hl (by decide) rfl (fun ls hl => ?_)
    refine lv_goto (tgt := 434) hx hb d_Modl_does_171 (by decide) ?_
    refine lv_aload_n hx hb d_Modl_does_434 rfl (lv_at hl 4 rfl) ?_
    refine va_get (D := (dC, dI)) (ci := 4) (v := .ref m_he) (C := R_Modl) (T := F_Modl) (N := 21) hx hb htb iw_Modl hown hK.1 hP 0 rfl rfl 13 (by decide) (htb _ tw_428) (fun _ h9 => h9) rfl d_Modl_does_435 ?_
    refine lv_iload hx hb d_Modl_does_438 (lv_at hl 3 rfl) ?_
    refine lv_bipush (v := 16) hx hb d_Modl_does_440 (by decide) ?_
    refine lv_iadd hx hb d_Modl_does_442 ?_
    refine W.eq (g2 := F0 m 443 ls [.int 16, .ref m_he]) rfl ?_
    refine lv_lload hx hb d_Modl_does_443 (lv_at hl 0 rfl) ?_
    refine sd_l (g := hh_w (vp_updL ra 16 ((ra 16) + (ra 17))) rb) (cA := cL) hx hb hK.1 hP hD hS 1 1 rfl rfl (show ¬ (_ ∨ _) by decide) (hh_k0 (k := 16) (by decide)) d_Modl_does_445 (fun H locs hP hD hS => ?_)
    have hP : va_P (dC, dI) classes [(y0, .inr (4, [.int th, .int (nI lm), .int sz, .int em, .int lt, .int sp, .int (nI np), .int fd, .int bg, .ref m_op, .ref m_nu, .ref m_gv, .ref m_sh, .ref m_he, .ref m_pu, .ref m_pc, .ref m_pl, .ref m_pb, .ref m_ps, .int pv, .int ev])), (m_he, .inl (cL, 36, .inr (.inl (hh_w (vp_updL ra 16 ((ra 16) + (ra 17))) rb)))), (m_pu, .inl (cL, 8, .inr (.inl (pp_w qa qb)))), (m_gv, .inl (cI, 4, .inl gg))] H := hP
    have hD : va_D A [(y0, .inr (4, [.int th, .int (nI lm), .int sz, .int em, .int lt, .int sp, .int (nI np), .int fd, .int bg, .ref m_op, .ref m_nu, .ref m_gv, .ref m_sh, .ref m_he, .ref m_pu, .ref m_pc, .ref m_pl, .ref m_pb, .ref m_ps, .int pv, .int ev])), (m_he, .inl (cL, 36, .inr (.inl (hh_w (vp_updL ra 16 ((ra 16) + (ra 17))) rb)))), (m_pu, .inl (cL, 8, .inr (.inl (pp_w qa qb)))), (m_gv, .inl (cI, 4, .inl gg))] := hD
    refine lv_iload_n hx hb d_Modl_does_446 rfl (lv_at hl 6 rfl) ?_
    refine lv_iconst (v := 3) hx hb d_Modl_does_447 (by decide) ?_
    refine lv_icmp_le (tgt := 457) hx hb d_Modl_does_448 (by decide) (fun c_24 => ?_) (fun c_24 => ?_)
    · exact absurd c_24 (by decide)
    · skip
      refine lv_iload_n hx hb d_Modl_does_451 rfl (lv_at hl 6 rfl) ?_
      refine lv_bipush (v := 7) hx hb d_Modl_does_452 (by decide) ?_
      refine lv_icmp_lt (tgt := 469) hx hb d_Modl_does_454 (by decide) (fun c_25 => ?_) (fun c_25 => ?_)
      · skip
        refine lv_iconst (v := 1) hx hb d_Modl_does_469 (by decide) ?_
        refine lv_goto (tgt := 474) hx hb d_Modl_does_470 (by decide) ?_
        refine lv_istore (lv' := [(11, .int 1), (9, .long ((ra 16) + (ra 17))), (7, .long (ra 17)), (5, .long (ra 16)), (4, .int 0), (0, .ref y0), (1, .int 0), (2, .int 4), (3, .int n0)]) hx hb d_Modl_does_474 hl (by decide) rfl (fun ls hl => ?_)
        refine lv_iload hx hb d_Modl_does_476 (lv_at hl 0 rfl) ?_
        refine lv_if_eq (tgt := 491) hx hb d_Modl_does_478 (by decide) (fun c_26 => ?_) (fun c_26 => ?_)
        · exact absurd c_26 (by decide)
        · skip
          refine lv_aload_n hx hb d_Modl_does_481 rfl (lv_at hl 5 rfl) ?_
          refine lv_iload_n hx hb d_Modl_does_482 rfl (lv_at hl 6 rfl) ?_
          refine lv_lload hx hb d_Modl_does_483 (lv_at hl 1 rfl) ?_
          refine af_i (wr := [(m_he, .inl (cL, 36, .inr (.inl (hh_w (vp_updL ra 16 ((ra 16) + (ra 17))) rb)))), (m_pu, .inl (cL, 8, .inr (.inl (pp_w qa qb)))), (m_gv, .inl (cI, 4, .inl gg))]) (va_runV (As := [.int 0, .long ((ra 16) + (ra 17))]) (rest := []) ⟨hx, hb, hml, hown, htb⟩ (c_Modl_may0 l dC dI cI cL H.size y0 th lm sz em lt sp np fd bg m_op m_nu m_gv m_sh m_he m_pu m_pc m_pl m_pb m_ps pv ev ((ra 16) + (ra 17)) ) ⟨callB_of 2 htb (gd_w tw_522) rfl rfl rfl (htb _ tw_25) (htb _ tw_519) (by decide +kernel) ⟨Nat.le_of_ble_eq_true rfl, Nat.le_of_ble_eq_true rfl⟩, htb _ tw_521, htb _ tw_17⟩ (pv_V hK (hP.sub (ws' := [(y0, .inr (4, [.int th, .int (nI lm), .int sz, .int em, .int lt, .int sp, .int (nI np), .int fd, .int bg, .ref m_op, .ref m_nu, .ref m_gv, .ref m_sh, .ref m_he, .ref m_pu, .ref m_pc, .ref m_pl, .ref m_pb, .ref m_ps, .int pv, .int ev]))]) [0] rfl) (hD.sub (ws' := [(y0, .inr (4, [.int th, .int (nI lm), .int sz, .int em, .int lt, .int sp, .int (nI np), .int fd, .int bg, .ref m_op, .ref m_nu, .ref m_gv, .ref m_sh, .ref m_he, .ref m_pu, .ref m_pc, .ref m_pl, .ref m_pb, .ref m_ps, .int pv, .int ev]))]) [0] (by decide) rfl) (ci := 4) (q0 := 0) rfl rfl) rfl rfl hl.1 rfl (lv_room (Nat.le_of_ble_eq_true rfl)) d_Modl_does_485 ⟨Nat.le_of_ble_eq_true rfl, Nat.le_of_ble_eq_true rfl⟩) hP hD hS hA [0] [1, 2, 3] rfl rfl (by decide) (by decide) (fun r_27 u_28 H locs hw hP hD hS => ?_)
          try dsimp only at hw
          subst hw
          have hP : va_P (dC, dI) classes [(m_he, .inl (cL, 36, .inr (.inl (hh_w (vp_updL ra 16 ((ra 16) + (ra 17))) rb)))), (m_pu, .inl (cL, 8, .inr (.inl (pp_w qa qb)))), (m_gv, .inl (cI, 4, .inl gg)), (y0, .inr (4, [.int th, .int (nI lm), .int sz, .int em, .int lt, .int sp, .int (nI np), .int fd, .int bg, .ref m_op, .ref m_nu, .ref m_gv, .ref m_sh, .ref m_he, .ref m_pu, .ref m_pc, .ref m_pl, .ref m_pb, .ref m_ps, .int pv, .int ev]))] H := hP
          have hD : va_D A [(m_he, .inl (cL, 36, .inr (.inl (hh_w (vp_updL ra 16 ((ra 16) + (ra 17))) rb)))), (m_pu, .inl (cL, 8, .inr (.inl (pp_w qa qb)))), (m_gv, .inl (cI, 4, .inl gg)), (y0, .inr (4, [.int th, .int (nI lm), .int sz, .int em, .int lt, .int sp, .int (nI np), .int fd, .int bg, .ref m_op, .ref m_nu, .ref m_gv, .ref m_sh, .ref m_he, .ref m_pu, .ref m_pc, .ref m_pl, .ref m_pb, .ref m_ps, .int pv, .int ev]))] := hD
          refine lv_if_eq (tgt := 495) hx hb d_Modl_does_488 (by decide) (fun c_29 => ?_) (fun c_29 => ?_)
          · have c_29 : (ma_w (-2000000000) 2000000000 ((ra 16) + (ra 17))) = 0 := c_29
            refine lv_iconst (v := 0) hx hb d_Modl_does_495 (by decide) ?_
            exact rt_z (v := 0) ((vp_updL ra 16 ((ra 16) + (ra 17))), qa, pv, ev) hx hb hr hlocks (by decide) (show (0 : Int32) = dz_w (de_w 1 4 n0 gg ra qa pv).1 ∧ (vp_updL ra 16 ((ra 16) + (ra 17))) = (de_w 1 4 n0 gg ra qa pv).2.1 ∧ qa = (de_w 1 4 n0 gg ra qa pv).2.2.1 ∧ pv = (de_w 1 4 n0 gg ra qa pv).2.2.2 ∧ ev = en_w (de_w 1 4 n0 gg ra qa pv).1 ev from (by exact ⟨(dz_0 ((ma_tb0 (ra 16 + ra 17)).mp c_29)).symm, rfl, rfl, rfl, en_0 (tb_n1 _ _)⟩)) (hP.sub (ws' := [(y0, .inr (4, [.int th, .int (nI lm), .int sz, .int em, .int lt, .int sp, .int (nI np), .int fd, .int bg, .ref m_op, .ref m_nu, .ref m_gv, .ref m_sh, .ref m_he, .ref m_pu, .ref m_pc, .ref m_pl, .ref m_pb, .ref m_ps, .int pv, .int ev])), (m_he, .inl (cL, 36, .inr (.inl (hh_w (vp_updL ra 16 ((ra 16) + (ra 17))) rb)))), (m_pu, .inl (cL, 8, .inr (.inl (pp_w qa qb)))), (m_gv, .inl (cI, 4, .inl gg))]) [3, 0, 1, 2] rfl) (hD.sub (ws' := [(y0, .inr (4, [.int th, .int (nI lm), .int sz, .int em, .int lt, .int sp, .int (nI np), .int fd, .int bg, .ref m_op, .ref m_nu, .ref m_gv, .ref m_sh, .ref m_he, .ref m_pu, .ref m_pc, .ref m_pl, .ref m_pb, .ref m_ps, .int pv, .int ev])), (m_he, .inl (cL, 36, .inr (.inl (hh_w (vp_updL ra 16 ((ra 16) + (ra 17))) rb)))), (m_pu, .inl (cL, 8, .inr (.inl (pp_w qa qb)))), (m_gv, .inl (cI, 4, .inl gg))]) [3, 0, 1, 2] (by decide) rfl) hS d_Modl_does_496
          · have c_29 : ¬ (ma_w (-2000000000) 2000000000 ((ra 16) + (ra 17))) = 0 := c_29
            refine lv_iconst (v := 1) hx hb d_Modl_does_491 (by decide) ?_
            refine lv_goto (tgt := 496) hx hb d_Modl_does_492 (by decide) ?_
            exact rt_z (v := 1) ((vp_updL ra 16 ((ra 16) + (ra 17))), qa, pv, ev) hx hb hr hlocks (by decide) (show (1 : Int32) = dz_w (de_w 1 4 n0 gg ra qa pv).1 ∧ (vp_updL ra 16 ((ra 16) + (ra 17))) = (de_w 1 4 n0 gg ra qa pv).2.1 ∧ qa = (de_w 1 4 n0 gg ra qa pv).2.2.1 ∧ pv = (de_w 1 4 n0 gg ra qa pv).2.2.2 ∧ ev = en_w (de_w 1 4 n0 gg ra qa pv).1 ev from (by exact ⟨(dz_1 (fun h9 => c_29 ((ma_tb0 (ra 16 + ra 17)).mpr h9))).symm, rfl, rfl, rfl, en_0 (tb_n1 _ _)⟩)) (hP.sub (ws' := [(y0, .inr (4, [.int th, .int (nI lm), .int sz, .int em, .int lt, .int sp, .int (nI np), .int fd, .int bg, .ref m_op, .ref m_nu, .ref m_gv, .ref m_sh, .ref m_he, .ref m_pu, .ref m_pc, .ref m_pl, .ref m_pb, .ref m_ps, .int pv, .int ev])), (m_he, .inl (cL, 36, .inr (.inl (hh_w (vp_updL ra 16 ((ra 16) + (ra 17))) rb)))), (m_pu, .inl (cL, 8, .inr (.inl (pp_w qa qb)))), (m_gv, .inl (cI, 4, .inl gg))]) [3, 0, 1, 2] rfl) (hD.sub (ws' := [(y0, .inr (4, [.int th, .int (nI lm), .int sz, .int em, .int lt, .int sp, .int (nI np), .int fd, .int bg, .ref m_op, .ref m_nu, .ref m_gv, .ref m_sh, .ref m_he, .ref m_pu, .ref m_pc, .ref m_pl, .ref m_pb, .ref m_ps, .int pv, .int ev])), (m_he, .inl (cL, 36, .inr (.inl (hh_w (vp_updL ra 16 ((ra 16) + (ra 17))) rb)))), (m_pu, .inl (cL, 8, .inr (.inl (pp_w qa qb)))), (m_gv, .inl (cI, 4, .inl gg))]) [3, 0, 1, 2] (by decide) rfl) hS d_Modl_does_496
      · exact absurd (by decide) c_25
  by_cases c_30 : o0 = 5
  · refine lv_tableIn (tgt := 174) hx hb d_Modl_does_35 (by rw [c_30]; decide) (by rw [c_30]; decide) (by rw [c_30]; rfl) (by decide) ?_
    subst c_30
    refine lv_lload hx hb d_Modl_does_174 (lv_at hl 2 rfl) ?_
    refine lv_lload hx hb d_Modl_does_176 (lv_at hl 1 rfl) ?_
    refine lv_lsub hx hb d_Modl_does_178 ?_
    refine lv_lstore (lv' := [(9, .long ((ra 16) - (ra 17))), (7, .long (ra 17)), (5, .long (ra 16)), (4, .int 0), (0, .ref y0), (1, .int 0), (2, .int 5), (3, .int n0)]) hx hb d_Modl_does_179 hl (by decide) rfl (fun ls hl => ?_)
    refine lv_goto (tgt := 434) hx hb d_Modl_does_181 (by decide) ?_
    refine lv_aload_n hx hb d_Modl_does_434 rfl (lv_at hl 4 rfl) ?_
    refine va_get (D := (dC, dI)) (ci := 4) (v := .ref m_he) (C := R_Modl) (T := F_Modl) (N := 21) hx hb htb iw_Modl hown hK.1 hP 0 rfl rfl 13 (by decide) (htb _ tw_428) (fun _ h9 => h9) rfl d_Modl_does_435 ?_
    refine lv_iload hx hb d_Modl_does_438 (lv_at hl 3 rfl) ?_
    refine lv_bipush (v := 16) hx hb d_Modl_does_440 (by decide) ?_
    refine lv_iadd hx hb d_Modl_does_442 ?_
    refine W.eq (g2 := F0 m 443 ls [.int 16, .ref m_he]) rfl ?_
    refine lv_lload hx hb d_Modl_does_443 (lv_at hl 0 rfl) ?_
    refine sd_l (g := hh_w (vp_updL ra 16 ((ra 16) - (ra 17))) rb) (cA := cL) hx hb hK.1 hP hD hS 1 1 rfl rfl (show ¬ (_ ∨ _) by decide) (hh_k0 (k := 16) (by decide)) d_Modl_does_445 (fun H locs hP hD hS => ?_)
    have hP : va_P (dC, dI) classes [(y0, .inr (4, [.int th, .int (nI lm), .int sz, .int em, .int lt, .int sp, .int (nI np), .int fd, .int bg, .ref m_op, .ref m_nu, .ref m_gv, .ref m_sh, .ref m_he, .ref m_pu, .ref m_pc, .ref m_pl, .ref m_pb, .ref m_ps, .int pv, .int ev])), (m_he, .inl (cL, 36, .inr (.inl (hh_w (vp_updL ra 16 ((ra 16) - (ra 17))) rb)))), (m_pu, .inl (cL, 8, .inr (.inl (pp_w qa qb)))), (m_gv, .inl (cI, 4, .inl gg))] H := hP
    have hD : va_D A [(y0, .inr (4, [.int th, .int (nI lm), .int sz, .int em, .int lt, .int sp, .int (nI np), .int fd, .int bg, .ref m_op, .ref m_nu, .ref m_gv, .ref m_sh, .ref m_he, .ref m_pu, .ref m_pc, .ref m_pl, .ref m_pb, .ref m_ps, .int pv, .int ev])), (m_he, .inl (cL, 36, .inr (.inl (hh_w (vp_updL ra 16 ((ra 16) - (ra 17))) rb)))), (m_pu, .inl (cL, 8, .inr (.inl (pp_w qa qb)))), (m_gv, .inl (cI, 4, .inl gg))] := hD
    refine lv_iload_n hx hb d_Modl_does_446 rfl (lv_at hl 6 rfl) ?_
    refine lv_iconst (v := 3) hx hb d_Modl_does_447 (by decide) ?_
    refine lv_icmp_le (tgt := 457) hx hb d_Modl_does_448 (by decide) (fun c_31 => ?_) (fun c_31 => ?_)
    · exact absurd c_31 (by decide)
    · skip
      refine lv_iload_n hx hb d_Modl_does_451 rfl (lv_at hl 6 rfl) ?_
      refine lv_bipush (v := 7) hx hb d_Modl_does_452 (by decide) ?_
      refine lv_icmp_lt (tgt := 469) hx hb d_Modl_does_454 (by decide) (fun c_32 => ?_) (fun c_32 => ?_)
      · skip
        refine lv_iconst (v := 1) hx hb d_Modl_does_469 (by decide) ?_
        refine lv_goto (tgt := 474) hx hb d_Modl_does_470 (by decide) ?_
        refine lv_istore (lv' := [(11, .int 1), (9, .long ((ra 16) - (ra 17))), (7, .long (ra 17)), (5, .long (ra 16)), (4, .int 0), (0, .ref y0), (1, .int 0), (2, .int 5), (3, .int n0)]) hx hb d_Modl_does_474 hl (by decide) rfl (fun ls hl => ?_)
        refine lv_iload hx hb d_Modl_does_476 (lv_at hl 0 rfl) ?_
        refine lv_if_eq (tgt := 491) hx hb d_Modl_does_478 (by decide) (fun c_33 => ?_) (fun c_33 => ?_)
        · exact absurd c_33 (by decide)
        · skip
          refine lv_aload_n hx hb d_Modl_does_481 rfl (lv_at hl 5 rfl) ?_
          refine lv_iload_n hx hb d_Modl_does_482 rfl (lv_at hl 6 rfl) ?_
          refine lv_lload hx hb d_Modl_does_483 (lv_at hl 1 rfl) ?_
          refine af_i (wr := [(m_he, .inl (cL, 36, .inr (.inl (hh_w (vp_updL ra 16 ((ra 16) - (ra 17))) rb)))), (m_pu, .inl (cL, 8, .inr (.inl (pp_w qa qb)))), (m_gv, .inl (cI, 4, .inl gg))]) (va_runV (As := [.int 0, .long ((ra 16) - (ra 17))]) (rest := []) ⟨hx, hb, hml, hown, htb⟩ (c_Modl_may0 l dC dI cI cL H.size y0 th lm sz em lt sp np fd bg m_op m_nu m_gv m_sh m_he m_pu m_pc m_pl m_pb m_ps pv ev ((ra 16) - (ra 17)) ) ⟨callB_of 2 htb (gd_w tw_522) rfl rfl rfl (htb _ tw_25) (htb _ tw_519) (by decide +kernel) ⟨Nat.le_of_ble_eq_true rfl, Nat.le_of_ble_eq_true rfl⟩, htb _ tw_521, htb _ tw_17⟩ (pv_V hK (hP.sub (ws' := [(y0, .inr (4, [.int th, .int (nI lm), .int sz, .int em, .int lt, .int sp, .int (nI np), .int fd, .int bg, .ref m_op, .ref m_nu, .ref m_gv, .ref m_sh, .ref m_he, .ref m_pu, .ref m_pc, .ref m_pl, .ref m_pb, .ref m_ps, .int pv, .int ev]))]) [0] rfl) (hD.sub (ws' := [(y0, .inr (4, [.int th, .int (nI lm), .int sz, .int em, .int lt, .int sp, .int (nI np), .int fd, .int bg, .ref m_op, .ref m_nu, .ref m_gv, .ref m_sh, .ref m_he, .ref m_pu, .ref m_pc, .ref m_pl, .ref m_pb, .ref m_ps, .int pv, .int ev]))]) [0] (by decide) rfl) (ci := 4) (q0 := 0) rfl rfl) rfl rfl hl.1 rfl (lv_room (Nat.le_of_ble_eq_true rfl)) d_Modl_does_485 ⟨Nat.le_of_ble_eq_true rfl, Nat.le_of_ble_eq_true rfl⟩) hP hD hS hA [0] [1, 2, 3] rfl rfl (by decide) (by decide) (fun r_34 u_35 H locs hw hP hD hS => ?_)
          try dsimp only at hw
          subst hw
          have hP : va_P (dC, dI) classes [(m_he, .inl (cL, 36, .inr (.inl (hh_w (vp_updL ra 16 ((ra 16) - (ra 17))) rb)))), (m_pu, .inl (cL, 8, .inr (.inl (pp_w qa qb)))), (m_gv, .inl (cI, 4, .inl gg)), (y0, .inr (4, [.int th, .int (nI lm), .int sz, .int em, .int lt, .int sp, .int (nI np), .int fd, .int bg, .ref m_op, .ref m_nu, .ref m_gv, .ref m_sh, .ref m_he, .ref m_pu, .ref m_pc, .ref m_pl, .ref m_pb, .ref m_ps, .int pv, .int ev]))] H := hP
          have hD : va_D A [(m_he, .inl (cL, 36, .inr (.inl (hh_w (vp_updL ra 16 ((ra 16) - (ra 17))) rb)))), (m_pu, .inl (cL, 8, .inr (.inl (pp_w qa qb)))), (m_gv, .inl (cI, 4, .inl gg)), (y0, .inr (4, [.int th, .int (nI lm), .int sz, .int em, .int lt, .int sp, .int (nI np), .int fd, .int bg, .ref m_op, .ref m_nu, .ref m_gv, .ref m_sh, .ref m_he, .ref m_pu, .ref m_pc, .ref m_pl, .ref m_pb, .ref m_ps, .int pv, .int ev]))] := hD
          refine lv_if_eq (tgt := 495) hx hb d_Modl_does_488 (by decide) (fun c_36 => ?_) (fun c_36 => ?_)
          · have c_36 : (ma_w (-2000000000) 2000000000 ((ra 16) - (ra 17))) = 0 := c_36
            refine lv_iconst (v := 0) hx hb d_Modl_does_495 (by decide) ?_
            exact rt_z (v := 0) ((vp_updL ra 16 ((ra 16) - (ra 17))), qa, pv, ev) hx hb hr hlocks (by decide) (show (0 : Int32) = dz_w (de_w 1 5 n0 gg ra qa pv).1 ∧ (vp_updL ra 16 ((ra 16) - (ra 17))) = (de_w 1 5 n0 gg ra qa pv).2.1 ∧ qa = (de_w 1 5 n0 gg ra qa pv).2.2.1 ∧ pv = (de_w 1 5 n0 gg ra qa pv).2.2.2 ∧ ev = en_w (de_w 1 5 n0 gg ra qa pv).1 ev from (by exact ⟨(dz_0 ((ma_tb0 (ra 16 - ra 17)).mp c_36)).symm, rfl, rfl, rfl, en_0 (tb_n1 _ _)⟩)) (hP.sub (ws' := [(y0, .inr (4, [.int th, .int (nI lm), .int sz, .int em, .int lt, .int sp, .int (nI np), .int fd, .int bg, .ref m_op, .ref m_nu, .ref m_gv, .ref m_sh, .ref m_he, .ref m_pu, .ref m_pc, .ref m_pl, .ref m_pb, .ref m_ps, .int pv, .int ev])), (m_he, .inl (cL, 36, .inr (.inl (hh_w (vp_updL ra 16 ((ra 16) - (ra 17))) rb)))), (m_pu, .inl (cL, 8, .inr (.inl (pp_w qa qb)))), (m_gv, .inl (cI, 4, .inl gg))]) [3, 0, 1, 2] rfl) (hD.sub (ws' := [(y0, .inr (4, [.int th, .int (nI lm), .int sz, .int em, .int lt, .int sp, .int (nI np), .int fd, .int bg, .ref m_op, .ref m_nu, .ref m_gv, .ref m_sh, .ref m_he, .ref m_pu, .ref m_pc, .ref m_pl, .ref m_pb, .ref m_ps, .int pv, .int ev])), (m_he, .inl (cL, 36, .inr (.inl (hh_w (vp_updL ra 16 ((ra 16) - (ra 17))) rb)))), (m_pu, .inl (cL, 8, .inr (.inl (pp_w qa qb)))), (m_gv, .inl (cI, 4, .inl gg))]) [3, 0, 1, 2] (by decide) rfl) hS d_Modl_does_496
          · have c_36 : ¬ (ma_w (-2000000000) 2000000000 ((ra 16) - (ra 17))) = 0 := c_36
            refine lv_iconst (v := 1) hx hb d_Modl_does_491 (by decide) ?_
            refine lv_goto (tgt := 496) hx hb d_Modl_does_492 (by decide) ?_
            exact rt_z (v := 1) ((vp_updL ra 16 ((ra 16) - (ra 17))), qa, pv, ev) hx hb hr hlocks (by decide) (show (1 : Int32) = dz_w (de_w 1 5 n0 gg ra qa pv).1 ∧ (vp_updL ra 16 ((ra 16) - (ra 17))) = (de_w 1 5 n0 gg ra qa pv).2.1 ∧ qa = (de_w 1 5 n0 gg ra qa pv).2.2.1 ∧ pv = (de_w 1 5 n0 gg ra qa pv).2.2.2 ∧ ev = en_w (de_w 1 5 n0 gg ra qa pv).1 ev from (by exact ⟨(dz_1 (fun h9 => c_36 ((ma_tb0 (ra 16 - ra 17)).mpr h9))).symm, rfl, rfl, rfl, en_0 (tb_n1 _ _)⟩)) (hP.sub (ws' := [(y0, .inr (4, [.int th, .int (nI lm), .int sz, .int em, .int lt, .int sp, .int (nI np), .int fd, .int bg, .ref m_op, .ref m_nu, .ref m_gv, .ref m_sh, .ref m_he, .ref m_pu, .ref m_pc, .ref m_pl, .ref m_pb, .ref m_ps, .int pv, .int ev])), (m_he, .inl (cL, 36, .inr (.inl (hh_w (vp_updL ra 16 ((ra 16) - (ra 17))) rb)))), (m_pu, .inl (cL, 8, .inr (.inl (pp_w qa qb)))), (m_gv, .inl (cI, 4, .inl gg))]) [3, 0, 1, 2] rfl) (hD.sub (ws' := [(y0, .inr (4, [.int th, .int (nI lm), .int sz, .int em, .int lt, .int sp, .int (nI np), .int fd, .int bg, .ref m_op, .ref m_nu, .ref m_gv, .ref m_sh, .ref m_he, .ref m_pu, .ref m_pc, .ref m_pl, .ref m_pb, .ref m_ps, .int pv, .int ev])), (m_he, .inl (cL, 36, .inr (.inl (hh_w (vp_updL ra 16 ((ra 16) - (ra 17))) rb)))), (m_pu, .inl (cL, 8, .inr (.inl (pp_w qa qb)))), (m_gv, .inl (cI, 4, .inl gg))]) [3, 0, 1, 2] (by decide) rfl) hS d_Modl_does_496
      · exact absurd (by decide) c_32
  by_cases c_37 : o0 = 6
  · refine lv_tableIn (tgt := 184) hx hb d_Modl_does_35 (by rw [c_37]; decide) (by rw [c_37]; decide) (by rw [c_37]; rfl) (by decide) ?_
    subst c_37
    refine lv_lload hx hb d_Modl_does_184 (lv_at hl 2 rfl) ?_
    refine lv_lload hx hb d_Modl_does_186 (lv_at hl 1 rfl) ?_
    refine lv_lmul hx hb d_Modl_does_188 ?_
    refine lv_lstore (lv' := [(9, .long ((ra 16) * (ra 17))), (7, .long (ra 17)), (5, .long (ra 16)), (4, .int 0), (0, .ref y0), (1, .int 0), (2, .int 6), (3, .int n0)]) hx hb d_Modl_does_189 hl (by decide) rfl (fun ls hl => ?_)
    refine lv_lload hx hb d_Modl_does_191 (lv_at hl 2 rfl) ?_
    refine lv_lconst (v := 0) hx hb d_Modl_does_193 (by decide) ?_
    refine W.lcmp hx hb d_Modl_does_194 ?_
    refine lv_if_eq (tgt := 229) hx hb d_Modl_does_195 (by decide) (fun c_38 => ?_) (fun c_38 => ?_)
    · have c_38 : (lg_cmp (ra 16) 0) = 0 := c_38
      rw [lc_eq] at c_38
      refine lv_lload hx hb d_Modl_does_229 (lv_at hl 0 rfl) ?_
      refine lv_aload_n hx hb d_Modl_does_231 rfl (lv_at hl 4 rfl) ?_
      refine lv_iload_n hx hb d_Modl_does_232 rfl (lv_at hl 5 rfl) ?_
      refine af_l (wr := [(m_he, .inl (cL, 36, .inr (.inl (hh_w ra rb)))), (m_pu, .inl (cL, 8, .inr (.inl (pp_w qa qb)))), (m_gv, .inl (cI, 4, .inl gg))]) (va_runV (As := [.int 0]) (rest := [.long ((ra 16) * (ra 17))]) ⟨hx, hb, hml, hown, htb⟩ (c_Modl_times0 l dC dI cI cL s.heap.size y0 th lm sz em lt sp np fd bg m_op m_nu m_gv m_sh m_he m_pu m_pc m_pl m_pb m_ps pv ev ) ⟨callB_of 1 htb (gd_w tw_514) rfl rfl rfl (htb _ tw_25) (htb _ tw_511) (by decide +kernel) ⟨Nat.le_of_ble_eq_true rfl, Nat.le_of_ble_eq_true rfl⟩, htb _ tw_513, htb _ tw_16⟩ (pv_V hK (hP.sub (ws' := [(y0, .inr (4, [.int th, .int (nI lm), .int sz, .int em, .int lt, .int sp, .int (nI np), .int fd, .int bg, .ref m_op, .ref m_nu, .ref m_gv, .ref m_sh, .ref m_he, .ref m_pu, .ref m_pc, .ref m_pl, .ref m_pb, .ref m_ps, .int pv, .int ev]))]) [0] rfl) (hD.sub (ws' := [(y0, .inr (4, [.int th, .int (nI lm), .int sz, .int em, .int lt, .int sp, .int (nI np), .int fd, .int bg, .ref m_op, .ref m_nu, .ref m_gv, .ref m_sh, .ref m_he, .ref m_pu, .ref m_pc, .ref m_pl, .ref m_pb, .ref m_ps, .int pv, .int ev]))]) [0] (by decide) rfl) (ci := 4) (q0 := 0) rfl rfl) rfl rfl hl.1 rfl (lv_room (Nat.le_of_ble_eq_true rfl)) d_Modl_does_233 ⟨Nat.le_of_ble_eq_true rfl, Nat.le_of_ble_eq_true rfl⟩) hP hD hS hA [0] [1, 2, 3] rfl rfl (by decide) (by decide) (fun r_39 u_40 H locs hw hP hD hS => ?_)
      try dsimp only at hw
      subst hw
      have hP : va_P (dC, dI) classes [(m_he, .inl (cL, 36, .inr (.inl (hh_w ra rb)))), (m_pu, .inl (cL, 8, .inr (.inl (pp_w qa qb)))), (m_gv, .inl (cI, 4, .inl gg)), (y0, .inr (4, [.int th, .int (nI lm), .int sz, .int em, .int lt, .int sp, .int (nI np), .int fd, .int bg, .ref m_op, .ref m_nu, .ref m_gv, .ref m_sh, .ref m_he, .ref m_pu, .ref m_pc, .ref m_pl, .ref m_pb, .ref m_ps, .int pv, .int ev]))] H := hP
      have hD : va_D A [(m_he, .inl (cL, 36, .inr (.inl (hh_w ra rb)))), (m_pu, .inl (cL, 8, .inr (.inl (pp_w qa qb)))), (m_gv, .inl (cI, 4, .inl gg)), (y0, .inr (4, [.int th, .int (nI lm), .int sz, .int em, .int lt, .int sp, .int (nI np), .int fd, .int bg, .ref m_op, .ref m_nu, .ref m_gv, .ref m_sh, .ref m_he, .ref m_pu, .ref m_pc, .ref m_pl, .ref m_pb, .ref m_ps, .int pv, .int ev]))] := hD
      refine lv_lrem hx hb d_Modl_does_236 (by decide) ?_
      refine lv_lconst (v := 0) hx hb d_Modl_does_237 (by decide) ?_
      refine W.lcmp hx hb d_Modl_does_238 ?_
      refine lv_if_eq (tgt := 244) hx hb d_Modl_does_239 (by decide) (fun c_41 => ?_) (fun c_41 => ?_)
      · have c_41 : (lg_cmp (((ra 16) * (ra 17)) - ((ra 16) * (ra 17)) / 1 * 1) 0) = 0 := c_41
        rw [lc_eq] at c_41
        refine lv_lload hx hb d_Modl_does_244 (lv_at hl 0 rfl) ?_
        refine lv_aload_n hx hb d_Modl_does_246 rfl (lv_at hl 4 rfl) ?_
        refine lv_iload_n hx hb d_Modl_does_247 rfl (lv_at hl 5 rfl) ?_
        refine af_l (wr := [(m_he, .inl (cL, 36, .inr (.inl (hh_w ra rb)))), (m_pu, .inl (cL, 8, .inr (.inl (pp_w qa qb)))), (m_gv, .inl (cI, 4, .inl gg))]) (va_runV (As := [.int 0]) (rest := [.long ((ra 16) * (ra 17))]) ⟨hx, hb, hml, hown, htb⟩ (c_Modl_times0 l dC dI cI cL H.size y0 th lm sz em lt sp np fd bg m_op m_nu m_gv m_sh m_he m_pu m_pc m_pl m_pb m_ps pv ev ) ⟨callB_of 1 htb (gd_w tw_514) rfl rfl rfl (htb _ tw_25) (htb _ tw_511) (by decide +kernel) ⟨Nat.le_of_ble_eq_true rfl, Nat.le_of_ble_eq_true rfl⟩, htb _ tw_513, htb _ tw_16⟩ (pv_V hK (hP.sub (ws' := [(y0, .inr (4, [.int th, .int (nI lm), .int sz, .int em, .int lt, .int sp, .int (nI np), .int fd, .int bg, .ref m_op, .ref m_nu, .ref m_gv, .ref m_sh, .ref m_he, .ref m_pu, .ref m_pc, .ref m_pl, .ref m_pb, .ref m_ps, .int pv, .int ev]))]) [3] rfl) (hD.sub (ws' := [(y0, .inr (4, [.int th, .int (nI lm), .int sz, .int em, .int lt, .int sp, .int (nI np), .int fd, .int bg, .ref m_op, .ref m_nu, .ref m_gv, .ref m_sh, .ref m_he, .ref m_pu, .ref m_pc, .ref m_pl, .ref m_pb, .ref m_ps, .int pv, .int ev]))]) [3] (by decide) rfl) (ci := 4) (q0 := 0) rfl rfl) rfl rfl hl.1 rfl (lv_room (Nat.le_of_ble_eq_true rfl)) d_Modl_does_248 ⟨Nat.le_of_ble_eq_true rfl, Nat.le_of_ble_eq_true rfl⟩) hP hD hS hA [3] [0, 1, 2] rfl rfl (by decide) (by decide) (fun r_42 u_43 H locs hw hP hD hS => ?_)
        try dsimp only at hw
        subst hw
        have hP : va_P (dC, dI) classes [(m_he, .inl (cL, 36, .inr (.inl (hh_w ra rb)))), (m_pu, .inl (cL, 8, .inr (.inl (pp_w qa qb)))), (m_gv, .inl (cI, 4, .inl gg)), (y0, .inr (4, [.int th, .int (nI lm), .int sz, .int em, .int lt, .int sp, .int (nI np), .int fd, .int bg, .ref m_op, .ref m_nu, .ref m_gv, .ref m_sh, .ref m_he, .ref m_pu, .ref m_pc, .ref m_pl, .ref m_pb, .ref m_ps, .int pv, .int ev]))] H := hP
        have hD : va_D A [(m_he, .inl (cL, 36, .inr (.inl (hh_w ra rb)))), (m_pu, .inl (cL, 8, .inr (.inl (pp_w qa qb)))), (m_gv, .inl (cI, 4, .inl gg)), (y0, .inr (4, [.int th, .int (nI lm), .int sz, .int em, .int lt, .int sp, .int (nI np), .int fd, .int bg, .ref m_op, .ref m_nu, .ref m_gv, .ref m_sh, .ref m_he, .ref m_pu, .ref m_pc, .ref m_pl, .ref m_pb, .ref m_ps, .int pv, .int ev]))] := hD
        refine lv_ldiv hx hb d_Modl_does_251 (by decide) ?_
        refine lv_lstore (lv' := [(9, .long (((ra 16) * (ra 17)) / 1)), (7, .long (ra 17)), (5, .long (ra 16)), (4, .int 0), (0, .ref y0), (1, .int 0), (2, .int 6), (3, .int n0)]) hx hb d_Modl_does_252 hl (by decide) rfl (fun ls hl => ?_)
        refine lv_goto (tgt := 434) hx hb d_Modl_does_254 (by decide) ?_
        refine lv_aload_n hx hb d_Modl_does_434 rfl (lv_at hl 4 rfl) ?_
        refine va_get (D := (dC, dI)) (ci := 4) (v := .ref m_he) (C := R_Modl) (T := F_Modl) (N := 21) hx hb htb iw_Modl hown hK.1 hP 3 rfl rfl 13 (by decide) (htb _ tw_428) (fun _ h9 => h9) rfl d_Modl_does_435 ?_
        refine lv_iload hx hb d_Modl_does_438 (lv_at hl 3 rfl) ?_
        refine lv_bipush (v := 16) hx hb d_Modl_does_440 (by decide) ?_
        refine lv_iadd hx hb d_Modl_does_442 ?_
        refine W.eq (g2 := F0 m 443 ls [.int 16, .ref m_he]) rfl ?_
        refine lv_lload hx hb d_Modl_does_443 (lv_at hl 0 rfl) ?_
        refine sd_l (g := hh_w (vp_updL ra 16 (((ra 16) * (ra 17)) / 1)) rb) (cA := cL) hx hb hK.1 hP hD hS 0 1 rfl rfl (show ¬ (_ ∨ _) by decide) (hh_k0 (k := 16) (by decide)) d_Modl_does_445 (fun H locs hP hD hS => ?_)
        have hP : va_P (dC, dI) classes [(m_he, .inl (cL, 36, .inr (.inl (hh_w (vp_updL ra 16 (((ra 16) * (ra 17)) / 1)) rb)))), (m_pu, .inl (cL, 8, .inr (.inl (pp_w qa qb)))), (m_gv, .inl (cI, 4, .inl gg)), (y0, .inr (4, [.int th, .int (nI lm), .int sz, .int em, .int lt, .int sp, .int (nI np), .int fd, .int bg, .ref m_op, .ref m_nu, .ref m_gv, .ref m_sh, .ref m_he, .ref m_pu, .ref m_pc, .ref m_pl, .ref m_pb, .ref m_ps, .int pv, .int ev]))] H := hP
        have hD : va_D A [(m_he, .inl (cL, 36, .inr (.inl (hh_w (vp_updL ra 16 (((ra 16) * (ra 17)) / 1)) rb)))), (m_pu, .inl (cL, 8, .inr (.inl (pp_w qa qb)))), (m_gv, .inl (cI, 4, .inl gg)), (y0, .inr (4, [.int th, .int (nI lm), .int sz, .int em, .int lt, .int sp, .int (nI np), .int fd, .int bg, .ref m_op, .ref m_nu, .ref m_gv, .ref m_sh, .ref m_he, .ref m_pu, .ref m_pc, .ref m_pl, .ref m_pb, .ref m_ps, .int pv, .int ev]))] := hD
        refine lv_iload_n hx hb d_Modl_does_446 rfl (lv_at hl 6 rfl) ?_
        refine lv_iconst (v := 3) hx hb d_Modl_does_447 (by decide) ?_
        refine lv_icmp_le (tgt := 457) hx hb d_Modl_does_448 (by decide) (fun c_44 => ?_) (fun c_44 => ?_)
        · exact absurd c_44 (by decide)
        · skip
          refine lv_iload_n hx hb d_Modl_does_451 rfl (lv_at hl 6 rfl) ?_
          refine lv_bipush (v := 7) hx hb d_Modl_does_452 (by decide) ?_
          refine lv_icmp_lt (tgt := 469) hx hb d_Modl_does_454 (by decide) (fun c_45 => ?_) (fun c_45 => ?_)
          · skip
            refine lv_iconst (v := 1) hx hb d_Modl_does_469 (by decide) ?_
            refine lv_goto (tgt := 474) hx hb d_Modl_does_470 (by decide) ?_
            refine lv_istore (lv' := [(11, .int 1), (9, .long (((ra 16) * (ra 17)) / 1)), (7, .long (ra 17)), (5, .long (ra 16)), (4, .int 0), (0, .ref y0), (1, .int 0), (2, .int 6), (3, .int n0)]) hx hb d_Modl_does_474 hl (by decide) rfl (fun ls hl => ?_)
            refine lv_iload hx hb d_Modl_does_476 (lv_at hl 0 rfl) ?_
            refine lv_if_eq (tgt := 491) hx hb d_Modl_does_478 (by decide) (fun c_46 => ?_) (fun c_46 => ?_)
            · exact absurd c_46 (by decide)
            · skip
              refine lv_aload_n hx hb d_Modl_does_481 rfl (lv_at hl 5 rfl) ?_
              refine lv_iload_n hx hb d_Modl_does_482 rfl (lv_at hl 6 rfl) ?_
              refine lv_lload hx hb d_Modl_does_483 (lv_at hl 1 rfl) ?_
              refine af_i (wr := [(m_he, .inl (cL, 36, .inr (.inl (hh_w (vp_updL ra 16 (((ra 16) * (ra 17)) / 1)) rb)))), (m_pu, .inl (cL, 8, .inr (.inl (pp_w qa qb)))), (m_gv, .inl (cI, 4, .inl gg))]) (va_runV (As := [.int 0, .long (((ra 16) * (ra 17)) / 1)]) (rest := []) ⟨hx, hb, hml, hown, htb⟩ (c_Modl_may0 l dC dI cI cL H.size y0 th lm sz em lt sp np fd bg m_op m_nu m_gv m_sh m_he m_pu m_pc m_pl m_pb m_ps pv ev (((ra 16) * (ra 17)) / 1) ) ⟨callB_of 2 htb (gd_w tw_522) rfl rfl rfl (htb _ tw_25) (htb _ tw_519) (by decide +kernel) ⟨Nat.le_of_ble_eq_true rfl, Nat.le_of_ble_eq_true rfl⟩, htb _ tw_521, htb _ tw_17⟩ (pv_V hK (hP.sub (ws' := [(y0, .inr (4, [.int th, .int (nI lm), .int sz, .int em, .int lt, .int sp, .int (nI np), .int fd, .int bg, .ref m_op, .ref m_nu, .ref m_gv, .ref m_sh, .ref m_he, .ref m_pu, .ref m_pc, .ref m_pl, .ref m_pb, .ref m_ps, .int pv, .int ev]))]) [3] rfl) (hD.sub (ws' := [(y0, .inr (4, [.int th, .int (nI lm), .int sz, .int em, .int lt, .int sp, .int (nI np), .int fd, .int bg, .ref m_op, .ref m_nu, .ref m_gv, .ref m_sh, .ref m_he, .ref m_pu, .ref m_pc, .ref m_pl, .ref m_pb, .ref m_ps, .int pv, .int ev]))]) [3] (by decide) rfl) (ci := 4) (q0 := 0) rfl rfl) rfl rfl hl.1 rfl (lv_room (Nat.le_of_ble_eq_true rfl)) d_Modl_does_485 ⟨Nat.le_of_ble_eq_true rfl, Nat.le_of_ble_eq_true rfl⟩) hP hD hS hA [3] [0, 1, 2] rfl rfl (by decide) (by decide) (fun r_47 u_48 H locs hw hP hD hS => ?_)
              try dsimp only at hw
              subst hw
              have hP : va_P (dC, dI) classes [(m_he, .inl (cL, 36, .inr (.inl (hh_w (vp_updL ra 16 (((ra 16) * (ra 17)) / 1)) rb)))), (m_pu, .inl (cL, 8, .inr (.inl (pp_w qa qb)))), (m_gv, .inl (cI, 4, .inl gg)), (y0, .inr (4, [.int th, .int (nI lm), .int sz, .int em, .int lt, .int sp, .int (nI np), .int fd, .int bg, .ref m_op, .ref m_nu, .ref m_gv, .ref m_sh, .ref m_he, .ref m_pu, .ref m_pc, .ref m_pl, .ref m_pb, .ref m_ps, .int pv, .int ev]))] H := hP
              have hD : va_D A [(m_he, .inl (cL, 36, .inr (.inl (hh_w (vp_updL ra 16 (((ra 16) * (ra 17)) / 1)) rb)))), (m_pu, .inl (cL, 8, .inr (.inl (pp_w qa qb)))), (m_gv, .inl (cI, 4, .inl gg)), (y0, .inr (4, [.int th, .int (nI lm), .int sz, .int em, .int lt, .int sp, .int (nI np), .int fd, .int bg, .ref m_op, .ref m_nu, .ref m_gv, .ref m_sh, .ref m_he, .ref m_pu, .ref m_pc, .ref m_pl, .ref m_pb, .ref m_ps, .int pv, .int ev]))] := hD
              refine lv_if_eq (tgt := 495) hx hb d_Modl_does_488 (by decide) (fun c_49 => ?_) (fun c_49 => ?_)
              · have c_49 : (ma_w (-2000000000) 2000000000 (((ra 16) * (ra 17)) / 1)) = 0 := c_49
                refine lv_iconst (v := 0) hx hb d_Modl_does_495 (by decide) ?_
                exact rt_z (v := 0) ((vp_updL ra 16 (((ra 16) * (ra 17)) / 1)), qa, pv, ev) hx hb hr hlocks (by decide) (show (0 : Int32) = dz_w (de_w 1 6 n0 gg ra qa pv).1 ∧ (vp_updL ra 16 (((ra 16) * (ra 17)) / 1)) = (de_w 1 6 n0 gg ra qa pv).2.1 ∧ qa = (de_w 1 6 n0 gg ra qa pv).2.2.1 ∧ pv = (de_w 1 6 n0 gg ra qa pv).2.2.2 ∧ ev = en_w (de_w 1 6 n0 gg ra qa pv).1 ev from (by rw [de_6b (show ¬ (1 : Int64) = 0 by decide) (pb_1 c_38) (im_1 (show ¬ (1 : Int64) = 0 by decide) c_41)]; exact ⟨(dz_0 ((ma_tb0 (ra 16 * ra 17 / 1)).mp c_49)).symm, rfl, rfl, rfl, en_0 (tb_n1 _ _)⟩)) (hP.sub (ws' := [(y0, .inr (4, [.int th, .int (nI lm), .int sz, .int em, .int lt, .int sp, .int (nI np), .int fd, .int bg, .ref m_op, .ref m_nu, .ref m_gv, .ref m_sh, .ref m_he, .ref m_pu, .ref m_pc, .ref m_pl, .ref m_pb, .ref m_ps, .int pv, .int ev])), (m_he, .inl (cL, 36, .inr (.inl (hh_w (vp_updL ra 16 (((ra 16) * (ra 17)) / 1)) rb)))), (m_pu, .inl (cL, 8, .inr (.inl (pp_w qa qb)))), (m_gv, .inl (cI, 4, .inl gg))]) [3, 0, 1, 2] rfl) (hD.sub (ws' := [(y0, .inr (4, [.int th, .int (nI lm), .int sz, .int em, .int lt, .int sp, .int (nI np), .int fd, .int bg, .ref m_op, .ref m_nu, .ref m_gv, .ref m_sh, .ref m_he, .ref m_pu, .ref m_pc, .ref m_pl, .ref m_pb, .ref m_ps, .int pv, .int ev])), (m_he, .inl (cL, 36, .inr (.inl (hh_w (vp_updL ra 16 (((ra 16) * (ra 17)) / 1)) rb)))), (m_pu, .inl (cL, 8, .inr (.inl (pp_w qa qb)))), (m_gv, .inl (cI, 4, .inl gg))]) [3, 0, 1, 2] (by decide) rfl) hS d_Modl_does_496
              · have c_49 : ¬ (ma_w (-2000000000) 2000000000 (((ra 16) * (ra 17)) / 1)) = 0 := c_49
                refine lv_iconst (v := 1) hx hb d_Modl_does_491 (by decide) ?_
                refine lv_goto (tgt := 496) hx hb d_Modl_does_492 (by decide) ?_
                exact rt_z (v := 1) ((vp_updL ra 16 (((ra 16) * (ra 17)) / 1)), qa, pv, ev) hx hb hr hlocks (by decide) (show (1 : Int32) = dz_w (de_w 1 6 n0 gg ra qa pv).1 ∧ (vp_updL ra 16 (((ra 16) * (ra 17)) / 1)) = (de_w 1 6 n0 gg ra qa pv).2.1 ∧ qa = (de_w 1 6 n0 gg ra qa pv).2.2.1 ∧ pv = (de_w 1 6 n0 gg ra qa pv).2.2.2 ∧ ev = en_w (de_w 1 6 n0 gg ra qa pv).1 ev from (by rw [de_6b (show ¬ (1 : Int64) = 0 by decide) (pb_1 c_38) (im_1 (show ¬ (1 : Int64) = 0 by decide) c_41)]; exact ⟨(dz_1 (fun h9 => c_49 ((ma_tb0 (ra 16 * ra 17 / 1)).mpr h9))).symm, rfl, rfl, rfl, en_0 (tb_n1 _ _)⟩)) (hP.sub (ws' := [(y0, .inr (4, [.int th, .int (nI lm), .int sz, .int em, .int lt, .int sp, .int (nI np), .int fd, .int bg, .ref m_op, .ref m_nu, .ref m_gv, .ref m_sh, .ref m_he, .ref m_pu, .ref m_pc, .ref m_pl, .ref m_pb, .ref m_ps, .int pv, .int ev])), (m_he, .inl (cL, 36, .inr (.inl (hh_w (vp_updL ra 16 (((ra 16) * (ra 17)) / 1)) rb)))), (m_pu, .inl (cL, 8, .inr (.inl (pp_w qa qb)))), (m_gv, .inl (cI, 4, .inl gg))]) [3, 0, 1, 2] rfl) (hD.sub (ws' := [(y0, .inr (4, [.int th, .int (nI lm), .int sz, .int em, .int lt, .int sp, .int (nI np), .int fd, .int bg, .ref m_op, .ref m_nu, .ref m_gv, .ref m_sh, .ref m_he, .ref m_pu, .ref m_pc, .ref m_pl, .ref m_pb, .ref m_ps, .int pv, .int ev])), (m_he, .inl (cL, 36, .inr (.inl (hh_w (vp_updL ra 16 (((ra 16) * (ra 17)) / 1)) rb)))), (m_pu, .inl (cL, 8, .inr (.inl (pp_w qa qb)))), (m_gv, .inl (cI, 4, .inl gg))]) [3, 0, 1, 2] (by decide) rfl) hS d_Modl_does_496
          · exact absurd (by decide) c_45
      · have c_41 : ¬ (lg_cmp (((ra 16) * (ra 17)) - ((ra 16) * (ra 17)) / 1 * 1) 0) = 0 := c_41
        rw [lc_eq] at c_41
        refine lv_iconst (v := 0) hx hb d_Modl_does_242 (by decide) ?_
        exact rt_z (v := 0) (ra, qa, pv, ev) hx hb hr hlocks (by decide) (show (0 : Int32) = dz_w (de_w 1 6 n0 gg ra qa pv).1 ∧ ra = (de_w 1 6 n0 gg ra qa pv).2.1 ∧ qa = (de_w 1 6 n0 gg ra qa pv).2.2.1 ∧ pv = (de_w 1 6 n0 gg ra qa pv).2.2.2 ∧ ev = en_w (de_w 1 6 n0 gg ra qa pv).1 ev from (by rw [de_6a (pb_1 c_38) (im_0 c_41)]; exact ⟨rfl, rfl, rfl, rfl, rfl⟩)) (hP.sub (ws' := [(y0, .inr (4, [.int th, .int (nI lm), .int sz, .int em, .int lt, .int sp, .int (nI np), .int fd, .int bg, .ref m_op, .ref m_nu, .ref m_gv, .ref m_sh, .ref m_he, .ref m_pu, .ref m_pc, .ref m_pl, .ref m_pb, .ref m_ps, .int pv, .int ev])), (m_he, .inl (cL, 36, .inr (.inl (hh_w ra rb)))), (m_pu, .inl (cL, 8, .inr (.inl (pp_w qa qb)))), (m_gv, .inl (cI, 4, .inl gg))]) [3, 0, 1, 2] rfl) (hD.sub (ws' := [(y0, .inr (4, [.int th, .int (nI lm), .int sz, .int em, .int lt, .int sp, .int (nI np), .int fd, .int bg, .ref m_op, .ref m_nu, .ref m_gv, .ref m_sh, .ref m_he, .ref m_pu, .ref m_pc, .ref m_pl, .ref m_pb, .ref m_ps, .int pv, .int ev])), (m_he, .inl (cL, 36, .inr (.inl (hh_w ra rb)))), (m_pu, .inl (cL, 8, .inr (.inl (pp_w qa qb)))), (m_gv, .inl (cI, 4, .inl gg))]) [3, 0, 1, 2] (by decide) rfl) hS d_Modl_does_243
    · have c_38 : ¬ (lg_cmp (ra 16) 0) = 0 := c_38
      rw [lc_eq] at c_38
      refine lv_lload hx hb d_Modl_does_198 (lv_at hl 0 rfl) ?_
      refine lv_lload hx hb d_Modl_does_200 (lv_at hl 2 rfl) ?_
      refine lv_ldiv hx hb d_Modl_does_202 (c_38) ?_
      refine lv_lload hx hb d_Modl_does_203 (lv_at hl 1 rfl) ?_
      refine W.lcmp hx hb d_Modl_does_205 ?_
      refine lv_if_ne (tgt := 227) hx hb d_Modl_does_206 (by decide) (fun c_50 => ?_) (fun c_50 => ?_)
      · have c_50 : ¬ (lg_cmp (((ra 16) * (ra 17)) / (ra 16)) (ra 17)) = 0 := c_50
        rw [lc_eq] at c_50
        refine lv_iconst (v := 0) hx hb d_Modl_does_227 (by decide) ?_
        exact rt_z (v := 0) (ra, qa, pv, ev) hx hb hr hlocks (by decide) (show (0 : Int32) = dz_w (de_w 1 6 n0 gg ra qa pv).1 ∧ ra = (de_w 1 6 n0 gg ra qa pv).2.1 ∧ qa = (de_w 1 6 n0 gg ra qa pv).2.2.1 ∧ pv = (de_w 1 6 n0 gg ra qa pv).2.2.2 ∧ ev = en_w (de_w 1 6 n0 gg ra qa pv).1 ev from (by rw [de_6c (pb_2 c_38 c_50)]; exact ⟨rfl, rfl, rfl, rfl, rfl⟩)) (hP.sub (ws' := [(y0, .inr (4, [.int th, .int (nI lm), .int sz, .int em, .int lt, .int sp, .int (nI np), .int fd, .int bg, .ref m_op, .ref m_nu, .ref m_gv, .ref m_sh, .ref m_he, .ref m_pu, .ref m_pc, .ref m_pl, .ref m_pb, .ref m_ps, .int pv, .int ev])), (m_he, .inl (cL, 36, .inr (.inl (hh_w ra rb)))), (m_pu, .inl (cL, 8, .inr (.inl (pp_w qa qb)))), (m_gv, .inl (cI, 4, .inl gg))]) [0, 1, 2, 3] rfl) (hD.sub (ws' := [(y0, .inr (4, [.int th, .int (nI lm), .int sz, .int em, .int lt, .int sp, .int (nI np), .int fd, .int bg, .ref m_op, .ref m_nu, .ref m_gv, .ref m_sh, .ref m_he, .ref m_pu, .ref m_pc, .ref m_pl, .ref m_pb, .ref m_ps, .int pv, .int ev])), (m_he, .inl (cL, 36, .inr (.inl (hh_w ra rb)))), (m_pu, .inl (cL, 8, .inr (.inl (pp_w qa qb)))), (m_gv, .inl (cI, 4, .inl gg))]) [0, 1, 2, 3] (by decide) rfl) hS d_Modl_does_228
      · have c_50 : (lg_cmp (((ra 16) * (ra 17)) / (ra 16)) (ra 17)) = 0 := c_50
        rw [lc_eq] at c_50
        refine lv_lload hx hb d_Modl_does_209 (lv_at hl 2 rfl) ?_
        refine lv_ldc2 (v := (-1)) hx hb hown (htb _ tw_516) d_Modl_does_211 ?_
        refine W.lcmp hx hb d_Modl_does_214 ?_
        refine lv_if_ne (tgt := 229) hx hb d_Modl_does_215 (by decide) (fun c_51 => ?_) (fun c_51 => ?_)
        · have c_51 : ¬ (lg_cmp (ra 16) (-1)) = 0 := c_51
          rw [lc_eq] at c_51
          refine lv_lload hx hb d_Modl_does_229 (lv_at hl 0 rfl) ?_
          refine lv_aload_n hx hb d_Modl_does_231 rfl (lv_at hl 4 rfl) ?_
          refine lv_iload_n hx hb d_Modl_does_232 rfl (lv_at hl 5 rfl) ?_
          refine af_l (wr := [(m_he, .inl (cL, 36, .inr (.inl (hh_w ra rb)))), (m_pu, .inl (cL, 8, .inr (.inl (pp_w qa qb)))), (m_gv, .inl (cI, 4, .inl gg))]) (va_runV (As := [.int 0]) (rest := [.long ((ra 16) * (ra 17))]) ⟨hx, hb, hml, hown, htb⟩ (c_Modl_times0 l dC dI cI cL s.heap.size y0 th lm sz em lt sp np fd bg m_op m_nu m_gv m_sh m_he m_pu m_pc m_pl m_pb m_ps pv ev ) ⟨callB_of 1 htb (gd_w tw_514) rfl rfl rfl (htb _ tw_25) (htb _ tw_511) (by decide +kernel) ⟨Nat.le_of_ble_eq_true rfl, Nat.le_of_ble_eq_true rfl⟩, htb _ tw_513, htb _ tw_16⟩ (pv_V hK (hP.sub (ws' := [(y0, .inr (4, [.int th, .int (nI lm), .int sz, .int em, .int lt, .int sp, .int (nI np), .int fd, .int bg, .ref m_op, .ref m_nu, .ref m_gv, .ref m_sh, .ref m_he, .ref m_pu, .ref m_pc, .ref m_pl, .ref m_pb, .ref m_ps, .int pv, .int ev]))]) [0] rfl) (hD.sub (ws' := [(y0, .inr (4, [.int th, .int (nI lm), .int sz, .int em, .int lt, .int sp, .int (nI np), .int fd, .int bg, .ref m_op, .ref m_nu, .ref m_gv, .ref m_sh, .ref m_he, .ref m_pu, .ref m_pc, .ref m_pl, .ref m_pb, .ref m_ps, .int pv, .int ev]))]) [0] (by decide) rfl) (ci := 4) (q0 := 0) rfl rfl) rfl rfl hl.1 rfl (lv_room (Nat.le_of_ble_eq_true rfl)) d_Modl_does_233 ⟨Nat.le_of_ble_eq_true rfl, Nat.le_of_ble_eq_true rfl⟩) hP hD hS hA [0] [1, 2, 3] rfl rfl (by decide) (by decide) (fun r_52 u_53 H locs hw hP hD hS => ?_)
          try dsimp only at hw
          subst hw
          have hP : va_P (dC, dI) classes [(m_he, .inl (cL, 36, .inr (.inl (hh_w ra rb)))), (m_pu, .inl (cL, 8, .inr (.inl (pp_w qa qb)))), (m_gv, .inl (cI, 4, .inl gg)), (y0, .inr (4, [.int th, .int (nI lm), .int sz, .int em, .int lt, .int sp, .int (nI np), .int fd, .int bg, .ref m_op, .ref m_nu, .ref m_gv, .ref m_sh, .ref m_he, .ref m_pu, .ref m_pc, .ref m_pl, .ref m_pb, .ref m_ps, .int pv, .int ev]))] H := hP
          have hD : va_D A [(m_he, .inl (cL, 36, .inr (.inl (hh_w ra rb)))), (m_pu, .inl (cL, 8, .inr (.inl (pp_w qa qb)))), (m_gv, .inl (cI, 4, .inl gg)), (y0, .inr (4, [.int th, .int (nI lm), .int sz, .int em, .int lt, .int sp, .int (nI np), .int fd, .int bg, .ref m_op, .ref m_nu, .ref m_gv, .ref m_sh, .ref m_he, .ref m_pu, .ref m_pc, .ref m_pl, .ref m_pb, .ref m_ps, .int pv, .int ev]))] := hD
          refine lv_lrem hx hb d_Modl_does_236 (by decide) ?_
          refine lv_lconst (v := 0) hx hb d_Modl_does_237 (by decide) ?_
          refine W.lcmp hx hb d_Modl_does_238 ?_
          refine lv_if_eq (tgt := 244) hx hb d_Modl_does_239 (by decide) (fun c_54 => ?_) (fun c_54 => ?_)
          · have c_54 : (lg_cmp (((ra 16) * (ra 17)) - ((ra 16) * (ra 17)) / 1 * 1) 0) = 0 := c_54
            rw [lc_eq] at c_54
            refine lv_lload hx hb d_Modl_does_244 (lv_at hl 0 rfl) ?_
            refine lv_aload_n hx hb d_Modl_does_246 rfl (lv_at hl 4 rfl) ?_
            refine lv_iload_n hx hb d_Modl_does_247 rfl (lv_at hl 5 rfl) ?_
            refine af_l (wr := [(m_he, .inl (cL, 36, .inr (.inl (hh_w ra rb)))), (m_pu, .inl (cL, 8, .inr (.inl (pp_w qa qb)))), (m_gv, .inl (cI, 4, .inl gg))]) (va_runV (As := [.int 0]) (rest := [.long ((ra 16) * (ra 17))]) ⟨hx, hb, hml, hown, htb⟩ (c_Modl_times0 l dC dI cI cL H.size y0 th lm sz em lt sp np fd bg m_op m_nu m_gv m_sh m_he m_pu m_pc m_pl m_pb m_ps pv ev ) ⟨callB_of 1 htb (gd_w tw_514) rfl rfl rfl (htb _ tw_25) (htb _ tw_511) (by decide +kernel) ⟨Nat.le_of_ble_eq_true rfl, Nat.le_of_ble_eq_true rfl⟩, htb _ tw_513, htb _ tw_16⟩ (pv_V hK (hP.sub (ws' := [(y0, .inr (4, [.int th, .int (nI lm), .int sz, .int em, .int lt, .int sp, .int (nI np), .int fd, .int bg, .ref m_op, .ref m_nu, .ref m_gv, .ref m_sh, .ref m_he, .ref m_pu, .ref m_pc, .ref m_pl, .ref m_pb, .ref m_ps, .int pv, .int ev]))]) [3] rfl) (hD.sub (ws' := [(y0, .inr (4, [.int th, .int (nI lm), .int sz, .int em, .int lt, .int sp, .int (nI np), .int fd, .int bg, .ref m_op, .ref m_nu, .ref m_gv, .ref m_sh, .ref m_he, .ref m_pu, .ref m_pc, .ref m_pl, .ref m_pb, .ref m_ps, .int pv, .int ev]))]) [3] (by decide) rfl) (ci := 4) (q0 := 0) rfl rfl) rfl rfl hl.1 rfl (lv_room (Nat.le_of_ble_eq_true rfl)) d_Modl_does_248 ⟨Nat.le_of_ble_eq_true rfl, Nat.le_of_ble_eq_true rfl⟩) hP hD hS hA [3] [0, 1, 2] rfl rfl (by decide) (by decide) (fun r_55 u_56 H locs hw hP hD hS => ?_)
            try dsimp only at hw
            subst hw
            have hP : va_P (dC, dI) classes [(m_he, .inl (cL, 36, .inr (.inl (hh_w ra rb)))), (m_pu, .inl (cL, 8, .inr (.inl (pp_w qa qb)))), (m_gv, .inl (cI, 4, .inl gg)), (y0, .inr (4, [.int th, .int (nI lm), .int sz, .int em, .int lt, .int sp, .int (nI np), .int fd, .int bg, .ref m_op, .ref m_nu, .ref m_gv, .ref m_sh, .ref m_he, .ref m_pu, .ref m_pc, .ref m_pl, .ref m_pb, .ref m_ps, .int pv, .int ev]))] H := hP
            have hD : va_D A [(m_he, .inl (cL, 36, .inr (.inl (hh_w ra rb)))), (m_pu, .inl (cL, 8, .inr (.inl (pp_w qa qb)))), (m_gv, .inl (cI, 4, .inl gg)), (y0, .inr (4, [.int th, .int (nI lm), .int sz, .int em, .int lt, .int sp, .int (nI np), .int fd, .int bg, .ref m_op, .ref m_nu, .ref m_gv, .ref m_sh, .ref m_he, .ref m_pu, .ref m_pc, .ref m_pl, .ref m_pb, .ref m_ps, .int pv, .int ev]))] := hD
            refine lv_ldiv hx hb d_Modl_does_251 (by decide) ?_
            refine lv_lstore (lv' := [(9, .long (((ra 16) * (ra 17)) / 1)), (7, .long (ra 17)), (5, .long (ra 16)), (4, .int 0), (0, .ref y0), (1, .int 0), (2, .int 6), (3, .int n0)]) hx hb d_Modl_does_252 hl (by decide) rfl (fun ls hl => ?_)
            refine lv_goto (tgt := 434) hx hb d_Modl_does_254 (by decide) ?_
            refine lv_aload_n hx hb d_Modl_does_434 rfl (lv_at hl 4 rfl) ?_
            refine va_get (D := (dC, dI)) (ci := 4) (v := .ref m_he) (C := R_Modl) (T := F_Modl) (N := 21) hx hb htb iw_Modl hown hK.1 hP 3 rfl rfl 13 (by decide) (htb _ tw_428) (fun _ h9 => h9) rfl d_Modl_does_435 ?_
            refine lv_iload hx hb d_Modl_does_438 (lv_at hl 3 rfl) ?_
            refine lv_bipush (v := 16) hx hb d_Modl_does_440 (by decide) ?_
            refine lv_iadd hx hb d_Modl_does_442 ?_
            refine W.eq (g2 := F0 m 443 ls [.int 16, .ref m_he]) rfl ?_
            refine lv_lload hx hb d_Modl_does_443 (lv_at hl 0 rfl) ?_
            refine sd_l (g := hh_w (vp_updL ra 16 (((ra 16) * (ra 17)) / 1)) rb) (cA := cL) hx hb hK.1 hP hD hS 0 1 rfl rfl (show ¬ (_ ∨ _) by decide) (hh_k0 (k := 16) (by decide)) d_Modl_does_445 (fun H locs hP hD hS => ?_)
            have hP : va_P (dC, dI) classes [(m_he, .inl (cL, 36, .inr (.inl (hh_w (vp_updL ra 16 (((ra 16) * (ra 17)) / 1)) rb)))), (m_pu, .inl (cL, 8, .inr (.inl (pp_w qa qb)))), (m_gv, .inl (cI, 4, .inl gg)), (y0, .inr (4, [.int th, .int (nI lm), .int sz, .int em, .int lt, .int sp, .int (nI np), .int fd, .int bg, .ref m_op, .ref m_nu, .ref m_gv, .ref m_sh, .ref m_he, .ref m_pu, .ref m_pc, .ref m_pl, .ref m_pb, .ref m_ps, .int pv, .int ev]))] H := hP
            have hD : va_D A [(m_he, .inl (cL, 36, .inr (.inl (hh_w (vp_updL ra 16 (((ra 16) * (ra 17)) / 1)) rb)))), (m_pu, .inl (cL, 8, .inr (.inl (pp_w qa qb)))), (m_gv, .inl (cI, 4, .inl gg)), (y0, .inr (4, [.int th, .int (nI lm), .int sz, .int em, .int lt, .int sp, .int (nI np), .int fd, .int bg, .ref m_op, .ref m_nu, .ref m_gv, .ref m_sh, .ref m_he, .ref m_pu, .ref m_pc, .ref m_pl, .ref m_pb, .ref m_ps, .int pv, .int ev]))] := hD
            refine lv_iload_n hx hb d_Modl_does_446 rfl (lv_at hl 6 rfl) ?_
            refine lv_iconst (v := 3) hx hb d_Modl_does_447 (by decide) ?_
            refine lv_icmp_le (tgt := 457) hx hb d_Modl_does_448 (by decide) (fun c_57 => ?_) (fun c_57 => ?_)
            · exact absurd c_57 (by decide)
            · skip
              refine lv_iload_n hx hb d_Modl_does_451 rfl (lv_at hl 6 rfl) ?_
              refine lv_bipush (v := 7) hx hb d_Modl_does_452 (by decide) ?_
              refine lv_icmp_lt (tgt := 469) hx hb d_Modl_does_454 (by decide) (fun c_58 => ?_) (fun c_58 => ?_)
              · skip
                refine lv_iconst (v := 1) hx hb d_Modl_does_469 (by decide) ?_
                refine lv_goto (tgt := 474) hx hb d_Modl_does_470 (by decide) ?_
                refine lv_istore (lv' := [(11, .int 1), (9, .long (((ra 16) * (ra 17)) / 1)), (7, .long (ra 17)), (5, .long (ra 16)), (4, .int 0), (0, .ref y0), (1, .int 0), (2, .int 6), (3, .int n0)]) hx hb d_Modl_does_474 hl (by decide) rfl (fun ls hl => ?_)
                refine lv_iload hx hb d_Modl_does_476 (lv_at hl 0 rfl) ?_
                refine lv_if_eq (tgt := 491) hx hb d_Modl_does_478 (by decide) (fun c_59 => ?_) (fun c_59 => ?_)
                · exact absurd c_59 (by decide)
                · skip
                  refine lv_aload_n hx hb d_Modl_does_481 rfl (lv_at hl 5 rfl) ?_
                  refine lv_iload_n hx hb d_Modl_does_482 rfl (lv_at hl 6 rfl) ?_
                  refine lv_lload hx hb d_Modl_does_483 (lv_at hl 1 rfl) ?_
                  refine af_i (wr := [(m_he, .inl (cL, 36, .inr (.inl (hh_w (vp_updL ra 16 (((ra 16) * (ra 17)) / 1)) rb)))), (m_pu, .inl (cL, 8, .inr (.inl (pp_w qa qb)))), (m_gv, .inl (cI, 4, .inl gg))]) (va_runV (As := [.int 0, .long (((ra 16) * (ra 17)) / 1)]) (rest := []) ⟨hx, hb, hml, hown, htb⟩ (c_Modl_may0 l dC dI cI cL H.size y0 th lm sz em lt sp np fd bg m_op m_nu m_gv m_sh m_he m_pu m_pc m_pl m_pb m_ps pv ev (((ra 16) * (ra 17)) / 1) ) ⟨callB_of 2 htb (gd_w tw_522) rfl rfl rfl (htb _ tw_25) (htb _ tw_519) (by decide +kernel) ⟨Nat.le_of_ble_eq_true rfl, Nat.le_of_ble_eq_true rfl⟩, htb _ tw_521, htb _ tw_17⟩ (pv_V hK (hP.sub (ws' := [(y0, .inr (4, [.int th, .int (nI lm), .int sz, .int em, .int lt, .int sp, .int (nI np), .int fd, .int bg, .ref m_op, .ref m_nu, .ref m_gv, .ref m_sh, .ref m_he, .ref m_pu, .ref m_pc, .ref m_pl, .ref m_pb, .ref m_ps, .int pv, .int ev]))]) [3] rfl) (hD.sub (ws' := [(y0, .inr (4, [.int th, .int (nI lm), .int sz, .int em, .int lt, .int sp, .int (nI np), .int fd, .int bg, .ref m_op, .ref m_nu, .ref m_gv, .ref m_sh, .ref m_he, .ref m_pu, .ref m_pc, .ref m_pl, .ref m_pb, .ref m_ps, .int pv, .int ev]))]) [3] (by decide) rfl) (ci := 4) (q0 := 0) rfl rfl) rfl rfl hl.1 rfl (lv_room (Nat.le_of_ble_eq_true rfl)) d_Modl_does_485 ⟨Nat.le_of_ble_eq_true rfl, Nat.le_of_ble_eq_true rfl⟩) hP hD hS hA [3] [0, 1, 2] rfl rfl (by decide) (by decide) (fun r_60 u_61 H locs hw hP hD hS => ?_)
                  try dsimp only at hw
                  subst hw
                  have hP : va_P (dC, dI) classes [(m_he, .inl (cL, 36, .inr (.inl (hh_w (vp_updL ra 16 (((ra 16) * (ra 17)) / 1)) rb)))), (m_pu, .inl (cL, 8, .inr (.inl (pp_w qa qb)))), (m_gv, .inl (cI, 4, .inl gg)), (y0, .inr (4, [.int th, .int (nI lm), .int sz, .int em, .int lt, .int sp, .int (nI np), .int fd, .int bg, .ref m_op, .ref m_nu, .ref m_gv, .ref m_sh, .ref m_he, .ref m_pu, .ref m_pc, .ref m_pl, .ref m_pb, .ref m_ps, .int pv, .int ev]))] H := hP
                  have hD : va_D A [(m_he, .inl (cL, 36, .inr (.inl (hh_w (vp_updL ra 16 (((ra 16) * (ra 17)) / 1)) rb)))), (m_pu, .inl (cL, 8, .inr (.inl (pp_w qa qb)))), (m_gv, .inl (cI, 4, .inl gg)), (y0, .inr (4, [.int th, .int (nI lm), .int sz, .int em, .int lt, .int sp, .int (nI np), .int fd, .int bg, .ref m_op, .ref m_nu, .ref m_gv, .ref m_sh, .ref m_he, .ref m_pu, .ref m_pc, .ref m_pl, .ref m_pb, .ref m_ps, .int pv, .int ev]))] := hD
                  refine lv_if_eq (tgt := 495) hx hb d_Modl_does_488 (by decide) (fun c_62 => ?_) (fun c_62 => ?_)
                  · have c_62 : (ma_w (-2000000000) 2000000000 (((ra 16) * (ra 17)) / 1)) = 0 := c_62
                    refine lv_iconst (v := 0) hx hb d_Modl_does_495 (by decide) ?_
                    exact rt_z (v := 0) ((vp_updL ra 16 (((ra 16) * (ra 17)) / 1)), qa, pv, ev) hx hb hr hlocks (by decide) (show (0 : Int32) = dz_w (de_w 1 6 n0 gg ra qa pv).1 ∧ (vp_updL ra 16 (((ra 16) * (ra 17)) / 1)) = (de_w 1 6 n0 gg ra qa pv).2.1 ∧ qa = (de_w 1 6 n0 gg ra qa pv).2.2.1 ∧ pv = (de_w 1 6 n0 gg ra qa pv).2.2.2 ∧ ev = en_w (de_w 1 6 n0 gg ra qa pv).1 ev from (by rw [de_6b (show ¬ (1 : Int64) = 0 by decide) (pb_3 c_38 c_50 c_51) (im_1 (show ¬ (1 : Int64) = 0 by decide) c_54)]; exact ⟨(dz_0 ((ma_tb0 (ra 16 * ra 17 / 1)).mp c_62)).symm, rfl, rfl, rfl, en_0 (tb_n1 _ _)⟩)) (hP.sub (ws' := [(y0, .inr (4, [.int th, .int (nI lm), .int sz, .int em, .int lt, .int sp, .int (nI np), .int fd, .int bg, .ref m_op, .ref m_nu, .ref m_gv, .ref m_sh, .ref m_he, .ref m_pu, .ref m_pc, .ref m_pl, .ref m_pb, .ref m_ps, .int pv, .int ev])), (m_he, .inl (cL, 36, .inr (.inl (hh_w (vp_updL ra 16 (((ra 16) * (ra 17)) / 1)) rb)))), (m_pu, .inl (cL, 8, .inr (.inl (pp_w qa qb)))), (m_gv, .inl (cI, 4, .inl gg))]) [3, 0, 1, 2] rfl) (hD.sub (ws' := [(y0, .inr (4, [.int th, .int (nI lm), .int sz, .int em, .int lt, .int sp, .int (nI np), .int fd, .int bg, .ref m_op, .ref m_nu, .ref m_gv, .ref m_sh, .ref m_he, .ref m_pu, .ref m_pc, .ref m_pl, .ref m_pb, .ref m_ps, .int pv, .int ev])), (m_he, .inl (cL, 36, .inr (.inl (hh_w (vp_updL ra 16 (((ra 16) * (ra 17)) / 1)) rb)))), (m_pu, .inl (cL, 8, .inr (.inl (pp_w qa qb)))), (m_gv, .inl (cI, 4, .inl gg))]) [3, 0, 1, 2] (by decide) rfl) hS d_Modl_does_496
                  · have c_62 : ¬ (ma_w (-2000000000) 2000000000 (((ra 16) * (ra 17)) / 1)) = 0 := c_62
                    refine lv_iconst (v := 1) hx hb d_Modl_does_491 (by decide) ?_
                    refine lv_goto (tgt := 496) hx hb d_Modl_does_492 (by decide) ?_
                    exact rt_z (v := 1) ((vp_updL ra 16 (((ra 16) * (ra 17)) / 1)), qa, pv, ev) hx hb hr hlocks (by decide) (show (1 : Int32) = dz_w (de_w 1 6 n0 gg ra qa pv).1 ∧ (vp_updL ra 16 (((ra 16) * (ra 17)) / 1)) = (de_w 1 6 n0 gg ra qa pv).2.1 ∧ qa = (de_w 1 6 n0 gg ra qa pv).2.2.1 ∧ pv = (de_w 1 6 n0 gg ra qa pv).2.2.2 ∧ ev = en_w (de_w 1 6 n0 gg ra qa pv).1 ev from (by rw [de_6b (show ¬ (1 : Int64) = 0 by decide) (pb_3 c_38 c_50 c_51) (im_1 (show ¬ (1 : Int64) = 0 by decide) c_54)]; exact ⟨(dz_1 (fun h9 => c_62 ((ma_tb0 (ra 16 * ra 17 / 1)).mpr h9))).symm, rfl, rfl, rfl, en_0 (tb_n1 _ _)⟩)) (hP.sub (ws' := [(y0, .inr (4, [.int th, .int (nI lm), .int sz, .int em, .int lt, .int sp, .int (nI np), .int fd, .int bg, .ref m_op, .ref m_nu, .ref m_gv, .ref m_sh, .ref m_he, .ref m_pu, .ref m_pc, .ref m_pl, .ref m_pb, .ref m_ps, .int pv, .int ev])), (m_he, .inl (cL, 36, .inr (.inl (hh_w (vp_updL ra 16 (((ra 16) * (ra 17)) / 1)) rb)))), (m_pu, .inl (cL, 8, .inr (.inl (pp_w qa qb)))), (m_gv, .inl (cI, 4, .inl gg))]) [3, 0, 1, 2] rfl) (hD.sub (ws' := [(y0, .inr (4, [.int th, .int (nI lm), .int sz, .int em, .int lt, .int sp, .int (nI np), .int fd, .int bg, .ref m_op, .ref m_nu, .ref m_gv, .ref m_sh, .ref m_he, .ref m_pu, .ref m_pc, .ref m_pl, .ref m_pb, .ref m_ps, .int pv, .int ev])), (m_he, .inl (cL, 36, .inr (.inl (hh_w (vp_updL ra 16 (((ra 16) * (ra 17)) / 1)) rb)))), (m_pu, .inl (cL, 8, .inr (.inl (pp_w qa qb)))), (m_gv, .inl (cI, 4, .inl gg))]) [3, 0, 1, 2] (by decide) rfl) hS d_Modl_does_496
              · exact absurd (by decide) c_58
          · have c_54 : ¬ (lg_cmp (((ra 16) * (ra 17)) - ((ra 16) * (ra 17)) / 1 * 1) 0) = 0 := c_54
            rw [lc_eq] at c_54
            refine lv_iconst (v := 0) hx hb d_Modl_does_242 (by decide) ?_
            exact rt_z (v := 0) (ra, qa, pv, ev) hx hb hr hlocks (by decide) (show (0 : Int32) = dz_w (de_w 1 6 n0 gg ra qa pv).1 ∧ ra = (de_w 1 6 n0 gg ra qa pv).2.1 ∧ qa = (de_w 1 6 n0 gg ra qa pv).2.2.1 ∧ pv = (de_w 1 6 n0 gg ra qa pv).2.2.2 ∧ ev = en_w (de_w 1 6 n0 gg ra qa pv).1 ev from (by rw [de_6a (pb_3 c_38 c_50 c_51) (im_0 c_54)]; exact ⟨rfl, rfl, rfl, rfl, rfl⟩)) (hP.sub (ws' := [(y0, .inr (4, [.int th, .int (nI lm), .int sz, .int em, .int lt, .int sp, .int (nI np), .int fd, .int bg, .ref m_op, .ref m_nu, .ref m_gv, .ref m_sh, .ref m_he, .ref m_pu, .ref m_pc, .ref m_pl, .ref m_pb, .ref m_ps, .int pv, .int ev])), (m_he, .inl (cL, 36, .inr (.inl (hh_w ra rb)))), (m_pu, .inl (cL, 8, .inr (.inl (pp_w qa qb)))), (m_gv, .inl (cI, 4, .inl gg))]) [3, 0, 1, 2] rfl) (hD.sub (ws' := [(y0, .inr (4, [.int th, .int (nI lm), .int sz, .int em, .int lt, .int sp, .int (nI np), .int fd, .int bg, .ref m_op, .ref m_nu, .ref m_gv, .ref m_sh, .ref m_he, .ref m_pu, .ref m_pc, .ref m_pl, .ref m_pb, .ref m_ps, .int pv, .int ev])), (m_he, .inl (cL, 36, .inr (.inl (hh_w ra rb)))), (m_pu, .inl (cL, 8, .inr (.inl (pp_w qa qb)))), (m_gv, .inl (cI, 4, .inl gg))]) [3, 0, 1, 2] (by decide) rfl) hS d_Modl_does_243
        · have c_51 : (lg_cmp (ra 16) (-1)) = 0 := c_51
          rw [lc_eq] at c_51
          refine lv_lload hx hb d_Modl_does_218 (lv_at hl 1 rfl) ?_
          refine lv_ldc2 (v := (-9223372036854775808)) hx hb hown (htb _ tw_517) d_Modl_does_220 ?_
          refine W.lcmp hx hb d_Modl_does_223 ?_
          refine lv_if_ne (tgt := 229) hx hb d_Modl_does_224 (by decide) (fun c_63 => ?_) (fun c_63 => ?_)
          · have c_63 : ¬ (lg_cmp (ra 17) (-9223372036854775808)) = 0 := c_63
            rw [lc_eq] at c_63
            refine lv_lload hx hb d_Modl_does_229 (lv_at hl 0 rfl) ?_
            refine lv_aload_n hx hb d_Modl_does_231 rfl (lv_at hl 4 rfl) ?_
            refine lv_iload_n hx hb d_Modl_does_232 rfl (lv_at hl 5 rfl) ?_
            refine af_l (wr := [(m_he, .inl (cL, 36, .inr (.inl (hh_w ra rb)))), (m_pu, .inl (cL, 8, .inr (.inl (pp_w qa qb)))), (m_gv, .inl (cI, 4, .inl gg))]) (va_runV (As := [.int 0]) (rest := [.long ((ra 16) * (ra 17))]) ⟨hx, hb, hml, hown, htb⟩ (c_Modl_times0 l dC dI cI cL s.heap.size y0 th lm sz em lt sp np fd bg m_op m_nu m_gv m_sh m_he m_pu m_pc m_pl m_pb m_ps pv ev ) ⟨callB_of 1 htb (gd_w tw_514) rfl rfl rfl (htb _ tw_25) (htb _ tw_511) (by decide +kernel) ⟨Nat.le_of_ble_eq_true rfl, Nat.le_of_ble_eq_true rfl⟩, htb _ tw_513, htb _ tw_16⟩ (pv_V hK (hP.sub (ws' := [(y0, .inr (4, [.int th, .int (nI lm), .int sz, .int em, .int lt, .int sp, .int (nI np), .int fd, .int bg, .ref m_op, .ref m_nu, .ref m_gv, .ref m_sh, .ref m_he, .ref m_pu, .ref m_pc, .ref m_pl, .ref m_pb, .ref m_ps, .int pv, .int ev]))]) [0] rfl) (hD.sub (ws' := [(y0, .inr (4, [.int th, .int (nI lm), .int sz, .int em, .int lt, .int sp, .int (nI np), .int fd, .int bg, .ref m_op, .ref m_nu, .ref m_gv, .ref m_sh, .ref m_he, .ref m_pu, .ref m_pc, .ref m_pl, .ref m_pb, .ref m_ps, .int pv, .int ev]))]) [0] (by decide) rfl) (ci := 4) (q0 := 0) rfl rfl) rfl rfl hl.1 rfl (lv_room (Nat.le_of_ble_eq_true rfl)) d_Modl_does_233 ⟨Nat.le_of_ble_eq_true rfl, Nat.le_of_ble_eq_true rfl⟩) hP hD hS hA [0] [1, 2, 3] rfl rfl (by decide) (by decide) (fun r_64 u_65 H locs hw hP hD hS => ?_)
            try dsimp only at hw
            subst hw
            have hP : va_P (dC, dI) classes [(m_he, .inl (cL, 36, .inr (.inl (hh_w ra rb)))), (m_pu, .inl (cL, 8, .inr (.inl (pp_w qa qb)))), (m_gv, .inl (cI, 4, .inl gg)), (y0, .inr (4, [.int th, .int (nI lm), .int sz, .int em, .int lt, .int sp, .int (nI np), .int fd, .int bg, .ref m_op, .ref m_nu, .ref m_gv, .ref m_sh, .ref m_he, .ref m_pu, .ref m_pc, .ref m_pl, .ref m_pb, .ref m_ps, .int pv, .int ev]))] H := hP
            have hD : va_D A [(m_he, .inl (cL, 36, .inr (.inl (hh_w ra rb)))), (m_pu, .inl (cL, 8, .inr (.inl (pp_w qa qb)))), (m_gv, .inl (cI, 4, .inl gg)), (y0, .inr (4, [.int th, .int (nI lm), .int sz, .int em, .int lt, .int sp, .int (nI np), .int fd, .int bg, .ref m_op, .ref m_nu, .ref m_gv, .ref m_sh, .ref m_he, .ref m_pu, .ref m_pc, .ref m_pl, .ref m_pb, .ref m_ps, .int pv, .int ev]))] := hD
            refine lv_lrem hx hb d_Modl_does_236 (by decide) ?_
            refine lv_lconst (v := 0) hx hb d_Modl_does_237 (by decide) ?_
            refine W.lcmp hx hb d_Modl_does_238 ?_
            refine lv_if_eq (tgt := 244) hx hb d_Modl_does_239 (by decide) (fun c_66 => ?_) (fun c_66 => ?_)
            · have c_66 : (lg_cmp (((ra 16) * (ra 17)) - ((ra 16) * (ra 17)) / 1 * 1) 0) = 0 := c_66
              rw [lc_eq] at c_66
              refine lv_lload hx hb d_Modl_does_244 (lv_at hl 0 rfl) ?_
              refine lv_aload_n hx hb d_Modl_does_246 rfl (lv_at hl 4 rfl) ?_
              refine lv_iload_n hx hb d_Modl_does_247 rfl (lv_at hl 5 rfl) ?_
              refine af_l (wr := [(m_he, .inl (cL, 36, .inr (.inl (hh_w ra rb)))), (m_pu, .inl (cL, 8, .inr (.inl (pp_w qa qb)))), (m_gv, .inl (cI, 4, .inl gg))]) (va_runV (As := [.int 0]) (rest := [.long ((ra 16) * (ra 17))]) ⟨hx, hb, hml, hown, htb⟩ (c_Modl_times0 l dC dI cI cL H.size y0 th lm sz em lt sp np fd bg m_op m_nu m_gv m_sh m_he m_pu m_pc m_pl m_pb m_ps pv ev ) ⟨callB_of 1 htb (gd_w tw_514) rfl rfl rfl (htb _ tw_25) (htb _ tw_511) (by decide +kernel) ⟨Nat.le_of_ble_eq_true rfl, Nat.le_of_ble_eq_true rfl⟩, htb _ tw_513, htb _ tw_16⟩ (pv_V hK (hP.sub (ws' := [(y0, .inr (4, [.int th, .int (nI lm), .int sz, .int em, .int lt, .int sp, .int (nI np), .int fd, .int bg, .ref m_op, .ref m_nu, .ref m_gv, .ref m_sh, .ref m_he, .ref m_pu, .ref m_pc, .ref m_pl, .ref m_pb, .ref m_ps, .int pv, .int ev]))]) [3] rfl) (hD.sub (ws' := [(y0, .inr (4, [.int th, .int (nI lm), .int sz, .int em, .int lt, .int sp, .int (nI np), .int fd, .int bg, .ref m_op, .ref m_nu, .ref m_gv, .ref m_sh, .ref m_he, .ref m_pu, .ref m_pc, .ref m_pl, .ref m_pb, .ref m_ps, .int pv, .int ev]))]) [3] (by decide) rfl) (ci := 4) (q0 := 0) rfl rfl) rfl rfl hl.1 rfl (lv_room (Nat.le_of_ble_eq_true rfl)) d_Modl_does_248 ⟨Nat.le_of_ble_eq_true rfl, Nat.le_of_ble_eq_true rfl⟩) hP hD hS hA [3] [0, 1, 2] rfl rfl (by decide) (by decide) (fun r_67 u_68 H locs hw hP hD hS => ?_)
              try dsimp only at hw
              subst hw
              have hP : va_P (dC, dI) classes [(m_he, .inl (cL, 36, .inr (.inl (hh_w ra rb)))), (m_pu, .inl (cL, 8, .inr (.inl (pp_w qa qb)))), (m_gv, .inl (cI, 4, .inl gg)), (y0, .inr (4, [.int th, .int (nI lm), .int sz, .int em, .int lt, .int sp, .int (nI np), .int fd, .int bg, .ref m_op, .ref m_nu, .ref m_gv, .ref m_sh, .ref m_he, .ref m_pu, .ref m_pc, .ref m_pl, .ref m_pb, .ref m_ps, .int pv, .int ev]))] H := hP
              have hD : va_D A [(m_he, .inl (cL, 36, .inr (.inl (hh_w ra rb)))), (m_pu, .inl (cL, 8, .inr (.inl (pp_w qa qb)))), (m_gv, .inl (cI, 4, .inl gg)), (y0, .inr (4, [.int th, .int (nI lm), .int sz, .int em, .int lt, .int sp, .int (nI np), .int fd, .int bg, .ref m_op, .ref m_nu, .ref m_gv, .ref m_sh, .ref m_he, .ref m_pu, .ref m_pc, .ref m_pl, .ref m_pb, .ref m_ps, .int pv, .int ev]))] := hD
              refine lv_ldiv hx hb d_Modl_does_251 (by decide) ?_
              refine lv_lstore (lv' := [(9, .long (((ra 16) * (ra 17)) / 1)), (7, .long (ra 17)), (5, .long (ra 16)), (4, .int 0), (0, .ref y0), (1, .int 0), (2, .int 6), (3, .int n0)]) hx hb d_Modl_does_252 hl (by decide) rfl (fun ls hl => ?_)
              refine lv_goto (tgt := 434) hx hb d_Modl_does_254 (by decide) ?_
              refine lv_aload_n hx hb d_Modl_does_434 rfl (lv_at hl 4 rfl) ?_
              refine va_get (D := (dC, dI)) (ci := 4) (v := .ref m_he) (C := R_Modl) (T := F_Modl) (N := 21) hx hb htb iw_Modl hown hK.1 hP 3 rfl rfl 13 (by decide) (htb _ tw_428) (fun _ h9 => h9) rfl d_Modl_does_435 ?_
              refine lv_iload hx hb d_Modl_does_438 (lv_at hl 3 rfl) ?_
              refine lv_bipush (v := 16) hx hb d_Modl_does_440 (by decide) ?_
              refine lv_iadd hx hb d_Modl_does_442 ?_
              refine W.eq (g2 := F0 m 443 ls [.int 16, .ref m_he]) rfl ?_
              refine lv_lload hx hb d_Modl_does_443 (lv_at hl 0 rfl) ?_
              refine sd_l (g := hh_w (vp_updL ra 16 (((ra 16) * (ra 17)) / 1)) rb) (cA := cL) hx hb hK.1 hP hD hS 0 1 rfl rfl (show ¬ (_ ∨ _) by decide) (hh_k0 (k := 16) (by decide)) d_Modl_does_445 (fun H locs hP hD hS => ?_)
              have hP : va_P (dC, dI) classes [(m_he, .inl (cL, 36, .inr (.inl (hh_w (vp_updL ra 16 (((ra 16) * (ra 17)) / 1)) rb)))), (m_pu, .inl (cL, 8, .inr (.inl (pp_w qa qb)))), (m_gv, .inl (cI, 4, .inl gg)), (y0, .inr (4, [.int th, .int (nI lm), .int sz, .int em, .int lt, .int sp, .int (nI np), .int fd, .int bg, .ref m_op, .ref m_nu, .ref m_gv, .ref m_sh, .ref m_he, .ref m_pu, .ref m_pc, .ref m_pl, .ref m_pb, .ref m_ps, .int pv, .int ev]))] H := hP
              have hD : va_D A [(m_he, .inl (cL, 36, .inr (.inl (hh_w (vp_updL ra 16 (((ra 16) * (ra 17)) / 1)) rb)))), (m_pu, .inl (cL, 8, .inr (.inl (pp_w qa qb)))), (m_gv, .inl (cI, 4, .inl gg)), (y0, .inr (4, [.int th, .int (nI lm), .int sz, .int em, .int lt, .int sp, .int (nI np), .int fd, .int bg, .ref m_op, .ref m_nu, .ref m_gv, .ref m_sh, .ref m_he, .ref m_pu, .ref m_pc, .ref m_pl, .ref m_pb, .ref m_ps, .int pv, .int ev]))] := hD
              refine lv_iload_n hx hb d_Modl_does_446 rfl (lv_at hl 6 rfl) ?_
              refine lv_iconst (v := 3) hx hb d_Modl_does_447 (by decide) ?_
              refine lv_icmp_le (tgt := 457) hx hb d_Modl_does_448 (by decide) (fun c_69 => ?_) (fun c_69 => ?_)
              · exact absurd c_69 (by decide)
              · skip
                refine lv_iload_n hx hb d_Modl_does_451 rfl (lv_at hl 6 rfl) ?_
                refine lv_bipush (v := 7) hx hb d_Modl_does_452 (by decide) ?_
                refine lv_icmp_lt (tgt := 469) hx hb d_Modl_does_454 (by decide) (fun c_70 => ?_) (fun c_70 => ?_)
                · skip
                  refine lv_iconst (v := 1) hx hb d_Modl_does_469 (by decide) ?_
                  refine lv_goto (tgt := 474) hx hb d_Modl_does_470 (by decide) ?_
                  refine lv_istore (lv' := [(11, .int 1), (9, .long (((ra 16) * (ra 17)) / 1)), (7, .long (ra 17)), (5, .long (ra 16)), (4, .int 0), (0, .ref y0), (1, .int 0), (2, .int 6), (3, .int n0)]) hx hb d_Modl_does_474 hl (by decide) rfl (fun ls hl => ?_)
                  refine lv_iload hx hb d_Modl_does_476 (lv_at hl 0 rfl) ?_
                  refine lv_if_eq (tgt := 491) hx hb d_Modl_does_478 (by decide) (fun c_71 => ?_) (fun c_71 => ?_)
                  · exact absurd c_71 (by decide)
                  · skip
                    refine lv_aload_n hx hb d_Modl_does_481 rfl (lv_at hl 5 rfl) ?_
                    refine lv_iload_n hx hb d_Modl_does_482 rfl (lv_at hl 6 rfl) ?_
                    refine lv_lload hx hb d_Modl_does_483 (lv_at hl 1 rfl) ?_
                    refine af_i (wr := [(m_he, .inl (cL, 36, .inr (.inl (hh_w (vp_updL ra 16 (((ra 16) * (ra 17)) / 1)) rb)))), (m_pu, .inl (cL, 8, .inr (.inl (pp_w qa qb)))), (m_gv, .inl (cI, 4, .inl gg))]) (va_runV (As := [.int 0, .long (((ra 16) * (ra 17)) / 1)]) (rest := []) ⟨hx, hb, hml, hown, htb⟩ (c_Modl_may0 l dC dI cI cL H.size y0 th lm sz em lt sp np fd bg m_op m_nu m_gv m_sh m_he m_pu m_pc m_pl m_pb m_ps pv ev (((ra 16) * (ra 17)) / 1) ) ⟨callB_of 2 htb (gd_w tw_522) rfl rfl rfl (htb _ tw_25) (htb _ tw_519) (by decide +kernel) ⟨Nat.le_of_ble_eq_true rfl, Nat.le_of_ble_eq_true rfl⟩, htb _ tw_521, htb _ tw_17⟩ (pv_V hK (hP.sub (ws' := [(y0, .inr (4, [.int th, .int (nI lm), .int sz, .int em, .int lt, .int sp, .int (nI np), .int fd, .int bg, .ref m_op, .ref m_nu, .ref m_gv, .ref m_sh, .ref m_he, .ref m_pu, .ref m_pc, .ref m_pl, .ref m_pb, .ref m_ps, .int pv, .int ev]))]) [3] rfl) (hD.sub (ws' := [(y0, .inr (4, [.int th, .int (nI lm), .int sz, .int em, .int lt, .int sp, .int (nI np), .int fd, .int bg, .ref m_op, .ref m_nu, .ref m_gv, .ref m_sh, .ref m_he, .ref m_pu, .ref m_pc, .ref m_pl, .ref m_pb, .ref m_ps, .int pv, .int ev]))]) [3] (by decide) rfl) (ci := 4) (q0 := 0) rfl rfl) rfl rfl hl.1 rfl (lv_room (Nat.le_of_ble_eq_true rfl)) d_Modl_does_485 ⟨Nat.le_of_ble_eq_true rfl, Nat.le_of_ble_eq_true rfl⟩) hP hD hS hA [3] [0, 1, 2] rfl rfl (by decide) (by decide) (fun r_72 u_73 H locs hw hP hD hS => ?_)
                    try dsimp only at hw
                    subst hw
                    have hP : va_P (dC, dI) classes [(m_he, .inl (cL, 36, .inr (.inl (hh_w (vp_updL ra 16 (((ra 16) * (ra 17)) / 1)) rb)))), (m_pu, .inl (cL, 8, .inr (.inl (pp_w qa qb)))), (m_gv, .inl (cI, 4, .inl gg)), (y0, .inr (4, [.int th, .int (nI lm), .int sz, .int em, .int lt, .int sp, .int (nI np), .int fd, .int bg, .ref m_op, .ref m_nu, .ref m_gv, .ref m_sh, .ref m_he, .ref m_pu, .ref m_pc, .ref m_pl, .ref m_pb, .ref m_ps, .int pv, .int ev]))] H := hP
                    have hD : va_D A [(m_he, .inl (cL, 36, .inr (.inl (hh_w (vp_updL ra 16 (((ra 16) * (ra 17)) / 1)) rb)))), (m_pu, .inl (cL, 8, .inr (.inl (pp_w qa qb)))), (m_gv, .inl (cI, 4, .inl gg)), (y0, .inr (4, [.int th, .int (nI lm), .int sz, .int em, .int lt, .int sp, .int (nI np), .int fd, .int bg, .ref m_op, .ref m_nu, .ref m_gv, .ref m_sh, .ref m_he, .ref m_pu, .ref m_pc, .ref m_pl, .ref m_pb, .ref m_ps, .int pv, .int ev]))] := hD
                    refine lv_if_eq (tgt := 495) hx hb d_Modl_does_488 (by decide) (fun c_74 => ?_) (fun c_74 => ?_)
                    · have c_74 : (ma_w (-2000000000) 2000000000 (((ra 16) * (ra 17)) / 1)) = 0 := c_74
                      refine lv_iconst (v := 0) hx hb d_Modl_does_495 (by decide) ?_
                      exact rt_z (v := 0) ((vp_updL ra 16 (((ra 16) * (ra 17)) / 1)), qa, pv, ev) hx hb hr hlocks (by decide) (show (0 : Int32) = dz_w (de_w 1 6 n0 gg ra qa pv).1 ∧ (vp_updL ra 16 (((ra 16) * (ra 17)) / 1)) = (de_w 1 6 n0 gg ra qa pv).2.1 ∧ qa = (de_w 1 6 n0 gg ra qa pv).2.2.1 ∧ pv = (de_w 1 6 n0 gg ra qa pv).2.2.2 ∧ ev = en_w (de_w 1 6 n0 gg ra qa pv).1 ev from (by rw [de_6b (show ¬ (1 : Int64) = 0 by decide) (pb_5 c_38 c_51 c_63) (im_1 (show ¬ (1 : Int64) = 0 by decide) c_66)]; exact ⟨(dz_0 ((ma_tb0 (ra 16 * ra 17 / 1)).mp c_74)).symm, rfl, rfl, rfl, en_0 (tb_n1 _ _)⟩)) (hP.sub (ws' := [(y0, .inr (4, [.int th, .int (nI lm), .int sz, .int em, .int lt, .int sp, .int (nI np), .int fd, .int bg, .ref m_op, .ref m_nu, .ref m_gv, .ref m_sh, .ref m_he, .ref m_pu, .ref m_pc, .ref m_pl, .ref m_pb, .ref m_ps, .int pv, .int ev])), (m_he, .inl (cL, 36, .inr (.inl (hh_w (vp_updL ra 16 (((ra 16) * (ra 17)) / 1)) rb)))), (m_pu, .inl (cL, 8, .inr (.inl (pp_w qa qb)))), (m_gv, .inl (cI, 4, .inl gg))]) [3, 0, 1, 2] rfl) (hD.sub (ws' := [(y0, .inr (4, [.int th, .int (nI lm), .int sz, .int em, .int lt, .int sp, .int (nI np), .int fd, .int bg, .ref m_op, .ref m_nu, .ref m_gv, .ref m_sh, .ref m_he, .ref m_pu, .ref m_pc, .ref m_pl, .ref m_pb, .ref m_ps, .int pv, .int ev])), (m_he, .inl (cL, 36, .inr (.inl (hh_w (vp_updL ra 16 (((ra 16) * (ra 17)) / 1)) rb)))), (m_pu, .inl (cL, 8, .inr (.inl (pp_w qa qb)))), (m_gv, .inl (cI, 4, .inl gg))]) [3, 0, 1, 2] (by decide) rfl) hS d_Modl_does_496
                    · have c_74 : ¬ (ma_w (-2000000000) 2000000000 (((ra 16) * (ra 17)) / 1)) = 0 := c_74
                      refine lv_iconst (v := 1) hx hb d_Modl_does_491 (by decide) ?_
                      refine lv_goto (tgt := 496) hx hb d_Modl_does_492 (by decide) ?_
                      exact rt_z (v := 1) ((vp_updL ra 16 (((ra 16) * (ra 17)) / 1)), qa, pv, ev) hx hb hr hlocks (by decide) (show (1 : Int32) = dz_w (de_w 1 6 n0 gg ra qa pv).1 ∧ (vp_updL ra 16 (((ra 16) * (ra 17)) / 1)) = (de_w 1 6 n0 gg ra qa pv).2.1 ∧ qa = (de_w 1 6 n0 gg ra qa pv).2.2.1 ∧ pv = (de_w 1 6 n0 gg ra qa pv).2.2.2 ∧ ev = en_w (de_w 1 6 n0 gg ra qa pv).1 ev from (by rw [de_6b (show ¬ (1 : Int64) = 0 by decide) (pb_5 c_38 c_51 c_63) (im_1 (show ¬ (1 : Int64) = 0 by decide) c_66)]; exact ⟨(dz_1 (fun h9 => c_74 ((ma_tb0 (ra 16 * ra 17 / 1)).mpr h9))).symm, rfl, rfl, rfl, en_0 (tb_n1 _ _)⟩)) (hP.sub (ws' := [(y0, .inr (4, [.int th, .int (nI lm), .int sz, .int em, .int lt, .int sp, .int (nI np), .int fd, .int bg, .ref m_op, .ref m_nu, .ref m_gv, .ref m_sh, .ref m_he, .ref m_pu, .ref m_pc, .ref m_pl, .ref m_pb, .ref m_ps, .int pv, .int ev])), (m_he, .inl (cL, 36, .inr (.inl (hh_w (vp_updL ra 16 (((ra 16) * (ra 17)) / 1)) rb)))), (m_pu, .inl (cL, 8, .inr (.inl (pp_w qa qb)))), (m_gv, .inl (cI, 4, .inl gg))]) [3, 0, 1, 2] rfl) (hD.sub (ws' := [(y0, .inr (4, [.int th, .int (nI lm), .int sz, .int em, .int lt, .int sp, .int (nI np), .int fd, .int bg, .ref m_op, .ref m_nu, .ref m_gv, .ref m_sh, .ref m_he, .ref m_pu, .ref m_pc, .ref m_pl, .ref m_pb, .ref m_ps, .int pv, .int ev])), (m_he, .inl (cL, 36, .inr (.inl (hh_w (vp_updL ra 16 (((ra 16) * (ra 17)) / 1)) rb)))), (m_pu, .inl (cL, 8, .inr (.inl (pp_w qa qb)))), (m_gv, .inl (cI, 4, .inl gg))]) [3, 0, 1, 2] (by decide) rfl) hS d_Modl_does_496
                · exact absurd (by decide) c_70
            · have c_66 : ¬ (lg_cmp (((ra 16) * (ra 17)) - ((ra 16) * (ra 17)) / 1 * 1) 0) = 0 := c_66
              rw [lc_eq] at c_66
              refine lv_iconst (v := 0) hx hb d_Modl_does_242 (by decide) ?_
              exact rt_z (v := 0) (ra, qa, pv, ev) hx hb hr hlocks (by decide) (show (0 : Int32) = dz_w (de_w 1 6 n0 gg ra qa pv).1 ∧ ra = (de_w 1 6 n0 gg ra qa pv).2.1 ∧ qa = (de_w 1 6 n0 gg ra qa pv).2.2.1 ∧ pv = (de_w 1 6 n0 gg ra qa pv).2.2.2 ∧ ev = en_w (de_w 1 6 n0 gg ra qa pv).1 ev from (by rw [de_6a (pb_5 c_38 c_51 c_63) (im_0 c_66)]; exact ⟨rfl, rfl, rfl, rfl, rfl⟩)) (hP.sub (ws' := [(y0, .inr (4, [.int th, .int (nI lm), .int sz, .int em, .int lt, .int sp, .int (nI np), .int fd, .int bg, .ref m_op, .ref m_nu, .ref m_gv, .ref m_sh, .ref m_he, .ref m_pu, .ref m_pc, .ref m_pl, .ref m_pb, .ref m_ps, .int pv, .int ev])), (m_he, .inl (cL, 36, .inr (.inl (hh_w ra rb)))), (m_pu, .inl (cL, 8, .inr (.inl (pp_w qa qb)))), (m_gv, .inl (cI, 4, .inl gg))]) [3, 0, 1, 2] rfl) (hD.sub (ws' := [(y0, .inr (4, [.int th, .int (nI lm), .int sz, .int em, .int lt, .int sp, .int (nI np), .int fd, .int bg, .ref m_op, .ref m_nu, .ref m_gv, .ref m_sh, .ref m_he, .ref m_pu, .ref m_pc, .ref m_pl, .ref m_pb, .ref m_ps, .int pv, .int ev])), (m_he, .inl (cL, 36, .inr (.inl (hh_w ra rb)))), (m_pu, .inl (cL, 8, .inr (.inl (pp_w qa qb)))), (m_gv, .inl (cI, 4, .inl gg))]) [3, 0, 1, 2] (by decide) rfl) hS d_Modl_does_243
          · have c_63 : (lg_cmp (ra 17) (-9223372036854775808)) = 0 := c_63
            rw [lc_eq] at c_63
            refine lv_iconst (v := 0) hx hb d_Modl_does_227 (by decide) ?_
            exact rt_z (v := 0) (ra, qa, pv, ev) hx hb hr hlocks (by decide) (show (0 : Int32) = dz_w (de_w 1 6 n0 gg ra qa pv).1 ∧ ra = (de_w 1 6 n0 gg ra qa pv).2.1 ∧ qa = (de_w 1 6 n0 gg ra qa pv).2.2.1 ∧ pv = (de_w 1 6 n0 gg ra qa pv).2.2.2 ∧ ev = en_w (de_w 1 6 n0 gg ra qa pv).1 ev from (by rw [de_6c (pb_4 c_51 c_63)]; exact ⟨rfl, rfl, rfl, rfl, rfl⟩)) (hP.sub (ws' := [(y0, .inr (4, [.int th, .int (nI lm), .int sz, .int em, .int lt, .int sp, .int (nI np), .int fd, .int bg, .ref m_op, .ref m_nu, .ref m_gv, .ref m_sh, .ref m_he, .ref m_pu, .ref m_pc, .ref m_pl, .ref m_pb, .ref m_ps, .int pv, .int ev])), (m_he, .inl (cL, 36, .inr (.inl (hh_w ra rb)))), (m_pu, .inl (cL, 8, .inr (.inl (pp_w qa qb)))), (m_gv, .inl (cI, 4, .inl gg))]) [0, 1, 2, 3] rfl) (hD.sub (ws' := [(y0, .inr (4, [.int th, .int (nI lm), .int sz, .int em, .int lt, .int sp, .int (nI np), .int fd, .int bg, .ref m_op, .ref m_nu, .ref m_gv, .ref m_sh, .ref m_he, .ref m_pu, .ref m_pc, .ref m_pl, .ref m_pb, .ref m_ps, .int pv, .int ev])), (m_he, .inl (cL, 36, .inr (.inl (hh_w ra rb)))), (m_pu, .inl (cL, 8, .inr (.inl (pp_w qa qb)))), (m_gv, .inl (cI, 4, .inl gg))]) [0, 1, 2, 3] (by decide) rfl) hS d_Modl_does_228
  by_cases c_75 : o0 = 7
  · refine lv_tableIn (tgt := 257) hx hb d_Modl_does_35 (by rw [c_75]; decide) (by rw [c_75]; decide) (by rw [c_75]; rfl) (by decide) ?_
    subst c_75
    refine lv_lload hx hb d_Modl_does_257 (lv_at hl 2 rfl) ?_
    refine lv_lload hx hb d_Modl_does_259 (lv_at hl 1 rfl) ?_
    refine W.lcmp hx hb d_Modl_does_261 ?_
    refine lv_if_ge (tgt := 273) hx hb d_Modl_does_262 (by decide) (fun c_76 => ?_) (fun c_76 => ?_)
    · have c_76 : 0 ≤ (lg_cmp (ra 16) (ra 17)) := c_76
      rw [lc_ge] at c_76
      refine lv_lconst (v := 0) hx hb d_Modl_does_273 (by decide) ?_
      refine lv_lstore (lv' := [(9, .long 0), (7, .long (ra 17)), (5, .long (ra 16)), (4, .int 0), (0, .ref y0), (1, .int 0), (2, .int 7), (3, .int n0)]) hx hb d_Modl_does_274 hl (by decide) rfl (fun ls hl => ?_)
      refine lv_goto (tgt := 434) hx hb d_Modl_does_276 (by decide) ?_
      refine lv_aload_n hx hb d_Modl_does_434 rfl (lv_at hl 4 rfl) ?_
      refine va_get (D := (dC, dI)) (ci := 4) (v := .ref m_he) (C := R_Modl) (T := F_Modl) (N := 21) hx hb htb iw_Modl hown hK.1 hP 0 rfl rfl 13 (by decide) (htb _ tw_428) (fun _ h9 => h9) rfl d_Modl_does_435 ?_
      refine lv_iload hx hb d_Modl_does_438 (lv_at hl 3 rfl) ?_
      refine lv_bipush (v := 16) hx hb d_Modl_does_440 (by decide) ?_
      refine lv_iadd hx hb d_Modl_does_442 ?_
      refine W.eq (g2 := F0 m 443 ls [.int 16, .ref m_he]) rfl ?_
      refine lv_lload hx hb d_Modl_does_443 (lv_at hl 0 rfl) ?_
      refine sd_l (g := hh_w (vp_updL ra 16 0) rb) (cA := cL) hx hb hK.1 hP hD hS 1 1 rfl rfl (show ¬ (_ ∨ _) by decide) (hh_k0 (k := 16) (by decide)) d_Modl_does_445 (fun H locs hP hD hS => ?_)
      have hP : va_P (dC, dI) classes [(y0, .inr (4, [.int th, .int (nI lm), .int sz, .int em, .int lt, .int sp, .int (nI np), .int fd, .int bg, .ref m_op, .ref m_nu, .ref m_gv, .ref m_sh, .ref m_he, .ref m_pu, .ref m_pc, .ref m_pl, .ref m_pb, .ref m_ps, .int pv, .int ev])), (m_he, .inl (cL, 36, .inr (.inl (hh_w (vp_updL ra 16 0) rb)))), (m_pu, .inl (cL, 8, .inr (.inl (pp_w qa qb)))), (m_gv, .inl (cI, 4, .inl gg))] H := hP
      have hD : va_D A [(y0, .inr (4, [.int th, .int (nI lm), .int sz, .int em, .int lt, .int sp, .int (nI np), .int fd, .int bg, .ref m_op, .ref m_nu, .ref m_gv, .ref m_sh, .ref m_he, .ref m_pu, .ref m_pc, .ref m_pl, .ref m_pb, .ref m_ps, .int pv, .int ev])), (m_he, .inl (cL, 36, .inr (.inl (hh_w (vp_updL ra 16 0) rb)))), (m_pu, .inl (cL, 8, .inr (.inl (pp_w qa qb)))), (m_gv, .inl (cI, 4, .inl gg))] := hD
      refine lv_iload_n hx hb d_Modl_does_446 rfl (lv_at hl 6 rfl) ?_
      refine lv_iconst (v := 3) hx hb d_Modl_does_447 (by decide) ?_
      refine lv_icmp_le (tgt := 457) hx hb d_Modl_does_448 (by decide) (fun c_77 => ?_) (fun c_77 => ?_)
      · exact absurd c_77 (by decide)
      · skip
        refine lv_iload_n hx hb d_Modl_does_451 rfl (lv_at hl 6 rfl) ?_
        refine lv_bipush (v := 7) hx hb d_Modl_does_452 (by decide) ?_
        refine lv_icmp_lt (tgt := 469) hx hb d_Modl_does_454 (by decide) (fun c_78 => ?_) (fun c_78 => ?_)
        · exact absurd c_78 (by decide)
        · skip
          refine lv_iload_n hx hb d_Modl_does_457 rfl (lv_at hl 6 rfl) ?_
          refine lv_bipush (v := 9) hx hb d_Modl_does_458 (by decide) ?_
          refine lv_icmp_eq (tgt := 469) hx hb d_Modl_does_460 (by decide) (fun c_79 => ?_) (fun c_79 => ?_)
          · exact absurd c_79 (by decide)
          · skip
            refine lv_iload_n hx hb d_Modl_does_463 rfl (lv_at hl 6 rfl) ?_
            refine lv_bipush (v := 12) hx hb d_Modl_does_464 (by decide) ?_
            refine lv_icmp_ne (tgt := 473) hx hb d_Modl_does_466 (by decide) (fun c_80 => ?_) (fun c_80 => ?_)
            · skip
              refine lv_iconst (v := 0) hx hb d_Modl_does_473 (by decide) ?_
              refine lv_istore (lv' := [(11, .int 0), (9, .long 0), (7, .long (ra 17)), (5, .long (ra 16)), (4, .int 0), (0, .ref y0), (1, .int 0), (2, .int 7), (3, .int n0)]) hx hb d_Modl_does_474 hl (by decide) rfl (fun ls hl => ?_)
              refine lv_iload hx hb d_Modl_does_476 (lv_at hl 0 rfl) ?_
              refine lv_if_eq (tgt := 491) hx hb d_Modl_does_478 (by decide) (fun c_81 => ?_) (fun c_81 => ?_)
              · skip
                refine lv_iconst (v := 1) hx hb d_Modl_does_491 (by decide) ?_
                refine lv_goto (tgt := 496) hx hb d_Modl_does_492 (by decide) ?_
                exact rt_z (v := 1) ((vp_updL ra 16 0), qa, pv, ev) hx hb hr hlocks (by decide) (show (1 : Int32) = dz_w (de_w 1 7 n0 gg ra qa pv).1 ∧ (vp_updL ra 16 0) = (de_w 1 7 n0 gg ra qa pv).2.1 ∧ qa = (de_w 1 7 n0 gg ra qa pv).2.2.1 ∧ pv = (de_w 1 7 n0 gg ra qa pv).2.2.2 ∧ ev = en_w (de_w 1 7 n0 gg ra qa pv).1 ev from (by rw [de_7n c_76]; exact ⟨rfl, rfl, rfl, rfl, rfl⟩)) (hP.sub (ws' := [(y0, .inr (4, [.int th, .int (nI lm), .int sz, .int em, .int lt, .int sp, .int (nI np), .int fd, .int bg, .ref m_op, .ref m_nu, .ref m_gv, .ref m_sh, .ref m_he, .ref m_pu, .ref m_pc, .ref m_pl, .ref m_pb, .ref m_ps, .int pv, .int ev])), (m_he, .inl (cL, 36, .inr (.inl (hh_w (vp_updL ra 16 0) rb)))), (m_pu, .inl (cL, 8, .inr (.inl (pp_w qa qb)))), (m_gv, .inl (cI, 4, .inl gg))]) [0, 1, 2, 3] rfl) (hD.sub (ws' := [(y0, .inr (4, [.int th, .int (nI lm), .int sz, .int em, .int lt, .int sp, .int (nI np), .int fd, .int bg, .ref m_op, .ref m_nu, .ref m_gv, .ref m_sh, .ref m_he, .ref m_pu, .ref m_pc, .ref m_pl, .ref m_pb, .ref m_ps, .int pv, .int ev])), (m_he, .inl (cL, 36, .inr (.inl (hh_w (vp_updL ra 16 0) rb)))), (m_pu, .inl (cL, 8, .inr (.inl (pp_w qa qb)))), (m_gv, .inl (cI, 4, .inl gg))]) [0, 1, 2, 3] (by decide) rfl) hS d_Modl_does_496
              · exact absurd (by decide) c_81
            · exact absurd c_80 (by decide)
    · have c_76 : ¬ 0 ≤ (lg_cmp (ra 16) (ra 17)) := c_76
      rw [lc_ge, Decidable.not_not] at c_76
      refine lv_aload_n hx hb d_Modl_does_265 rfl (lv_at hl 4 rfl) ?_
      refine lv_iload_n hx hb d_Modl_does_266 rfl (lv_at hl 5 rfl) ?_
      refine af_l (wr := [(m_he, .inl (cL, 36, .inr (.inl (hh_w ra rb)))), (m_pu, .inl (cL, 8, .inr (.inl (pp_w qa qb)))), (m_gv, .inl (cI, 4, .inl gg))]) (va_runV (As := [.int 0]) (rest := []) ⟨hx, hb, hml, hown, htb⟩ (c_Modl_times0 l dC dI cI cL s.heap.size y0 th lm sz em lt sp np fd bg m_op m_nu m_gv m_sh m_he m_pu m_pc m_pl m_pb m_ps pv ev ) ⟨callB_of 1 htb (gd_w tw_514) rfl rfl rfl (htb _ tw_25) (htb _ tw_511) (by decide +kernel) ⟨Nat.le_of_ble_eq_true rfl, Nat.le_of_ble_eq_true rfl⟩, htb _ tw_513, htb _ tw_16⟩ (pv_V hK (hP.sub (ws' := [(y0, .inr (4, [.int th, .int (nI lm), .int sz, .int em, .int lt, .int sp, .int (nI np), .int fd, .int bg, .ref m_op, .ref m_nu, .ref m_gv, .ref m_sh, .ref m_he, .ref m_pu, .ref m_pc, .ref m_pl, .ref m_pb, .ref m_ps, .int pv, .int ev]))]) [0] rfl) (hD.sub (ws' := [(y0, .inr (4, [.int th, .int (nI lm), .int sz, .int em, .int lt, .int sp, .int (nI np), .int fd, .int bg, .ref m_op, .ref m_nu, .ref m_gv, .ref m_sh, .ref m_he, .ref m_pu, .ref m_pc, .ref m_pl, .ref m_pb, .ref m_ps, .int pv, .int ev]))]) [0] (by decide) rfl) (ci := 4) (q0 := 0) rfl rfl) rfl rfl hl.1 rfl (lv_room (Nat.le_of_ble_eq_true rfl)) d_Modl_does_267 ⟨Nat.le_of_ble_eq_true rfl, Nat.le_of_ble_eq_true rfl⟩) hP hD hS hA [0] [1, 2, 3] rfl rfl (by decide) (by decide) (fun r_82 u_83 H locs hw hP hD hS => ?_)
      try dsimp only at hw
      subst hw
      have hP : va_P (dC, dI) classes [(m_he, .inl (cL, 36, .inr (.inl (hh_w ra rb)))), (m_pu, .inl (cL, 8, .inr (.inl (pp_w qa qb)))), (m_gv, .inl (cI, 4, .inl gg)), (y0, .inr (4, [.int th, .int (nI lm), .int sz, .int em, .int lt, .int sp, .int (nI np), .int fd, .int bg, .ref m_op, .ref m_nu, .ref m_gv, .ref m_sh, .ref m_he, .ref m_pu, .ref m_pc, .ref m_pl, .ref m_pb, .ref m_ps, .int pv, .int ev]))] H := hP
      have hD : va_D A [(m_he, .inl (cL, 36, .inr (.inl (hh_w ra rb)))), (m_pu, .inl (cL, 8, .inr (.inl (pp_w qa qb)))), (m_gv, .inl (cI, 4, .inl gg)), (y0, .inr (4, [.int th, .int (nI lm), .int sz, .int em, .int lt, .int sp, .int (nI np), .int fd, .int bg, .ref m_op, .ref m_nu, .ref m_gv, .ref m_sh, .ref m_he, .ref m_pu, .ref m_pc, .ref m_pl, .ref m_pb, .ref m_ps, .int pv, .int ev]))] := hD
      refine lv_goto (tgt := 274) hx hb d_Modl_does_270 (by decide) ?_
      refine lv_lstore (lv' := [(9, .long 1), (7, .long (ra 17)), (5, .long (ra 16)), (4, .int 0), (0, .ref y0), (1, .int 0), (2, .int 7), (3, .int n0)]) hx hb d_Modl_does_274 hl (by decide) rfl (fun ls hl => ?_)
      refine lv_goto (tgt := 434) hx hb d_Modl_does_276 (by decide) ?_
      refine lv_aload_n hx hb d_Modl_does_434 rfl (lv_at hl 4 rfl) ?_
      refine va_get (D := (dC, dI)) (ci := 4) (v := .ref m_he) (C := R_Modl) (T := F_Modl) (N := 21) hx hb htb iw_Modl hown hK.1 hP 3 rfl rfl 13 (by decide) (htb _ tw_428) (fun _ h9 => h9) rfl d_Modl_does_435 ?_
      refine lv_iload hx hb d_Modl_does_438 (lv_at hl 3 rfl) ?_
      refine lv_bipush (v := 16) hx hb d_Modl_does_440 (by decide) ?_
      refine lv_iadd hx hb d_Modl_does_442 ?_
      refine W.eq (g2 := F0 m 443 ls [.int 16, .ref m_he]) rfl ?_
      refine lv_lload hx hb d_Modl_does_443 (lv_at hl 0 rfl) ?_
      refine sd_l (g := hh_w (vp_updL ra 16 1) rb) (cA := cL) hx hb hK.1 hP hD hS 0 1 rfl rfl (show ¬ (_ ∨ _) by decide) (hh_k0 (k := 16) (by decide)) d_Modl_does_445 (fun H locs hP hD hS => ?_)
      have hP : va_P (dC, dI) classes [(m_he, .inl (cL, 36, .inr (.inl (hh_w (vp_updL ra 16 1) rb)))), (m_pu, .inl (cL, 8, .inr (.inl (pp_w qa qb)))), (m_gv, .inl (cI, 4, .inl gg)), (y0, .inr (4, [.int th, .int (nI lm), .int sz, .int em, .int lt, .int sp, .int (nI np), .int fd, .int bg, .ref m_op, .ref m_nu, .ref m_gv, .ref m_sh, .ref m_he, .ref m_pu, .ref m_pc, .ref m_pl, .ref m_pb, .ref m_ps, .int pv, .int ev]))] H := hP
      have hD : va_D A [(m_he, .inl (cL, 36, .inr (.inl (hh_w (vp_updL ra 16 1) rb)))), (m_pu, .inl (cL, 8, .inr (.inl (pp_w qa qb)))), (m_gv, .inl (cI, 4, .inl gg)), (y0, .inr (4, [.int th, .int (nI lm), .int sz, .int em, .int lt, .int sp, .int (nI np), .int fd, .int bg, .ref m_op, .ref m_nu, .ref m_gv, .ref m_sh, .ref m_he, .ref m_pu, .ref m_pc, .ref m_pl, .ref m_pb, .ref m_ps, .int pv, .int ev]))] := hD
      refine lv_iload_n hx hb d_Modl_does_446 rfl (lv_at hl 6 rfl) ?_
      refine lv_iconst (v := 3) hx hb d_Modl_does_447 (by decide) ?_
      refine lv_icmp_le (tgt := 457) hx hb d_Modl_does_448 (by decide) (fun c_84 => ?_) (fun c_84 => ?_)
      · exact absurd c_84 (by decide)
      · skip
        refine lv_iload_n hx hb d_Modl_does_451 rfl (lv_at hl 6 rfl) ?_
        refine lv_bipush (v := 7) hx hb d_Modl_does_452 (by decide) ?_
        refine lv_icmp_lt (tgt := 469) hx hb d_Modl_does_454 (by decide) (fun c_85 => ?_) (fun c_85 => ?_)
        · exact absurd c_85 (by decide)
        · skip
          refine lv_iload_n hx hb d_Modl_does_457 rfl (lv_at hl 6 rfl) ?_
          refine lv_bipush (v := 9) hx hb d_Modl_does_458 (by decide) ?_
          refine lv_icmp_eq (tgt := 469) hx hb d_Modl_does_460 (by decide) (fun c_86 => ?_) (fun c_86 => ?_)
          · exact absurd c_86 (by decide)
          · skip
            refine lv_iload_n hx hb d_Modl_does_463 rfl (lv_at hl 6 rfl) ?_
            refine lv_bipush (v := 12) hx hb d_Modl_does_464 (by decide) ?_
            refine lv_icmp_ne (tgt := 473) hx hb d_Modl_does_466 (by decide) (fun c_87 => ?_) (fun c_87 => ?_)
            · skip
              refine lv_iconst (v := 0) hx hb d_Modl_does_473 (by decide) ?_
              refine lv_istore (lv' := [(11, .int 0), (9, .long 1), (7, .long (ra 17)), (5, .long (ra 16)), (4, .int 0), (0, .ref y0), (1, .int 0), (2, .int 7), (3, .int n0)]) hx hb d_Modl_does_474 hl (by decide) rfl (fun ls hl => ?_)
              refine lv_iload hx hb d_Modl_does_476 (lv_at hl 0 rfl) ?_
              refine lv_if_eq (tgt := 491) hx hb d_Modl_does_478 (by decide) (fun c_88 => ?_) (fun c_88 => ?_)
              · skip
                refine lv_iconst (v := 1) hx hb d_Modl_does_491 (by decide) ?_
                refine lv_goto (tgt := 496) hx hb d_Modl_does_492 (by decide) ?_
                exact rt_z (v := 1) ((vp_updL ra 16 1), qa, pv, ev) hx hb hr hlocks (by decide) (show (1 : Int32) = dz_w (de_w 1 7 n0 gg ra qa pv).1 ∧ (vp_updL ra 16 1) = (de_w 1 7 n0 gg ra qa pv).2.1 ∧ qa = (de_w 1 7 n0 gg ra qa pv).2.2.1 ∧ pv = (de_w 1 7 n0 gg ra qa pv).2.2.2 ∧ ev = en_w (de_w 1 7 n0 gg ra qa pv).1 ev from (by rw [de_7p c_76]; exact ⟨rfl, rfl, rfl, rfl, rfl⟩)) (hP.sub (ws' := [(y0, .inr (4, [.int th, .int (nI lm), .int sz, .int em, .int lt, .int sp, .int (nI np), .int fd, .int bg, .ref m_op, .ref m_nu, .ref m_gv, .ref m_sh, .ref m_he, .ref m_pu, .ref m_pc, .ref m_pl, .ref m_pb, .ref m_ps, .int pv, .int ev])), (m_he, .inl (cL, 36, .inr (.inl (hh_w (vp_updL ra 16 1) rb)))), (m_pu, .inl (cL, 8, .inr (.inl (pp_w qa qb)))), (m_gv, .inl (cI, 4, .inl gg))]) [3, 0, 1, 2] rfl) (hD.sub (ws' := [(y0, .inr (4, [.int th, .int (nI lm), .int sz, .int em, .int lt, .int sp, .int (nI np), .int fd, .int bg, .ref m_op, .ref m_nu, .ref m_gv, .ref m_sh, .ref m_he, .ref m_pu, .ref m_pc, .ref m_pl, .ref m_pb, .ref m_ps, .int pv, .int ev])), (m_he, .inl (cL, 36, .inr (.inl (hh_w (vp_updL ra 16 1) rb)))), (m_pu, .inl (cL, 8, .inr (.inl (pp_w qa qb)))), (m_gv, .inl (cI, 4, .inl gg))]) [3, 0, 1, 2] (by decide) rfl) hS d_Modl_does_496
              · exact absurd (by decide) c_88
            · exact absurd c_87 (by decide)
  by_cases c_89 : o0 = 8
  · refine lv_tableIn (tgt := 279) hx hb d_Modl_does_35 (by rw [c_89]; decide) (by rw [c_89]; decide) (by rw [c_89]; rfl) (by decide) ?_
    subst c_89
    refine lv_lload hx hb d_Modl_does_279 (lv_at hl 2 rfl) ?_
    refine lv_lload hx hb d_Modl_does_281 (lv_at hl 1 rfl) ?_
    refine W.lcmp hx hb d_Modl_does_283 ?_
    refine lv_if_ne (tgt := 295) hx hb d_Modl_does_284 (by decide) (fun c_90 => ?_) (fun c_90 => ?_)
    · have c_90 : ¬ (lg_cmp (ra 16) (ra 17)) = 0 := c_90
      rw [lc_eq] at c_90
      refine lv_lconst (v := 0) hx hb d_Modl_does_295 (by decide) ?_
      refine lv_lstore (lv' := [(9, .long 0), (7, .long (ra 17)), (5, .long (ra 16)), (4, .int 0), (0, .ref y0), (1, .int 0), (2, .int 8), (3, .int n0)]) hx hb d_Modl_does_296 hl (by decide) rfl (fun ls hl => ?_)
      refine lv_goto (tgt := 434) hx hb d_Modl_does_298 (by decide) ?_
      refine lv_aload_n hx hb d_Modl_does_434 rfl (lv_at hl 4 rfl) ?_
      refine va_get (D := (dC, dI)) (ci := 4) (v := .ref m_he) (C := R_Modl) (T := F_Modl) (N := 21) hx hb htb iw_Modl hown hK.1 hP 0 rfl rfl 13 (by decide) (htb _ tw_428) (fun _ h9 => h9) rfl d_Modl_does_435 ?_
      refine lv_iload hx hb d_Modl_does_438 (lv_at hl 3 rfl) ?_
      refine lv_bipush (v := 16) hx hb d_Modl_does_440 (by decide) ?_
      refine lv_iadd hx hb d_Modl_does_442 ?_
      refine W.eq (g2 := F0 m 443 ls [.int 16, .ref m_he]) rfl ?_
      refine lv_lload hx hb d_Modl_does_443 (lv_at hl 0 rfl) ?_
      refine sd_l (g := hh_w (vp_updL ra 16 0) rb) (cA := cL) hx hb hK.1 hP hD hS 1 1 rfl rfl (show ¬ (_ ∨ _) by decide) (hh_k0 (k := 16) (by decide)) d_Modl_does_445 (fun H locs hP hD hS => ?_)
      have hP : va_P (dC, dI) classes [(y0, .inr (4, [.int th, .int (nI lm), .int sz, .int em, .int lt, .int sp, .int (nI np), .int fd, .int bg, .ref m_op, .ref m_nu, .ref m_gv, .ref m_sh, .ref m_he, .ref m_pu, .ref m_pc, .ref m_pl, .ref m_pb, .ref m_ps, .int pv, .int ev])), (m_he, .inl (cL, 36, .inr (.inl (hh_w (vp_updL ra 16 0) rb)))), (m_pu, .inl (cL, 8, .inr (.inl (pp_w qa qb)))), (m_gv, .inl (cI, 4, .inl gg))] H := hP
      have hD : va_D A [(y0, .inr (4, [.int th, .int (nI lm), .int sz, .int em, .int lt, .int sp, .int (nI np), .int fd, .int bg, .ref m_op, .ref m_nu, .ref m_gv, .ref m_sh, .ref m_he, .ref m_pu, .ref m_pc, .ref m_pl, .ref m_pb, .ref m_ps, .int pv, .int ev])), (m_he, .inl (cL, 36, .inr (.inl (hh_w (vp_updL ra 16 0) rb)))), (m_pu, .inl (cL, 8, .inr (.inl (pp_w qa qb)))), (m_gv, .inl (cI, 4, .inl gg))] := hD
      refine lv_iload_n hx hb d_Modl_does_446 rfl (lv_at hl 6 rfl) ?_
      refine lv_iconst (v := 3) hx hb d_Modl_does_447 (by decide) ?_
      refine lv_icmp_le (tgt := 457) hx hb d_Modl_does_448 (by decide) (fun c_91 => ?_) (fun c_91 => ?_)
      · exact absurd c_91 (by decide)
      · skip
        refine lv_iload_n hx hb d_Modl_does_451 rfl (lv_at hl 6 rfl) ?_
        refine lv_bipush (v := 7) hx hb d_Modl_does_452 (by decide) ?_
        refine lv_icmp_lt (tgt := 469) hx hb d_Modl_does_454 (by decide) (fun c_92 => ?_) (fun c_92 => ?_)
        · exact absurd c_92 (by decide)
        · skip
          refine lv_iload_n hx hb d_Modl_does_457 rfl (lv_at hl 6 rfl) ?_
          refine lv_bipush (v := 9) hx hb d_Modl_does_458 (by decide) ?_
          refine lv_icmp_eq (tgt := 469) hx hb d_Modl_does_460 (by decide) (fun c_93 => ?_) (fun c_93 => ?_)
          · exact absurd c_93 (by decide)
          · skip
            refine lv_iload_n hx hb d_Modl_does_463 rfl (lv_at hl 6 rfl) ?_
            refine lv_bipush (v := 12) hx hb d_Modl_does_464 (by decide) ?_
            refine lv_icmp_ne (tgt := 473) hx hb d_Modl_does_466 (by decide) (fun c_94 => ?_) (fun c_94 => ?_)
            · skip
              refine lv_iconst (v := 0) hx hb d_Modl_does_473 (by decide) ?_
              refine lv_istore (lv' := [(11, .int 0), (9, .long 0), (7, .long (ra 17)), (5, .long (ra 16)), (4, .int 0), (0, .ref y0), (1, .int 0), (2, .int 8), (3, .int n0)]) hx hb d_Modl_does_474 hl (by decide) rfl (fun ls hl => ?_)
              refine lv_iload hx hb d_Modl_does_476 (lv_at hl 0 rfl) ?_
              refine lv_if_eq (tgt := 491) hx hb d_Modl_does_478 (by decide) (fun c_95 => ?_) (fun c_95 => ?_)
              · skip
                refine lv_iconst (v := 1) hx hb d_Modl_does_491 (by decide) ?_
                refine lv_goto (tgt := 496) hx hb d_Modl_does_492 (by decide) ?_
                exact rt_z (v := 1) ((vp_updL ra 16 0), qa, pv, ev) hx hb hr hlocks (by decide) (show (1 : Int32) = dz_w (de_w 1 8 n0 gg ra qa pv).1 ∧ (vp_updL ra 16 0) = (de_w 1 8 n0 gg ra qa pv).2.1 ∧ qa = (de_w 1 8 n0 gg ra qa pv).2.2.1 ∧ pv = (de_w 1 8 n0 gg ra qa pv).2.2.2 ∧ ev = en_w (de_w 1 8 n0 gg ra qa pv).1 ev from (by rw [de_8n c_90]; exact ⟨rfl, rfl, rfl, rfl, rfl⟩)) (hP.sub (ws' := [(y0, .inr (4, [.int th, .int (nI lm), .int sz, .int em, .int lt, .int sp, .int (nI np), .int fd, .int bg, .ref m_op, .ref m_nu, .ref m_gv, .ref m_sh, .ref m_he, .ref m_pu, .ref m_pc, .ref m_pl, .ref m_pb, .ref m_ps, .int pv, .int ev])), (m_he, .inl (cL, 36, .inr (.inl (hh_w (vp_updL ra 16 0) rb)))), (m_pu, .inl (cL, 8, .inr (.inl (pp_w qa qb)))), (m_gv, .inl (cI, 4, .inl gg))]) [0, 1, 2, 3] rfl) (hD.sub (ws' := [(y0, .inr (4, [.int th, .int (nI lm), .int sz, .int em, .int lt, .int sp, .int (nI np), .int fd, .int bg, .ref m_op, .ref m_nu, .ref m_gv, .ref m_sh, .ref m_he, .ref m_pu, .ref m_pc, .ref m_pl, .ref m_pb, .ref m_ps, .int pv, .int ev])), (m_he, .inl (cL, 36, .inr (.inl (hh_w (vp_updL ra 16 0) rb)))), (m_pu, .inl (cL, 8, .inr (.inl (pp_w qa qb)))), (m_gv, .inl (cI, 4, .inl gg))]) [0, 1, 2, 3] (by decide) rfl) hS d_Modl_does_496
              · exact absurd (by decide) c_95
            · exact absurd c_94 (by decide)
    · have c_90 : (lg_cmp (ra 16) (ra 17)) = 0 := c_90
      rw [lc_eq] at c_90
      refine lv_aload_n hx hb d_Modl_does_287 rfl (lv_at hl 4 rfl) ?_
      refine lv_iload_n hx hb d_Modl_does_288 rfl (lv_at hl 5 rfl) ?_
      refine af_l (wr := [(m_he, .inl (cL, 36, .inr (.inl (hh_w ra rb)))), (m_pu, .inl (cL, 8, .inr (.inl (pp_w qa qb)))), (m_gv, .inl (cI, 4, .inl gg))]) (va_runV (As := [.int 0]) (rest := []) ⟨hx, hb, hml, hown, htb⟩ (c_Modl_times0 l dC dI cI cL s.heap.size y0 th lm sz em lt sp np fd bg m_op m_nu m_gv m_sh m_he m_pu m_pc m_pl m_pb m_ps pv ev ) ⟨callB_of 1 htb (gd_w tw_514) rfl rfl rfl (htb _ tw_25) (htb _ tw_511) (by decide +kernel) ⟨Nat.le_of_ble_eq_true rfl, Nat.le_of_ble_eq_true rfl⟩, htb _ tw_513, htb _ tw_16⟩ (pv_V hK (hP.sub (ws' := [(y0, .inr (4, [.int th, .int (nI lm), .int sz, .int em, .int lt, .int sp, .int (nI np), .int fd, .int bg, .ref m_op, .ref m_nu, .ref m_gv, .ref m_sh, .ref m_he, .ref m_pu, .ref m_pc, .ref m_pl, .ref m_pb, .ref m_ps, .int pv, .int ev]))]) [0] rfl) (hD.sub (ws' := [(y0, .inr (4, [.int th, .int (nI lm), .int sz, .int em, .int lt, .int sp, .int (nI np), .int fd, .int bg, .ref m_op, .ref m_nu, .ref m_gv, .ref m_sh, .ref m_he, .ref m_pu, .ref m_pc, .ref m_pl, .ref m_pb, .ref m_ps, .int pv, .int ev]))]) [0] (by decide) rfl) (ci := 4) (q0 := 0) rfl rfl) rfl rfl hl.1 rfl (lv_room (Nat.le_of_ble_eq_true rfl)) d_Modl_does_289 ⟨Nat.le_of_ble_eq_true rfl, Nat.le_of_ble_eq_true rfl⟩) hP hD hS hA [0] [1, 2, 3] rfl rfl (by decide) (by decide) (fun r_96 u_97 H locs hw hP hD hS => ?_)
      try dsimp only at hw
      subst hw
      have hP : va_P (dC, dI) classes [(m_he, .inl (cL, 36, .inr (.inl (hh_w ra rb)))), (m_pu, .inl (cL, 8, .inr (.inl (pp_w qa qb)))), (m_gv, .inl (cI, 4, .inl gg)), (y0, .inr (4, [.int th, .int (nI lm), .int sz, .int em, .int lt, .int sp, .int (nI np), .int fd, .int bg, .ref m_op, .ref m_nu, .ref m_gv, .ref m_sh, .ref m_he, .ref m_pu, .ref m_pc, .ref m_pl, .ref m_pb, .ref m_ps, .int pv, .int ev]))] H := hP
      have hD : va_D A [(m_he, .inl (cL, 36, .inr (.inl (hh_w ra rb)))), (m_pu, .inl (cL, 8, .inr (.inl (pp_w qa qb)))), (m_gv, .inl (cI, 4, .inl gg)), (y0, .inr (4, [.int th, .int (nI lm), .int sz, .int em, .int lt, .int sp, .int (nI np), .int fd, .int bg, .ref m_op, .ref m_nu, .ref m_gv, .ref m_sh, .ref m_he, .ref m_pu, .ref m_pc, .ref m_pl, .ref m_pb, .ref m_ps, .int pv, .int ev]))] := hD
      refine lv_goto (tgt := 296) hx hb d_Modl_does_292 (by decide) ?_
      refine lv_lstore (lv' := [(9, .long 1), (7, .long (ra 17)), (5, .long (ra 16)), (4, .int 0), (0, .ref y0), (1, .int 0), (2, .int 8), (3, .int n0)]) hx hb d_Modl_does_296 hl (by decide) rfl (fun ls hl => ?_)
      refine lv_goto (tgt := 434) hx hb d_Modl_does_298 (by decide) ?_
      refine lv_aload_n hx hb d_Modl_does_434 rfl (lv_at hl 4 rfl) ?_
      refine va_get (D := (dC, dI)) (ci := 4) (v := .ref m_he) (C := R_Modl) (T := F_Modl) (N := 21) hx hb htb iw_Modl hown hK.1 hP 3 rfl rfl 13 (by decide) (htb _ tw_428) (fun _ h9 => h9) rfl d_Modl_does_435 ?_
      refine lv_iload hx hb d_Modl_does_438 (lv_at hl 3 rfl) ?_
      refine lv_bipush (v := 16) hx hb d_Modl_does_440 (by decide) ?_
      refine lv_iadd hx hb d_Modl_does_442 ?_
      refine W.eq (g2 := F0 m 443 ls [.int 16, .ref m_he]) rfl ?_
      refine lv_lload hx hb d_Modl_does_443 (lv_at hl 0 rfl) ?_
      refine sd_l (g := hh_w (vp_updL ra 16 1) rb) (cA := cL) hx hb hK.1 hP hD hS 0 1 rfl rfl (show ¬ (_ ∨ _) by decide) (hh_k0 (k := 16) (by decide)) d_Modl_does_445 (fun H locs hP hD hS => ?_)
      have hP : va_P (dC, dI) classes [(m_he, .inl (cL, 36, .inr (.inl (hh_w (vp_updL ra 16 1) rb)))), (m_pu, .inl (cL, 8, .inr (.inl (pp_w qa qb)))), (m_gv, .inl (cI, 4, .inl gg)), (y0, .inr (4, [.int th, .int (nI lm), .int sz, .int em, .int lt, .int sp, .int (nI np), .int fd, .int bg, .ref m_op, .ref m_nu, .ref m_gv, .ref m_sh, .ref m_he, .ref m_pu, .ref m_pc, .ref m_pl, .ref m_pb, .ref m_ps, .int pv, .int ev]))] H := hP
      have hD : va_D A [(m_he, .inl (cL, 36, .inr (.inl (hh_w (vp_updL ra 16 1) rb)))), (m_pu, .inl (cL, 8, .inr (.inl (pp_w qa qb)))), (m_gv, .inl (cI, 4, .inl gg)), (y0, .inr (4, [.int th, .int (nI lm), .int sz, .int em, .int lt, .int sp, .int (nI np), .int fd, .int bg, .ref m_op, .ref m_nu, .ref m_gv, .ref m_sh, .ref m_he, .ref m_pu, .ref m_pc, .ref m_pl, .ref m_pb, .ref m_ps, .int pv, .int ev]))] := hD
      refine lv_iload_n hx hb d_Modl_does_446 rfl (lv_at hl 6 rfl) ?_
      refine lv_iconst (v := 3) hx hb d_Modl_does_447 (by decide) ?_
      refine lv_icmp_le (tgt := 457) hx hb d_Modl_does_448 (by decide) (fun c_98 => ?_) (fun c_98 => ?_)
      · exact absurd c_98 (by decide)
      · skip
        refine lv_iload_n hx hb d_Modl_does_451 rfl (lv_at hl 6 rfl) ?_
        refine lv_bipush (v := 7) hx hb d_Modl_does_452 (by decide) ?_
        refine lv_icmp_lt (tgt := 469) hx hb d_Modl_does_454 (by decide) (fun c_99 => ?_) (fun c_99 => ?_)
        · exact absurd c_99 (by decide)
        · skip
          refine lv_iload_n hx hb d_Modl_does_457 rfl (lv_at hl 6 rfl) ?_
          refine lv_bipush (v := 9) hx hb d_Modl_does_458 (by decide) ?_
          refine lv_icmp_eq (tgt := 469) hx hb d_Modl_does_460 (by decide) (fun c_100 => ?_) (fun c_100 => ?_)
          · exact absurd c_100 (by decide)
          · skip
            refine lv_iload_n hx hb d_Modl_does_463 rfl (lv_at hl 6 rfl) ?_
            refine lv_bipush (v := 12) hx hb d_Modl_does_464 (by decide) ?_
            refine lv_icmp_ne (tgt := 473) hx hb d_Modl_does_466 (by decide) (fun c_101 => ?_) (fun c_101 => ?_)
            · skip
              refine lv_iconst (v := 0) hx hb d_Modl_does_473 (by decide) ?_
              refine lv_istore (lv' := [(11, .int 0), (9, .long 1), (7, .long (ra 17)), (5, .long (ra 16)), (4, .int 0), (0, .ref y0), (1, .int 0), (2, .int 8), (3, .int n0)]) hx hb d_Modl_does_474 hl (by decide) rfl (fun ls hl => ?_)
              refine lv_iload hx hb d_Modl_does_476 (lv_at hl 0 rfl) ?_
              refine lv_if_eq (tgt := 491) hx hb d_Modl_does_478 (by decide) (fun c_102 => ?_) (fun c_102 => ?_)
              · skip
                refine lv_iconst (v := 1) hx hb d_Modl_does_491 (by decide) ?_
                refine lv_goto (tgt := 496) hx hb d_Modl_does_492 (by decide) ?_
                exact rt_z (v := 1) ((vp_updL ra 16 1), qa, pv, ev) hx hb hr hlocks (by decide) (show (1 : Int32) = dz_w (de_w 1 8 n0 gg ra qa pv).1 ∧ (vp_updL ra 16 1) = (de_w 1 8 n0 gg ra qa pv).2.1 ∧ qa = (de_w 1 8 n0 gg ra qa pv).2.2.1 ∧ pv = (de_w 1 8 n0 gg ra qa pv).2.2.2 ∧ ev = en_w (de_w 1 8 n0 gg ra qa pv).1 ev from (by rw [de_8p c_90]; exact ⟨rfl, rfl, rfl, rfl, rfl⟩)) (hP.sub (ws' := [(y0, .inr (4, [.int th, .int (nI lm), .int sz, .int em, .int lt, .int sp, .int (nI np), .int fd, .int bg, .ref m_op, .ref m_nu, .ref m_gv, .ref m_sh, .ref m_he, .ref m_pu, .ref m_pc, .ref m_pl, .ref m_pb, .ref m_ps, .int pv, .int ev])), (m_he, .inl (cL, 36, .inr (.inl (hh_w (vp_updL ra 16 1) rb)))), (m_pu, .inl (cL, 8, .inr (.inl (pp_w qa qb)))), (m_gv, .inl (cI, 4, .inl gg))]) [3, 0, 1, 2] rfl) (hD.sub (ws' := [(y0, .inr (4, [.int th, .int (nI lm), .int sz, .int em, .int lt, .int sp, .int (nI np), .int fd, .int bg, .ref m_op, .ref m_nu, .ref m_gv, .ref m_sh, .ref m_he, .ref m_pu, .ref m_pc, .ref m_pl, .ref m_pb, .ref m_ps, .int pv, .int ev])), (m_he, .inl (cL, 36, .inr (.inl (hh_w (vp_updL ra 16 1) rb)))), (m_pu, .inl (cL, 8, .inr (.inl (pp_w qa qb)))), (m_gv, .inl (cI, 4, .inl gg))]) [3, 0, 1, 2] (by decide) rfl) hS d_Modl_does_496
              · exact absurd (by decide) c_102
            · exact absurd c_101 (by decide)
  by_cases c_103 : o0 = 9
  · refine lv_tableIn (tgt := 301) hx hb d_Modl_does_35 (by rw [c_103]; decide) (by rw [c_103]; decide) (by rw [c_103]; rfl) (by decide) ?_
    subst c_103
    refine lv_lload hx hb d_Modl_does_301 (lv_at hl 2 rfl) ?_
    refine lv_lneg hx hb d_Modl_does_303 ?_
    refine lv_lstore (lv' := [(9, .long (-(ra 16))), (7, .long (ra 17)), (5, .long (ra 16)), (4, .int 0), (0, .ref y0), (1, .int 0), (2, .int 9), (3, .int n0)]) hx hb d_Modl_does_304 hl (by decide) rfl (fun ls hl => ?_)
    refine lv_goto (tgt := 434) hx hb d_Modl_does_306 (by decide) ?_
    refine lv_aload_n hx hb d_Modl_does_434 rfl (lv_at hl 4 rfl) ?_
    refine va_get (D := (dC, dI)) (ci := 4) (v := .ref m_he) (C := R_Modl) (T := F_Modl) (N := 21) hx hb htb iw_Modl hown hK.1 hP 0 rfl rfl 13 (by decide) (htb _ tw_428) (fun _ h9 => h9) rfl d_Modl_does_435 ?_
    refine lv_iload hx hb d_Modl_does_438 (lv_at hl 3 rfl) ?_
    refine lv_bipush (v := 16) hx hb d_Modl_does_440 (by decide) ?_
    refine lv_iadd hx hb d_Modl_does_442 ?_
    refine W.eq (g2 := F0 m 443 ls [.int 16, .ref m_he]) rfl ?_
    refine lv_lload hx hb d_Modl_does_443 (lv_at hl 0 rfl) ?_
    refine sd_l (g := hh_w (vp_updL ra 16 (-(ra 16))) rb) (cA := cL) hx hb hK.1 hP hD hS 1 1 rfl rfl (show ¬ (_ ∨ _) by decide) (hh_k0 (k := 16) (by decide)) d_Modl_does_445 (fun H locs hP hD hS => ?_)
    have hP : va_P (dC, dI) classes [(y0, .inr (4, [.int th, .int (nI lm), .int sz, .int em, .int lt, .int sp, .int (nI np), .int fd, .int bg, .ref m_op, .ref m_nu, .ref m_gv, .ref m_sh, .ref m_he, .ref m_pu, .ref m_pc, .ref m_pl, .ref m_pb, .ref m_ps, .int pv, .int ev])), (m_he, .inl (cL, 36, .inr (.inl (hh_w (vp_updL ra 16 (-(ra 16))) rb)))), (m_pu, .inl (cL, 8, .inr (.inl (pp_w qa qb)))), (m_gv, .inl (cI, 4, .inl gg))] H := hP
    have hD : va_D A [(y0, .inr (4, [.int th, .int (nI lm), .int sz, .int em, .int lt, .int sp, .int (nI np), .int fd, .int bg, .ref m_op, .ref m_nu, .ref m_gv, .ref m_sh, .ref m_he, .ref m_pu, .ref m_pc, .ref m_pl, .ref m_pb, .ref m_ps, .int pv, .int ev])), (m_he, .inl (cL, 36, .inr (.inl (hh_w (vp_updL ra 16 (-(ra 16))) rb)))), (m_pu, .inl (cL, 8, .inr (.inl (pp_w qa qb)))), (m_gv, .inl (cI, 4, .inl gg))] := hD
    refine lv_iload_n hx hb d_Modl_does_446 rfl (lv_at hl 6 rfl) ?_
    refine lv_iconst (v := 3) hx hb d_Modl_does_447 (by decide) ?_
    refine lv_icmp_le (tgt := 457) hx hb d_Modl_does_448 (by decide) (fun c_104 => ?_) (fun c_104 => ?_)
    · exact absurd c_104 (by decide)
    · skip
      refine lv_iload_n hx hb d_Modl_does_451 rfl (lv_at hl 6 rfl) ?_
      refine lv_bipush (v := 7) hx hb d_Modl_does_452 (by decide) ?_
      refine lv_icmp_lt (tgt := 469) hx hb d_Modl_does_454 (by decide) (fun c_105 => ?_) (fun c_105 => ?_)
      · exact absurd c_105 (by decide)
      · skip
        refine lv_iload_n hx hb d_Modl_does_457 rfl (lv_at hl 6 rfl) ?_
        refine lv_bipush (v := 9) hx hb d_Modl_does_458 (by decide) ?_
        refine lv_icmp_eq (tgt := 469) hx hb d_Modl_does_460 (by decide) (fun c_106 => ?_) (fun c_106 => ?_)
        · skip
          refine lv_iconst (v := 1) hx hb d_Modl_does_469 (by decide) ?_
          refine lv_goto (tgt := 474) hx hb d_Modl_does_470 (by decide) ?_
          refine lv_istore (lv' := [(11, .int 1), (9, .long (-(ra 16))), (7, .long (ra 17)), (5, .long (ra 16)), (4, .int 0), (0, .ref y0), (1, .int 0), (2, .int 9), (3, .int n0)]) hx hb d_Modl_does_474 hl (by decide) rfl (fun ls hl => ?_)
          refine lv_iload hx hb d_Modl_does_476 (lv_at hl 0 rfl) ?_
          refine lv_if_eq (tgt := 491) hx hb d_Modl_does_478 (by decide) (fun c_107 => ?_) (fun c_107 => ?_)
          · exact absurd c_107 (by decide)
          · skip
            refine lv_aload_n hx hb d_Modl_does_481 rfl (lv_at hl 5 rfl) ?_
            refine lv_iload_n hx hb d_Modl_does_482 rfl (lv_at hl 6 rfl) ?_
            refine lv_lload hx hb d_Modl_does_483 (lv_at hl 1 rfl) ?_
            refine af_i (wr := [(m_he, .inl (cL, 36, .inr (.inl (hh_w (vp_updL ra 16 (-(ra 16))) rb)))), (m_pu, .inl (cL, 8, .inr (.inl (pp_w qa qb)))), (m_gv, .inl (cI, 4, .inl gg))]) (va_runV (As := [.int 0, .long (-(ra 16))]) (rest := []) ⟨hx, hb, hml, hown, htb⟩ (c_Modl_may0 l dC dI cI cL H.size y0 th lm sz em lt sp np fd bg m_op m_nu m_gv m_sh m_he m_pu m_pc m_pl m_pb m_ps pv ev (-(ra 16)) ) ⟨callB_of 2 htb (gd_w tw_522) rfl rfl rfl (htb _ tw_25) (htb _ tw_519) (by decide +kernel) ⟨Nat.le_of_ble_eq_true rfl, Nat.le_of_ble_eq_true rfl⟩, htb _ tw_521, htb _ tw_17⟩ (pv_V hK (hP.sub (ws' := [(y0, .inr (4, [.int th, .int (nI lm), .int sz, .int em, .int lt, .int sp, .int (nI np), .int fd, .int bg, .ref m_op, .ref m_nu, .ref m_gv, .ref m_sh, .ref m_he, .ref m_pu, .ref m_pc, .ref m_pl, .ref m_pb, .ref m_ps, .int pv, .int ev]))]) [0] rfl) (hD.sub (ws' := [(y0, .inr (4, [.int th, .int (nI lm), .int sz, .int em, .int lt, .int sp, .int (nI np), .int fd, .int bg, .ref m_op, .ref m_nu, .ref m_gv, .ref m_sh, .ref m_he, .ref m_pu, .ref m_pc, .ref m_pl, .ref m_pb, .ref m_ps, .int pv, .int ev]))]) [0] (by decide) rfl) (ci := 4) (q0 := 0) rfl rfl) rfl rfl hl.1 rfl (lv_room (Nat.le_of_ble_eq_true rfl)) d_Modl_does_485 ⟨Nat.le_of_ble_eq_true rfl, Nat.le_of_ble_eq_true rfl⟩) hP hD hS hA [0] [1, 2, 3] rfl rfl (by decide) (by decide) (fun r_108 u_109 H locs hw hP hD hS => ?_)
            try dsimp only at hw
            subst hw
            have hP : va_P (dC, dI) classes [(m_he, .inl (cL, 36, .inr (.inl (hh_w (vp_updL ra 16 (-(ra 16))) rb)))), (m_pu, .inl (cL, 8, .inr (.inl (pp_w qa qb)))), (m_gv, .inl (cI, 4, .inl gg)), (y0, .inr (4, [.int th, .int (nI lm), .int sz, .int em, .int lt, .int sp, .int (nI np), .int fd, .int bg, .ref m_op, .ref m_nu, .ref m_gv, .ref m_sh, .ref m_he, .ref m_pu, .ref m_pc, .ref m_pl, .ref m_pb, .ref m_ps, .int pv, .int ev]))] H := hP
            have hD : va_D A [(m_he, .inl (cL, 36, .inr (.inl (hh_w (vp_updL ra 16 (-(ra 16))) rb)))), (m_pu, .inl (cL, 8, .inr (.inl (pp_w qa qb)))), (m_gv, .inl (cI, 4, .inl gg)), (y0, .inr (4, [.int th, .int (nI lm), .int sz, .int em, .int lt, .int sp, .int (nI np), .int fd, .int bg, .ref m_op, .ref m_nu, .ref m_gv, .ref m_sh, .ref m_he, .ref m_pu, .ref m_pc, .ref m_pl, .ref m_pb, .ref m_ps, .int pv, .int ev]))] := hD
            refine lv_if_eq (tgt := 495) hx hb d_Modl_does_488 (by decide) (fun c_110 => ?_) (fun c_110 => ?_)
            · have c_110 : (ma_w (-2000000000) 2000000000 (-(ra 16))) = 0 := c_110
              refine lv_iconst (v := 0) hx hb d_Modl_does_495 (by decide) ?_
              exact rt_z (v := 0) ((vp_updL ra 16 (-(ra 16))), qa, pv, ev) hx hb hr hlocks (by decide) (show (0 : Int32) = dz_w (de_w 1 9 n0 gg ra qa pv).1 ∧ (vp_updL ra 16 (-(ra 16))) = (de_w 1 9 n0 gg ra qa pv).2.1 ∧ qa = (de_w 1 9 n0 gg ra qa pv).2.2.1 ∧ pv = (de_w 1 9 n0 gg ra qa pv).2.2.2 ∧ ev = en_w (de_w 1 9 n0 gg ra qa pv).1 ev from (by exact ⟨(dz_0 ((ma_tb0 (-(ra 16))).mp c_110)).symm, rfl, rfl, rfl, en_0 (tb_n1 _ _)⟩)) (hP.sub (ws' := [(y0, .inr (4, [.int th, .int (nI lm), .int sz, .int em, .int lt, .int sp, .int (nI np), .int fd, .int bg, .ref m_op, .ref m_nu, .ref m_gv, .ref m_sh, .ref m_he, .ref m_pu, .ref m_pc, .ref m_pl, .ref m_pb, .ref m_ps, .int pv, .int ev])), (m_he, .inl (cL, 36, .inr (.inl (hh_w (vp_updL ra 16 (-(ra 16))) rb)))), (m_pu, .inl (cL, 8, .inr (.inl (pp_w qa qb)))), (m_gv, .inl (cI, 4, .inl gg))]) [3, 0, 1, 2] rfl) (hD.sub (ws' := [(y0, .inr (4, [.int th, .int (nI lm), .int sz, .int em, .int lt, .int sp, .int (nI np), .int fd, .int bg, .ref m_op, .ref m_nu, .ref m_gv, .ref m_sh, .ref m_he, .ref m_pu, .ref m_pc, .ref m_pl, .ref m_pb, .ref m_ps, .int pv, .int ev])), (m_he, .inl (cL, 36, .inr (.inl (hh_w (vp_updL ra 16 (-(ra 16))) rb)))), (m_pu, .inl (cL, 8, .inr (.inl (pp_w qa qb)))), (m_gv, .inl (cI, 4, .inl gg))]) [3, 0, 1, 2] (by decide) rfl) hS d_Modl_does_496
            · have c_110 : ¬ (ma_w (-2000000000) 2000000000 (-(ra 16))) = 0 := c_110
              refine lv_iconst (v := 1) hx hb d_Modl_does_491 (by decide) ?_
              refine lv_goto (tgt := 496) hx hb d_Modl_does_492 (by decide) ?_
              exact rt_z (v := 1) ((vp_updL ra 16 (-(ra 16))), qa, pv, ev) hx hb hr hlocks (by decide) (show (1 : Int32) = dz_w (de_w 1 9 n0 gg ra qa pv).1 ∧ (vp_updL ra 16 (-(ra 16))) = (de_w 1 9 n0 gg ra qa pv).2.1 ∧ qa = (de_w 1 9 n0 gg ra qa pv).2.2.1 ∧ pv = (de_w 1 9 n0 gg ra qa pv).2.2.2 ∧ ev = en_w (de_w 1 9 n0 gg ra qa pv).1 ev from (by exact ⟨(dz_1 (fun h9 => c_110 ((ma_tb0 (-(ra 16))).mpr h9))).symm, rfl, rfl, rfl, en_0 (tb_n1 _ _)⟩)) (hP.sub (ws' := [(y0, .inr (4, [.int th, .int (nI lm), .int sz, .int em, .int lt, .int sp, .int (nI np), .int fd, .int bg, .ref m_op, .ref m_nu, .ref m_gv, .ref m_sh, .ref m_he, .ref m_pu, .ref m_pc, .ref m_pl, .ref m_pb, .ref m_ps, .int pv, .int ev])), (m_he, .inl (cL, 36, .inr (.inl (hh_w (vp_updL ra 16 (-(ra 16))) rb)))), (m_pu, .inl (cL, 8, .inr (.inl (pp_w qa qb)))), (m_gv, .inl (cI, 4, .inl gg))]) [3, 0, 1, 2] rfl) (hD.sub (ws' := [(y0, .inr (4, [.int th, .int (nI lm), .int sz, .int em, .int lt, .int sp, .int (nI np), .int fd, .int bg, .ref m_op, .ref m_nu, .ref m_gv, .ref m_sh, .ref m_he, .ref m_pu, .ref m_pc, .ref m_pl, .ref m_pb, .ref m_ps, .int pv, .int ev])), (m_he, .inl (cL, 36, .inr (.inl (hh_w (vp_updL ra 16 (-(ra 16))) rb)))), (m_pu, .inl (cL, 8, .inr (.inl (pp_w qa qb)))), (m_gv, .inl (cI, 4, .inl gg))]) [3, 0, 1, 2] (by decide) rfl) hS d_Modl_does_496
        · exact absurd (by decide) c_106
  by_cases c_111 : o0 = 10
  · refine lv_tableIn (tgt := 309) hx hb d_Modl_does_35 (by rw [c_111]; decide) (by rw [c_111]; decide) (by rw [c_111]; rfl) (by decide) ?_
    subst c_111
    refine lv_aload_n hx hb d_Modl_does_309 rfl (lv_at hl 4 rfl) ?_
    refine lv_iload_n hx hb d_Modl_does_310 rfl (lv_at hl 7 rfl) ?_
    refine va_put (D := (dC, dI)) (ci := 4) (v := .int n0) (ty := .int) (C := R_Modl) (T := F_Modl) (N := 21) hx hb htb iw_Modl t_Modl t_Modl_ok n_Modl hown hK.1 hP hD hS 0 rfl rfl 19 (by decide) (htb _ tw_434) (fun _ h9 => h9) rfl (by decide +kernel) rfl rfl (Nat.le_of_ble_eq_true rfl) d_Modl_does_311 (fun H locs hP hD hS => ?_)
    have hP : va_P (dC, dI) classes [(y0, .inr (4, [.int th, .int (nI lm), .int sz, .int em, .int lt, .int sp, .int (nI np), .int fd, .int bg, .ref m_op, .ref m_nu, .ref m_gv, .ref m_sh, .ref m_he, .ref m_pu, .ref m_pc, .ref m_pl, .ref m_pb, .ref m_ps, .int n0, .int ev])), (m_he, .inl (cL, 36, .inr (.inl (hh_w ra rb)))), (m_pu, .inl (cL, 8, .inr (.inl (pp_w qa qb)))), (m_gv, .inl (cI, 4, .inl gg))] H := hP
    have hD : va_D A [(y0, .inr (4, [.int th, .int (nI lm), .int sz, .int em, .int lt, .int sp, .int (nI np), .int fd, .int bg, .ref m_op, .ref m_nu, .ref m_gv, .ref m_sh, .ref m_he, .ref m_pu, .ref m_pc, .ref m_pl, .ref m_pb, .ref m_ps, .int n0, .int ev])), (m_he, .inl (cL, 36, .inr (.inl (hh_w ra rb)))), (m_pu, .inl (cL, 8, .inr (.inl (pp_w qa qb)))), (m_gv, .inl (cI, 4, .inl gg))] := hD
    refine lv_goto (tgt := 434) hx hb d_Modl_does_314 (by decide) ?_
    refine lv_aload_n hx hb d_Modl_does_434 rfl (lv_at hl 4 rfl) ?_
    refine va_get (D := (dC, dI)) (ci := 4) (v := .ref m_he) (C := R_Modl) (T := F_Modl) (N := 21) hx hb htb iw_Modl hown hK.1 hP 0 rfl rfl 13 (by decide) (htb _ tw_428) (fun _ h9 => h9) rfl d_Modl_does_435 ?_
    refine lv_iload hx hb d_Modl_does_438 (lv_at hl 3 rfl) ?_
    refine lv_bipush (v := 16) hx hb d_Modl_does_440 (by decide) ?_
    refine lv_iadd hx hb d_Modl_does_442 ?_
    refine W.eq (g2 := F0 m 443 ls [.int 16, .ref m_he]) rfl ?_
    refine lv_lload hx hb d_Modl_does_443 (lv_at hl 0 rfl) ?_
    refine sd_l (g := hh_w (vp_updL ra 16 (ra 16)) rb) (cA := cL) hx hb hK.1 hP hD hS 1 1 rfl rfl (show ¬ (_ ∨ _) by decide) (hh_k0 (k := 16) (by decide)) d_Modl_does_445 (fun H locs hP hD hS => ?_)
    have hP : va_P (dC, dI) classes [(y0, .inr (4, [.int th, .int (nI lm), .int sz, .int em, .int lt, .int sp, .int (nI np), .int fd, .int bg, .ref m_op, .ref m_nu, .ref m_gv, .ref m_sh, .ref m_he, .ref m_pu, .ref m_pc, .ref m_pl, .ref m_pb, .ref m_ps, .int n0, .int ev])), (m_he, .inl (cL, 36, .inr (.inl (hh_w (vp_updL ra 16 (ra 16)) rb)))), (m_pu, .inl (cL, 8, .inr (.inl (pp_w qa qb)))), (m_gv, .inl (cI, 4, .inl gg))] H := hP
    have hD : va_D A [(y0, .inr (4, [.int th, .int (nI lm), .int sz, .int em, .int lt, .int sp, .int (nI np), .int fd, .int bg, .ref m_op, .ref m_nu, .ref m_gv, .ref m_sh, .ref m_he, .ref m_pu, .ref m_pc, .ref m_pl, .ref m_pb, .ref m_ps, .int n0, .int ev])), (m_he, .inl (cL, 36, .inr (.inl (hh_w (vp_updL ra 16 (ra 16)) rb)))), (m_pu, .inl (cL, 8, .inr (.inl (pp_w qa qb)))), (m_gv, .inl (cI, 4, .inl gg))] := hD
    refine lv_iload_n hx hb d_Modl_does_446 rfl (lv_at hl 6 rfl) ?_
    refine lv_iconst (v := 3) hx hb d_Modl_does_447 (by decide) ?_
    refine lv_icmp_le (tgt := 457) hx hb d_Modl_does_448 (by decide) (fun c_112 => ?_) (fun c_112 => ?_)
    · exact absurd c_112 (by decide)
    · skip
      refine lv_iload_n hx hb d_Modl_does_451 rfl (lv_at hl 6 rfl) ?_
      refine lv_bipush (v := 7) hx hb d_Modl_does_452 (by decide) ?_
      refine lv_icmp_lt (tgt := 469) hx hb d_Modl_does_454 (by decide) (fun c_113 => ?_) (fun c_113 => ?_)
      · exact absurd c_113 (by decide)
      · skip
        refine lv_iload_n hx hb d_Modl_does_457 rfl (lv_at hl 6 rfl) ?_
        refine lv_bipush (v := 9) hx hb d_Modl_does_458 (by decide) ?_
        refine lv_icmp_eq (tgt := 469) hx hb d_Modl_does_460 (by decide) (fun c_114 => ?_) (fun c_114 => ?_)
        · exact absurd c_114 (by decide)
        · skip
          refine lv_iload_n hx hb d_Modl_does_463 rfl (lv_at hl 6 rfl) ?_
          refine lv_bipush (v := 12) hx hb d_Modl_does_464 (by decide) ?_
          refine lv_icmp_ne (tgt := 473) hx hb d_Modl_does_466 (by decide) (fun c_115 => ?_) (fun c_115 => ?_)
          · skip
            refine lv_iconst (v := 0) hx hb d_Modl_does_473 (by decide) ?_
            refine lv_istore (lv' := [(11, .int 0), (9, .long (ra 16)), (7, .long (ra 17)), (5, .long (ra 16)), (4, .int 0), (0, .ref y0), (1, .int 0), (2, .int 10), (3, .int n0)]) hx hb d_Modl_does_474 hl (by decide) rfl (fun ls hl => ?_)
            refine lv_iload hx hb d_Modl_does_476 (lv_at hl 0 rfl) ?_
            refine lv_if_eq (tgt := 491) hx hb d_Modl_does_478 (by decide) (fun c_116 => ?_) (fun c_116 => ?_)
            · skip
              refine lv_iconst (v := 1) hx hb d_Modl_does_491 (by decide) ?_
              refine lv_goto (tgt := 496) hx hb d_Modl_does_492 (by decide) ?_
              exact rt_z (v := 1) ((vp_updL ra 16 (ra 16)), qa, n0, ev) hx hb hr hlocks (by decide) (show (1 : Int32) = dz_w (de_w 1 10 n0 gg ra qa pv).1 ∧ (vp_updL ra 16 (ra 16)) = (de_w 1 10 n0 gg ra qa pv).2.1 ∧ qa = (de_w 1 10 n0 gg ra qa pv).2.2.1 ∧ n0 = (de_w 1 10 n0 gg ra qa pv).2.2.2 ∧ ev = en_w (de_w 1 10 n0 gg ra qa pv).1 ev from (⟨rfl, up_same ra, rfl, rfl, rfl⟩)) (hP.sub (ws' := [(y0, .inr (4, [.int th, .int (nI lm), .int sz, .int em, .int lt, .int sp, .int (nI np), .int fd, .int bg, .ref m_op, .ref m_nu, .ref m_gv, .ref m_sh, .ref m_he, .ref m_pu, .ref m_pc, .ref m_pl, .ref m_pb, .ref m_ps, .int n0, .int ev])), (m_he, .inl (cL, 36, .inr (.inl (hh_w (vp_updL ra 16 (ra 16)) rb)))), (m_pu, .inl (cL, 8, .inr (.inl (pp_w qa qb)))), (m_gv, .inl (cI, 4, .inl gg))]) [0, 1, 2, 3] rfl) (hD.sub (ws' := [(y0, .inr (4, [.int th, .int (nI lm), .int sz, .int em, .int lt, .int sp, .int (nI np), .int fd, .int bg, .ref m_op, .ref m_nu, .ref m_gv, .ref m_sh, .ref m_he, .ref m_pu, .ref m_pc, .ref m_pl, .ref m_pb, .ref m_ps, .int n0, .int ev])), (m_he, .inl (cL, 36, .inr (.inl (hh_w (vp_updL ra 16 (ra 16)) rb)))), (m_pu, .inl (cL, 8, .inr (.inl (pp_w qa qb)))), (m_gv, .inl (cI, 4, .inl gg))]) [0, 1, 2, 3] (by decide) rfl) hS d_Modl_does_496
            · exact absurd (by decide) c_116
          · exact absurd c_115 (by decide)
  by_cases c_117 : o0 = 11
  · refine lv_tableIn (tgt := 317) hx hb d_Modl_does_35 (by rw [c_117]; decide) (by rw [c_117]; decide) (by rw [c_117]; rfl) (by decide) ?_
    subst c_117
    refine lv_aload_n hx hb d_Modl_does_317 rfl (lv_at hl 4 rfl) ?_
    refine lv_lload hx hb d_Modl_does_318 (lv_at hl 2 rfl) ?_
    refine lv_lconst (v := 0) hx hb d_Modl_does_320 (by decide) ?_
    refine W.lcmp hx hb d_Modl_does_321 ?_
    refine lv_if_ne (tgt := 329) hx hb d_Modl_does_322 (by decide) (fun c_118 => ?_) (fun c_118 => ?_)
    · have c_118 : ¬ (lg_cmp (ra 16) 0) = 0 := c_118
      rw [lc_eq] at c_118
      refine lv_aload_n hx hb d_Modl_does_329 rfl (lv_at hl 4 rfl) ?_
      refine va_get (D := (dC, dI)) (ci := 4) (v := .int pv) (C := R_Modl) (T := F_Modl) (N := 21) hx hb htb iw_Modl hown hK.1 hP 0 rfl rfl 19 (by decide) (htb _ tw_434) (fun _ h9 => h9) rfl d_Modl_does_330 ?_
      refine va_put (D := (dC, dI)) (ci := 4) (v := .int pv) (ty := .int) (C := R_Modl) (T := F_Modl) (N := 21) hx hb htb iw_Modl t_Modl t_Modl_ok n_Modl hown hK.1 hP hD hS 0 rfl rfl 19 (by decide) (htb _ tw_434) (fun _ h9 => h9) rfl (by decide +kernel) rfl rfl (Nat.le_of_ble_eq_true rfl) d_Modl_does_333 (fun H locs hP hD hS => ?_)
      have hP : va_P (dC, dI) classes [(y0, .inr (4, [.int th, .int (nI lm), .int sz, .int em, .int lt, .int sp, .int (nI np), .int fd, .int bg, .ref m_op, .ref m_nu, .ref m_gv, .ref m_sh, .ref m_he, .ref m_pu, .ref m_pc, .ref m_pl, .ref m_pb, .ref m_ps, .int pv, .int ev])), (m_he, .inl (cL, 36, .inr (.inl (hh_w ra rb)))), (m_pu, .inl (cL, 8, .inr (.inl (pp_w qa qb)))), (m_gv, .inl (cI, 4, .inl gg))] H := hP
      have hD : va_D A [(y0, .inr (4, [.int th, .int (nI lm), .int sz, .int em, .int lt, .int sp, .int (nI np), .int fd, .int bg, .ref m_op, .ref m_nu, .ref m_gv, .ref m_sh, .ref m_he, .ref m_pu, .ref m_pc, .ref m_pl, .ref m_pb, .ref m_ps, .int pv, .int ev])), (m_he, .inl (cL, 36, .inr (.inl (hh_w ra rb)))), (m_pu, .inl (cL, 8, .inr (.inl (pp_w qa qb)))), (m_gv, .inl (cI, 4, .inl gg))] := hD
      refine lv_goto (tgt := 434) hx hb d_Modl_does_336 (by decide) ?_
      refine lv_aload_n hx hb d_Modl_does_434 rfl (lv_at hl 4 rfl) ?_
      refine va_get (D := (dC, dI)) (ci := 4) (v := .ref m_he) (C := R_Modl) (T := F_Modl) (N := 21) hx hb htb iw_Modl hown hK.1 hP 0 rfl rfl 13 (by decide) (htb _ tw_428) (fun _ h9 => h9) rfl d_Modl_does_435 ?_
      refine lv_iload hx hb d_Modl_does_438 (lv_at hl 3 rfl) ?_
      refine lv_bipush (v := 16) hx hb d_Modl_does_440 (by decide) ?_
      refine lv_iadd hx hb d_Modl_does_442 ?_
      refine W.eq (g2 := F0 m 443 ls [.int 16, .ref m_he]) rfl ?_
      refine lv_lload hx hb d_Modl_does_443 (lv_at hl 0 rfl) ?_
      refine sd_l (g := hh_w (vp_updL ra 16 (ra 16)) rb) (cA := cL) hx hb hK.1 hP hD hS 1 1 rfl rfl (show ¬ (_ ∨ _) by decide) (hh_k0 (k := 16) (by decide)) d_Modl_does_445 (fun H locs hP hD hS => ?_)
      have hP : va_P (dC, dI) classes [(y0, .inr (4, [.int th, .int (nI lm), .int sz, .int em, .int lt, .int sp, .int (nI np), .int fd, .int bg, .ref m_op, .ref m_nu, .ref m_gv, .ref m_sh, .ref m_he, .ref m_pu, .ref m_pc, .ref m_pl, .ref m_pb, .ref m_ps, .int pv, .int ev])), (m_he, .inl (cL, 36, .inr (.inl (hh_w (vp_updL ra 16 (ra 16)) rb)))), (m_pu, .inl (cL, 8, .inr (.inl (pp_w qa qb)))), (m_gv, .inl (cI, 4, .inl gg))] H := hP
      have hD : va_D A [(y0, .inr (4, [.int th, .int (nI lm), .int sz, .int em, .int lt, .int sp, .int (nI np), .int fd, .int bg, .ref m_op, .ref m_nu, .ref m_gv, .ref m_sh, .ref m_he, .ref m_pu, .ref m_pc, .ref m_pl, .ref m_pb, .ref m_ps, .int pv, .int ev])), (m_he, .inl (cL, 36, .inr (.inl (hh_w (vp_updL ra 16 (ra 16)) rb)))), (m_pu, .inl (cL, 8, .inr (.inl (pp_w qa qb)))), (m_gv, .inl (cI, 4, .inl gg))] := hD
      refine lv_iload_n hx hb d_Modl_does_446 rfl (lv_at hl 6 rfl) ?_
      refine lv_iconst (v := 3) hx hb d_Modl_does_447 (by decide) ?_
      refine lv_icmp_le (tgt := 457) hx hb d_Modl_does_448 (by decide) (fun c_119 => ?_) (fun c_119 => ?_)
      · exact absurd c_119 (by decide)
      · skip
        refine lv_iload_n hx hb d_Modl_does_451 rfl (lv_at hl 6 rfl) ?_
        refine lv_bipush (v := 7) hx hb d_Modl_does_452 (by decide) ?_
        refine lv_icmp_lt (tgt := 469) hx hb d_Modl_does_454 (by decide) (fun c_120 => ?_) (fun c_120 => ?_)
        · exact absurd c_120 (by decide)
        · skip
          refine lv_iload_n hx hb d_Modl_does_457 rfl (lv_at hl 6 rfl) ?_
          refine lv_bipush (v := 9) hx hb d_Modl_does_458 (by decide) ?_
          refine lv_icmp_eq (tgt := 469) hx hb d_Modl_does_460 (by decide) (fun c_121 => ?_) (fun c_121 => ?_)
          · exact absurd c_121 (by decide)
          · skip
            refine lv_iload_n hx hb d_Modl_does_463 rfl (lv_at hl 6 rfl) ?_
            refine lv_bipush (v := 12) hx hb d_Modl_does_464 (by decide) ?_
            refine lv_icmp_ne (tgt := 473) hx hb d_Modl_does_466 (by decide) (fun c_122 => ?_) (fun c_122 => ?_)
            · skip
              refine lv_iconst (v := 0) hx hb d_Modl_does_473 (by decide) ?_
              refine lv_istore (lv' := [(11, .int 0), (9, .long (ra 16)), (7, .long (ra 17)), (5, .long (ra 16)), (4, .int 0), (0, .ref y0), (1, .int 0), (2, .int 11), (3, .int n0)]) hx hb d_Modl_does_474 hl (by decide) rfl (fun ls hl => ?_)
              refine lv_iload hx hb d_Modl_does_476 (lv_at hl 0 rfl) ?_
              refine lv_if_eq (tgt := 491) hx hb d_Modl_does_478 (by decide) (fun c_123 => ?_) (fun c_123 => ?_)
              · skip
                refine lv_iconst (v := 1) hx hb d_Modl_does_491 (by decide) ?_
                refine lv_goto (tgt := 496) hx hb d_Modl_does_492 (by decide) ?_
                exact rt_z (v := 1) ((vp_updL ra 16 (ra 16)), qa, pv, ev) hx hb hr hlocks (by decide) (show (1 : Int32) = dz_w (de_w 1 11 n0 gg ra qa pv).1 ∧ (vp_updL ra 16 (ra 16)) = (de_w 1 11 n0 gg ra qa pv).2.1 ∧ qa = (de_w 1 11 n0 gg ra qa pv).2.2.1 ∧ pv = (de_w 1 11 n0 gg ra qa pv).2.2.2 ∧ ev = en_w (de_w 1 11 n0 gg ra qa pv).1 ev from (by rw [de_11n c_118]; exact ⟨rfl, up_same ra, rfl, rfl, rfl⟩)) (hP.sub (ws' := [(y0, .inr (4, [.int th, .int (nI lm), .int sz, .int em, .int lt, .int sp, .int (nI np), .int fd, .int bg, .ref m_op, .ref m_nu, .ref m_gv, .ref m_sh, .ref m_he, .ref m_pu, .ref m_pc, .ref m_pl, .ref m_pb, .ref m_ps, .int pv, .int ev])), (m_he, .inl (cL, 36, .inr (.inl (hh_w (vp_updL ra 16 (ra 16)) rb)))), (m_pu, .inl (cL, 8, .inr (.inl (pp_w qa qb)))), (m_gv, .inl (cI, 4, .inl gg))]) [0, 1, 2, 3] rfl) (hD.sub (ws' := [(y0, .inr (4, [.int th, .int (nI lm), .int sz, .int em, .int lt, .int sp, .int (nI np), .int fd, .int bg, .ref m_op, .ref m_nu, .ref m_gv, .ref m_sh, .ref m_he, .ref m_pu, .ref m_pc, .ref m_pl, .ref m_pb, .ref m_ps, .int pv, .int ev])), (m_he, .inl (cL, 36, .inr (.inl (hh_w (vp_updL ra 16 (ra 16)) rb)))), (m_pu, .inl (cL, 8, .inr (.inl (pp_w qa qb)))), (m_gv, .inl (cI, 4, .inl gg))]) [0, 1, 2, 3] (by decide) rfl) hS d_Modl_does_496
              · exact absurd (by decide) c_123
            · exact absurd c_122 (by decide)
    · have c_118 : (lg_cmp (ra 16) 0) = 0 := c_118
      rw [lc_eq] at c_118
      refine lv_iload_n hx hb d_Modl_does_325 rfl (lv_at hl 7 rfl) ?_
      refine lv_goto (tgt := 333) hx hb d_Modl_does_326 (by decide) ?_
      refine va_put (D := (dC, dI)) (ci := 4) (v := .int n0) (ty := .int) (C := R_Modl) (T := F_Modl) (N := 21) hx hb htb iw_Modl t_Modl t_Modl_ok n_Modl hown hK.1 hP hD hS 0 rfl rfl 19 (by decide) (htb _ tw_434) (fun _ h9 => h9) rfl (by decide +kernel) rfl rfl (Nat.le_of_ble_eq_true rfl) d_Modl_does_333 (fun H locs hP hD hS => ?_)
      have hP : va_P (dC, dI) classes [(y0, .inr (4, [.int th, .int (nI lm), .int sz, .int em, .int lt, .int sp, .int (nI np), .int fd, .int bg, .ref m_op, .ref m_nu, .ref m_gv, .ref m_sh, .ref m_he, .ref m_pu, .ref m_pc, .ref m_pl, .ref m_pb, .ref m_ps, .int n0, .int ev])), (m_he, .inl (cL, 36, .inr (.inl (hh_w ra rb)))), (m_pu, .inl (cL, 8, .inr (.inl (pp_w qa qb)))), (m_gv, .inl (cI, 4, .inl gg))] H := hP
      have hD : va_D A [(y0, .inr (4, [.int th, .int (nI lm), .int sz, .int em, .int lt, .int sp, .int (nI np), .int fd, .int bg, .ref m_op, .ref m_nu, .ref m_gv, .ref m_sh, .ref m_he, .ref m_pu, .ref m_pc, .ref m_pl, .ref m_pb, .ref m_ps, .int n0, .int ev])), (m_he, .inl (cL, 36, .inr (.inl (hh_w ra rb)))), (m_pu, .inl (cL, 8, .inr (.inl (pp_w qa qb)))), (m_gv, .inl (cI, 4, .inl gg))] := hD
      refine lv_goto (tgt := 434) hx hb d_Modl_does_336 (by decide) ?_
      refine lv_aload_n hx hb d_Modl_does_434 rfl (lv_at hl 4 rfl) ?_
      refine va_get (D := (dC, dI)) (ci := 4) (v := .ref m_he) (C := R_Modl) (T := F_Modl) (N := 21) hx hb htb iw_Modl hown hK.1 hP 0 rfl rfl 13 (by decide) (htb _ tw_428) (fun _ h9 => h9) rfl d_Modl_does_435 ?_
      refine lv_iload hx hb d_Modl_does_438 (lv_at hl 3 rfl) ?_
      refine lv_bipush (v := 16) hx hb d_Modl_does_440 (by decide) ?_
      refine lv_iadd hx hb d_Modl_does_442 ?_
      refine W.eq (g2 := F0 m 443 ls [.int 16, .ref m_he]) rfl ?_
      refine lv_lload hx hb d_Modl_does_443 (lv_at hl 0 rfl) ?_
      refine sd_l (g := hh_w (vp_updL ra 16 (ra 16)) rb) (cA := cL) hx hb hK.1 hP hD hS 1 1 rfl rfl (show ¬ (_ ∨ _) by decide) (hh_k0 (k := 16) (by decide)) d_Modl_does_445 (fun H locs hP hD hS => ?_)
      have hP : va_P (dC, dI) classes [(y0, .inr (4, [.int th, .int (nI lm), .int sz, .int em, .int lt, .int sp, .int (nI np), .int fd, .int bg, .ref m_op, .ref m_nu, .ref m_gv, .ref m_sh, .ref m_he, .ref m_pu, .ref m_pc, .ref m_pl, .ref m_pb, .ref m_ps, .int n0, .int ev])), (m_he, .inl (cL, 36, .inr (.inl (hh_w (vp_updL ra 16 (ra 16)) rb)))), (m_pu, .inl (cL, 8, .inr (.inl (pp_w qa qb)))), (m_gv, .inl (cI, 4, .inl gg))] H := hP
      have hD : va_D A [(y0, .inr (4, [.int th, .int (nI lm), .int sz, .int em, .int lt, .int sp, .int (nI np), .int fd, .int bg, .ref m_op, .ref m_nu, .ref m_gv, .ref m_sh, .ref m_he, .ref m_pu, .ref m_pc, .ref m_pl, .ref m_pb, .ref m_ps, .int n0, .int ev])), (m_he, .inl (cL, 36, .inr (.inl (hh_w (vp_updL ra 16 (ra 16)) rb)))), (m_pu, .inl (cL, 8, .inr (.inl (pp_w qa qb)))), (m_gv, .inl (cI, 4, .inl gg))] := hD
      refine lv_iload_n hx hb d_Modl_does_446 rfl (lv_at hl 6 rfl) ?_
      refine lv_iconst (v := 3) hx hb d_Modl_does_447 (by decide) ?_
      refine lv_icmp_le (tgt := 457) hx hb d_Modl_does_448 (by decide) (fun c_124 => ?_) (fun c_124 => ?_)
      · exact absurd c_124 (by decide)
      · skip
        refine lv_iload_n hx hb d_Modl_does_451 rfl (lv_at hl 6 rfl) ?_
        refine lv_bipush (v := 7) hx hb d_Modl_does_452 (by decide) ?_
        refine lv_icmp_lt (tgt := 469) hx hb d_Modl_does_454 (by decide) (fun c_125 => ?_) (fun c_125 => ?_)
        · exact absurd c_125 (by decide)
        · skip
          refine lv_iload_n hx hb d_Modl_does_457 rfl (lv_at hl 6 rfl) ?_
          refine lv_bipush (v := 9) hx hb d_Modl_does_458 (by decide) ?_
          refine lv_icmp_eq (tgt := 469) hx hb d_Modl_does_460 (by decide) (fun c_126 => ?_) (fun c_126 => ?_)
          · exact absurd c_126 (by decide)
          · skip
            refine lv_iload_n hx hb d_Modl_does_463 rfl (lv_at hl 6 rfl) ?_
            refine lv_bipush (v := 12) hx hb d_Modl_does_464 (by decide) ?_
            refine lv_icmp_ne (tgt := 473) hx hb d_Modl_does_466 (by decide) (fun c_127 => ?_) (fun c_127 => ?_)
            · skip
              refine lv_iconst (v := 0) hx hb d_Modl_does_473 (by decide) ?_
              refine lv_istore (lv' := [(11, .int 0), (9, .long (ra 16)), (7, .long (ra 17)), (5, .long (ra 16)), (4, .int 0), (0, .ref y0), (1, .int 0), (2, .int 11), (3, .int n0)]) hx hb d_Modl_does_474 hl (by decide) rfl (fun ls hl => ?_)
              refine lv_iload hx hb d_Modl_does_476 (lv_at hl 0 rfl) ?_
              refine lv_if_eq (tgt := 491) hx hb d_Modl_does_478 (by decide) (fun c_128 => ?_) (fun c_128 => ?_)
              · skip
                refine lv_iconst (v := 1) hx hb d_Modl_does_491 (by decide) ?_
                refine lv_goto (tgt := 496) hx hb d_Modl_does_492 (by decide) ?_
                exact rt_z (v := 1) ((vp_updL ra 16 (ra 16)), qa, n0, ev) hx hb hr hlocks (by decide) (show (1 : Int32) = dz_w (de_w 1 11 n0 gg ra qa pv).1 ∧ (vp_updL ra 16 (ra 16)) = (de_w 1 11 n0 gg ra qa pv).2.1 ∧ qa = (de_w 1 11 n0 gg ra qa pv).2.2.1 ∧ n0 = (de_w 1 11 n0 gg ra qa pv).2.2.2 ∧ ev = en_w (de_w 1 11 n0 gg ra qa pv).1 ev from (by rw [de_11p c_118]; exact ⟨rfl, up_same ra, rfl, rfl, rfl⟩)) (hP.sub (ws' := [(y0, .inr (4, [.int th, .int (nI lm), .int sz, .int em, .int lt, .int sp, .int (nI np), .int fd, .int bg, .ref m_op, .ref m_nu, .ref m_gv, .ref m_sh, .ref m_he, .ref m_pu, .ref m_pc, .ref m_pl, .ref m_pb, .ref m_ps, .int n0, .int ev])), (m_he, .inl (cL, 36, .inr (.inl (hh_w (vp_updL ra 16 (ra 16)) rb)))), (m_pu, .inl (cL, 8, .inr (.inl (pp_w qa qb)))), (m_gv, .inl (cI, 4, .inl gg))]) [0, 1, 2, 3] rfl) (hD.sub (ws' := [(y0, .inr (4, [.int th, .int (nI lm), .int sz, .int em, .int lt, .int sp, .int (nI np), .int fd, .int bg, .ref m_op, .ref m_nu, .ref m_gv, .ref m_sh, .ref m_he, .ref m_pu, .ref m_pc, .ref m_pl, .ref m_pb, .ref m_ps, .int n0, .int ev])), (m_he, .inl (cL, 36, .inr (.inl (hh_w (vp_updL ra 16 (ra 16)) rb)))), (m_pu, .inl (cL, 8, .inr (.inl (pp_w qa qb)))), (m_gv, .inl (cI, 4, .inl gg))]) [0, 1, 2, 3] (by decide) rfl) hS d_Modl_does_496
              · exact absurd (by decide) c_128
            · exact absurd c_127 (by decide)
  by_cases c_129 : o0 = 12
  · refine lv_tableIn (tgt := 339) hx hb d_Modl_does_35 (by rw [c_129]; decide) (by rw [c_129]; decide) (by rw [c_129]; rfl) (by decide) ?_
    subst c_129
    refine lv_aload_n hx hb d_Modl_does_339 rfl (lv_at hl 4 rfl) ?_
    refine va_get (D := (dC, dI)) (ci := 4) (v := .ref m_gv) (C := R_Modl) (T := F_Modl) (N := 21) hx hb htb iw_Modl hown hK.1 hP 0 rfl rfl 11 (by decide) (htb _ tw_426) (fun _ h9 => h9) rfl d_Modl_does_340 ?_
    refine lv_iload_n hx hb d_Modl_does_343 rfl (lv_at hl 7 rfl) ?_
    refine ld_i (v := gg n0.toNatClampNeg) (cA := cI) hx hb hK.1 hP 3 0 rfl rfl (ii_in12 hv) rfl d_Modl_does_344 ?_
    refine lv_i2l (v := (gg n0.toNatClampNeg).toInt64) hx hb d_Modl_does_345 (by first | rfl | decide) ?_
    refine lv_aload_n hx hb d_Modl_does_346 rfl (lv_at hl 4 rfl) ?_
    refine lv_iload_n hx hb d_Modl_does_347 rfl (lv_at hl 5 rfl) ?_
    refine af_l (wr := [(m_he, .inl (cL, 36, .inr (.inl (hh_w ra rb)))), (m_pu, .inl (cL, 8, .inr (.inl (pp_w qa qb)))), (m_gv, .inl (cI, 4, .inl gg))]) (va_runV (As := [.int 0]) (rest := [.long ((gg n0.toNatClampNeg).toInt64)]) ⟨hx, hb, hml, hown, htb⟩ (c_Modl_times0 l dC dI cI cL s.heap.size y0 th lm sz em lt sp np fd bg m_op m_nu m_gv m_sh m_he m_pu m_pc m_pl m_pb m_ps pv ev ) ⟨callB_of 1 htb (gd_w tw_514) rfl rfl rfl (htb _ tw_25) (htb _ tw_511) (by decide +kernel) ⟨Nat.le_of_ble_eq_true rfl, Nat.le_of_ble_eq_true rfl⟩, htb _ tw_513, htb _ tw_16⟩ (pv_V hK (hP.sub (ws' := [(y0, .inr (4, [.int th, .int (nI lm), .int sz, .int em, .int lt, .int sp, .int (nI np), .int fd, .int bg, .ref m_op, .ref m_nu, .ref m_gv, .ref m_sh, .ref m_he, .ref m_pu, .ref m_pc, .ref m_pl, .ref m_pb, .ref m_ps, .int pv, .int ev]))]) [0] rfl) (hD.sub (ws' := [(y0, .inr (4, [.int th, .int (nI lm), .int sz, .int em, .int lt, .int sp, .int (nI np), .int fd, .int bg, .ref m_op, .ref m_nu, .ref m_gv, .ref m_sh, .ref m_he, .ref m_pu, .ref m_pc, .ref m_pl, .ref m_pb, .ref m_ps, .int pv, .int ev]))]) [0] (by decide) rfl) (ci := 4) (q0 := 0) rfl rfl) rfl rfl hl.1 rfl (lv_room (Nat.le_of_ble_eq_true rfl)) d_Modl_does_348 ⟨Nat.le_of_ble_eq_true rfl, Nat.le_of_ble_eq_true rfl⟩) hP hD hS hA [0] [1, 2, 3] rfl rfl (by decide) (by decide) (fun r_130 u_131 H locs hw hP hD hS => ?_)
    try dsimp only at hw
    subst hw
    have hP : va_P (dC, dI) classes [(m_he, .inl (cL, 36, .inr (.inl (hh_w ra rb)))), (m_pu, .inl (cL, 8, .inr (.inl (pp_w qa qb)))), (m_gv, .inl (cI, 4, .inl gg)), (y0, .inr (4, [.int th, .int (nI lm), .int sz, .int em, .int lt, .int sp, .int (nI np), .int fd, .int bg, .ref m_op, .ref m_nu, .ref m_gv, .ref m_sh, .ref m_he, .ref m_pu, .ref m_pc, .ref m_pl, .ref m_pb, .ref m_ps, .int pv, .int ev]))] H := hP
    have hD : va_D A [(m_he, .inl (cL, 36, .inr (.inl (hh_w ra rb)))), (m_pu, .inl (cL, 8, .inr (.inl (pp_w qa qb)))), (m_gv, .inl (cI, 4, .inl gg)), (y0, .inr (4, [.int th, .int (nI lm), .int sz, .int em, .int lt, .int sp, .int (nI np), .int fd, .int bg, .ref m_op, .ref m_nu, .ref m_gv, .ref m_sh, .ref m_he, .ref m_pu, .ref m_pc, .ref m_pl, .ref m_pb, .ref m_ps, .int pv, .int ev]))] := hD
    refine lv_lmul hx hb d_Modl_does_351 ?_
    refine lv_lstore (lv' := [(9, .long (((gg n0.toNatClampNeg).toInt64) * 1)), (7, .long (ra 17)), (5, .long (ra 16)), (4, .int 0), (0, .ref y0), (1, .int 0), (2, .int 12), (3, .int n0)]) hx hb d_Modl_does_352 hl (by decide) rfl (fun ls hl => ?_)
    refine lv_goto (tgt := 434) hx hb d_Modl_does_354 (by decide) ?_
    refine lv_aload_n hx hb d_Modl_does_434 rfl (lv_at hl 4 rfl) ?_
    refine va_get (D := (dC, dI)) (ci := 4) (v := .ref m_he) (C := R_Modl) (T := F_Modl) (N := 21) hx hb htb iw_Modl hown hK.1 hP 3 rfl rfl 13 (by decide) (htb _ tw_428) (fun _ h9 => h9) rfl d_Modl_does_435 ?_
    refine lv_iload hx hb d_Modl_does_438 (lv_at hl 3 rfl) ?_
    refine lv_bipush (v := 16) hx hb d_Modl_does_440 (by decide) ?_
    refine lv_iadd hx hb d_Modl_does_442 ?_
    refine W.eq (g2 := F0 m 443 ls [.int 16, .ref m_he]) rfl ?_
    refine lv_lload hx hb d_Modl_does_443 (lv_at hl 0 rfl) ?_
    refine sd_l (g := hh_w (vp_updL ra 16 (((gg n0.toNatClampNeg).toInt64) * 1)) rb) (cA := cL) hx hb hK.1 hP hD hS 0 1 rfl rfl (show ¬ (_ ∨ _) by decide) (hh_k0 (k := 16) (by decide)) d_Modl_does_445 (fun H locs hP hD hS => ?_)
    have hP : va_P (dC, dI) classes [(m_he, .inl (cL, 36, .inr (.inl (hh_w (vp_updL ra 16 (((gg n0.toNatClampNeg).toInt64) * 1)) rb)))), (m_pu, .inl (cL, 8, .inr (.inl (pp_w qa qb)))), (m_gv, .inl (cI, 4, .inl gg)), (y0, .inr (4, [.int th, .int (nI lm), .int sz, .int em, .int lt, .int sp, .int (nI np), .int fd, .int bg, .ref m_op, .ref m_nu, .ref m_gv, .ref m_sh, .ref m_he, .ref m_pu, .ref m_pc, .ref m_pl, .ref m_pb, .ref m_ps, .int pv, .int ev]))] H := hP
    have hD : va_D A [(m_he, .inl (cL, 36, .inr (.inl (hh_w (vp_updL ra 16 (((gg n0.toNatClampNeg).toInt64) * 1)) rb)))), (m_pu, .inl (cL, 8, .inr (.inl (pp_w qa qb)))), (m_gv, .inl (cI, 4, .inl gg)), (y0, .inr (4, [.int th, .int (nI lm), .int sz, .int em, .int lt, .int sp, .int (nI np), .int fd, .int bg, .ref m_op, .ref m_nu, .ref m_gv, .ref m_sh, .ref m_he, .ref m_pu, .ref m_pc, .ref m_pl, .ref m_pb, .ref m_ps, .int pv, .int ev]))] := hD
    refine lv_iload_n hx hb d_Modl_does_446 rfl (lv_at hl 6 rfl) ?_
    refine lv_iconst (v := 3) hx hb d_Modl_does_447 (by decide) ?_
    refine lv_icmp_le (tgt := 457) hx hb d_Modl_does_448 (by decide) (fun c_132 => ?_) (fun c_132 => ?_)
    · exact absurd c_132 (by decide)
    · skip
      refine lv_iload_n hx hb d_Modl_does_451 rfl (lv_at hl 6 rfl) ?_
      refine lv_bipush (v := 7) hx hb d_Modl_does_452 (by decide) ?_
      refine lv_icmp_lt (tgt := 469) hx hb d_Modl_does_454 (by decide) (fun c_133 => ?_) (fun c_133 => ?_)
      · exact absurd c_133 (by decide)
      · skip
        refine lv_iload_n hx hb d_Modl_does_457 rfl (lv_at hl 6 rfl) ?_
        refine lv_bipush (v := 9) hx hb d_Modl_does_458 (by decide) ?_
        refine lv_icmp_eq (tgt := 469) hx hb d_Modl_does_460 (by decide) (fun c_134 => ?_) (fun c_134 => ?_)
        · exact absurd c_134 (by decide)
        · skip
          refine lv_iload_n hx hb d_Modl_does_463 rfl (lv_at hl 6 rfl) ?_
          refine lv_bipush (v := 12) hx hb d_Modl_does_464 (by decide) ?_
          refine lv_icmp_ne (tgt := 473) hx hb d_Modl_does_466 (by decide) (fun c_135 => ?_) (fun c_135 => ?_)
          · exact absurd (by decide) c_135
          · skip
            refine lv_iconst (v := 1) hx hb d_Modl_does_469 (by decide) ?_
            refine lv_goto (tgt := 474) hx hb d_Modl_does_470 (by decide) ?_
            refine lv_istore (lv' := [(11, .int 1), (9, .long (((gg n0.toNatClampNeg).toInt64) * 1)), (7, .long (ra 17)), (5, .long (ra 16)), (4, .int 0), (0, .ref y0), (1, .int 0), (2, .int 12), (3, .int n0)]) hx hb d_Modl_does_474 hl (by decide) rfl (fun ls hl => ?_)
            refine lv_iload hx hb d_Modl_does_476 (lv_at hl 0 rfl) ?_
            refine lv_if_eq (tgt := 491) hx hb d_Modl_does_478 (by decide) (fun c_136 => ?_) (fun c_136 => ?_)
            · exact absurd c_136 (by decide)
            · skip
              refine lv_aload_n hx hb d_Modl_does_481 rfl (lv_at hl 5 rfl) ?_
              refine lv_iload_n hx hb d_Modl_does_482 rfl (lv_at hl 6 rfl) ?_
              refine lv_lload hx hb d_Modl_does_483 (lv_at hl 1 rfl) ?_
              refine af_i (wr := [(m_he, .inl (cL, 36, .inr (.inl (hh_w (vp_updL ra 16 (((gg n0.toNatClampNeg).toInt64) * 1)) rb)))), (m_pu, .inl (cL, 8, .inr (.inl (pp_w qa qb)))), (m_gv, .inl (cI, 4, .inl gg))]) (va_runV (As := [.int 0, .long (((gg n0.toNatClampNeg).toInt64) * 1)]) (rest := []) ⟨hx, hb, hml, hown, htb⟩ (c_Modl_may0 l dC dI cI cL H.size y0 th lm sz em lt sp np fd bg m_op m_nu m_gv m_sh m_he m_pu m_pc m_pl m_pb m_ps pv ev (((gg n0.toNatClampNeg).toInt64) * 1) ) ⟨callB_of 2 htb (gd_w tw_522) rfl rfl rfl (htb _ tw_25) (htb _ tw_519) (by decide +kernel) ⟨Nat.le_of_ble_eq_true rfl, Nat.le_of_ble_eq_true rfl⟩, htb _ tw_521, htb _ tw_17⟩ (pv_V hK (hP.sub (ws' := [(y0, .inr (4, [.int th, .int (nI lm), .int sz, .int em, .int lt, .int sp, .int (nI np), .int fd, .int bg, .ref m_op, .ref m_nu, .ref m_gv, .ref m_sh, .ref m_he, .ref m_pu, .ref m_pc, .ref m_pl, .ref m_pb, .ref m_ps, .int pv, .int ev]))]) [3] rfl) (hD.sub (ws' := [(y0, .inr (4, [.int th, .int (nI lm), .int sz, .int em, .int lt, .int sp, .int (nI np), .int fd, .int bg, .ref m_op, .ref m_nu, .ref m_gv, .ref m_sh, .ref m_he, .ref m_pu, .ref m_pc, .ref m_pl, .ref m_pb, .ref m_ps, .int pv, .int ev]))]) [3] (by decide) rfl) (ci := 4) (q0 := 0) rfl rfl) rfl rfl hl.1 rfl (lv_room (Nat.le_of_ble_eq_true rfl)) d_Modl_does_485 ⟨Nat.le_of_ble_eq_true rfl, Nat.le_of_ble_eq_true rfl⟩) hP hD hS hA [3] [0, 1, 2] rfl rfl (by decide) (by decide) (fun r_137 u_138 H locs hw hP hD hS => ?_)
              try dsimp only at hw
              subst hw
              have hP : va_P (dC, dI) classes [(m_he, .inl (cL, 36, .inr (.inl (hh_w (vp_updL ra 16 (((gg n0.toNatClampNeg).toInt64) * 1)) rb)))), (m_pu, .inl (cL, 8, .inr (.inl (pp_w qa qb)))), (m_gv, .inl (cI, 4, .inl gg)), (y0, .inr (4, [.int th, .int (nI lm), .int sz, .int em, .int lt, .int sp, .int (nI np), .int fd, .int bg, .ref m_op, .ref m_nu, .ref m_gv, .ref m_sh, .ref m_he, .ref m_pu, .ref m_pc, .ref m_pl, .ref m_pb, .ref m_ps, .int pv, .int ev]))] H := hP
              have hD : va_D A [(m_he, .inl (cL, 36, .inr (.inl (hh_w (vp_updL ra 16 (((gg n0.toNatClampNeg).toInt64) * 1)) rb)))), (m_pu, .inl (cL, 8, .inr (.inl (pp_w qa qb)))), (m_gv, .inl (cI, 4, .inl gg)), (y0, .inr (4, [.int th, .int (nI lm), .int sz, .int em, .int lt, .int sp, .int (nI np), .int fd, .int bg, .ref m_op, .ref m_nu, .ref m_gv, .ref m_sh, .ref m_he, .ref m_pu, .ref m_pc, .ref m_pl, .ref m_pb, .ref m_ps, .int pv, .int ev]))] := hD
              refine lv_if_eq (tgt := 495) hx hb d_Modl_does_488 (by decide) (fun c_139 => ?_) (fun c_139 => ?_)
              · have c_139 : (ma_w (-2000000000) 2000000000 (((gg n0.toNatClampNeg).toInt64) * 1)) = 0 := c_139
                refine lv_iconst (v := 0) hx hb d_Modl_does_495 (by decide) ?_
                exact rt_z (v := 0) ((vp_updL ra 16 (((gg n0.toNatClampNeg).toInt64) * 1)), qa, pv, ev) hx hb hr hlocks (by decide) (show (0 : Int32) = dz_w (de_w 1 12 n0 gg ra qa pv).1 ∧ (vp_updL ra 16 (((gg n0.toNatClampNeg).toInt64) * 1)) = (de_w 1 12 n0 gg ra qa pv).2.1 ∧ qa = (de_w 1 12 n0 gg ra qa pv).2.2.1 ∧ pv = (de_w 1 12 n0 gg ra qa pv).2.2.2 ∧ ev = en_w (de_w 1 12 n0 gg ra qa pv).1 ev from (by exact ⟨(dz_0 ((ma_tb0 ((gg n0.toNatClampNeg).toInt64 * 1)).mp c_139)).symm, rfl, rfl, rfl, en_0 (tb_n1 _ _)⟩)) (hP.sub (ws' := [(y0, .inr (4, [.int th, .int (nI lm), .int sz, .int em, .int lt, .int sp, .int (nI np), .int fd, .int bg, .ref m_op, .ref m_nu, .ref m_gv, .ref m_sh, .ref m_he, .ref m_pu, .ref m_pc, .ref m_pl, .ref m_pb, .ref m_ps, .int pv, .int ev])), (m_he, .inl (cL, 36, .inr (.inl (hh_w (vp_updL ra 16 (((gg n0.toNatClampNeg).toInt64) * 1)) rb)))), (m_pu, .inl (cL, 8, .inr (.inl (pp_w qa qb)))), (m_gv, .inl (cI, 4, .inl gg))]) [3, 0, 1, 2] rfl) (hD.sub (ws' := [(y0, .inr (4, [.int th, .int (nI lm), .int sz, .int em, .int lt, .int sp, .int (nI np), .int fd, .int bg, .ref m_op, .ref m_nu, .ref m_gv, .ref m_sh, .ref m_he, .ref m_pu, .ref m_pc, .ref m_pl, .ref m_pb, .ref m_ps, .int pv, .int ev])), (m_he, .inl (cL, 36, .inr (.inl (hh_w (vp_updL ra 16 (((gg n0.toNatClampNeg).toInt64) * 1)) rb)))), (m_pu, .inl (cL, 8, .inr (.inl (pp_w qa qb)))), (m_gv, .inl (cI, 4, .inl gg))]) [3, 0, 1, 2] (by decide) rfl) hS d_Modl_does_496
              · have c_139 : ¬ (ma_w (-2000000000) 2000000000 (((gg n0.toNatClampNeg).toInt64) * 1)) = 0 := c_139
                refine lv_iconst (v := 1) hx hb d_Modl_does_491 (by decide) ?_
                refine lv_goto (tgt := 496) hx hb d_Modl_does_492 (by decide) ?_
                exact rt_z (v := 1) ((vp_updL ra 16 (((gg n0.toNatClampNeg).toInt64) * 1)), qa, pv, ev) hx hb hr hlocks (by decide) (show (1 : Int32) = dz_w (de_w 1 12 n0 gg ra qa pv).1 ∧ (vp_updL ra 16 (((gg n0.toNatClampNeg).toInt64) * 1)) = (de_w 1 12 n0 gg ra qa pv).2.1 ∧ qa = (de_w 1 12 n0 gg ra qa pv).2.2.1 ∧ pv = (de_w 1 12 n0 gg ra qa pv).2.2.2 ∧ ev = en_w (de_w 1 12 n0 gg ra qa pv).1 ev from (by exact ⟨(dz_1 (fun h9 => c_139 ((ma_tb0 ((gg n0.toNatClampNeg).toInt64 * 1)).mpr h9))).symm, rfl, rfl, rfl, en_0 (tb_n1 _ _)⟩)) (hP.sub (ws' := [(y0, .inr (4, [.int th, .int (nI lm), .int sz, .int em, .int lt, .int sp, .int (nI np), .int fd, .int bg, .ref m_op, .ref m_nu, .ref m_gv, .ref m_sh, .ref m_he, .ref m_pu, .ref m_pc, .ref m_pl, .ref m_pb, .ref m_ps, .int pv, .int ev])), (m_he, .inl (cL, 36, .inr (.inl (hh_w (vp_updL ra 16 (((gg n0.toNatClampNeg).toInt64) * 1)) rb)))), (m_pu, .inl (cL, 8, .inr (.inl (pp_w qa qb)))), (m_gv, .inl (cI, 4, .inl gg))]) [3, 0, 1, 2] rfl) (hD.sub (ws' := [(y0, .inr (4, [.int th, .int (nI lm), .int sz, .int em, .int lt, .int sp, .int (nI np), .int fd, .int bg, .ref m_op, .ref m_nu, .ref m_gv, .ref m_sh, .ref m_he, .ref m_pu, .ref m_pc, .ref m_pl, .ref m_pb, .ref m_ps, .int pv, .int ev])), (m_he, .inl (cL, 36, .inr (.inl (hh_w (vp_updL ra 16 (((gg n0.toNatClampNeg).toInt64) * 1)) rb)))), (m_pu, .inl (cL, 8, .inr (.inl (pp_w qa qb)))), (m_gv, .inl (cI, 4, .inl gg))]) [3, 0, 1, 2] (by decide) rfl) hS d_Modl_does_496
  by_cases c_140 : o0 = 13
  · refine lv_tableIn (tgt := 357) hx hb d_Modl_does_35 (by rw [c_140]; decide) (by rw [c_140]; decide) (by rw [c_140]; rfl) (by decide) ?_
    subst c_140
    refine lv_aload_n hx hb d_Modl_does_357 rfl (lv_at hl 4 rfl) ?_
    refine va_get (D := (dC, dI)) (ci := 4) (v := .ref m_pu) (C := R_Modl) (T := F_Modl) (N := 21) hx hb htb iw_Modl hown hK.1 hP 0 rfl rfl 14 (by decide) (htb _ tw_429) (fun _ h9 => h9) rfl d_Modl_does_358 ?_
    refine lv_iconst (v := 4) hx hb d_Modl_does_361 (by decide) ?_
    refine lv_iload_n hx hb d_Modl_does_362 rfl (lv_at hl 5 rfl) ?_
    refine lv_imul hx hb d_Modl_does_363 ?_
    refine W.eq (g2 := F0 m 364 ls [.int 0, .ref m_pu]) rfl ?_
    refine lv_iload_n hx hb d_Modl_does_364 rfl (lv_at hl 7 rfl) ?_
    refine lv_iadd hx hb d_Modl_does_365 ?_
    refine tp_i (Int32.zero_add _) ?_
    refine lv_lload hx hb d_Modl_does_366 (lv_at hl 2 rfl) ?_
    refine sd_l (g := pp_w (vp_updL qa n0.toNatClampNeg (ra 16)) qb) (cA := cL) hx hb hK.1 hP hD hS 2 1 rfl rfl (vp_mono (ii_in13 hv) (by decide)) (pp_u0 (ii_in13 hv)) d_Modl_does_368 (fun H locs hP hD hS => ?_)
    have hP : va_P (dC, dI) classes [(y0, .inr (4, [.int th, .int (nI lm), .int sz, .int em, .int lt, .int sp, .int (nI np), .int fd, .int bg, .ref m_op, .ref m_nu, .ref m_gv, .ref m_sh, .ref m_he, .ref m_pu, .ref m_pc, .ref m_pl, .ref m_pb, .ref m_ps, .int pv, .int ev])), (m_he, .inl (cL, 36, .inr (.inl (hh_w ra rb)))), (m_pu, .inl (cL, 8, .inr (.inl (pp_w (vp_updL qa n0.toNatClampNeg (ra 16)) qb)))), (m_gv, .inl (cI, 4, .inl gg))] H := hP
    have hD : va_D A [(y0, .inr (4, [.int th, .int (nI lm), .int sz, .int em, .int lt, .int sp, .int (nI np), .int fd, .int bg, .ref m_op, .ref m_nu, .ref m_gv, .ref m_sh, .ref m_he, .ref m_pu, .ref m_pc, .ref m_pl, .ref m_pb, .ref m_ps, .int pv, .int ev])), (m_he, .inl (cL, 36, .inr (.inl (hh_w ra rb)))), (m_pu, .inl (cL, 8, .inr (.inl (pp_w (vp_updL qa n0.toNatClampNeg (ra 16)) qb)))), (m_gv, .inl (cI, 4, .inl gg))] := hD
    refine lv_goto (tgt := 434) hx hb d_Modl_does_369 (by decide) ?_
    refine lv_aload_n hx hb d_Modl_does_434 rfl (lv_at hl 4 rfl) ?_
    refine va_get (D := (dC, dI)) (ci := 4) (v := .ref m_he) (C := R_Modl) (T := F_Modl) (N := 21) hx hb htb iw_Modl hown hK.1 hP 0 rfl rfl 13 (by decide) (htb _ tw_428) (fun _ h9 => h9) rfl d_Modl_does_435 ?_
    refine lv_iload hx hb d_Modl_does_438 (lv_at hl 3 rfl) ?_
    refine lv_bipush (v := 16) hx hb d_Modl_does_440 (by decide) ?_
    refine lv_iadd hx hb d_Modl_does_442 ?_
    refine W.eq (g2 := F0 m 443 ls [.int 16, .ref m_he]) rfl ?_
    refine lv_lload hx hb d_Modl_does_443 (lv_at hl 0 rfl) ?_
    refine sd_l (g := hh_w (vp_updL ra 16 (ra 16)) rb) (cA := cL) hx hb hK.1 hP hD hS 1 1 rfl rfl (show ¬ (_ ∨ _) by decide) (hh_k0 (k := 16) (by decide)) d_Modl_does_445 (fun H locs hP hD hS => ?_)
    have hP : va_P (dC, dI) classes [(y0, .inr (4, [.int th, .int (nI lm), .int sz, .int em, .int lt, .int sp, .int (nI np), .int fd, .int bg, .ref m_op, .ref m_nu, .ref m_gv, .ref m_sh, .ref m_he, .ref m_pu, .ref m_pc, .ref m_pl, .ref m_pb, .ref m_ps, .int pv, .int ev])), (m_he, .inl (cL, 36, .inr (.inl (hh_w (vp_updL ra 16 (ra 16)) rb)))), (m_pu, .inl (cL, 8, .inr (.inl (pp_w (vp_updL qa n0.toNatClampNeg (ra 16)) qb)))), (m_gv, .inl (cI, 4, .inl gg))] H := hP
    have hD : va_D A [(y0, .inr (4, [.int th, .int (nI lm), .int sz, .int em, .int lt, .int sp, .int (nI np), .int fd, .int bg, .ref m_op, .ref m_nu, .ref m_gv, .ref m_sh, .ref m_he, .ref m_pu, .ref m_pc, .ref m_pl, .ref m_pb, .ref m_ps, .int pv, .int ev])), (m_he, .inl (cL, 36, .inr (.inl (hh_w (vp_updL ra 16 (ra 16)) rb)))), (m_pu, .inl (cL, 8, .inr (.inl (pp_w (vp_updL qa n0.toNatClampNeg (ra 16)) qb)))), (m_gv, .inl (cI, 4, .inl gg))] := hD
    refine lv_iload_n hx hb d_Modl_does_446 rfl (lv_at hl 6 rfl) ?_
    refine lv_iconst (v := 3) hx hb d_Modl_does_447 (by decide) ?_
    refine lv_icmp_le (tgt := 457) hx hb d_Modl_does_448 (by decide) (fun c_141 => ?_) (fun c_141 => ?_)
    · exact absurd c_141 (by decide)
    · skip
      refine lv_iload_n hx hb d_Modl_does_451 rfl (lv_at hl 6 rfl) ?_
      refine lv_bipush (v := 7) hx hb d_Modl_does_452 (by decide) ?_
      refine lv_icmp_lt (tgt := 469) hx hb d_Modl_does_454 (by decide) (fun c_142 => ?_) (fun c_142 => ?_)
      · exact absurd c_142 (by decide)
      · skip
        refine lv_iload_n hx hb d_Modl_does_457 rfl (lv_at hl 6 rfl) ?_
        refine lv_bipush (v := 9) hx hb d_Modl_does_458 (by decide) ?_
        refine lv_icmp_eq (tgt := 469) hx hb d_Modl_does_460 (by decide) (fun c_143 => ?_) (fun c_143 => ?_)
        · exact absurd c_143 (by decide)
        · skip
          refine lv_iload_n hx hb d_Modl_does_463 rfl (lv_at hl 6 rfl) ?_
          refine lv_bipush (v := 12) hx hb d_Modl_does_464 (by decide) ?_
          refine lv_icmp_ne (tgt := 473) hx hb d_Modl_does_466 (by decide) (fun c_144 => ?_) (fun c_144 => ?_)
          · skip
            refine lv_iconst (v := 0) hx hb d_Modl_does_473 (by decide) ?_
            refine lv_istore (lv' := [(11, .int 0), (9, .long (ra 16)), (7, .long (ra 17)), (5, .long (ra 16)), (4, .int 0), (0, .ref y0), (1, .int 0), (2, .int 13), (3, .int n0)]) hx hb d_Modl_does_474 hl (by decide) rfl (fun ls hl => ?_)
            refine lv_iload hx hb d_Modl_does_476 (lv_at hl 0 rfl) ?_
            refine lv_if_eq (tgt := 491) hx hb d_Modl_does_478 (by decide) (fun c_145 => ?_) (fun c_145 => ?_)
            · skip
              refine lv_iconst (v := 1) hx hb d_Modl_does_491 (by decide) ?_
              refine lv_goto (tgt := 496) hx hb d_Modl_does_492 (by decide) ?_
              exact rt_z (v := 1) ((vp_updL ra 16 (ra 16)), (vp_updL qa n0.toNatClampNeg (ra 16)), pv, ev) hx hb hr hlocks (by decide) (show (1 : Int32) = dz_w (de_w 1 13 n0 gg ra qa pv).1 ∧ (vp_updL ra 16 (ra 16)) = (de_w 1 13 n0 gg ra qa pv).2.1 ∧ (vp_updL qa n0.toNatClampNeg (ra 16)) = (de_w 1 13 n0 gg ra qa pv).2.2.1 ∧ pv = (de_w 1 13 n0 gg ra qa pv).2.2.2 ∧ ev = en_w (de_w 1 13 n0 gg ra qa pv).1 ev from (⟨rfl, up_same ra, rfl, rfl, rfl⟩)) (hP.sub (ws' := [(y0, .inr (4, [.int th, .int (nI lm), .int sz, .int em, .int lt, .int sp, .int (nI np), .int fd, .int bg, .ref m_op, .ref m_nu, .ref m_gv, .ref m_sh, .ref m_he, .ref m_pu, .ref m_pc, .ref m_pl, .ref m_pb, .ref m_ps, .int pv, .int ev])), (m_he, .inl (cL, 36, .inr (.inl (hh_w (vp_updL ra 16 (ra 16)) rb)))), (m_pu, .inl (cL, 8, .inr (.inl (pp_w (vp_updL qa n0.toNatClampNeg (ra 16)) qb)))), (m_gv, .inl (cI, 4, .inl gg))]) [0, 1, 2, 3] rfl) (hD.sub (ws' := [(y0, .inr (4, [.int th, .int (nI lm), .int sz, .int em, .int lt, .int sp, .int (nI np), .int fd, .int bg, .ref m_op, .ref m_nu, .ref m_gv, .ref m_sh, .ref m_he, .ref m_pu, .ref m_pc, .ref m_pl, .ref m_pb, .ref m_ps, .int pv, .int ev])), (m_he, .inl (cL, 36, .inr (.inl (hh_w (vp_updL ra 16 (ra 16)) rb)))), (m_pu, .inl (cL, 8, .inr (.inl (pp_w (vp_updL qa n0.toNatClampNeg (ra 16)) qb)))), (m_gv, .inl (cI, 4, .inl gg))]) [0, 1, 2, 3] (by decide) rfl) hS d_Modl_does_496
            · exact absurd (by decide) c_145
          · exact absurd c_144 (by decide)
  by_cases c_146 : o0 = 14
  · refine lv_tableIn (tgt := 372) hx hb d_Modl_does_35 (by rw [c_146]; decide) (by rw [c_146]; decide) (by rw [c_146]; rfl) (by decide) ?_
    subst c_146
    refine lv_aload_n hx hb d_Modl_does_372 rfl (lv_at hl 4 rfl) ?_
    refine lv_iconst (v := 1) hx hb d_Modl_does_373 (by decide) ?_
    refine va_put (D := (dC, dI)) (ci := 4) (v := .int 1) (ty := .boolean) (C := R_Modl) (T := F_Modl) (N := 21) hx hb htb iw_Modl t_Modl t_Modl_ok n_Modl hown hK.1 hP hD hS 0 rfl rfl 20 (by decide) (htb _ tw_435) (fun _ h9 => h9) rfl (by decide +kernel) (by first | rfl | decide) (by first | rfl | decide) (Nat.le_of_ble_eq_true rfl) d_Modl_does_374 (fun H locs hP hD hS => ?_)
    have hP : va_P (dC, dI) classes [(y0, .inr (4, [.int th, .int (nI lm), .int sz, .int em, .int lt, .int sp, .int (nI np), .int fd, .int bg, .ref m_op, .ref m_nu, .ref m_gv, .ref m_sh, .ref m_he, .ref m_pu, .ref m_pc, .ref m_pl, .ref m_pb, .ref m_ps, .int pv, .int 1])), (m_he, .inl (cL, 36, .inr (.inl (hh_w ra rb)))), (m_pu, .inl (cL, 8, .inr (.inl (pp_w qa qb)))), (m_gv, .inl (cI, 4, .inl gg))] H := hP
    have hD : va_D A [(y0, .inr (4, [.int th, .int (nI lm), .int sz, .int em, .int lt, .int sp, .int (nI np), .int fd, .int bg, .ref m_op, .ref m_nu, .ref m_gv, .ref m_sh, .ref m_he, .ref m_pu, .ref m_pc, .ref m_pl, .ref m_pb, .ref m_ps, .int pv, .int 1])), (m_he, .inl (cL, 36, .inr (.inl (hh_w ra rb)))), (m_pu, .inl (cL, 8, .inr (.inl (pp_w qa qb)))), (m_gv, .inl (cI, 4, .inl gg))] := hD
    refine lv_goto (tgt := 434) hx hb d_Modl_does_377 (by decide) ?_
    refine lv_aload_n hx hb d_Modl_does_434 rfl (lv_at hl 4 rfl) ?_
    refine va_get (D := (dC, dI)) (ci := 4) (v := .ref m_he) (C := R_Modl) (T := F_Modl) (N := 21) hx hb htb iw_Modl hown hK.1 hP 0 rfl rfl 13 (by decide) (htb _ tw_428) (fun _ h9 => h9) rfl d_Modl_does_435 ?_
    refine lv_iload hx hb d_Modl_does_438 (lv_at hl 3 rfl) ?_
    refine lv_bipush (v := 16) hx hb d_Modl_does_440 (by decide) ?_
    refine lv_iadd hx hb d_Modl_does_442 ?_
    refine W.eq (g2 := F0 m 443 ls [.int 16, .ref m_he]) rfl ?_
    refine lv_lload hx hb d_Modl_does_443 (lv_at hl 0 rfl) ?_
    refine sd_l (g := hh_w (vp_updL ra 16 (ra 16)) rb) (cA := cL) hx hb hK.1 hP hD hS 1 1 rfl rfl (show ¬ (_ ∨ _) by decide) (hh_k0 (k := 16) (by decide)) d_Modl_does_445 (fun H locs hP hD hS => ?_)
    have hP : va_P (dC, dI) classes [(y0, .inr (4, [.int th, .int (nI lm), .int sz, .int em, .int lt, .int sp, .int (nI np), .int fd, .int bg, .ref m_op, .ref m_nu, .ref m_gv, .ref m_sh, .ref m_he, .ref m_pu, .ref m_pc, .ref m_pl, .ref m_pb, .ref m_ps, .int pv, .int 1])), (m_he, .inl (cL, 36, .inr (.inl (hh_w (vp_updL ra 16 (ra 16)) rb)))), (m_pu, .inl (cL, 8, .inr (.inl (pp_w qa qb)))), (m_gv, .inl (cI, 4, .inl gg))] H := hP
    have hD : va_D A [(y0, .inr (4, [.int th, .int (nI lm), .int sz, .int em, .int lt, .int sp, .int (nI np), .int fd, .int bg, .ref m_op, .ref m_nu, .ref m_gv, .ref m_sh, .ref m_he, .ref m_pu, .ref m_pc, .ref m_pl, .ref m_pb, .ref m_ps, .int pv, .int 1])), (m_he, .inl (cL, 36, .inr (.inl (hh_w (vp_updL ra 16 (ra 16)) rb)))), (m_pu, .inl (cL, 8, .inr (.inl (pp_w qa qb)))), (m_gv, .inl (cI, 4, .inl gg))] := hD
    refine lv_iload_n hx hb d_Modl_does_446 rfl (lv_at hl 6 rfl) ?_
    refine lv_iconst (v := 3) hx hb d_Modl_does_447 (by decide) ?_
    refine lv_icmp_le (tgt := 457) hx hb d_Modl_does_448 (by decide) (fun c_147 => ?_) (fun c_147 => ?_)
    · exact absurd c_147 (by decide)
    · skip
      refine lv_iload_n hx hb d_Modl_does_451 rfl (lv_at hl 6 rfl) ?_
      refine lv_bipush (v := 7) hx hb d_Modl_does_452 (by decide) ?_
      refine lv_icmp_lt (tgt := 469) hx hb d_Modl_does_454 (by decide) (fun c_148 => ?_) (fun c_148 => ?_)
      · exact absurd c_148 (by decide)
      · skip
        refine lv_iload_n hx hb d_Modl_does_457 rfl (lv_at hl 6 rfl) ?_
        refine lv_bipush (v := 9) hx hb d_Modl_does_458 (by decide) ?_
        refine lv_icmp_eq (tgt := 469) hx hb d_Modl_does_460 (by decide) (fun c_149 => ?_) (fun c_149 => ?_)
        · exact absurd c_149 (by decide)
        · skip
          refine lv_iload_n hx hb d_Modl_does_463 rfl (lv_at hl 6 rfl) ?_
          refine lv_bipush (v := 12) hx hb d_Modl_does_464 (by decide) ?_
          refine lv_icmp_ne (tgt := 473) hx hb d_Modl_does_466 (by decide) (fun c_150 => ?_) (fun c_150 => ?_)
          · skip
            refine lv_iconst (v := 0) hx hb d_Modl_does_473 (by decide) ?_
            refine lv_istore (lv' := [(11, .int 0), (9, .long (ra 16)), (7, .long (ra 17)), (5, .long (ra 16)), (4, .int 0), (0, .ref y0), (1, .int 0), (2, .int 14), (3, .int n0)]) hx hb d_Modl_does_474 hl (by decide) rfl (fun ls hl => ?_)
            refine lv_iload hx hb d_Modl_does_476 (lv_at hl 0 rfl) ?_
            refine lv_if_eq (tgt := 491) hx hb d_Modl_does_478 (by decide) (fun c_151 => ?_) (fun c_151 => ?_)
            · skip
              refine lv_iconst (v := 1) hx hb d_Modl_does_491 (by decide) ?_
              refine lv_goto (tgt := 496) hx hb d_Modl_does_492 (by decide) ?_
              exact rt_z (v := 1) ((vp_updL ra 16 (ra 16)), qa, pv, 1) hx hb hr hlocks (by decide) (show (1 : Int32) = dz_w (de_w 1 14 n0 gg ra qa pv).1 ∧ (vp_updL ra 16 (ra 16)) = (de_w 1 14 n0 gg ra qa pv).2.1 ∧ qa = (de_w 1 14 n0 gg ra qa pv).2.2.1 ∧ pv = (de_w 1 14 n0 gg ra qa pv).2.2.2 ∧ (1 : Int32) = en_w (de_w 1 14 n0 gg ra qa pv).1 ev from (⟨rfl, up_same ra, rfl, rfl, rfl⟩)) (hP.sub (ws' := [(y0, .inr (4, [.int th, .int (nI lm), .int sz, .int em, .int lt, .int sp, .int (nI np), .int fd, .int bg, .ref m_op, .ref m_nu, .ref m_gv, .ref m_sh, .ref m_he, .ref m_pu, .ref m_pc, .ref m_pl, .ref m_pb, .ref m_ps, .int pv, .int 1])), (m_he, .inl (cL, 36, .inr (.inl (hh_w (vp_updL ra 16 (ra 16)) rb)))), (m_pu, .inl (cL, 8, .inr (.inl (pp_w qa qb)))), (m_gv, .inl (cI, 4, .inl gg))]) [0, 1, 2, 3] rfl) (hD.sub (ws' := [(y0, .inr (4, [.int th, .int (nI lm), .int sz, .int em, .int lt, .int sp, .int (nI np), .int fd, .int bg, .ref m_op, .ref m_nu, .ref m_gv, .ref m_sh, .ref m_he, .ref m_pu, .ref m_pc, .ref m_pl, .ref m_pb, .ref m_ps, .int pv, .int 1])), (m_he, .inl (cL, 36, .inr (.inl (hh_w (vp_updL ra 16 (ra 16)) rb)))), (m_pu, .inl (cL, 8, .inr (.inl (pp_w qa qb)))), (m_gv, .inl (cI, 4, .inl gg))]) [0, 1, 2, 3] (by decide) rfl) hS d_Modl_does_496
            · exact absurd (by decide) c_151
          · exact absurd c_150 (by decide)
  refine lv_tableE (tgt := 380) hx hb d_Modl_does_35 (by decide) (fun j hj he => by have q_0 := lv_neT c_1 (a := 0) (by decide); have q_1 := lv_neT c_8 (a := 1) (by decide); have q_2 := lv_neT c_13 (a := 2) (by decide); have q_3 := lv_neT c_18 (a := 3) (by decide); have q_4 := lv_neT c_23 (a := 4) (by decide); have q_5 := lv_neT c_30 (a := 5) (by decide); have q_6 := lv_neT c_37 (a := 6) (by decide); have q_7 := lv_neT c_75 (a := 7) (by decide); have q_8 := lv_neT c_89 (a := 8) (by decide); have q_9 := lv_neT c_103 (a := 9) (by decide); have q_10 := lv_neT c_111 (a := 10) (by decide); have q_11 := lv_neT c_117 (a := 11) (by decide); have q_12 := lv_neT c_129 (a := 12) (by decide); have q_13 := lv_neT c_140 (a := 13) (by decide); have q_14 := lv_neT c_146 (a := 14) (by decide); rcases (show j = 0 ∨ j = 1 ∨ j = 2 ∨ j = 3 ∨ j = 4 ∨ j = 5 ∨ j = 6 ∨ j = 7 ∨ j = 8 ∨ j = 9 ∨ j = 10 ∨ j = 11 ∨ j = 12 ∨ j = 13 ∨ j = 14 by omega) with rfl | rfl | rfl | rfl | rfl | rfl | rfl | rfl | rfl | rfl | rfl | rfl | rfl | rfl | rfl <;> first | rfl | (exfalso; omega)) ?_
  obtain rfl : o0 = 15 := ii_15 hv c_1 c_8 c_13 c_18 c_23 c_30 c_37 c_75 c_89 c_103 c_111 c_117 c_129 c_140 c_146
  refine lv_lload hx hb d_Modl_does_380 (lv_at hl 2 rfl) ?_
  refine lv_aload_n hx hb d_Modl_does_382 rfl (lv_at hl 4 rfl) ?_
  refine lv_iload_n hx hb d_Modl_does_383 rfl (lv_at hl 5 rfl) ?_
  refine af_l (wr := [(m_he, .inl (cL, 36, .inr (.inl (hh_w ra rb)))), (m_pu, .inl (cL, 8, .inr (.inl (pp_w qa qb)))), (m_gv, .inl (cI, 4, .inl gg))]) (va_runV (As := [.int 0]) (rest := [.long (ra 16)]) ⟨hx, hb, hml, hown, htb⟩ (c_Modl_times0 l dC dI cI cL s.heap.size y0 th lm sz em lt sp np fd bg m_op m_nu m_gv m_sh m_he m_pu m_pc m_pl m_pb m_ps pv ev ) ⟨callB_of 1 htb (gd_w tw_514) rfl rfl rfl (htb _ tw_25) (htb _ tw_511) (by decide +kernel) ⟨Nat.le_of_ble_eq_true rfl, Nat.le_of_ble_eq_true rfl⟩, htb _ tw_513, htb _ tw_16⟩ (pv_V hK (hP.sub (ws' := [(y0, .inr (4, [.int th, .int (nI lm), .int sz, .int em, .int lt, .int sp, .int (nI np), .int fd, .int bg, .ref m_op, .ref m_nu, .ref m_gv, .ref m_sh, .ref m_he, .ref m_pu, .ref m_pc, .ref m_pl, .ref m_pb, .ref m_ps, .int pv, .int ev]))]) [0] rfl) (hD.sub (ws' := [(y0, .inr (4, [.int th, .int (nI lm), .int sz, .int em, .int lt, .int sp, .int (nI np), .int fd, .int bg, .ref m_op, .ref m_nu, .ref m_gv, .ref m_sh, .ref m_he, .ref m_pu, .ref m_pc, .ref m_pl, .ref m_pb, .ref m_ps, .int pv, .int ev]))]) [0] (by decide) rfl) (ci := 4) (q0 := 0) rfl rfl) rfl rfl hl.1 rfl (lv_room (Nat.le_of_ble_eq_true rfl)) d_Modl_does_384 ⟨Nat.le_of_ble_eq_true rfl, Nat.le_of_ble_eq_true rfl⟩) hP hD hS hA [0] [1, 2, 3] rfl rfl (by decide) (by decide) (fun r_152 u_153 H locs hw hP hD hS => ?_)
  try dsimp only at hw
  subst hw
  have hP : va_P (dC, dI) classes [(m_he, .inl (cL, 36, .inr (.inl (hh_w ra rb)))), (m_pu, .inl (cL, 8, .inr (.inl (pp_w qa qb)))), (m_gv, .inl (cI, 4, .inl gg)), (y0, .inr (4, [.int th, .int (nI lm), .int sz, .int em, .int lt, .int sp, .int (nI np), .int fd, .int bg, .ref m_op, .ref m_nu, .ref m_gv, .ref m_sh, .ref m_he, .ref m_pu, .ref m_pc, .ref m_pl, .ref m_pb, .ref m_ps, .int pv, .int ev]))] H := hP
  have hD : va_D A [(m_he, .inl (cL, 36, .inr (.inl (hh_w ra rb)))), (m_pu, .inl (cL, 8, .inr (.inl (pp_w qa qb)))), (m_gv, .inl (cI, 4, .inl gg)), (y0, .inr (4, [.int th, .int (nI lm), .int sz, .int em, .int lt, .int sp, .int (nI np), .int fd, .int bg, .ref m_op, .ref m_nu, .ref m_gv, .ref m_sh, .ref m_he, .ref m_pu, .ref m_pc, .ref m_pl, .ref m_pb, .ref m_ps, .int pv, .int ev]))] := hD
  refine lv_ldiv hx hb d_Modl_does_387 (by decide) ?_
  refine lv_lstore (lv' := [(11, .long ((ra 16) / 1)), (9, .long (ra 16)), (7, .long (ra 17)), (5, .long (ra 16)), (4, .int 0), (0, .ref y0), (1, .int 0), (2, .int 15), (3, .int n0)]) hx hb d_Modl_does_388 hl (by decide) rfl (fun ls hl => ?_)
  refine lv_lload hx hb d_Modl_does_390 (lv_at hl 3 rfl) ?_
  refine lv_aload_n hx hb d_Modl_does_392 rfl (lv_at hl 5 rfl) ?_
  refine lv_iload_n hx hb d_Modl_does_393 rfl (lv_at hl 6 rfl) ?_
  refine af_l (wr := [(m_he, .inl (cL, 36, .inr (.inl (hh_w ra rb)))), (m_pu, .inl (cL, 8, .inr (.inl (pp_w qa qb)))), (m_gv, .inl (cI, 4, .inl gg))]) (va_runV (As := [.int 0]) (rest := [.long (ra 16)]) ⟨hx, hb, hml, hown, htb⟩ (c_Modl_times0 l dC dI cI cL H.size y0 th lm sz em lt sp np fd bg m_op m_nu m_gv m_sh m_he m_pu m_pc m_pl m_pb m_ps pv ev ) ⟨callB_of 1 htb (gd_w tw_514) rfl rfl rfl (htb _ tw_25) (htb _ tw_511) (by decide +kernel) ⟨Nat.le_of_ble_eq_true rfl, Nat.le_of_ble_eq_true rfl⟩, htb _ tw_513, htb _ tw_16⟩ (pv_V hK (hP.sub (ws' := [(y0, .inr (4, [.int th, .int (nI lm), .int sz, .int em, .int lt, .int sp, .int (nI np), .int fd, .int bg, .ref m_op, .ref m_nu, .ref m_gv, .ref m_sh, .ref m_he, .ref m_pu, .ref m_pc, .ref m_pl, .ref m_pb, .ref m_ps, .int pv, .int ev]))]) [3] rfl) (hD.sub (ws' := [(y0, .inr (4, [.int th, .int (nI lm), .int sz, .int em, .int lt, .int sp, .int (nI np), .int fd, .int bg, .ref m_op, .ref m_nu, .ref m_gv, .ref m_sh, .ref m_he, .ref m_pu, .ref m_pc, .ref m_pl, .ref m_pb, .ref m_ps, .int pv, .int ev]))]) [3] (by decide) rfl) (ci := 4) (q0 := 0) rfl rfl) rfl rfl hl.1 rfl (lv_room (Nat.le_of_ble_eq_true rfl)) d_Modl_does_394 ⟨Nat.le_of_ble_eq_true rfl, Nat.le_of_ble_eq_true rfl⟩) hP hD hS hA [3] [0, 1, 2] rfl rfl (by decide) (by decide) (fun r_154 u_155 H locs hw hP hD hS => ?_)
  try dsimp only at hw
  subst hw
  have hP : va_P (dC, dI) classes [(m_he, .inl (cL, 36, .inr (.inl (hh_w ra rb)))), (m_pu, .inl (cL, 8, .inr (.inl (pp_w qa qb)))), (m_gv, .inl (cI, 4, .inl gg)), (y0, .inr (4, [.int th, .int (nI lm), .int sz, .int em, .int lt, .int sp, .int (nI np), .int fd, .int bg, .ref m_op, .ref m_nu, .ref m_gv, .ref m_sh, .ref m_he, .ref m_pu, .ref m_pc, .ref m_pl, .ref m_pb, .ref m_ps, .int pv, .int ev]))] H := hP
  have hD : va_D A [(m_he, .inl (cL, 36, .inr (.inl (hh_w ra rb)))), (m_pu, .inl (cL, 8, .inr (.inl (pp_w qa qb)))), (m_gv, .inl (cI, 4, .inl gg)), (y0, .inr (4, [.int th, .int (nI lm), .int sz, .int em, .int lt, .int sp, .int (nI np), .int fd, .int bg, .ref m_op, .ref m_nu, .ref m_gv, .ref m_sh, .ref m_he, .ref m_pu, .ref m_pc, .ref m_pl, .ref m_pb, .ref m_ps, .int pv, .int ev]))] := hD
  refine lv_lrem hx hb d_Modl_does_397 (by decide) ?_
  refine lv_lconst (v := 0) hx hb d_Modl_does_398 (by decide) ?_
  refine W.lcmp hx hb d_Modl_does_399 ?_
  refine lv_if_ne (tgt := 419) hx hb d_Modl_does_400 (by decide) (fun c_156 => ?_) (fun c_156 => ?_)
  · have c_156 : ¬ (lg_cmp ((ra 16) - (ra 16) / 1 * 1) 0) = 0 := c_156
    rw [lc_eq] at c_156
    refine lv_iconst (v := 0) hx hb d_Modl_does_419 (by decide) ?_
    exact rt_z (v := 0) (ra, qa, pv, ev) hx hb hr hlocks (by decide) (show (0 : Int32) = dz_w (de_w 1 15 n0 gg ra qa pv).1 ∧ ra = (de_w 1 15 n0 gg ra qa pv).2.1 ∧ qa = (de_w 1 15 n0 gg ra qa pv).2.2.1 ∧ pv = (de_w 1 15 n0 gg ra qa pv).2.2.2 ∧ ev = en_w (de_w 1 15 n0 gg ra qa pv).1 ev from (by rw [de_15a c_156]; exact ⟨rfl, rfl, rfl, rfl, rfl⟩)) (hP.sub (ws' := [(y0, .inr (4, [.int th, .int (nI lm), .int sz, .int em, .int lt, .int sp, .int (nI np), .int fd, .int bg, .ref m_op, .ref m_nu, .ref m_gv, .ref m_sh, .ref m_he, .ref m_pu, .ref m_pc, .ref m_pl, .ref m_pb, .ref m_ps, .int pv, .int ev])), (m_he, .inl (cL, 36, .inr (.inl (hh_w ra rb)))), (m_pu, .inl (cL, 8, .inr (.inl (pp_w qa qb)))), (m_gv, .inl (cI, 4, .inl gg))]) [3, 0, 1, 2] rfl) (hD.sub (ws' := [(y0, .inr (4, [.int th, .int (nI lm), .int sz, .int em, .int lt, .int sp, .int (nI np), .int fd, .int bg, .ref m_op, .ref m_nu, .ref m_gv, .ref m_sh, .ref m_he, .ref m_pu, .ref m_pc, .ref m_pl, .ref m_pb, .ref m_ps, .int pv, .int ev])), (m_he, .inl (cL, 36, .inr (.inl (hh_w ra rb)))), (m_pu, .inl (cL, 8, .inr (.inl (pp_w qa qb)))), (m_gv, .inl (cI, 4, .inl gg))]) [3, 0, 1, 2] (by decide) rfl) hS d_Modl_does_420
  · have c_156 : (lg_cmp ((ra 16) - (ra 16) / 1 * 1) 0) = 0 := c_156
    rw [lc_eq] at c_156
    refine lv_lload hx hb d_Modl_does_403 (lv_at hl 0 rfl) ?_
    refine lv_lconst (v := 0) hx hb d_Modl_does_405 (by decide) ?_
    refine W.lcmp hx hb d_Modl_does_406 ?_
    refine lv_if_lt (tgt := 419) hx hb d_Modl_does_407 (by decide) (fun c_157 => ?_) (fun c_157 => ?_)
    · have c_157 : (lg_cmp ((ra 16) / 1) 0) < 0 := c_157
      rw [lc_lt] at c_157
      refine lv_iconst (v := 0) hx hb d_Modl_does_419 (by decide) ?_
      exact rt_z (v := 0) (ra, qa, pv, ev) hx hb hr hlocks (by decide) (show (0 : Int32) = dz_w (de_w 1 15 n0 gg ra qa pv).1 ∧ ra = (de_w 1 15 n0 gg ra qa pv).2.1 ∧ qa = (de_w 1 15 n0 gg ra qa pv).2.2.1 ∧ pv = (de_w 1 15 n0 gg ra qa pv).2.2.2 ∧ ev = en_w (de_w 1 15 n0 gg ra qa pv).1 ev from (by rw [de_15b (show ¬ (1 : Int64) = 0 by decide) c_156 c_157]; exact ⟨rfl, rfl, rfl, rfl, rfl⟩)) (hP.sub (ws' := [(y0, .inr (4, [.int th, .int (nI lm), .int sz, .int em, .int lt, .int sp, .int (nI np), .int fd, .int bg, .ref m_op, .ref m_nu, .ref m_gv, .ref m_sh, .ref m_he, .ref m_pu, .ref m_pc, .ref m_pl, .ref m_pb, .ref m_ps, .int pv, .int ev])), (m_he, .inl (cL, 36, .inr (.inl (hh_w ra rb)))), (m_pu, .inl (cL, 8, .inr (.inl (pp_w qa qb)))), (m_gv, .inl (cI, 4, .inl gg))]) [3, 0, 1, 2] rfl) (hD.sub (ws' := [(y0, .inr (4, [.int th, .int (nI lm), .int sz, .int em, .int lt, .int sp, .int (nI np), .int fd, .int bg, .ref m_op, .ref m_nu, .ref m_gv, .ref m_sh, .ref m_he, .ref m_pu, .ref m_pc, .ref m_pl, .ref m_pb, .ref m_ps, .int pv, .int ev])), (m_he, .inl (cL, 36, .inr (.inl (hh_w ra rb)))), (m_pu, .inl (cL, 8, .inr (.inl (pp_w qa qb)))), (m_gv, .inl (cI, 4, .inl gg))]) [3, 0, 1, 2] (by decide) rfl) hS d_Modl_does_420
    · have c_157 : ¬ (lg_cmp ((ra 16) / 1) 0) < 0 := c_157
      rw [lc_lt] at c_157
      refine lv_lload hx hb d_Modl_does_410 (lv_at hl 0 rfl) ?_
      refine lv_ldc2 (v := 16) hx hb hown (htb _ tw_518) d_Modl_does_412 ?_
      refine W.lcmp hx hb d_Modl_does_415 ?_
      refine lv_if_lt (tgt := 421) hx hb d_Modl_does_416 (by decide) (fun c_158 => ?_) (fun c_158 => ?_)
      · have c_158 : (lg_cmp ((ra 16) / 1) 16) < 0 := c_158
        rw [lc_lt] at c_158
        refine lv_aload_n hx hb d_Modl_does_421 rfl (lv_at hl 5 rfl) ?_
        refine va_get (D := (dC, dI)) (ci := 4) (v := .ref m_he) (C := R_Modl) (T := F_Modl) (N := 21) hx hb htb iw_Modl hown hK.1 hP 3 rfl rfl 13 (by decide) (htb _ tw_428) (fun _ h9 => h9) rfl d_Modl_does_422 ?_
        refine lv_iload hx hb d_Modl_does_425 (lv_at hl 4 rfl) ?_
        refine lv_lload hx hb d_Modl_does_427 (lv_at hl 0 rfl) ?_
        refine lv_l2i (v := ((ra 16) / 1).toInt32) hx hb d_Modl_does_429 rfl ?_
        refine lv_iadd hx hb d_Modl_does_430 ?_
        refine tp_i (Int32.zero_add _) ?_
        refine ld_l (v := ra (((ra 16) / 1).toInt32).toNatClampNeg) (cA := cL) hx hb hK.1 hP 0 1 rfl rfl (vp_mono (lk_in c_157 c_158) (by decide)) (hh_r0 (lk_in c_157 c_158)) d_Modl_does_431 ?_
        refine lv_lstore (lv' := [(9, .long (ra (((ra 16) / 1).toInt32).toNatClampNeg)), (11, .long ((ra 16) / 1)), (7, .long (ra 17)), (5, .long (ra 16)), (4, .int 0), (0, .ref y0), (1, .int 0), (2, .int 15), (3, .int n0)]) hx hb d_Modl_does_432 hl (by decide) rfl (fun ls hl => ?_)
        refine lv_aload_n hx hb d_Modl_does_434 rfl (lv_at hl 5 rfl) ?_
        refine va_get (D := (dC, dI)) (ci := 4) (v := .ref m_he) (C := R_Modl) (T := F_Modl) (N := 21) hx hb htb iw_Modl hown hK.1 hP 3 rfl rfl 13 (by decide) (htb _ tw_428) (fun _ h9 => h9) rfl d_Modl_does_435 ?_
        refine lv_iload hx hb d_Modl_does_438 (lv_at hl 4 rfl) ?_
        refine lv_bipush (v := 16) hx hb d_Modl_does_440 (by decide) ?_
        refine lv_iadd hx hb d_Modl_does_442 ?_
        refine W.eq (g2 := F0 m 443 ls [.int 16, .ref m_he]) rfl ?_
        refine lv_lload hx hb d_Modl_does_443 (lv_at hl 0 rfl) ?_
        refine sd_l (g := hh_w (vp_updL ra 16 (ra (((ra 16) / 1).toInt32).toNatClampNeg)) rb) (cA := cL) hx hb hK.1 hP hD hS 0 1 rfl rfl (show ¬ (_ ∨ _) by decide) (hh_k0 (k := 16) (by decide)) d_Modl_does_445 (fun H locs hP hD hS => ?_)
        have hP : va_P (dC, dI) classes [(m_he, .inl (cL, 36, .inr (.inl (hh_w (vp_updL ra 16 (ra (((ra 16) / 1).toInt32).toNatClampNeg)) rb)))), (m_pu, .inl (cL, 8, .inr (.inl (pp_w qa qb)))), (m_gv, .inl (cI, 4, .inl gg)), (y0, .inr (4, [.int th, .int (nI lm), .int sz, .int em, .int lt, .int sp, .int (nI np), .int fd, .int bg, .ref m_op, .ref m_nu, .ref m_gv, .ref m_sh, .ref m_he, .ref m_pu, .ref m_pc, .ref m_pl, .ref m_pb, .ref m_ps, .int pv, .int ev]))] H := hP
        have hD : va_D A [(m_he, .inl (cL, 36, .inr (.inl (hh_w (vp_updL ra 16 (ra (((ra 16) / 1).toInt32).toNatClampNeg)) rb)))), (m_pu, .inl (cL, 8, .inr (.inl (pp_w qa qb)))), (m_gv, .inl (cI, 4, .inl gg)), (y0, .inr (4, [.int th, .int (nI lm), .int sz, .int em, .int lt, .int sp, .int (nI np), .int fd, .int bg, .ref m_op, .ref m_nu, .ref m_gv, .ref m_sh, .ref m_he, .ref m_pu, .ref m_pc, .ref m_pl, .ref m_pb, .ref m_ps, .int pv, .int ev]))] := hD
        refine lv_iload_n hx hb d_Modl_does_446 rfl (lv_at hl 7 rfl) ?_
        refine lv_iconst (v := 3) hx hb d_Modl_does_447 (by decide) ?_
        refine lv_icmp_le (tgt := 457) hx hb d_Modl_does_448 (by decide) (fun c_159 => ?_) (fun c_159 => ?_)
        · exact absurd c_159 (by decide)
        · skip
          refine lv_iload_n hx hb d_Modl_does_451 rfl (lv_at hl 7 rfl) ?_
          refine lv_bipush (v := 7) hx hb d_Modl_does_452 (by decide) ?_
          refine lv_icmp_lt (tgt := 469) hx hb d_Modl_does_454 (by decide) (fun c_160 => ?_) (fun c_160 => ?_)
          · exact absurd c_160 (by decide)
          · skip
            refine lv_iload_n hx hb d_Modl_does_457 rfl (lv_at hl 7 rfl) ?_
            refine lv_bipush (v := 9) hx hb d_Modl_does_458 (by decide) ?_
            refine lv_icmp_eq (tgt := 469) hx hb d_Modl_does_460 (by decide) (fun c_161 => ?_) (fun c_161 => ?_)
            · exact absurd c_161 (by decide)
            · skip
              refine lv_iload_n hx hb d_Modl_does_463 rfl (lv_at hl 7 rfl) ?_
              refine lv_bipush (v := 12) hx hb d_Modl_does_464 (by decide) ?_
              refine lv_icmp_ne (tgt := 473) hx hb d_Modl_does_466 (by decide) (fun c_162 => ?_) (fun c_162 => ?_)
              · skip
                refine lv_iconst (v := 0) hx hb d_Modl_does_473 (by decide) ?_
                refine lv_istore (lv' := [(11, .int 0), (9, .long (ra (((ra 16) / 1).toInt32).toNatClampNeg)), (7, .long (ra 17)), (5, .long (ra 16)), (4, .int 0), (0, .ref y0), (1, .int 0), (2, .int 15), (3, .int n0)]) hx hb d_Modl_does_474 hl (by decide) rfl (fun ls hl => ?_)
                refine lv_iload hx hb d_Modl_does_476 (lv_at hl 0 rfl) ?_
                refine lv_if_eq (tgt := 491) hx hb d_Modl_does_478 (by decide) (fun c_163 => ?_) (fun c_163 => ?_)
                · skip
                  refine lv_iconst (v := 1) hx hb d_Modl_does_491 (by decide) ?_
                  refine lv_goto (tgt := 496) hx hb d_Modl_does_492 (by decide) ?_
                  exact rt_z (v := 1) ((vp_updL ra 16 (ra (((ra 16) / 1).toInt32).toNatClampNeg)), qa, pv, ev) hx hb hr hlocks (by decide) (show (1 : Int32) = dz_w (de_w 1 15 n0 gg ra qa pv).1 ∧ (vp_updL ra 16 (ra (((ra 16) / 1).toInt32).toNatClampNeg)) = (de_w 1 15 n0 gg ra qa pv).2.1 ∧ qa = (de_w 1 15 n0 gg ra qa pv).2.2.1 ∧ pv = (de_w 1 15 n0 gg ra qa pv).2.2.2 ∧ ev = en_w (de_w 1 15 n0 gg ra qa pv).1 ev from (by rw [de_15c (show ¬ (1 : Int64) = 0 by decide) c_156 c_157 c_158]; exact ⟨rfl, rfl, rfl, rfl, rfl⟩)) (hP.sub (ws' := [(y0, .inr (4, [.int th, .int (nI lm), .int sz, .int em, .int lt, .int sp, .int (nI np), .int fd, .int bg, .ref m_op, .ref m_nu, .ref m_gv, .ref m_sh, .ref m_he, .ref m_pu, .ref m_pc, .ref m_pl, .ref m_pb, .ref m_ps, .int pv, .int ev])), (m_he, .inl (cL, 36, .inr (.inl (hh_w (vp_updL ra 16 (ra (((ra 16) / 1).toInt32).toNatClampNeg)) rb)))), (m_pu, .inl (cL, 8, .inr (.inl (pp_w qa qb)))), (m_gv, .inl (cI, 4, .inl gg))]) [3, 0, 1, 2] rfl) (hD.sub (ws' := [(y0, .inr (4, [.int th, .int (nI lm), .int sz, .int em, .int lt, .int sp, .int (nI np), .int fd, .int bg, .ref m_op, .ref m_nu, .ref m_gv, .ref m_sh, .ref m_he, .ref m_pu, .ref m_pc, .ref m_pl, .ref m_pb, .ref m_ps, .int pv, .int ev])), (m_he, .inl (cL, 36, .inr (.inl (hh_w (vp_updL ra 16 (ra (((ra 16) / 1).toInt32).toNatClampNeg)) rb)))), (m_pu, .inl (cL, 8, .inr (.inl (pp_w qa qb)))), (m_gv, .inl (cI, 4, .inl gg))]) [3, 0, 1, 2] (by decide) rfl) hS d_Modl_does_496
                · exact absurd (by decide) c_163
              · exact absurd c_162 (by decide)
      · have c_158 : ¬ (lg_cmp ((ra 16) / 1) 16) < 0 := c_158
        rw [lc_lt] at c_158
        refine lv_iconst (v := 0) hx hb d_Modl_does_419 (by decide) ?_
        exact rt_z (v := 0) (ra, qa, pv, ev) hx hb hr hlocks (by decide) (show (0 : Int32) = dz_w (de_w 1 15 n0 gg ra qa pv).1 ∧ ra = (de_w 1 15 n0 gg ra qa pv).2.1 ∧ qa = (de_w 1 15 n0 gg ra qa pv).2.2.1 ∧ pv = (de_w 1 15 n0 gg ra qa pv).2.2.2 ∧ ev = en_w (de_w 1 15 n0 gg ra qa pv).1 ev from (by rw [de_15d (show ¬ (1 : Int64) = 0 by decide) c_156 c_157 c_158]; exact ⟨rfl, rfl, rfl, rfl, rfl⟩)) (hP.sub (ws' := [(y0, .inr (4, [.int th, .int (nI lm), .int sz, .int em, .int lt, .int sp, .int (nI np), .int fd, .int bg, .ref m_op, .ref m_nu, .ref m_gv, .ref m_sh, .ref m_he, .ref m_pu, .ref m_pc, .ref m_pl, .ref m_pb, .ref m_ps, .int pv, .int ev])), (m_he, .inl (cL, 36, .inr (.inl (hh_w ra rb)))), (m_pu, .inl (cL, 8, .inr (.inl (pp_w qa qb)))), (m_gv, .inl (cI, 4, .inl gg))]) [3, 0, 1, 2] rfl) (hD.sub (ws' := [(y0, .inr (4, [.int th, .int (nI lm), .int sz, .int em, .int lt, .int sp, .int (nI np), .int fd, .int bg, .ref m_op, .ref m_nu, .ref m_gv, .ref m_sh, .ref m_he, .ref m_pu, .ref m_pc, .ref m_pl, .ref m_pb, .ref m_ps, .int pv, .int ev])), (m_he, .inl (cL, 36, .inr (.inl (hh_w ra rb)))), (m_pu, .inl (cL, 8, .inr (.inl (pp_w qa qb)))), (m_gv, .inl (cI, 4, .inl gg))]) [3, 0, 1, 2] (by decide) rfl) hS d_Modl_does_420

set_option maxHeartbeats 4000000 in
set_option maxRecDepth 100000 in
theorem c_Modl_does1 (l : Launch) (dC : Nat → ClassId) (dI : Nat → Nat → Nat) (cI cL : ClassId) (hs0 : Nat) (y0 : Nat) (th : Int32) (lm : Nat) (sz : Int32) (em : Int32) (lt : Int32) (sp : Int32) (np : Nat) (fd : Int32) (bg : Int32) (m_op : Nat) (m_nu : Nat) (m_gv : Nat) (m_sh : Nat) (m_he : Nat) (m_pu : Nat) (m_pc : Nat) (m_pl : Nat) (m_pb : Nat) (m_ps : Nat) (pv : Int32) (ev : Int32) (ra : Nat → Int64) (rb : Nat → Int64) (qa : Nat → Int64) (qb : Nat → Int64) (gg : Nat → Int32) (o0 : Int32) (n0 : Int32) (hv : ii_w o0 n0 = 1) : ct_i l y_Modl_does b_Modl_does 13 (some .boolean) ({ frames := 2, cells := 0, slots := 0, locals := 80 }) (dC, dI) cI cL [.ref y0, .int 1, .int o0, .int n0] [(y0, .inr (4, [.int th, .int (nI lm), .int sz, .int em, .int lt, .int sp, .int (nI np), .int fd, .int bg, .ref m_op, .ref m_nu, .ref m_gv, .ref m_sh, .ref m_he, .ref m_pu, .ref m_pc, .ref m_pl, .ref m_pb, .ref m_ps, .int pv, .int ev])), (m_he, .inl (cL, 36, .inr (.inl (hh_w ra rb)))), (m_pu, .inl (cL, 8, .inr (.inl (pp_w qa qb)))), (m_gv, .inl (cI, 4, .inl gg))] hs0 (fun (r : Int32) (u : (Nat → Int64) × (Nat → Int64) × Int32 × Int32) => r = dz_w (de_w 58659 o0 n0 gg rb qb pv).1 ∧ u.1 = (de_w 58659 o0 n0 gg rb qb pv).2.1 ∧ u.2.1 = (de_w 58659 o0 n0 gg rb qb pv).2.2.1 ∧ u.2.2.1 = (de_w 58659 o0 n0 gg rb qb pv).2.2.2 ∧ u.2.2.2 = en_w (de_w 58659 o0 n0 gg rb qb pv).1 ev) (fun u => [(y0, .inr (4, [.int th, .int (nI lm), .int sz, .int em, .int lt, .int sp, .int (nI np), .int fd, .int bg, .ref m_op, .ref m_nu, .ref m_gv, .ref m_sh, .ref m_he, .ref m_pu, .ref m_pc, .ref m_pl, .ref m_pb, .ref m_ps, .int u.2.2.1, .int u.2.2.2])), (m_he, .inl (cL, 36, .inr (.inl (hh_w ra u.1)))), (m_pu, .inl (cL, 8, .inr (.inl (pp_w qa u.2.1)))), (m_gv, .inl (cI, 4, .inl gg))]) 0 0 := by
  refine st_w (Qc := fun A => va_Qi (fun (r : Int32) (u : (Nat → Int64) × (Nat → Int64) × Int32 × Int32) => r = dz_w (de_w 58659 o0 n0 gg rb qb pv).1 ∧ u.1 = (de_w 58659 o0 n0 gg rb qb pv).2.1 ∧ u.2.1 = (de_w 58659 o0 n0 gg rb qb pv).2.2.1 ∧ u.2.2.1 = (de_w 58659 o0 n0 gg rb qb pv).2.2.2 ∧ u.2.2.2 = en_w (de_w 58659 o0 n0 gg rb qb pv).1 ev) (fun (u : (Nat → Int64) × (Nat → Int64) × Int32 × Int32) t => pos_w (dC, dI) A [(y0, .inr (4, [.int th, .int (nI lm), .int sz, .int em, .int lt, .int sp, .int (nI np), .int fd, .int bg, .ref m_op, .ref m_nu, .ref m_gv, .ref m_sh, .ref m_he, .ref m_pu, .ref m_pc, .ref m_pl, .ref m_pb, .ref m_ps, .int u.2.2.1, .int u.2.2.2])), (m_he, .inl (cL, 36, .inr (.inl (hh_w ra u.1)))), (m_pu, .inl (cL, 8, .inr (.inl (pp_w qa u.2.1)))), (m_gv, .inl (cI, 4, .inl gg))] t) A) (by decide) (Nat.le_of_ble_eq_true rfl) ?_
  intro p e s m below meth c A ls hfx hK hA hP hD hS hl
  obtain ⟨hx, hb, hml, hown, htb, hr, hlocks, hin⟩ := hfx
  have hl : lv_has ls 13 [(0, .ref y0), (1, .int 1), (2, .int o0), (3, .int n0)] := hl
  refine lv_bipush (v := 18) hx hb d_Modl_does_0 (by decide) ?_
  refine lv_iload_n hx hb d_Modl_does_2 rfl (lv_at hl 1 rfl) ?_
  refine lv_imul hx hb d_Modl_does_3 ?_
  refine W.eq (g2 := F0 m 4 ls [.int 18]) rfl ?_
  refine lv_istore (lv' := [(4, .int 18), (0, .ref y0), (1, .int 1), (2, .int o0), (3, .int n0)]) hx hb d_Modl_does_4 hl (by decide) rfl (fun ls hl => ?_)
  refine lv_aload_n hx hb d_Modl_does_6 rfl (lv_at hl 1 rfl) ?_
  refine va_get (D := (dC, dI)) (ci := 4) (v := .ref m_he) (C := R_Modl) (T := F_Modl) (N := 21) hx hb htb iw_Modl hown hK.1 hP 0 rfl rfl 13 (by decide) (htb _ tw_428) (fun _ h9 => h9) rfl d_Modl_does_7 ?_
  refine lv_iload hx hb d_Modl_does_10 (lv_at hl 0 rfl) ?_
  refine lv_bipush (v := 16) hx hb d_Modl_does_12 (by decide) ?_
  refine lv_iadd hx hb d_Modl_does_14 ?_
  refine W.eq (g2 := F0 m 15 ls [.int 34, .ref m_he]) rfl ?_
  refine ld_l (v := rb 16) (cA := cL) hx hb hK.1 hP 1 1 rfl rfl (show ¬ (_ ∨ _) by decide) rfl d_Modl_does_15 ?_
  refine lv_lstore (lv' := [(5, .long (rb 16)), (4, .int 18), (0, .ref y0), (1, .int 1), (2, .int o0), (3, .int n0)]) hx hb d_Modl_does_16 hl (by decide) rfl (fun ls hl => ?_)
  refine lv_aload_n hx hb d_Modl_does_18 rfl (lv_at hl 2 rfl) ?_
  refine va_get (D := (dC, dI)) (ci := 4) (v := .ref m_he) (C := R_Modl) (T := F_Modl) (N := 21) hx hb htb iw_Modl hown hK.1 hP 0 rfl rfl 13 (by decide) (htb _ tw_428) (fun _ h9 => h9) rfl d_Modl_does_19 ?_
  refine lv_iload hx hb d_Modl_does_22 (lv_at hl 1 rfl) ?_
  refine lv_bipush (v := 17) hx hb d_Modl_does_24 (by decide) ?_
  refine lv_iadd hx hb d_Modl_does_26 ?_
  refine W.eq (g2 := F0 m 27 ls [.int 35, .ref m_he]) rfl ?_
  refine ld_l (v := rb 17) (cA := cL) hx hb hK.1 hP 1 1 rfl rfl (show ¬ (_ ∨ _) by decide) rfl d_Modl_does_27 ?_
  refine lv_lstore (lv' := [(7, .long (rb 17)), (5, .long (rb 16)), (4, .int 18), (0, .ref y0), (1, .int 1), (2, .int o0), (3, .int n0)]) hx hb d_Modl_does_28 hl (by decide) rfl (fun ls hl => ?_)
  refine lv_lload hx hb d_Modl_does_30 (lv_at hl 1 rfl) ?_
  refine lv_lstore (lv' := [(9, .long (rb 16)), (7, .long (rb 17)), (5, .long (rb 16)), (4, .int 18), (0, .ref y0), (1, .int 1), (2, .int o0), (3, .int n0)]) hx hb d_Modl_does_32 hl (by decide) rfl (fun ls hl => ?_)
  refine lv_iload_n hx hb d_Modl_does_34 rfl (lv_at hl 6 rfl) ?_
  by_cases c_1 : o0 = 0
  · refine lv_tableIn (tgt := 108) hx hb d_Modl_does_35 (by rw [c_1]; decide) (by rw [c_1]; decide) (by rw [c_1]; rfl) (by decide) ?_
    subst c_1
    refine lv_iload_n hx hb d_Modl_does_108 rfl (lv_at hl 7 rfl) ?_
    refine lv_i2l (v := n0.toInt64) hx hb d_Modl_does_109 (by first | rfl | decide) ?_
    refine lv_aload_n hx hb d_Modl_does_110 rfl (lv_at hl 4 rfl) ?_
    refine lv_iload_n hx hb d_Modl_does_111 rfl (lv_at hl 5 rfl) ?_
    refine af_l (wr := [(m_he, .inl (cL, 36, .inr (.inl (hh_w ra rb)))), (m_pu, .inl (cL, 8, .inr (.inl (pp_w qa qb)))), (m_gv, .inl (cI, 4, .inl gg))]) (va_runV (As := [.int 1]) (rest := [.long n0.toInt64]) ⟨hx, hb, hml, hown, htb⟩ (c_Modl_times1 l dC dI cI cL s.heap.size y0 th lm sz em lt sp np fd bg m_op m_nu m_gv m_sh m_he m_pu m_pc m_pl m_pb m_ps pv ev ) ⟨callB_of 1 htb (gd_w tw_514) rfl rfl rfl (htb _ tw_25) (htb _ tw_511) (by decide +kernel) ⟨Nat.le_of_ble_eq_true rfl, Nat.le_of_ble_eq_true rfl⟩, htb _ tw_513, htb _ tw_16⟩ (pv_V hK (hP.sub (ws' := [(y0, .inr (4, [.int th, .int (nI lm), .int sz, .int em, .int lt, .int sp, .int (nI np), .int fd, .int bg, .ref m_op, .ref m_nu, .ref m_gv, .ref m_sh, .ref m_he, .ref m_pu, .ref m_pc, .ref m_pl, .ref m_pb, .ref m_ps, .int pv, .int ev]))]) [0] rfl) (hD.sub (ws' := [(y0, .inr (4, [.int th, .int (nI lm), .int sz, .int em, .int lt, .int sp, .int (nI np), .int fd, .int bg, .ref m_op, .ref m_nu, .ref m_gv, .ref m_sh, .ref m_he, .ref m_pu, .ref m_pc, .ref m_pl, .ref m_pb, .ref m_ps, .int pv, .int ev]))]) [0] (by decide) rfl) (ci := 4) (q0 := 0) rfl rfl) rfl rfl hl.1 rfl (lv_room (Nat.le_of_ble_eq_true rfl)) d_Modl_does_112 ⟨Nat.le_of_ble_eq_true rfl, Nat.le_of_ble_eq_true rfl⟩) hP hD hS hA [0] [1, 2, 3] rfl rfl (by decide) (by decide) (fun r_2 u_3 H locs hw hP hD hS => ?_)
    try dsimp only at hw
    subst hw
    have hP : va_P (dC, dI) classes [(m_he, .inl (cL, 36, .inr (.inl (hh_w ra rb)))), (m_pu, .inl (cL, 8, .inr (.inl (pp_w qa qb)))), (m_gv, .inl (cI, 4, .inl gg)), (y0, .inr (4, [.int th, .int (nI lm), .int sz, .int em, .int lt, .int sp, .int (nI np), .int fd, .int bg, .ref m_op, .ref m_nu, .ref m_gv, .ref m_sh, .ref m_he, .ref m_pu, .ref m_pc, .ref m_pl, .ref m_pb, .ref m_ps, .int pv, .int ev]))] H := hP
    have hD : va_D A [(m_he, .inl (cL, 36, .inr (.inl (hh_w ra rb)))), (m_pu, .inl (cL, 8, .inr (.inl (pp_w qa qb)))), (m_gv, .inl (cI, 4, .inl gg)), (y0, .inr (4, [.int th, .int (nI lm), .int sz, .int em, .int lt, .int sp, .int (nI np), .int fd, .int bg, .ref m_op, .ref m_nu, .ref m_gv, .ref m_sh, .ref m_he, .ref m_pu, .ref m_pc, .ref m_pl, .ref m_pb, .ref m_ps, .int pv, .int ev]))] := hD
    refine lv_lmul hx hb d_Modl_does_115 ?_
    refine lv_lstore (lv' := [(9, .long (n0.toInt64 * 58659)), (7, .long (rb 17)), (5, .long (rb 16)), (4, .int 18), (0, .ref y0), (1, .int 1), (2, .int 0), (3, .int n0)]) hx hb d_Modl_does_116 hl (by decide) rfl (fun ls hl => ?_)
    refine lv_goto (tgt := 434) hx hb d_Modl_does_118 (by decide) ?_
    refine lv_aload_n hx hb d_Modl_does_434 rfl (lv_at hl 4 rfl) ?_
    refine va_get (D := (dC, dI)) (ci := 4) (v := .ref m_he) (C := R_Modl) (T := F_Modl) (N := 21) hx hb htb iw_Modl hown hK.1 hP 3 rfl rfl 13 (by decide) (htb _ tw_428) (fun _ h9 => h9) rfl d_Modl_does_435 ?_
    refine lv_iload hx hb d_Modl_does_438 (lv_at hl 3 rfl) ?_
    refine lv_bipush (v := 16) hx hb d_Modl_does_440 (by decide) ?_
    refine lv_iadd hx hb d_Modl_does_442 ?_
    refine W.eq (g2 := F0 m 443 ls [.int 34, .ref m_he]) rfl ?_
    refine lv_lload hx hb d_Modl_does_443 (lv_at hl 0 rfl) ?_
    refine sd_l (g := hh_w ra (vp_updL rb 16 (n0.toInt64 * 58659))) (cA := cL) hx hb hK.1 hP hD hS 0 1 rfl rfl (show ¬ (_ ∨ _) by decide) (hh_k1 (k := 16)) d_Modl_does_445 (fun H locs hP hD hS => ?_)
    have hP : va_P (dC, dI) classes [(m_he, .inl (cL, 36, .inr (.inl (hh_w ra (vp_updL rb 16 (n0.toInt64 * 58659)))))), (m_pu, .inl (cL, 8, .inr (.inl (pp_w qa qb)))), (m_gv, .inl (cI, 4, .inl gg)), (y0, .inr (4, [.int th, .int (nI lm), .int sz, .int em, .int lt, .int sp, .int (nI np), .int fd, .int bg, .ref m_op, .ref m_nu, .ref m_gv, .ref m_sh, .ref m_he, .ref m_pu, .ref m_pc, .ref m_pl, .ref m_pb, .ref m_ps, .int pv, .int ev]))] H := hP
    have hD : va_D A [(m_he, .inl (cL, 36, .inr (.inl (hh_w ra (vp_updL rb 16 (n0.toInt64 * 58659)))))), (m_pu, .inl (cL, 8, .inr (.inl (pp_w qa qb)))), (m_gv, .inl (cI, 4, .inl gg)), (y0, .inr (4, [.int th, .int (nI lm), .int sz, .int em, .int lt, .int sp, .int (nI np), .int fd, .int bg, .ref m_op, .ref m_nu, .ref m_gv, .ref m_sh, .ref m_he, .ref m_pu, .ref m_pc, .ref m_pl, .ref m_pb, .ref m_ps, .int pv, .int ev]))] := hD
    refine lv_iload_n hx hb d_Modl_does_446 rfl (lv_at hl 6 rfl) ?_
    refine lv_iconst (v := 3) hx hb d_Modl_does_447 (by decide) ?_
    refine lv_icmp_le (tgt := 457) hx hb d_Modl_does_448 (by decide) (fun c_4 => ?_) (fun c_4 => ?_)
    · skip
      refine lv_iload_n hx hb d_Modl_does_457 rfl (lv_at hl 6 rfl) ?_
      refine lv_bipush (v := 9) hx hb d_Modl_does_458 (by decide) ?_
      refine lv_icmp_eq (tgt := 469) hx hb d_Modl_does_460 (by decide) (fun c_5 => ?_) (fun c_5 => ?_)
      · exact absurd c_5 (by decide)
      · skip
        refine lv_iload_n hx hb d_Modl_does_463 rfl (lv_at hl 6 rfl) ?_
        refine lv_bipush (v := 12) hx hb d_Modl_does_464 (by decide) ?_
        refine lv_icmp_ne (tgt := 473) hx hb d_Modl_does_466 (by decide) (fun c_6 => ?_) (fun c_6 => ?_)
        · skip
          refine lv_iconst (v := 0) hx hb d_Modl_does_473 (by decide) ?_
          refine lv_istore (lv' := [(11, .int 0), (9, .long (n0.toInt64 * 58659)), (7, .long (rb 17)), (5, .long (rb 16)), (4, .int 18), (0, .ref y0), (1, .int 1), (2, .int 0), (3, .int n0)]) hx hb d_Modl_does_474 hl (by decide) rfl (fun ls hl => ?_)
          refine lv_iload hx hb d_Modl_does_476 (lv_at hl 0 rfl) ?_
          refine lv_if_eq (tgt := 491) hx hb d_Modl_does_478 (by decide) (fun c_7 => ?_) (fun c_7 => ?_)
          · skip
            refine lv_iconst (v := 1) hx hb d_Modl_does_491 (by decide) ?_
            refine lv_goto (tgt := 496) hx hb d_Modl_does_492 (by decide) ?_
            exact rt_z (v := 1) ((vp_updL rb 16 (n0.toInt64 * 58659)), qb, pv, ev) hx hb hr hlocks (by decide) (show (1 : Int32) = dz_w (de_w 58659 0 n0 gg rb qb pv).1 ∧ (vp_updL rb 16 (n0.toInt64 * 58659)) = (de_w 58659 0 n0 gg rb qb pv).2.1 ∧ qb = (de_w 58659 0 n0 gg rb qb pv).2.2.1 ∧ pv = (de_w 58659 0 n0 gg rb qb pv).2.2.2 ∧ ev = en_w (de_w 58659 0 n0 gg rb qb pv).1 ev from (by exact ⟨rfl, rfl, rfl, rfl, rfl⟩)) (hP.sub (ws' := [(y0, .inr (4, [.int th, .int (nI lm), .int sz, .int em, .int lt, .int sp, .int (nI np), .int fd, .int bg, .ref m_op, .ref m_nu, .ref m_gv, .ref m_sh, .ref m_he, .ref m_pu, .ref m_pc, .ref m_pl, .ref m_pb, .ref m_ps, .int pv, .int ev])), (m_he, .inl (cL, 36, .inr (.inl (hh_w ra (vp_updL rb 16 (n0.toInt64 * 58659)))))), (m_pu, .inl (cL, 8, .inr (.inl (pp_w qa qb)))), (m_gv, .inl (cI, 4, .inl gg))]) [3, 0, 1, 2] rfl) (hD.sub (ws' := [(y0, .inr (4, [.int th, .int (nI lm), .int sz, .int em, .int lt, .int sp, .int (nI np), .int fd, .int bg, .ref m_op, .ref m_nu, .ref m_gv, .ref m_sh, .ref m_he, .ref m_pu, .ref m_pc, .ref m_pl, .ref m_pb, .ref m_ps, .int pv, .int ev])), (m_he, .inl (cL, 36, .inr (.inl (hh_w ra (vp_updL rb 16 (n0.toInt64 * 58659)))))), (m_pu, .inl (cL, 8, .inr (.inl (pp_w qa qb)))), (m_gv, .inl (cI, 4, .inl gg))]) [3, 0, 1, 2] (by decide) rfl) hS d_Modl_does_496
          · exact absurd (by decide) c_7
        · exact absurd c_6 (by decide)
    · exact absurd (by decide) c_4
  by_cases c_8 : o0 = 1
  · refine lv_tableIn (tgt := 121) hx hb d_Modl_does_35 (by rw [c_8]; decide) (by rw [c_8]; decide) (by rw [c_8]; rfl) (by decide) ?_
    subst c_8
    refine lv_aload_n hx hb d_Modl_does_121 rfl (lv_at hl 4 rfl) ?_
    refine va_get (D := (dC, dI)) (ci := 4) (v := .ref m_he) (C := R_Modl) (T := F_Modl) (N := 21) hx hb htb iw_Modl hown hK.1 hP 0 rfl rfl 13 (by decide) (htb _ tw_428) (fun _ h9 => h9) rfl d_Modl_does_122 ?_
    refine lv_iload hx hb d_Modl_does_125 (lv_at hl 3 rfl) ?_
    refine lv_iload_n hx hb d_Modl_does_127 rfl (lv_at hl 7 rfl) ?_
    refine lv_iadd hx hb d_Modl_does_128 ?_
    refine ld_l (v := rb n0.toNatClampNeg) (cA := cL) hx hb hK.1 hP 1 1 rfl rfl (hh_i1 (ii_in1 hv)).2 (hh_r1 (ii_in1 hv)) d_Modl_does_129 ?_
    refine lv_lstore (lv' := [(9, .long (rb n0.toNatClampNeg)), (7, .long (rb 17)), (5, .long (rb 16)), (4, .int 18), (0, .ref y0), (1, .int 1), (2, .int 1), (3, .int n0)]) hx hb d_Modl_does_130 hl (by decide) rfl (fun ls hl => ?_)
    refine lv_goto (tgt := 434) hx hb d_Modl_does_132 (by decide) ?_
    refine lv_aload_n hx hb d_Modl_does_434 rfl (lv_at hl 4 rfl) ?_
    refine va_get (D := (dC, dI)) (ci := 4) (v := .ref m_he) (C := R_Modl) (T := F_Modl) (N := 21) hx hb htb iw_Modl hown hK.1 hP 0 rfl rfl 13 (by decide) (htb _ tw_428) (fun _ h9 => h9) rfl d_Modl_does_435 ?_
    refine lv_iload hx hb d_Modl_does_438 (lv_at hl 3 rfl) ?_
    refine lv_bipush (v := 16) hx hb d_Modl_does_440 (by decide) ?_
    refine lv_iadd hx hb d_Modl_does_442 ?_
    refine W.eq (g2 := F0 m 443 ls [.int 34, .ref m_he]) rfl ?_
    refine lv_lload hx hb d_Modl_does_443 (lv_at hl 0 rfl) ?_
    refine sd_l (g := hh_w ra (vp_updL rb 16 (rb n0.toNatClampNeg))) (cA := cL) hx hb hK.1 hP hD hS 1 1 rfl rfl (show ¬ (_ ∨ _) by decide) (hh_k1 (k := 16)) d_Modl_does_445 (fun H locs hP hD hS => ?_)
    have hP : va_P (dC, dI) classes [(y0, .inr (4, [.int th, .int (nI lm), .int sz, .int em, .int lt, .int sp, .int (nI np), .int fd, .int bg, .ref m_op, .ref m_nu, .ref m_gv, .ref m_sh, .ref m_he, .ref m_pu, .ref m_pc, .ref m_pl, .ref m_pb, .ref m_ps, .int pv, .int ev])), (m_he, .inl (cL, 36, .inr (.inl (hh_w ra (vp_updL rb 16 (rb n0.toNatClampNeg)))))), (m_pu, .inl (cL, 8, .inr (.inl (pp_w qa qb)))), (m_gv, .inl (cI, 4, .inl gg))] H := hP
    have hD : va_D A [(y0, .inr (4, [.int th, .int (nI lm), .int sz, .int em, .int lt, .int sp, .int (nI np), .int fd, .int bg, .ref m_op, .ref m_nu, .ref m_gv, .ref m_sh, .ref m_he, .ref m_pu, .ref m_pc, .ref m_pl, .ref m_pb, .ref m_ps, .int pv, .int ev])), (m_he, .inl (cL, 36, .inr (.inl (hh_w ra (vp_updL rb 16 (rb n0.toNatClampNeg)))))), (m_pu, .inl (cL, 8, .inr (.inl (pp_w qa qb)))), (m_gv, .inl (cI, 4, .inl gg))] := hD
    refine lv_iload_n hx hb d_Modl_does_446 rfl (lv_at hl 6 rfl) ?_
    refine lv_iconst (v := 3) hx hb d_Modl_does_447 (by decide) ?_
    refine lv_icmp_le (tgt := 457) hx hb d_Modl_does_448 (by decide) (fun c_9 => ?_) (fun c_9 => ?_)
    · skip
      refine lv_iload_n hx hb d_Modl_does_457 rfl (lv_at hl 6 rfl) ?_
      refine lv_bipush (v := 9) hx hb d_Modl_does_458 (by decide) ?_
      refine lv_icmp_eq (tgt := 469) hx hb d_Modl_does_460 (by decide) (fun c_10 => ?_) (fun c_10 => ?_)
      · exact absurd c_10 (by decide)
      · skip
        refine lv_iload_n hx hb d_Modl_does_463 rfl (lv_at hl 6 rfl) ?_
        refine lv_bipush (v := 12) hx hb d_Modl_does_464 (by decide) ?_
        refine lv_icmp_ne (tgt := 473) hx hb d_Modl_does_466 (by decide) (fun c_11 => ?_) (fun c_11 => ?_)
        · skip
          refine lv_iconst (v := 0) hx hb d_Modl_does_473 (by decide) ?_
          refine lv_istore (lv' := [(11, .int 0), (9, .long (rb n0.toNatClampNeg)), (7, .long (rb 17)), (5, .long (rb 16)), (4, .int 18), (0, .ref y0), (1, .int 1), (2, .int 1), (3, .int n0)]) hx hb d_Modl_does_474 hl (by decide) rfl (fun ls hl => ?_)
          refine lv_iload hx hb d_Modl_does_476 (lv_at hl 0 rfl) ?_
          refine lv_if_eq (tgt := 491) hx hb d_Modl_does_478 (by decide) (fun c_12 => ?_) (fun c_12 => ?_)
          · skip
            refine lv_iconst (v := 1) hx hb d_Modl_does_491 (by decide) ?_
            refine lv_goto (tgt := 496) hx hb d_Modl_does_492 (by decide) ?_
            exact rt_z (v := 1) ((vp_updL rb 16 (rb n0.toNatClampNeg)), qb, pv, ev) hx hb hr hlocks (by decide) (show (1 : Int32) = dz_w (de_w 58659 1 n0 gg rb qb pv).1 ∧ (vp_updL rb 16 (rb n0.toNatClampNeg)) = (de_w 58659 1 n0 gg rb qb pv).2.1 ∧ qb = (de_w 58659 1 n0 gg rb qb pv).2.2.1 ∧ pv = (de_w 58659 1 n0 gg rb qb pv).2.2.2 ∧ ev = en_w (de_w 58659 1 n0 gg rb qb pv).1 ev from (by exact ⟨rfl, rfl, rfl, rfl, rfl⟩)) (hP.sub (ws' := [(y0, .inr (4, [.int th, .int (nI lm), .int sz, .int em, .int lt, .int sp, .int (nI np), .int fd, .int bg, .ref m_op, .ref m_nu, .ref m_gv, .ref m_sh, .ref m_he, .ref m_pu, .ref m_pc, .ref m_pl, .ref m_pb, .ref m_ps, .int pv, .int ev])), (m_he, .inl (cL, 36, .inr (.inl (hh_w ra (vp_updL rb 16 (rb n0.toNatClampNeg)))))), (m_pu, .inl (cL, 8, .inr (.inl (pp_w qa qb)))), (m_gv, .inl (cI, 4, .inl gg))]) [0, 1, 2, 3] rfl) (hD.sub (ws' := [(y0, .inr (4, [.int th, .int (nI lm), .int sz, .int em, .int lt, .int sp, .int (nI np), .int fd, .int bg, .ref m_op, .ref m_nu, .ref m_gv, .ref m_sh, .ref m_he, .ref m_pu, .ref m_pc, .ref m_pl, .ref m_pb, .ref m_ps, .int pv, .int ev])), (m_he, .inl (cL, 36, .inr (.inl (hh_w ra (vp_updL rb 16 (rb n0.toNatClampNeg)))))), (m_pu, .inl (cL, 8, .inr (.inl (pp_w qa qb)))), (m_gv, .inl (cI, 4, .inl gg))]) [0, 1, 2, 3] (by decide) rfl) hS d_Modl_does_496
          · exact absurd (by decide) c_12
        · exact absurd c_11 (by decide)
    · exact absurd (by decide) c_9
  by_cases c_13 : o0 = 2
  · refine lv_tableIn (tgt := 135) hx hb d_Modl_does_35 (by rw [c_13]; decide) (by rw [c_13]; decide) (by rw [c_13]; rfl) (by decide) ?_
    subst c_13
    refine lv_aload_n hx hb d_Modl_does_135 rfl (lv_at hl 4 rfl) ?_
    refine va_get (D := (dC, dI)) (ci := 4) (v := .ref m_he) (C := R_Modl) (T := F_Modl) (N := 21) hx hb htb iw_Modl hown hK.1 hP 0 rfl rfl 13 (by decide) (htb _ tw_428) (fun _ h9 => h9) rfl d_Modl_does_136 ?_
    refine lv_iload hx hb d_Modl_does_139 (lv_at hl 3 rfl) ?_
    refine lv_iload_n hx hb d_Modl_does_141 rfl (lv_at hl 7 rfl) ?_
    refine lv_iadd hx hb d_Modl_does_142 ?_
    refine lv_lload hx hb d_Modl_does_143 (lv_at hl 2 rfl) ?_
    refine sd_l (g := hh_w ra (vp_updL rb n0.toNatClampNeg (rb 16))) (cA := cL) hx hb hK.1 hP hD hS 1 1 rfl rfl (hh_i1 (ii_in2 hv)).2 (hh_u1 (ii_in2 hv)) d_Modl_does_145 (fun H locs hP hD hS => ?_)
    have hP : va_P (dC, dI) classes [(y0, .inr (4, [.int th, .int (nI lm), .int sz, .int em, .int lt, .int sp, .int (nI np), .int fd, .int bg, .ref m_op, .ref m_nu, .ref m_gv, .ref m_sh, .ref m_he, .ref m_pu, .ref m_pc, .ref m_pl, .ref m_pb, .ref m_ps, .int pv, .int ev])), (m_he, .inl (cL, 36, .inr (.inl (hh_w ra (vp_updL rb n0.toNatClampNeg (rb 16)))))), (m_pu, .inl (cL, 8, .inr (.inl (pp_w qa qb)))), (m_gv, .inl (cI, 4, .inl gg))] H := hP
    have hD : va_D A [(y0, .inr (4, [.int th, .int (nI lm), .int sz, .int em, .int lt, .int sp, .int (nI np), .int fd, .int bg, .ref m_op, .ref m_nu, .ref m_gv, .ref m_sh, .ref m_he, .ref m_pu, .ref m_pc, .ref m_pl, .ref m_pb, .ref m_ps, .int pv, .int ev])), (m_he, .inl (cL, 36, .inr (.inl (hh_w ra (vp_updL rb n0.toNatClampNeg (rb 16)))))), (m_pu, .inl (cL, 8, .inr (.inl (pp_w qa qb)))), (m_gv, .inl (cI, 4, .inl gg))] := hD
    refine lv_goto (tgt := 434) hx hb d_Modl_does_146 (by decide) ?_
    refine lv_aload_n hx hb d_Modl_does_434 rfl (lv_at hl 4 rfl) ?_
    refine va_get (D := (dC, dI)) (ci := 4) (v := .ref m_he) (C := R_Modl) (T := F_Modl) (N := 21) hx hb htb iw_Modl hown hK.1 hP 0 rfl rfl 13 (by decide) (htb _ tw_428) (fun _ h9 => h9) rfl d_Modl_does_435 ?_
    refine lv_iload hx hb d_Modl_does_438 (lv_at hl 3 rfl) ?_
    refine lv_bipush (v := 16) hx hb d_Modl_does_440 (by decide) ?_
    refine lv_iadd hx hb d_Modl_does_442 ?_
    refine W.eq (g2 := F0 m 443 ls [.int 34, .ref m_he]) rfl ?_
    refine lv_lload hx hb d_Modl_does_443 (lv_at hl 0 rfl) ?_
    refine sd_l (g := hh_w ra (vp_updL (vp_updL rb n0.toNatClampNeg (rb 16)) 16 (rb 16))) (cA := cL) hx hb hK.1 hP hD hS 1 1 rfl rfl (show ¬ (_ ∨ _) by decide) (hh_k1 (k := 16)) d_Modl_does_445 (fun H locs hP hD hS => ?_)
    have hP : va_P (dC, dI) classes [(y0, .inr (4, [.int th, .int (nI lm), .int sz, .int em, .int lt, .int sp, .int (nI np), .int fd, .int bg, .ref m_op, .ref m_nu, .ref m_gv, .ref m_sh, .ref m_he, .ref m_pu, .ref m_pc, .ref m_pl, .ref m_pb, .ref m_ps, .int pv, .int ev])), (m_he, .inl (cL, 36, .inr (.inl (hh_w ra (vp_updL (vp_updL rb n0.toNatClampNeg (rb 16)) 16 (rb 16)))))), (m_pu, .inl (cL, 8, .inr (.inl (pp_w qa qb)))), (m_gv, .inl (cI, 4, .inl gg))] H := hP
    have hD : va_D A [(y0, .inr (4, [.int th, .int (nI lm), .int sz, .int em, .int lt, .int sp, .int (nI np), .int fd, .int bg, .ref m_op, .ref m_nu, .ref m_gv, .ref m_sh, .ref m_he, .ref m_pu, .ref m_pc, .ref m_pl, .ref m_pb, .ref m_ps, .int pv, .int ev])), (m_he, .inl (cL, 36, .inr (.inl (hh_w ra (vp_updL (vp_updL rb n0.toNatClampNeg (rb 16)) 16 (rb 16)))))), (m_pu, .inl (cL, 8, .inr (.inl (pp_w qa qb)))), (m_gv, .inl (cI, 4, .inl gg))] := hD
    refine lv_iload_n hx hb d_Modl_does_446 rfl (lv_at hl 6 rfl) ?_
    refine lv_iconst (v := 3) hx hb d_Modl_does_447 (by decide) ?_
    refine lv_icmp_le (tgt := 457) hx hb d_Modl_does_448 (by decide) (fun c_14 => ?_) (fun c_14 => ?_)
    · skip
      refine lv_iload_n hx hb d_Modl_does_457 rfl (lv_at hl 6 rfl) ?_
      refine lv_bipush (v := 9) hx hb d_Modl_does_458 (by decide) ?_
      refine lv_icmp_eq (tgt := 469) hx hb d_Modl_does_460 (by decide) (fun c_15 => ?_) (fun c_15 => ?_)
      · exact absurd c_15 (by decide)
      · skip
        refine lv_iload_n hx hb d_Modl_does_463 rfl (lv_at hl 6 rfl) ?_
        refine lv_bipush (v := 12) hx hb d_Modl_does_464 (by decide) ?_
        refine lv_icmp_ne (tgt := 473) hx hb d_Modl_does_466 (by decide) (fun c_16 => ?_) (fun c_16 => ?_)
        · skip
          refine lv_iconst (v := 0) hx hb d_Modl_does_473 (by decide) ?_
          refine lv_istore (lv' := [(11, .int 0), (9, .long (rb 16)), (7, .long (rb 17)), (5, .long (rb 16)), (4, .int 18), (0, .ref y0), (1, .int 1), (2, .int 2), (3, .int n0)]) hx hb d_Modl_does_474 hl (by decide) rfl (fun ls hl => ?_)
          refine lv_iload hx hb d_Modl_does_476 (lv_at hl 0 rfl) ?_
          refine lv_if_eq (tgt := 491) hx hb d_Modl_does_478 (by decide) (fun c_17 => ?_) (fun c_17 => ?_)
          · skip
            refine lv_iconst (v := 1) hx hb d_Modl_does_491 (by decide) ?_
            refine lv_goto (tgt := 496) hx hb d_Modl_does_492 (by decide) ?_
            exact rt_z (v := 1) ((vp_updL (vp_updL rb n0.toNatClampNeg (rb 16)) 16 (rb 16)), qb, pv, ev) hx hb hr hlocks (by decide) (show (1 : Int32) = dz_w (de_w 58659 2 n0 gg rb qb pv).1 ∧ (vp_updL (vp_updL rb n0.toNatClampNeg (rb 16)) 16 (rb 16)) = (de_w 58659 2 n0 gg rb qb pv).2.1 ∧ qb = (de_w 58659 2 n0 gg rb qb pv).2.2.1 ∧ pv = (de_w 58659 2 n0 gg rb qb pv).2.2.2 ∧ ev = en_w (de_w 58659 2 n0 gg rb qb pv).1 ev from (⟨rfl, up_n (ii_n16 hv), rfl, rfl, rfl⟩)) (hP.sub (ws' := [(y0, .inr (4, [.int th, .int (nI lm), .int sz, .int em, .int lt, .int sp, .int (nI np), .int fd, .int bg, .ref m_op, .ref m_nu, .ref m_gv, .ref m_sh, .ref m_he, .ref m_pu, .ref m_pc, .ref m_pl, .ref m_pb, .ref m_ps, .int pv, .int ev])), (m_he, .inl (cL, 36, .inr (.inl (hh_w ra (vp_updL (vp_updL rb n0.toNatClampNeg (rb 16)) 16 (rb 16)))))), (m_pu, .inl (cL, 8, .inr (.inl (pp_w qa qb)))), (m_gv, .inl (cI, 4, .inl gg))]) [0, 1, 2, 3] rfl) (hD.sub (ws' := [(y0, .inr (4, [.int th, .int (nI lm), .int sz, .int em, .int lt, .int sp, .int (nI np), .int fd, .int bg, .ref m_op, .ref m_nu, .ref m_gv, .ref m_sh, .ref m_he, .ref m_pu, .ref m_pc, .ref m_pl, .ref m_pb, .ref m_ps, .int pv, .int ev])), (m_he, .inl (cL, 36, .inr (.inl (hh_w ra (vp_updL (vp_updL rb n0.toNatClampNeg (rb 16)) 16 (rb 16)))))), (m_pu, .inl (cL, 8, .inr (.inl (pp_w qa qb)))), (m_gv, .inl (cI, 4, .inl gg))]) [0, 1, 2, 3] (by decide) rfl) hS d_Modl_does_496
          · exact absurd (by decide) c_17
        · exact absurd c_16 (by decide)
    · exact absurd (by decide) c_14
  by_cases c_18 : o0 = 3
  · refine lv_tableIn (tgt := 149) hx hb d_Modl_does_35 (by rw [c_18]; decide) (by rw [c_18]; decide) (by rw [c_18]; rfl) (by decide) ?_
    subst c_18
    refine lv_aload_n hx hb d_Modl_does_149 rfl (lv_at hl 4 rfl) ?_
    refine va_get (D := (dC, dI)) (ci := 4) (v := .ref m_he) (C := R_Modl) (T := F_Modl) (N := 21) hx hb htb iw_Modl hown hK.1 hP 0 rfl rfl 13 (by decide) (htb _ tw_428) (fun _ h9 => h9) rfl d_Modl_does_150 ?_
    refine lv_iload hx hb d_Modl_does_153 (lv_at hl 3 rfl) ?_
    refine lv_bipush (v := 17) hx hb d_Modl_does_155 (by decide) ?_
    refine lv_iadd hx hb d_Modl_does_157 ?_
    refine W.eq (g2 := F0 m 158 ls [.int 35, .ref m_he]) rfl ?_
    refine lv_lload hx hb d_Modl_does_158 (lv_at hl 2 rfl) ?_
    refine sd_l (g := hh_w ra (vp_updL rb 17 (rb 16))) (cA := cL) hx hb hK.1 hP hD hS 1 1 rfl rfl (show ¬ (_ ∨ _) by decide) (hh_k1 (k := 17)) d_Modl_does_160 (fun H locs hP hD hS => ?_)
    have hP : va_P (dC, dI) classes [(y0, .inr (4, [.int th, .int (nI lm), .int sz, .int em, .int lt, .int sp, .int (nI np), .int fd, .int bg, .ref m_op, .ref m_nu, .ref m_gv, .ref m_sh, .ref m_he, .ref m_pu, .ref m_pc, .ref m_pl, .ref m_pb, .ref m_ps, .int pv, .int ev])), (m_he, .inl (cL, 36, .inr (.inl (hh_w ra (vp_updL rb 17 (rb 16)))))), (m_pu, .inl (cL, 8, .inr (.inl (pp_w qa qb)))), (m_gv, .inl (cI, 4, .inl gg))] H := hP
    have hD : va_D A [(y0, .inr (4, [.int th, .int (nI lm), .int sz, .int em, .int lt, .int sp, .int (nI np), .int fd, .int bg, .ref m_op, .ref m_nu, .ref m_gv, .ref m_sh, .ref m_he, .ref m_pu, .ref m_pc, .ref m_pl, .ref m_pb, .ref m_ps, .int pv, .int ev])), (m_he, .inl (cL, 36, .inr (.inl (hh_w ra (vp_updL rb 17 (rb 16)))))), (m_pu, .inl (cL, 8, .inr (.inl (pp_w qa qb)))), (m_gv, .inl (cI, 4, .inl gg))] := hD
    refine lv_goto (tgt := 434) hx hb d_Modl_does_161 (by decide) ?_
    refine lv_aload_n hx hb d_Modl_does_434 rfl (lv_at hl 4 rfl) ?_
    refine va_get (D := (dC, dI)) (ci := 4) (v := .ref m_he) (C := R_Modl) (T := F_Modl) (N := 21) hx hb htb iw_Modl hown hK.1 hP 0 rfl rfl 13 (by decide) (htb _ tw_428) (fun _ h9 => h9) rfl d_Modl_does_435 ?_
    refine lv_iload hx hb d_Modl_does_438 (lv_at hl 3 rfl) ?_
    refine lv_bipush (v := 16) hx hb d_Modl_does_440 (by decide) ?_
    refine lv_iadd hx hb d_Modl_does_442 ?_
    refine W.eq (g2 := F0 m 443 ls [.int 34, .ref m_he]) rfl ?_
    refine lv_lload hx hb d_Modl_does_443 (lv_at hl 0 rfl) ?_
    refine sd_l (g := hh_w ra (vp_updL (vp_updL rb 17 (rb 16)) 16 (rb 16))) (cA := cL) hx hb hK.1 hP hD hS 1 1 rfl rfl (show ¬ (_ ∨ _) by decide) (hh_k1 (k := 16)) d_Modl_does_445 (fun H locs hP hD hS => ?_)
    have hP : va_P (dC, dI) classes [(y0, .inr (4, [.int th, .int (nI lm), .int sz, .int em, .int lt, .int sp, .int (nI np), .int fd, .int bg, .ref m_op, .ref m_nu, .ref m_gv, .ref m_sh, .ref m_he, .ref m_pu, .ref m_pc, .ref m_pl, .ref m_pb, .ref m_ps, .int pv, .int ev])), (m_he, .inl (cL, 36, .inr (.inl (hh_w ra (vp_updL (vp_updL rb 17 (rb 16)) 16 (rb 16)))))), (m_pu, .inl (cL, 8, .inr (.inl (pp_w qa qb)))), (m_gv, .inl (cI, 4, .inl gg))] H := hP
    have hD : va_D A [(y0, .inr (4, [.int th, .int (nI lm), .int sz, .int em, .int lt, .int sp, .int (nI np), .int fd, .int bg, .ref m_op, .ref m_nu, .ref m_gv, .ref m_sh, .ref m_he, .ref m_pu, .ref m_pc, .ref m_pl, .ref m_pb, .ref m_ps, .int pv, .int ev])), (m_he, .inl (cL, 36, .inr (.inl (hh_w ra (vp_updL (vp_updL rb 17 (rb 16)) 16 (rb 16)))))), (m_pu, .inl (cL, 8, .inr (.inl (pp_w qa qb)))), (m_gv, .inl (cI, 4, .inl gg))] := hD
    refine lv_iload_n hx hb d_Modl_does_446 rfl (lv_at hl 6 rfl) ?_
    refine lv_iconst (v := 3) hx hb d_Modl_does_447 (by decide) ?_
    refine lv_icmp_le (tgt := 457) hx hb d_Modl_does_448 (by decide) (fun c_19 => ?_) (fun c_19 => ?_)
    · skip
      refine lv_iload_n hx hb d_Modl_does_457 rfl (lv_at hl 6 rfl) ?_
      refine lv_bipush (v := 9) hx hb d_Modl_does_458 (by decide) ?_
      refine lv_icmp_eq (tgt := 469) hx hb d_Modl_does_460 (by decide) (fun c_20 => ?_) (fun c_20 => ?_)
      · exact absurd c_20 (by decide)
      · skip
        refine lv_iload_n hx hb d_Modl_does_463 rfl (lv_at hl 6 rfl) ?_
        refine lv_bipush (v := 12) hx hb d_Modl_does_464 (by decide) ?_
        refine lv_icmp_ne (tgt := 473) hx hb d_Modl_does_466 (by decide) (fun c_21 => ?_) (fun c_21 => ?_)
        · skip
          refine lv_iconst (v := 0) hx hb d_Modl_does_473 (by decide) ?_
          refine lv_istore (lv' := [(11, .int 0), (9, .long (rb 16)), (7, .long (rb 17)), (5, .long (rb 16)), (4, .int 18), (0, .ref y0), (1, .int 1), (2, .int 3), (3, .int n0)]) hx hb d_Modl_does_474 hl (by decide) rfl (fun ls hl => ?_)
          refine lv_iload hx hb d_Modl_does_476 (lv_at hl 0 rfl) ?_
          refine lv_if_eq (tgt := 491) hx hb d_Modl_does_478 (by decide) (fun c_22 => ?_) (fun c_22 => ?_)
          · skip
            refine lv_iconst (v := 1) hx hb d_Modl_does_491 (by decide) ?_
            refine lv_goto (tgt := 496) hx hb d_Modl_does_492 (by decide) ?_
            exact rt_z (v := 1) ((vp_updL (vp_updL rb 17 (rb 16)) 16 (rb 16)), qb, pv, ev) hx hb hr hlocks (by decide) (show (1 : Int32) = dz_w (de_w 58659 3 n0 gg rb qb pv).1 ∧ (vp_updL (vp_updL rb 17 (rb 16)) 16 (rb 16)) = (de_w 58659 3 n0 gg rb qb pv).2.1 ∧ qb = (de_w 58659 3 n0 gg rb qb pv).2.2.1 ∧ pv = (de_w 58659 3 n0 gg rb qb pv).2.2.2 ∧ ev = en_w (de_w 58659 3 n0 gg rb qb pv).1 ev from (⟨rfl, up_17 rb, rfl, rfl, rfl⟩)) (hP.sub (ws' := [(y0, .inr (4, [.int th, .int (nI lm), .int sz, .int em, .int lt, .int sp, .int (nI np), .int fd, .int bg, .ref m_op, .ref m_nu, .ref m_gv, .ref m_sh, .ref m_he, .ref m_pu, .ref m_pc, .ref m_pl, .ref m_pb, .ref m_ps, .int pv, .int ev])), (m_he, .inl (cL, 36, .inr (.inl (hh_w ra (vp_updL (vp_updL rb 17 (rb 16)) 16 (rb 16)))))), (m_pu, .inl (cL, 8, .inr (.inl (pp_w qa qb)))), (m_gv, .inl (cI, 4, .inl gg))]) [0, 1, 2, 3] rfl) (hD.sub (ws' := [(y0, .inr (4, [.int th, .int (nI lm), .int sz, .int em, .int lt, .int sp, .int (nI np), .int fd, .int bg, .ref m_op, .ref m_nu, .ref m_gv, .ref m_sh, .ref m_he, .ref m_pu, .ref m_pc, .ref m_pl, .ref m_pb, .ref m_ps, .int pv, .int ev])), (m_he, .inl (cL, 36, .inr (.inl (hh_w ra (vp_updL (vp_updL rb 17 (rb 16)) 16 (rb 16)))))), (m_pu, .inl (cL, 8, .inr (.inl (pp_w qa qb)))), (m_gv, .inl (cI, 4, .inl gg))]) [0, 1, 2, 3] (by decide) rfl) hS d_Modl_does_496
          · exact absurd (by decide) c_22
        · exact absurd c_21 (by decide)
    · exact absurd (by decide) c_19
  by_cases c_23 : o0 = 4
  · refine lv_tableIn (tgt := 164) hx hb d_Modl_does_35 (by rw [c_23]; decide) (by rw [c_23]; decide) (by rw [c_23]; rfl) (by decide) ?_
    subst c_23
    refine lv_lload hx hb d_Modl_does_164 (lv_at hl 2 rfl) ?_
    refine lv_lload hx hb d_Modl_does_166 (lv_at hl 1 rfl) ?_
    refine lv_ladd hx hb d_Modl_does_168 ?_
    refine lv_lstore (lv' := [(9, .long ((rb 16) + (rb 17))), (7, .long (rb 17)), (5, .long (rb 16)), (4, .int 18), (0, .ref y0), (1, .int 1), (2, .int 4), (3, .int n0)]) hx hb d_Modl_does_169 hl (by decide) rfl (fun ls hl => ?_)
    refine lv_goto (tgt := 434) hx hb d_Modl_does_171 (by decide) ?_
    refine lv_aload_n hx hb d_Modl_does_434 rfl (lv_at hl 4 rfl) ?_
    refine va_get (D := (dC, dI)) (ci := 4) (v := .ref m_he) (C := R_Modl) (T := F_Modl) (N := 21) hx hb htb iw_Modl hown hK.1 hP 0 rfl rfl 13 (by decide) (htb _ tw_428) (fun _ h9 => h9) rfl d_Modl_does_435 ?_
    refine lv_iload hx hb d_Modl_does_438 (lv_at hl 3 rfl) ?_
    refine lv_bipush (v := 16) hx hb d_Modl_does_440 (by decide) ?_
    refine lv_iadd hx hb d_Modl_does_442 ?_
    refine W.eq (g2 := F0 m 443 ls [.int 34, .ref m_he]) rfl ?_
    refine lv_lload hx hb d_Modl_does_443 (lv_at hl 0 rfl) ?_
    refine sd_l (g := hh_w ra (vp_updL rb 16 ((rb 16) + (rb 17)))) (cA := cL) hx hb hK.1 hP hD hS 1 1 rfl rfl (show ¬ (_ ∨ _) by decide) (hh_k1 (k := 16)) d_Modl_does_445 (fun H locs hP hD hS => ?_)
    have hP : va_P (dC, dI) classes [(y0, .inr (4, [.int th, .int (nI lm), .int sz, .int em, .int lt, .int sp, .int (nI np), .int fd, .int bg, .ref m_op, .ref m_nu, .ref m_gv, .ref m_sh, .ref m_he, .ref m_pu, .ref m_pc, .ref m_pl, .ref m_pb, .ref m_ps, .int pv, .int ev])), (m_he, .inl (cL, 36, .inr (.inl (hh_w ra (vp_updL rb 16 ((rb 16) + (rb 17))))))), (m_pu, .inl (cL, 8, .inr (.inl (pp_w qa qb)))), (m_gv, .inl (cI, 4, .inl gg))] H := hP
    have hD : va_D A [(y0, .inr (4, [.int th, .int (nI lm), .int sz, .int em, .int lt, .int sp, .int (nI np), .int fd, .int bg, .ref m_op, .ref m_nu, .ref m_gv, .ref m_sh, .ref m_he, .ref m_pu, .ref m_pc, .ref m_pl, .ref m_pb, .ref m_ps, .int pv, .int ev])), (m_he, .inl (cL, 36, .inr (.inl (hh_w ra (vp_updL rb 16 ((rb 16) + (rb 17))))))), (m_pu, .inl (cL, 8, .inr (.inl (pp_w qa qb)))), (m_gv, .inl (cI, 4, .inl gg))] := hD
    refine lv_iload_n hx hb d_Modl_does_446 rfl (lv_at hl 6 rfl) ?_
    refine lv_iconst (v := 3) hx hb d_Modl_does_447 (by decide) ?_
    refine lv_icmp_le (tgt := 457) hx hb d_Modl_does_448 (by decide) (fun c_24 => ?_) (fun c_24 => ?_)
    · exact absurd c_24 (by decide)
    · skip
      refine lv_iload_n hx hb d_Modl_does_451 rfl (lv_at hl 6 rfl) ?_
      refine lv_bipush (v := 7) hx hb d_Modl_does_452 (by decide) ?_
      refine lv_icmp_lt (tgt := 469) hx hb d_Modl_does_454 (by decide) (fun c_25 => ?_) (fun c_25 => ?_)
      · skip
        refine lv_iconst (v := 1) hx hb d_Modl_does_469 (by decide) ?_
        refine lv_goto (tgt := 474) hx hb d_Modl_does_470 (by decide) ?_
        refine lv_istore (lv' := [(11, .int 1), (9, .long ((rb 16) + (rb 17))), (7, .long (rb 17)), (5, .long (rb 16)), (4, .int 18), (0, .ref y0), (1, .int 1), (2, .int 4), (3, .int n0)]) hx hb d_Modl_does_474 hl (by decide) rfl (fun ls hl => ?_)
        refine lv_iload hx hb d_Modl_does_476 (lv_at hl 0 rfl) ?_
        refine lv_if_eq (tgt := 491) hx hb d_Modl_does_478 (by decide) (fun c_26 => ?_) (fun c_26 => ?_)
        · exact absurd c_26 (by decide)
        · skip
          refine lv_aload_n hx hb d_Modl_does_481 rfl (lv_at hl 5 rfl) ?_
          refine lv_iload_n hx hb d_Modl_does_482 rfl (lv_at hl 6 rfl) ?_
          refine lv_lload hx hb d_Modl_does_483 (lv_at hl 1 rfl) ?_
          refine af_i (wr := [(m_he, .inl (cL, 36, .inr (.inl (hh_w ra (vp_updL rb 16 ((rb 16) + (rb 17))))))), (m_pu, .inl (cL, 8, .inr (.inl (pp_w qa qb)))), (m_gv, .inl (cI, 4, .inl gg))]) (va_runV (As := [.int 1, .long ((rb 16) + (rb 17))]) (rest := []) ⟨hx, hb, hml, hown, htb⟩ (c_Modl_may1 l dC dI cI cL H.size y0 th lm sz em lt sp np fd bg m_op m_nu m_gv m_sh m_he m_pu m_pc m_pl m_pb m_ps pv ev ((rb 16) + (rb 17)) ) ⟨callB_of 2 htb (gd_w tw_522) rfl rfl rfl (htb _ tw_25) (htb _ tw_519) (by decide +kernel) ⟨Nat.le_of_ble_eq_true rfl, Nat.le_of_ble_eq_true rfl⟩, htb _ tw_521, htb _ tw_17⟩ (pv_V hK (hP.sub (ws' := [(y0, .inr (4, [.int th, .int (nI lm), .int sz, .int em, .int lt, .int sp, .int (nI np), .int fd, .int bg, .ref m_op, .ref m_nu, .ref m_gv, .ref m_sh, .ref m_he, .ref m_pu, .ref m_pc, .ref m_pl, .ref m_pb, .ref m_ps, .int pv, .int ev]))]) [0] rfl) (hD.sub (ws' := [(y0, .inr (4, [.int th, .int (nI lm), .int sz, .int em, .int lt, .int sp, .int (nI np), .int fd, .int bg, .ref m_op, .ref m_nu, .ref m_gv, .ref m_sh, .ref m_he, .ref m_pu, .ref m_pc, .ref m_pl, .ref m_pb, .ref m_ps, .int pv, .int ev]))]) [0] (by decide) rfl) (ci := 4) (q0 := 0) rfl rfl) rfl rfl hl.1 rfl (lv_room (Nat.le_of_ble_eq_true rfl)) d_Modl_does_485 ⟨Nat.le_of_ble_eq_true rfl, Nat.le_of_ble_eq_true rfl⟩) hP hD hS hA [0] [1, 2, 3] rfl rfl (by decide) (by decide) (fun r_27 u_28 H locs hw hP hD hS => ?_)
          try dsimp only at hw
          subst hw
          have hP : va_P (dC, dI) classes [(m_he, .inl (cL, 36, .inr (.inl (hh_w ra (vp_updL rb 16 ((rb 16) + (rb 17))))))), (m_pu, .inl (cL, 8, .inr (.inl (pp_w qa qb)))), (m_gv, .inl (cI, 4, .inl gg)), (y0, .inr (4, [.int th, .int (nI lm), .int sz, .int em, .int lt, .int sp, .int (nI np), .int fd, .int bg, .ref m_op, .ref m_nu, .ref m_gv, .ref m_sh, .ref m_he, .ref m_pu, .ref m_pc, .ref m_pl, .ref m_pb, .ref m_ps, .int pv, .int ev]))] H := hP
          have hD : va_D A [(m_he, .inl (cL, 36, .inr (.inl (hh_w ra (vp_updL rb 16 ((rb 16) + (rb 17))))))), (m_pu, .inl (cL, 8, .inr (.inl (pp_w qa qb)))), (m_gv, .inl (cI, 4, .inl gg)), (y0, .inr (4, [.int th, .int (nI lm), .int sz, .int em, .int lt, .int sp, .int (nI np), .int fd, .int bg, .ref m_op, .ref m_nu, .ref m_gv, .ref m_sh, .ref m_he, .ref m_pu, .ref m_pc, .ref m_pl, .ref m_pb, .ref m_ps, .int pv, .int ev]))] := hD
          refine lv_if_eq (tgt := 495) hx hb d_Modl_does_488 (by decide) (fun c_29 => ?_) (fun c_29 => ?_)
          · have c_29 : (ma_w (-117318000000000) 117318000000000 ((rb 16) + (rb 17))) = 0 := c_29
            refine lv_iconst (v := 0) hx hb d_Modl_does_495 (by decide) ?_
            exact rt_z (v := 0) ((vp_updL rb 16 ((rb 16) + (rb 17))), qb, pv, ev) hx hb hr hlocks (by decide) (show (0 : Int32) = dz_w (de_w 58659 4 n0 gg rb qb pv).1 ∧ (vp_updL rb 16 ((rb 16) + (rb 17))) = (de_w 58659 4 n0 gg rb qb pv).2.1 ∧ qb = (de_w 58659 4 n0 gg rb qb pv).2.2.1 ∧ pv = (de_w 58659 4 n0 gg rb qb pv).2.2.2 ∧ ev = en_w (de_w 58659 4 n0 gg rb qb pv).1 ev from (by exact ⟨(dz_0 ((ma_tb1 (rb 16 + rb 17)).mp c_29)).symm, rfl, rfl, rfl, en_0 (tb_n1 _ _)⟩)) (hP.sub (ws' := [(y0, .inr (4, [.int th, .int (nI lm), .int sz, .int em, .int lt, .int sp, .int (nI np), .int fd, .int bg, .ref m_op, .ref m_nu, .ref m_gv, .ref m_sh, .ref m_he, .ref m_pu, .ref m_pc, .ref m_pl, .ref m_pb, .ref m_ps, .int pv, .int ev])), (m_he, .inl (cL, 36, .inr (.inl (hh_w ra (vp_updL rb 16 ((rb 16) + (rb 17))))))), (m_pu, .inl (cL, 8, .inr (.inl (pp_w qa qb)))), (m_gv, .inl (cI, 4, .inl gg))]) [3, 0, 1, 2] rfl) (hD.sub (ws' := [(y0, .inr (4, [.int th, .int (nI lm), .int sz, .int em, .int lt, .int sp, .int (nI np), .int fd, .int bg, .ref m_op, .ref m_nu, .ref m_gv, .ref m_sh, .ref m_he, .ref m_pu, .ref m_pc, .ref m_pl, .ref m_pb, .ref m_ps, .int pv, .int ev])), (m_he, .inl (cL, 36, .inr (.inl (hh_w ra (vp_updL rb 16 ((rb 16) + (rb 17))))))), (m_pu, .inl (cL, 8, .inr (.inl (pp_w qa qb)))), (m_gv, .inl (cI, 4, .inl gg))]) [3, 0, 1, 2] (by decide) rfl) hS d_Modl_does_496
          · have c_29 : ¬ (ma_w (-117318000000000) 117318000000000 ((rb 16) + (rb 17))) = 0 := c_29
            refine lv_iconst (v := 1) hx hb d_Modl_does_491 (by decide) ?_
            refine lv_goto (tgt := 496) hx hb d_Modl_does_492 (by decide) ?_
            exact rt_z (v := 1) ((vp_updL rb 16 ((rb 16) + (rb 17))), qb, pv, ev) hx hb hr hlocks (by decide) (show (1 : Int32) = dz_w (de_w 58659 4 n0 gg rb qb pv).1 ∧ (vp_updL rb 16 ((rb 16) + (rb 17))) = (de_w 58659 4 n0 gg rb qb pv).2.1 ∧ qb = (de_w 58659 4 n0 gg rb qb pv).2.2.1 ∧ pv = (de_w 58659 4 n0 gg rb qb pv).2.2.2 ∧ ev = en_w (de_w 58659 4 n0 gg rb qb pv).1 ev from (by exact ⟨(dz_1 (fun h9 => c_29 ((ma_tb1 (rb 16 + rb 17)).mpr h9))).symm, rfl, rfl, rfl, en_0 (tb_n1 _ _)⟩)) (hP.sub (ws' := [(y0, .inr (4, [.int th, .int (nI lm), .int sz, .int em, .int lt, .int sp, .int (nI np), .int fd, .int bg, .ref m_op, .ref m_nu, .ref m_gv, .ref m_sh, .ref m_he, .ref m_pu, .ref m_pc, .ref m_pl, .ref m_pb, .ref m_ps, .int pv, .int ev])), (m_he, .inl (cL, 36, .inr (.inl (hh_w ra (vp_updL rb 16 ((rb 16) + (rb 17))))))), (m_pu, .inl (cL, 8, .inr (.inl (pp_w qa qb)))), (m_gv, .inl (cI, 4, .inl gg))]) [3, 0, 1, 2] rfl) (hD.sub (ws' := [(y0, .inr (4, [.int th, .int (nI lm), .int sz, .int em, .int lt, .int sp, .int (nI np), .int fd, .int bg, .ref m_op, .ref m_nu, .ref m_gv, .ref m_sh, .ref m_he, .ref m_pu, .ref m_pc, .ref m_pl, .ref m_pb, .ref m_ps, .int pv, .int ev])), (m_he, .inl (cL, 36, .inr (.inl (hh_w ra (vp_updL rb 16 ((rb 16) + (rb 17))))))), (m_pu, .inl (cL, 8, .inr (.inl (pp_w qa qb)))), (m_gv, .inl (cI, 4, .inl gg))]) [3, 0, 1, 2] (by decide) rfl) hS d_Modl_does_496
      · exact absurd (by decide) c_25
  by_cases c_30 : o0 = 5
  · refine lv_tableIn (tgt := 174) hx hb d_Modl_does_35 (by rw [c_30]; decide) (by rw [c_30]; decide) (by rw [c_30]; rfl) (by decide) ?_
    subst c_30
    refine lv_lload hx hb d_Modl_does_174 (lv_at hl 2 rfl) ?_
    refine lv_lload hx hb d_Modl_does_176 (lv_at hl 1 rfl) ?_
    refine lv_lsub hx hb d_Modl_does_178 ?_
    refine lv_lstore (lv' := [(9, .long ((rb 16) - (rb 17))), (7, .long (rb 17)), (5, .long (rb 16)), (4, .int 18), (0, .ref y0), (1, .int 1), (2, .int 5), (3, .int n0)]) hx hb d_Modl_does_179 hl (by decide) rfl (fun ls hl => ?_)
    refine lv_goto (tgt := 434) hx hb d_Modl_does_181 (by decide) ?_
    refine lv_aload_n hx hb d_Modl_does_434 rfl (lv_at hl 4 rfl) ?_
    refine va_get (D := (dC, dI)) (ci := 4) (v := .ref m_he) (C := R_Modl) (T := F_Modl) (N := 21) hx hb htb iw_Modl hown hK.1 hP 0 rfl rfl 13 (by decide) (htb _ tw_428) (fun _ h9 => h9) rfl d_Modl_does_435 ?_
    refine lv_iload hx hb d_Modl_does_438 (lv_at hl 3 rfl) ?_
    refine lv_bipush (v := 16) hx hb d_Modl_does_440 (by decide) ?_
    refine lv_iadd hx hb d_Modl_does_442 ?_
    refine W.eq (g2 := F0 m 443 ls [.int 34, .ref m_he]) rfl ?_
    refine lv_lload hx hb d_Modl_does_443 (lv_at hl 0 rfl) ?_
    refine sd_l (g := hh_w ra (vp_updL rb 16 ((rb 16) - (rb 17)))) (cA := cL) hx hb hK.1 hP hD hS 1 1 rfl rfl (show ¬ (_ ∨ _) by decide) (hh_k1 (k := 16)) d_Modl_does_445 (fun H locs hP hD hS => ?_)
    have hP : va_P (dC, dI) classes [(y0, .inr (4, [.int th, .int (nI lm), .int sz, .int em, .int lt, .int sp, .int (nI np), .int fd, .int bg, .ref m_op, .ref m_nu, .ref m_gv, .ref m_sh, .ref m_he, .ref m_pu, .ref m_pc, .ref m_pl, .ref m_pb, .ref m_ps, .int pv, .int ev])), (m_he, .inl (cL, 36, .inr (.inl (hh_w ra (vp_updL rb 16 ((rb 16) - (rb 17))))))), (m_pu, .inl (cL, 8, .inr (.inl (pp_w qa qb)))), (m_gv, .inl (cI, 4, .inl gg))] H := hP
    have hD : va_D A [(y0, .inr (4, [.int th, .int (nI lm), .int sz, .int em, .int lt, .int sp, .int (nI np), .int fd, .int bg, .ref m_op, .ref m_nu, .ref m_gv, .ref m_sh, .ref m_he, .ref m_pu, .ref m_pc, .ref m_pl, .ref m_pb, .ref m_ps, .int pv, .int ev])), (m_he, .inl (cL, 36, .inr (.inl (hh_w ra (vp_updL rb 16 ((rb 16) - (rb 17))))))), (m_pu, .inl (cL, 8, .inr (.inl (pp_w qa qb)))), (m_gv, .inl (cI, 4, .inl gg))] := hD
    refine lv_iload_n hx hb d_Modl_does_446 rfl (lv_at hl 6 rfl) ?_
    refine lv_iconst (v := 3) hx hb d_Modl_does_447 (by decide) ?_
    refine lv_icmp_le (tgt := 457) hx hb d_Modl_does_448 (by decide) (fun c_31 => ?_) (fun c_31 => ?_)
    · exact absurd c_31 (by decide)
    · skip
      refine lv_iload_n hx hb d_Modl_does_451 rfl (lv_at hl 6 rfl) ?_
      refine lv_bipush (v := 7) hx hb d_Modl_does_452 (by decide) ?_
      refine lv_icmp_lt (tgt := 469) hx hb d_Modl_does_454 (by decide) (fun c_32 => ?_) (fun c_32 => ?_)
      · skip
        refine lv_iconst (v := 1) hx hb d_Modl_does_469 (by decide) ?_
        refine lv_goto (tgt := 474) hx hb d_Modl_does_470 (by decide) ?_
        refine lv_istore (lv' := [(11, .int 1), (9, .long ((rb 16) - (rb 17))), (7, .long (rb 17)), (5, .long (rb 16)), (4, .int 18), (0, .ref y0), (1, .int 1), (2, .int 5), (3, .int n0)]) hx hb d_Modl_does_474 hl (by decide) rfl (fun ls hl => ?_)
        refine lv_iload hx hb d_Modl_does_476 (lv_at hl 0 rfl) ?_
        refine lv_if_eq (tgt := 491) hx hb d_Modl_does_478 (by decide) (fun c_33 => ?_) (fun c_33 => ?_)
        · exact absurd c_33 (by decide)
        · skip
          refine lv_aload_n hx hb d_Modl_does_481 rfl (lv_at hl 5 rfl) ?_
          refine lv_iload_n hx hb d_Modl_does_482 rfl (lv_at hl 6 rfl) ?_
          refine lv_lload hx hb d_Modl_does_483 (lv_at hl 1 rfl) ?_
          refine af_i (wr := [(m_he, .inl (cL, 36, .inr (.inl (hh_w ra (vp_updL rb 16 ((rb 16) - (rb 17))))))), (m_pu, .inl (cL, 8, .inr (.inl (pp_w qa qb)))), (m_gv, .inl (cI, 4, .inl gg))]) (va_runV (As := [.int 1, .long ((rb 16) - (rb 17))]) (rest := []) ⟨hx, hb, hml, hown, htb⟩ (c_Modl_may1 l dC dI cI cL H.size y0 th lm sz em lt sp np fd bg m_op m_nu m_gv m_sh m_he m_pu m_pc m_pl m_pb m_ps pv ev ((rb 16) - (rb 17)) ) ⟨callB_of 2 htb (gd_w tw_522) rfl rfl rfl (htb _ tw_25) (htb _ tw_519) (by decide +kernel) ⟨Nat.le_of_ble_eq_true rfl, Nat.le_of_ble_eq_true rfl⟩, htb _ tw_521, htb _ tw_17⟩ (pv_V hK (hP.sub (ws' := [(y0, .inr (4, [.int th, .int (nI lm), .int sz, .int em, .int lt, .int sp, .int (nI np), .int fd, .int bg, .ref m_op, .ref m_nu, .ref m_gv, .ref m_sh, .ref m_he, .ref m_pu, .ref m_pc, .ref m_pl, .ref m_pb, .ref m_ps, .int pv, .int ev]))]) [0] rfl) (hD.sub (ws' := [(y0, .inr (4, [.int th, .int (nI lm), .int sz, .int em, .int lt, .int sp, .int (nI np), .int fd, .int bg, .ref m_op, .ref m_nu, .ref m_gv, .ref m_sh, .ref m_he, .ref m_pu, .ref m_pc, .ref m_pl, .ref m_pb, .ref m_ps, .int pv, .int ev]))]) [0] (by decide) rfl) (ci := 4) (q0 := 0) rfl rfl) rfl rfl hl.1 rfl (lv_room (Nat.le_of_ble_eq_true rfl)) d_Modl_does_485 ⟨Nat.le_of_ble_eq_true rfl, Nat.le_of_ble_eq_true rfl⟩) hP hD hS hA [0] [1, 2, 3] rfl rfl (by decide) (by decide) (fun r_34 u_35 H locs hw hP hD hS => ?_)
          try dsimp only at hw
          subst hw
          have hP : va_P (dC, dI) classes [(m_he, .inl (cL, 36, .inr (.inl (hh_w ra (vp_updL rb 16 ((rb 16) - (rb 17))))))), (m_pu, .inl (cL, 8, .inr (.inl (pp_w qa qb)))), (m_gv, .inl (cI, 4, .inl gg)), (y0, .inr (4, [.int th, .int (nI lm), .int sz, .int em, .int lt, .int sp, .int (nI np), .int fd, .int bg, .ref m_op, .ref m_nu, .ref m_gv, .ref m_sh, .ref m_he, .ref m_pu, .ref m_pc, .ref m_pl, .ref m_pb, .ref m_ps, .int pv, .int ev]))] H := hP
          have hD : va_D A [(m_he, .inl (cL, 36, .inr (.inl (hh_w ra (vp_updL rb 16 ((rb 16) - (rb 17))))))), (m_pu, .inl (cL, 8, .inr (.inl (pp_w qa qb)))), (m_gv, .inl (cI, 4, .inl gg)), (y0, .inr (4, [.int th, .int (nI lm), .int sz, .int em, .int lt, .int sp, .int (nI np), .int fd, .int bg, .ref m_op, .ref m_nu, .ref m_gv, .ref m_sh, .ref m_he, .ref m_pu, .ref m_pc, .ref m_pl, .ref m_pb, .ref m_ps, .int pv, .int ev]))] := hD
          refine lv_if_eq (tgt := 495) hx hb d_Modl_does_488 (by decide) (fun c_36 => ?_) (fun c_36 => ?_)
          · have c_36 : (ma_w (-117318000000000) 117318000000000 ((rb 16) - (rb 17))) = 0 := c_36
            refine lv_iconst (v := 0) hx hb d_Modl_does_495 (by decide) ?_
            exact rt_z (v := 0) ((vp_updL rb 16 ((rb 16) - (rb 17))), qb, pv, ev) hx hb hr hlocks (by decide) (show (0 : Int32) = dz_w (de_w 58659 5 n0 gg rb qb pv).1 ∧ (vp_updL rb 16 ((rb 16) - (rb 17))) = (de_w 58659 5 n0 gg rb qb pv).2.1 ∧ qb = (de_w 58659 5 n0 gg rb qb pv).2.2.1 ∧ pv = (de_w 58659 5 n0 gg rb qb pv).2.2.2 ∧ ev = en_w (de_w 58659 5 n0 gg rb qb pv).1 ev from (by exact ⟨(dz_0 ((ma_tb1 (rb 16 - rb 17)).mp c_36)).symm, rfl, rfl, rfl, en_0 (tb_n1 _ _)⟩)) (hP.sub (ws' := [(y0, .inr (4, [.int th, .int (nI lm), .int sz, .int em, .int lt, .int sp, .int (nI np), .int fd, .int bg, .ref m_op, .ref m_nu, .ref m_gv, .ref m_sh, .ref m_he, .ref m_pu, .ref m_pc, .ref m_pl, .ref m_pb, .ref m_ps, .int pv, .int ev])), (m_he, .inl (cL, 36, .inr (.inl (hh_w ra (vp_updL rb 16 ((rb 16) - (rb 17))))))), (m_pu, .inl (cL, 8, .inr (.inl (pp_w qa qb)))), (m_gv, .inl (cI, 4, .inl gg))]) [3, 0, 1, 2] rfl) (hD.sub (ws' := [(y0, .inr (4, [.int th, .int (nI lm), .int sz, .int em, .int lt, .int sp, .int (nI np), .int fd, .int bg, .ref m_op, .ref m_nu, .ref m_gv, .ref m_sh, .ref m_he, .ref m_pu, .ref m_pc, .ref m_pl, .ref m_pb, .ref m_ps, .int pv, .int ev])), (m_he, .inl (cL, 36, .inr (.inl (hh_w ra (vp_updL rb 16 ((rb 16) - (rb 17))))))), (m_pu, .inl (cL, 8, .inr (.inl (pp_w qa qb)))), (m_gv, .inl (cI, 4, .inl gg))]) [3, 0, 1, 2] (by decide) rfl) hS d_Modl_does_496
          · have c_36 : ¬ (ma_w (-117318000000000) 117318000000000 ((rb 16) - (rb 17))) = 0 := c_36
            refine lv_iconst (v := 1) hx hb d_Modl_does_491 (by decide) ?_
            refine lv_goto (tgt := 496) hx hb d_Modl_does_492 (by decide) ?_
            exact rt_z (v := 1) ((vp_updL rb 16 ((rb 16) - (rb 17))), qb, pv, ev) hx hb hr hlocks (by decide) (show (1 : Int32) = dz_w (de_w 58659 5 n0 gg rb qb pv).1 ∧ (vp_updL rb 16 ((rb 16) - (rb 17))) = (de_w 58659 5 n0 gg rb qb pv).2.1 ∧ qb = (de_w 58659 5 n0 gg rb qb pv).2.2.1 ∧ pv = (de_w 58659 5 n0 gg rb qb pv).2.2.2 ∧ ev = en_w (de_w 58659 5 n0 gg rb qb pv).1 ev from (by exact ⟨(dz_1 (fun h9 => c_36 ((ma_tb1 (rb 16 - rb 17)).mpr h9))).symm, rfl, rfl, rfl, en_0 (tb_n1 _ _)⟩)) (hP.sub (ws' := [(y0, .inr (4, [.int th, .int (nI lm), .int sz, .int em, .int lt, .int sp, .int (nI np), .int fd, .int bg, .ref m_op, .ref m_nu, .ref m_gv, .ref m_sh, .ref m_he, .ref m_pu, .ref m_pc, .ref m_pl, .ref m_pb, .ref m_ps, .int pv, .int ev])), (m_he, .inl (cL, 36, .inr (.inl (hh_w ra (vp_updL rb 16 ((rb 16) - (rb 17))))))), (m_pu, .inl (cL, 8, .inr (.inl (pp_w qa qb)))), (m_gv, .inl (cI, 4, .inl gg))]) [3, 0, 1, 2] rfl) (hD.sub (ws' := [(y0, .inr (4, [.int th, .int (nI lm), .int sz, .int em, .int lt, .int sp, .int (nI np), .int fd, .int bg, .ref m_op, .ref m_nu, .ref m_gv, .ref m_sh, .ref m_he, .ref m_pu, .ref m_pc, .ref m_pl, .ref m_pb, .ref m_ps, .int pv, .int ev])), (m_he, .inl (cL, 36, .inr (.inl (hh_w ra (vp_updL rb 16 ((rb 16) - (rb 17))))))), (m_pu, .inl (cL, 8, .inr (.inl (pp_w qa qb)))), (m_gv, .inl (cI, 4, .inl gg))]) [3, 0, 1, 2] (by decide) rfl) hS d_Modl_does_496
      · exact absurd (by decide) c_32
  by_cases c_37 : o0 = 6
  · refine lv_tableIn (tgt := 184) hx hb d_Modl_does_35 (by rw [c_37]; decide) (by rw [c_37]; decide) (by rw [c_37]; rfl) (by decide) ?_
    subst c_37
    refine lv_lload hx hb d_Modl_does_184 (lv_at hl 2 rfl) ?_
    refine lv_lload hx hb d_Modl_does_186 (lv_at hl 1 rfl) ?_
    refine lv_lmul hx hb d_Modl_does_188 ?_
    refine lv_lstore (lv' := [(9, .long ((rb 16) * (rb 17))), (7, .long (rb 17)), (5, .long (rb 16)), (4, .int 18), (0, .ref y0), (1, .int 1), (2, .int 6), (3, .int n0)]) hx hb d_Modl_does_189 hl (by decide) rfl (fun ls hl => ?_)
    refine lv_lload hx hb d_Modl_does_191 (lv_at hl 2 rfl) ?_
    refine lv_lconst (v := 0) hx hb d_Modl_does_193 (by decide) ?_
    refine W.lcmp hx hb d_Modl_does_194 ?_
    refine lv_if_eq (tgt := 229) hx hb d_Modl_does_195 (by decide) (fun c_38 => ?_) (fun c_38 => ?_)
    · have c_38 : (lg_cmp (rb 16) 0) = 0 := c_38
      rw [lc_eq] at c_38
      refine lv_lload hx hb d_Modl_does_229 (lv_at hl 0 rfl) ?_
      refine lv_aload_n hx hb d_Modl_does_231 rfl (lv_at hl 4 rfl) ?_
      refine lv_iload_n hx hb d_Modl_does_232 rfl (lv_at hl 5 rfl) ?_
      refine af_l (wr := [(m_he, .inl (cL, 36, .inr (.inl (hh_w ra rb)))), (m_pu, .inl (cL, 8, .inr (.inl (pp_w qa qb)))), (m_gv, .inl (cI, 4, .inl gg))]) (va_runV (As := [.int 1]) (rest := [.long ((rb 16) * (rb 17))]) ⟨hx, hb, hml, hown, htb⟩ (c_Modl_times1 l dC dI cI cL s.heap.size y0 th lm sz em lt sp np fd bg m_op m_nu m_gv m_sh m_he m_pu m_pc m_pl m_pb m_ps pv ev ) ⟨callB_of 1 htb (gd_w tw_514) rfl rfl rfl (htb _ tw_25) (htb _ tw_511) (by decide +kernel) ⟨Nat.le_of_ble_eq_true rfl, Nat.le_of_ble_eq_true rfl⟩, htb _ tw_513, htb _ tw_16⟩ (pv_V hK (hP.sub (ws' := [(y0, .inr (4, [.int th, .int (nI lm), .int sz, .int em, .int lt, .int sp, .int (nI np), .int fd, .int bg, .ref m_op, .ref m_nu, .ref m_gv, .ref m_sh, .ref m_he, .ref m_pu, .ref m_pc, .ref m_pl, .ref m_pb, .ref m_ps, .int pv, .int ev]))]) [0] rfl) (hD.sub (ws' := [(y0, .inr (4, [.int th, .int (nI lm), .int sz, .int em, .int lt, .int sp, .int (nI np), .int fd, .int bg, .ref m_op, .ref m_nu, .ref m_gv, .ref m_sh, .ref m_he, .ref m_pu, .ref m_pc, .ref m_pl, .ref m_pb, .ref m_ps, .int pv, .int ev]))]) [0] (by decide) rfl) (ci := 4) (q0 := 0) rfl rfl) rfl rfl hl.1 rfl (lv_room (Nat.le_of_ble_eq_true rfl)) d_Modl_does_233 ⟨Nat.le_of_ble_eq_true rfl, Nat.le_of_ble_eq_true rfl⟩) hP hD hS hA [0] [1, 2, 3] rfl rfl (by decide) (by decide) (fun r_39 u_40 H locs hw hP hD hS => ?_)
      try dsimp only at hw
      subst hw
      have hP : va_P (dC, dI) classes [(m_he, .inl (cL, 36, .inr (.inl (hh_w ra rb)))), (m_pu, .inl (cL, 8, .inr (.inl (pp_w qa qb)))), (m_gv, .inl (cI, 4, .inl gg)), (y0, .inr (4, [.int th, .int (nI lm), .int sz, .int em, .int lt, .int sp, .int (nI np), .int fd, .int bg, .ref m_op, .ref m_nu, .ref m_gv, .ref m_sh, .ref m_he, .ref m_pu, .ref m_pc, .ref m_pl, .ref m_pb, .ref m_ps, .int pv, .int ev]))] H := hP
      have hD : va_D A [(m_he, .inl (cL, 36, .inr (.inl (hh_w ra rb)))), (m_pu, .inl (cL, 8, .inr (.inl (pp_w qa qb)))), (m_gv, .inl (cI, 4, .inl gg)), (y0, .inr (4, [.int th, .int (nI lm), .int sz, .int em, .int lt, .int sp, .int (nI np), .int fd, .int bg, .ref m_op, .ref m_nu, .ref m_gv, .ref m_sh, .ref m_he, .ref m_pu, .ref m_pc, .ref m_pl, .ref m_pb, .ref m_ps, .int pv, .int ev]))] := hD
      refine lv_lrem hx hb d_Modl_does_236 (by decide) ?_
      refine lv_lconst (v := 0) hx hb d_Modl_does_237 (by decide) ?_
      refine W.lcmp hx hb d_Modl_does_238 ?_
      refine lv_if_eq (tgt := 244) hx hb d_Modl_does_239 (by decide) (fun c_41 => ?_) (fun c_41 => ?_)
      · have c_41 : (lg_cmp (((rb 16) * (rb 17)) - ((rb 16) * (rb 17)) / 58659 * 58659) 0) = 0 := c_41
        rw [lc_eq] at c_41
        refine lv_lload hx hb d_Modl_does_244 (lv_at hl 0 rfl) ?_
        refine lv_aload_n hx hb d_Modl_does_246 rfl (lv_at hl 4 rfl) ?_
        refine lv_iload_n hx hb d_Modl_does_247 rfl (lv_at hl 5 rfl) ?_
        refine af_l (wr := [(m_he, .inl (cL, 36, .inr (.inl (hh_w ra rb)))), (m_pu, .inl (cL, 8, .inr (.inl (pp_w qa qb)))), (m_gv, .inl (cI, 4, .inl gg))]) (va_runV (As := [.int 1]) (rest := [.long ((rb 16) * (rb 17))]) ⟨hx, hb, hml, hown, htb⟩ (c_Modl_times1 l dC dI cI cL H.size y0 th lm sz em lt sp np fd bg m_op m_nu m_gv m_sh m_he m_pu m_pc m_pl m_pb m_ps pv ev ) ⟨callB_of 1 htb (gd_w tw_514) rfl rfl rfl (htb _ tw_25) (htb _ tw_511) (by decide +kernel) ⟨Nat.le_of_ble_eq_true rfl, Nat.le_of_ble_eq_true rfl⟩, htb _ tw_513, htb _ tw_16⟩ (pv_V hK (hP.sub (ws' := [(y0, .inr (4, [.int th, .int (nI lm), .int sz, .int em, .int lt, .int sp, .int (nI np), .int fd, .int bg, .ref m_op, .ref m_nu, .ref m_gv, .ref m_sh, .ref m_he, .ref m_pu, .ref m_pc, .ref m_pl, .ref m_pb, .ref m_ps, .int pv, .int ev]))]) [3] rfl) (hD.sub (ws' := [(y0, .inr (4, [.int th, .int (nI lm), .int sz, .int em, .int lt, .int sp, .int (nI np), .int fd, .int bg, .ref m_op, .ref m_nu, .ref m_gv, .ref m_sh, .ref m_he, .ref m_pu, .ref m_pc, .ref m_pl, .ref m_pb, .ref m_ps, .int pv, .int ev]))]) [3] (by decide) rfl) (ci := 4) (q0 := 0) rfl rfl) rfl rfl hl.1 rfl (lv_room (Nat.le_of_ble_eq_true rfl)) d_Modl_does_248 ⟨Nat.le_of_ble_eq_true rfl, Nat.le_of_ble_eq_true rfl⟩) hP hD hS hA [3] [0, 1, 2] rfl rfl (by decide) (by decide) (fun r_42 u_43 H locs hw hP hD hS => ?_)
        try dsimp only at hw
        subst hw
        have hP : va_P (dC, dI) classes [(m_he, .inl (cL, 36, .inr (.inl (hh_w ra rb)))), (m_pu, .inl (cL, 8, .inr (.inl (pp_w qa qb)))), (m_gv, .inl (cI, 4, .inl gg)), (y0, .inr (4, [.int th, .int (nI lm), .int sz, .int em, .int lt, .int sp, .int (nI np), .int fd, .int bg, .ref m_op, .ref m_nu, .ref m_gv, .ref m_sh, .ref m_he, .ref m_pu, .ref m_pc, .ref m_pl, .ref m_pb, .ref m_ps, .int pv, .int ev]))] H := hP
        have hD : va_D A [(m_he, .inl (cL, 36, .inr (.inl (hh_w ra rb)))), (m_pu, .inl (cL, 8, .inr (.inl (pp_w qa qb)))), (m_gv, .inl (cI, 4, .inl gg)), (y0, .inr (4, [.int th, .int (nI lm), .int sz, .int em, .int lt, .int sp, .int (nI np), .int fd, .int bg, .ref m_op, .ref m_nu, .ref m_gv, .ref m_sh, .ref m_he, .ref m_pu, .ref m_pc, .ref m_pl, .ref m_pb, .ref m_ps, .int pv, .int ev]))] := hD
        refine lv_ldiv hx hb d_Modl_does_251 (by decide) ?_
        refine lv_lstore (lv' := [(9, .long (((rb 16) * (rb 17)) / 58659)), (7, .long (rb 17)), (5, .long (rb 16)), (4, .int 18), (0, .ref y0), (1, .int 1), (2, .int 6), (3, .int n0)]) hx hb d_Modl_does_252 hl (by decide) rfl (fun ls hl => ?_)
        refine lv_goto (tgt := 434) hx hb d_Modl_does_254 (by decide) ?_
        refine lv_aload_n hx hb d_Modl_does_434 rfl (lv_at hl 4 rfl) ?_
        refine va_get (D := (dC, dI)) (ci := 4) (v := .ref m_he) (C := R_Modl) (T := F_Modl) (N := 21) hx hb htb iw_Modl hown hK.1 hP 3 rfl rfl 13 (by decide) (htb _ tw_428) (fun _ h9 => h9) rfl d_Modl_does_435 ?_
        refine lv_iload hx hb d_Modl_does_438 (lv_at hl 3 rfl) ?_
        refine lv_bipush (v := 16) hx hb d_Modl_does_440 (by decide) ?_
        refine lv_iadd hx hb d_Modl_does_442 ?_
        refine W.eq (g2 := F0 m 443 ls [.int 34, .ref m_he]) rfl ?_
        refine lv_lload hx hb d_Modl_does_443 (lv_at hl 0 rfl) ?_
        refine sd_l (g := hh_w ra (vp_updL rb 16 (((rb 16) * (rb 17)) / 58659))) (cA := cL) hx hb hK.1 hP hD hS 0 1 rfl rfl (show ¬ (_ ∨ _) by decide) (hh_k1 (k := 16)) d_Modl_does_445 (fun H locs hP hD hS => ?_)
        have hP : va_P (dC, dI) classes [(m_he, .inl (cL, 36, .inr (.inl (hh_w ra (vp_updL rb 16 (((rb 16) * (rb 17)) / 58659)))))), (m_pu, .inl (cL, 8, .inr (.inl (pp_w qa qb)))), (m_gv, .inl (cI, 4, .inl gg)), (y0, .inr (4, [.int th, .int (nI lm), .int sz, .int em, .int lt, .int sp, .int (nI np), .int fd, .int bg, .ref m_op, .ref m_nu, .ref m_gv, .ref m_sh, .ref m_he, .ref m_pu, .ref m_pc, .ref m_pl, .ref m_pb, .ref m_ps, .int pv, .int ev]))] H := hP
        have hD : va_D A [(m_he, .inl (cL, 36, .inr (.inl (hh_w ra (vp_updL rb 16 (((rb 16) * (rb 17)) / 58659)))))), (m_pu, .inl (cL, 8, .inr (.inl (pp_w qa qb)))), (m_gv, .inl (cI, 4, .inl gg)), (y0, .inr (4, [.int th, .int (nI lm), .int sz, .int em, .int lt, .int sp, .int (nI np), .int fd, .int bg, .ref m_op, .ref m_nu, .ref m_gv, .ref m_sh, .ref m_he, .ref m_pu, .ref m_pc, .ref m_pl, .ref m_pb, .ref m_ps, .int pv, .int ev]))] := hD
        refine lv_iload_n hx hb d_Modl_does_446 rfl (lv_at hl 6 rfl) ?_
        refine lv_iconst (v := 3) hx hb d_Modl_does_447 (by decide) ?_
        refine lv_icmp_le (tgt := 457) hx hb d_Modl_does_448 (by decide) (fun c_44 => ?_) (fun c_44 => ?_)
        · exact absurd c_44 (by decide)
        · skip
          refine lv_iload_n hx hb d_Modl_does_451 rfl (lv_at hl 6 rfl) ?_
          refine lv_bipush (v := 7) hx hb d_Modl_does_452 (by decide) ?_
          refine lv_icmp_lt (tgt := 469) hx hb d_Modl_does_454 (by decide) (fun c_45 => ?_) (fun c_45 => ?_)
          · skip
            refine lv_iconst (v := 1) hx hb d_Modl_does_469 (by decide) ?_
            refine lv_goto (tgt := 474) hx hb d_Modl_does_470 (by decide) ?_
            refine lv_istore (lv' := [(11, .int 1), (9, .long (((rb 16) * (rb 17)) / 58659)), (7, .long (rb 17)), (5, .long (rb 16)), (4, .int 18), (0, .ref y0), (1, .int 1), (2, .int 6), (3, .int n0)]) hx hb d_Modl_does_474 hl (by decide) rfl (fun ls hl => ?_)
            refine lv_iload hx hb d_Modl_does_476 (lv_at hl 0 rfl) ?_
            refine lv_if_eq (tgt := 491) hx hb d_Modl_does_478 (by decide) (fun c_46 => ?_) (fun c_46 => ?_)
            · exact absurd c_46 (by decide)
            · skip
              refine lv_aload_n hx hb d_Modl_does_481 rfl (lv_at hl 5 rfl) ?_
              refine lv_iload_n hx hb d_Modl_does_482 rfl (lv_at hl 6 rfl) ?_
              refine lv_lload hx hb d_Modl_does_483 (lv_at hl 1 rfl) ?_
              refine af_i (wr := [(m_he, .inl (cL, 36, .inr (.inl (hh_w ra (vp_updL rb 16 (((rb 16) * (rb 17)) / 58659)))))), (m_pu, .inl (cL, 8, .inr (.inl (pp_w qa qb)))), (m_gv, .inl (cI, 4, .inl gg))]) (va_runV (As := [.int 1, .long (((rb 16) * (rb 17)) / 58659)]) (rest := []) ⟨hx, hb, hml, hown, htb⟩ (c_Modl_may1 l dC dI cI cL H.size y0 th lm sz em lt sp np fd bg m_op m_nu m_gv m_sh m_he m_pu m_pc m_pl m_pb m_ps pv ev (((rb 16) * (rb 17)) / 58659) ) ⟨callB_of 2 htb (gd_w tw_522) rfl rfl rfl (htb _ tw_25) (htb _ tw_519) (by decide +kernel) ⟨Nat.le_of_ble_eq_true rfl, Nat.le_of_ble_eq_true rfl⟩, htb _ tw_521, htb _ tw_17⟩ (pv_V hK (hP.sub (ws' := [(y0, .inr (4, [.int th, .int (nI lm), .int sz, .int em, .int lt, .int sp, .int (nI np), .int fd, .int bg, .ref m_op, .ref m_nu, .ref m_gv, .ref m_sh, .ref m_he, .ref m_pu, .ref m_pc, .ref m_pl, .ref m_pb, .ref m_ps, .int pv, .int ev]))]) [3] rfl) (hD.sub (ws' := [(y0, .inr (4, [.int th, .int (nI lm), .int sz, .int em, .int lt, .int sp, .int (nI np), .int fd, .int bg, .ref m_op, .ref m_nu, .ref m_gv, .ref m_sh, .ref m_he, .ref m_pu, .ref m_pc, .ref m_pl, .ref m_pb, .ref m_ps, .int pv, .int ev]))]) [3] (by decide) rfl) (ci := 4) (q0 := 0) rfl rfl) rfl rfl hl.1 rfl (lv_room (Nat.le_of_ble_eq_true rfl)) d_Modl_does_485 ⟨Nat.le_of_ble_eq_true rfl, Nat.le_of_ble_eq_true rfl⟩) hP hD hS hA [3] [0, 1, 2] rfl rfl (by decide) (by decide) (fun r_47 u_48 H locs hw hP hD hS => ?_)
              try dsimp only at hw
              subst hw
              have hP : va_P (dC, dI) classes [(m_he, .inl (cL, 36, .inr (.inl (hh_w ra (vp_updL rb 16 (((rb 16) * (rb 17)) / 58659)))))), (m_pu, .inl (cL, 8, .inr (.inl (pp_w qa qb)))), (m_gv, .inl (cI, 4, .inl gg)), (y0, .inr (4, [.int th, .int (nI lm), .int sz, .int em, .int lt, .int sp, .int (nI np), .int fd, .int bg, .ref m_op, .ref m_nu, .ref m_gv, .ref m_sh, .ref m_he, .ref m_pu, .ref m_pc, .ref m_pl, .ref m_pb, .ref m_ps, .int pv, .int ev]))] H := hP
              have hD : va_D A [(m_he, .inl (cL, 36, .inr (.inl (hh_w ra (vp_updL rb 16 (((rb 16) * (rb 17)) / 58659)))))), (m_pu, .inl (cL, 8, .inr (.inl (pp_w qa qb)))), (m_gv, .inl (cI, 4, .inl gg)), (y0, .inr (4, [.int th, .int (nI lm), .int sz, .int em, .int lt, .int sp, .int (nI np), .int fd, .int bg, .ref m_op, .ref m_nu, .ref m_gv, .ref m_sh, .ref m_he, .ref m_pu, .ref m_pc, .ref m_pl, .ref m_pb, .ref m_ps, .int pv, .int ev]))] := hD
              refine lv_if_eq (tgt := 495) hx hb d_Modl_does_488 (by decide) (fun c_49 => ?_) (fun c_49 => ?_)
              · have c_49 : (ma_w (-117318000000000) 117318000000000 (((rb 16) * (rb 17)) / 58659)) = 0 := c_49
                refine lv_iconst (v := 0) hx hb d_Modl_does_495 (by decide) ?_
                exact rt_z (v := 0) ((vp_updL rb 16 (((rb 16) * (rb 17)) / 58659)), qb, pv, ev) hx hb hr hlocks (by decide) (show (0 : Int32) = dz_w (de_w 58659 6 n0 gg rb qb pv).1 ∧ (vp_updL rb 16 (((rb 16) * (rb 17)) / 58659)) = (de_w 58659 6 n0 gg rb qb pv).2.1 ∧ qb = (de_w 58659 6 n0 gg rb qb pv).2.2.1 ∧ pv = (de_w 58659 6 n0 gg rb qb pv).2.2.2 ∧ ev = en_w (de_w 58659 6 n0 gg rb qb pv).1 ev from (by rw [de_6b (show ¬ (58659 : Int64) = 0 by decide) (pb_1 c_38) (im_1 (show ¬ (58659 : Int64) = 0 by decide) c_41)]; exact ⟨(dz_0 ((ma_tb1 (rb 16 * rb 17 / 58659)).mp c_49)).symm, rfl, rfl, rfl, en_0 (tb_n1 _ _)⟩)) (hP.sub (ws' := [(y0, .inr (4, [.int th, .int (nI lm), .int sz, .int em, .int lt, .int sp, .int (nI np), .int fd, .int bg, .ref m_op, .ref m_nu, .ref m_gv, .ref m_sh, .ref m_he, .ref m_pu, .ref m_pc, .ref m_pl, .ref m_pb, .ref m_ps, .int pv, .int ev])), (m_he, .inl (cL, 36, .inr (.inl (hh_w ra (vp_updL rb 16 (((rb 16) * (rb 17)) / 58659)))))), (m_pu, .inl (cL, 8, .inr (.inl (pp_w qa qb)))), (m_gv, .inl (cI, 4, .inl gg))]) [3, 0, 1, 2] rfl) (hD.sub (ws' := [(y0, .inr (4, [.int th, .int (nI lm), .int sz, .int em, .int lt, .int sp, .int (nI np), .int fd, .int bg, .ref m_op, .ref m_nu, .ref m_gv, .ref m_sh, .ref m_he, .ref m_pu, .ref m_pc, .ref m_pl, .ref m_pb, .ref m_ps, .int pv, .int ev])), (m_he, .inl (cL, 36, .inr (.inl (hh_w ra (vp_updL rb 16 (((rb 16) * (rb 17)) / 58659)))))), (m_pu, .inl (cL, 8, .inr (.inl (pp_w qa qb)))), (m_gv, .inl (cI, 4, .inl gg))]) [3, 0, 1, 2] (by decide) rfl) hS d_Modl_does_496
              · have c_49 : ¬ (ma_w (-117318000000000) 117318000000000 (((rb 16) * (rb 17)) / 58659)) = 0 := c_49
                refine lv_iconst (v := 1) hx hb d_Modl_does_491 (by decide) ?_
                refine lv_goto (tgt := 496) hx hb d_Modl_does_492 (by decide) ?_
                exact rt_z (v := 1) ((vp_updL rb 16 (((rb 16) * (rb 17)) / 58659)), qb, pv, ev) hx hb hr hlocks (by decide) (show (1 : Int32) = dz_w (de_w 58659 6 n0 gg rb qb pv).1 ∧ (vp_updL rb 16 (((rb 16) * (rb 17)) / 58659)) = (de_w 58659 6 n0 gg rb qb pv).2.1 ∧ qb = (de_w 58659 6 n0 gg rb qb pv).2.2.1 ∧ pv = (de_w 58659 6 n0 gg rb qb pv).2.2.2 ∧ ev = en_w (de_w 58659 6 n0 gg rb qb pv).1 ev from (by rw [de_6b (show ¬ (58659 : Int64) = 0 by decide) (pb_1 c_38) (im_1 (show ¬ (58659 : Int64) = 0 by decide) c_41)]; exact ⟨(dz_1 (fun h9 => c_49 ((ma_tb1 (rb 16 * rb 17 / 58659)).mpr h9))).symm, rfl, rfl, rfl, en_0 (tb_n1 _ _)⟩)) (hP.sub (ws' := [(y0, .inr (4, [.int th, .int (nI lm), .int sz, .int em, .int lt, .int sp, .int (nI np), .int fd, .int bg, .ref m_op, .ref m_nu, .ref m_gv, .ref m_sh, .ref m_he, .ref m_pu, .ref m_pc, .ref m_pl, .ref m_pb, .ref m_ps, .int pv, .int ev])), (m_he, .inl (cL, 36, .inr (.inl (hh_w ra (vp_updL rb 16 (((rb 16) * (rb 17)) / 58659)))))), (m_pu, .inl (cL, 8, .inr (.inl (pp_w qa qb)))), (m_gv, .inl (cI, 4, .inl gg))]) [3, 0, 1, 2] rfl) (hD.sub (ws' := [(y0, .inr (4, [.int th, .int (nI lm), .int sz, .int em, .int lt, .int sp, .int (nI np), .int fd, .int bg, .ref m_op, .ref m_nu, .ref m_gv, .ref m_sh, .ref m_he, .ref m_pu, .ref m_pc, .ref m_pl, .ref m_pb, .ref m_ps, .int pv, .int ev])), (m_he, .inl (cL, 36, .inr (.inl (hh_w ra (vp_updL rb 16 (((rb 16) * (rb 17)) / 58659)))))), (m_pu, .inl (cL, 8, .inr (.inl (pp_w qa qb)))), (m_gv, .inl (cI, 4, .inl gg))]) [3, 0, 1, 2] (by decide) rfl) hS d_Modl_does_496
          · exact absurd (by decide) c_45
      · have c_41 : ¬ (lg_cmp (((rb 16) * (rb 17)) - ((rb 16) * (rb 17)) / 58659 * 58659) 0) = 0 := c_41
        rw [lc_eq] at c_41
        refine lv_iconst (v := 0) hx hb d_Modl_does_242 (by decide) ?_
        exact rt_z (v := 0) (rb, qb, pv, ev) hx hb hr hlocks (by decide) (show (0 : Int32) = dz_w (de_w 58659 6 n0 gg rb qb pv).1 ∧ rb = (de_w 58659 6 n0 gg rb qb pv).2.1 ∧ qb = (de_w 58659 6 n0 gg rb qb pv).2.2.1 ∧ pv = (de_w 58659 6 n0 gg rb qb pv).2.2.2 ∧ ev = en_w (de_w 58659 6 n0 gg rb qb pv).1 ev from (by rw [de_6a (pb_1 c_38) (im_0 c_41)]; exact ⟨rfl, rfl, rfl, rfl, rfl⟩)) (hP.sub (ws' := [(y0, .inr (4, [.int th, .int (nI lm), .int sz, .int em, .int lt, .int sp, .int (nI np), .int fd, .int bg, .ref m_op, .ref m_nu, .ref m_gv, .ref m_sh, .ref m_he, .ref m_pu, .ref m_pc, .ref m_pl, .ref m_pb, .ref m_ps, .int pv, .int ev])), (m_he, .inl (cL, 36, .inr (.inl (hh_w ra rb)))), (m_pu, .inl (cL, 8, .inr (.inl (pp_w qa qb)))), (m_gv, .inl (cI, 4, .inl gg))]) [3, 0, 1, 2] rfl) (hD.sub (ws' := [(y0, .inr (4, [.int th, .int (nI lm), .int sz, .int em, .int lt, .int sp, .int (nI np), .int fd, .int bg, .ref m_op, .ref m_nu, .ref m_gv, .ref m_sh, .ref m_he, .ref m_pu, .ref m_pc, .ref m_pl, .ref m_pb, .ref m_ps, .int pv, .int ev])), (m_he, .inl (cL, 36, .inr (.inl (hh_w ra rb)))), (m_pu, .inl (cL, 8, .inr (.inl (pp_w qa qb)))), (m_gv, .inl (cI, 4, .inl gg))]) [3, 0, 1, 2] (by decide) rfl) hS d_Modl_does_243
    · have c_38 : ¬ (lg_cmp (rb 16) 0) = 0 := c_38
      rw [lc_eq] at c_38
      refine lv_lload hx hb d_Modl_does_198 (lv_at hl 0 rfl) ?_
      refine lv_lload hx hb d_Modl_does_200 (lv_at hl 2 rfl) ?_
      refine lv_ldiv hx hb d_Modl_does_202 (c_38) ?_
      refine lv_lload hx hb d_Modl_does_203 (lv_at hl 1 rfl) ?_
      refine W.lcmp hx hb d_Modl_does_205 ?_
      refine lv_if_ne (tgt := 227) hx hb d_Modl_does_206 (by decide) (fun c_50 => ?_) (fun c_50 => ?_)
      · have c_50 : ¬ (lg_cmp (((rb 16) * (rb 17)) / (rb 16)) (rb 17)) = 0 := c_50
        rw [lc_eq] at c_50
        refine lv_iconst (v := 0) hx hb d_Modl_does_227 (by decide) ?_
        exact rt_z (v := 0) (rb, qb, pv, ev) hx hb hr hlocks (by decide) (show (0 : Int32) = dz_w (de_w 58659 6 n0 gg rb qb pv).1 ∧ rb = (de_w 58659 6 n0 gg rb qb pv).2.1 ∧ qb = (de_w 58659 6 n0 gg rb qb pv).2.2.1 ∧ pv = (de_w 58659 6 n0 gg rb qb pv).2.2.2 ∧ ev = en_w (de_w 58659 6 n0 gg rb qb pv).1 ev from (by rw [de_6c (pb_2 c_38 c_50)]; exact ⟨rfl, rfl, rfl, rfl, rfl⟩)) (hP.sub (ws' := [(y0, .inr (4, [.int th, .int (nI lm), .int sz, .int em, .int lt, .int sp, .int (nI np), .int fd, .int bg, .ref m_op, .ref m_nu, .ref m_gv, .ref m_sh, .ref m_he, .ref m_pu, .ref m_pc, .ref m_pl, .ref m_pb, .ref m_ps, .int pv, .int ev])), (m_he, .inl (cL, 36, .inr (.inl (hh_w ra rb)))), (m_pu, .inl (cL, 8, .inr (.inl (pp_w qa qb)))), (m_gv, .inl (cI, 4, .inl gg))]) [0, 1, 2, 3] rfl) (hD.sub (ws' := [(y0, .inr (4, [.int th, .int (nI lm), .int sz, .int em, .int lt, .int sp, .int (nI np), .int fd, .int bg, .ref m_op, .ref m_nu, .ref m_gv, .ref m_sh, .ref m_he, .ref m_pu, .ref m_pc, .ref m_pl, .ref m_pb, .ref m_ps, .int pv, .int ev])), (m_he, .inl (cL, 36, .inr (.inl (hh_w ra rb)))), (m_pu, .inl (cL, 8, .inr (.inl (pp_w qa qb)))), (m_gv, .inl (cI, 4, .inl gg))]) [0, 1, 2, 3] (by decide) rfl) hS d_Modl_does_228
      · have c_50 : (lg_cmp (((rb 16) * (rb 17)) / (rb 16)) (rb 17)) = 0 := c_50
        rw [lc_eq] at c_50
        refine lv_lload hx hb d_Modl_does_209 (lv_at hl 2 rfl) ?_
        refine lv_ldc2 (v := (-1)) hx hb hown (htb _ tw_516) d_Modl_does_211 ?_
        refine W.lcmp hx hb d_Modl_does_214 ?_
        refine lv_if_ne (tgt := 229) hx hb d_Modl_does_215 (by decide) (fun c_51 => ?_) (fun c_51 => ?_)
        · have c_51 : ¬ (lg_cmp (rb 16) (-1)) = 0 := c_51
          rw [lc_eq] at c_51
          refine lv_lload hx hb d_Modl_does_229 (lv_at hl 0 rfl) ?_
          refine lv_aload_n hx hb d_Modl_does_231 rfl (lv_at hl 4 rfl) ?_
          refine lv_iload_n hx hb d_Modl_does_232 rfl (lv_at hl 5 rfl) ?_
          refine af_l (wr := [(m_he, .inl (cL, 36, .inr (.inl (hh_w ra rb)))), (m_pu, .inl (cL, 8, .inr (.inl (pp_w qa qb)))), (m_gv, .inl (cI, 4, .inl gg))]) (va_runV (As := [.int 1]) (rest := [.long ((rb 16) * (rb 17))]) ⟨hx, hb, hml, hown, htb⟩ (c_Modl_times1 l dC dI cI cL s.heap.size y0 th lm sz em lt sp np fd bg m_op m_nu m_gv m_sh m_he m_pu m_pc m_pl m_pb m_ps pv ev ) ⟨callB_of 1 htb (gd_w tw_514) rfl rfl rfl (htb _ tw_25) (htb _ tw_511) (by decide +kernel) ⟨Nat.le_of_ble_eq_true rfl, Nat.le_of_ble_eq_true rfl⟩, htb _ tw_513, htb _ tw_16⟩ (pv_V hK (hP.sub (ws' := [(y0, .inr (4, [.int th, .int (nI lm), .int sz, .int em, .int lt, .int sp, .int (nI np), .int fd, .int bg, .ref m_op, .ref m_nu, .ref m_gv, .ref m_sh, .ref m_he, .ref m_pu, .ref m_pc, .ref m_pl, .ref m_pb, .ref m_ps, .int pv, .int ev]))]) [0] rfl) (hD.sub (ws' := [(y0, .inr (4, [.int th, .int (nI lm), .int sz, .int em, .int lt, .int sp, .int (nI np), .int fd, .int bg, .ref m_op, .ref m_nu, .ref m_gv, .ref m_sh, .ref m_he, .ref m_pu, .ref m_pc, .ref m_pl, .ref m_pb, .ref m_ps, .int pv, .int ev]))]) [0] (by decide) rfl) (ci := 4) (q0 := 0) rfl rfl) rfl rfl hl.1 rfl (lv_room (Nat.le_of_ble_eq_true rfl)) d_Modl_does_233 ⟨Nat.le_of_ble_eq_true rfl, Nat.le_of_ble_eq_true rfl⟩) hP hD hS hA [0] [1, 2, 3] rfl rfl (by decide) (by decide) (fun r_52 u_53 H locs hw hP hD hS => ?_)
          try dsimp only at hw
          subst hw
          have hP : va_P (dC, dI) classes [(m_he, .inl (cL, 36, .inr (.inl (hh_w ra rb)))), (m_pu, .inl (cL, 8, .inr (.inl (pp_w qa qb)))), (m_gv, .inl (cI, 4, .inl gg)), (y0, .inr (4, [.int th, .int (nI lm), .int sz, .int em, .int lt, .int sp, .int (nI np), .int fd, .int bg, .ref m_op, .ref m_nu, .ref m_gv, .ref m_sh, .ref m_he, .ref m_pu, .ref m_pc, .ref m_pl, .ref m_pb, .ref m_ps, .int pv, .int ev]))] H := hP
          have hD : va_D A [(m_he, .inl (cL, 36, .inr (.inl (hh_w ra rb)))), (m_pu, .inl (cL, 8, .inr (.inl (pp_w qa qb)))), (m_gv, .inl (cI, 4, .inl gg)), (y0, .inr (4, [.int th, .int (nI lm), .int sz, .int em, .int lt, .int sp, .int (nI np), .int fd, .int bg, .ref m_op, .ref m_nu, .ref m_gv, .ref m_sh, .ref m_he, .ref m_pu, .ref m_pc, .ref m_pl, .ref m_pb, .ref m_ps, .int pv, .int ev]))] := hD
          refine lv_lrem hx hb d_Modl_does_236 (by decide) ?_
          refine lv_lconst (v := 0) hx hb d_Modl_does_237 (by decide) ?_
          refine W.lcmp hx hb d_Modl_does_238 ?_
          refine lv_if_eq (tgt := 244) hx hb d_Modl_does_239 (by decide) (fun c_54 => ?_) (fun c_54 => ?_)
          · have c_54 : (lg_cmp (((rb 16) * (rb 17)) - ((rb 16) * (rb 17)) / 58659 * 58659) 0) = 0 := c_54
            rw [lc_eq] at c_54
            refine lv_lload hx hb d_Modl_does_244 (lv_at hl 0 rfl) ?_
            refine lv_aload_n hx hb d_Modl_does_246 rfl (lv_at hl 4 rfl) ?_
            refine lv_iload_n hx hb d_Modl_does_247 rfl (lv_at hl 5 rfl) ?_
            refine af_l (wr := [(m_he, .inl (cL, 36, .inr (.inl (hh_w ra rb)))), (m_pu, .inl (cL, 8, .inr (.inl (pp_w qa qb)))), (m_gv, .inl (cI, 4, .inl gg))]) (va_runV (As := [.int 1]) (rest := [.long ((rb 16) * (rb 17))]) ⟨hx, hb, hml, hown, htb⟩ (c_Modl_times1 l dC dI cI cL H.size y0 th lm sz em lt sp np fd bg m_op m_nu m_gv m_sh m_he m_pu m_pc m_pl m_pb m_ps pv ev ) ⟨callB_of 1 htb (gd_w tw_514) rfl rfl rfl (htb _ tw_25) (htb _ tw_511) (by decide +kernel) ⟨Nat.le_of_ble_eq_true rfl, Nat.le_of_ble_eq_true rfl⟩, htb _ tw_513, htb _ tw_16⟩ (pv_V hK (hP.sub (ws' := [(y0, .inr (4, [.int th, .int (nI lm), .int sz, .int em, .int lt, .int sp, .int (nI np), .int fd, .int bg, .ref m_op, .ref m_nu, .ref m_gv, .ref m_sh, .ref m_he, .ref m_pu, .ref m_pc, .ref m_pl, .ref m_pb, .ref m_ps, .int pv, .int ev]))]) [3] rfl) (hD.sub (ws' := [(y0, .inr (4, [.int th, .int (nI lm), .int sz, .int em, .int lt, .int sp, .int (nI np), .int fd, .int bg, .ref m_op, .ref m_nu, .ref m_gv, .ref m_sh, .ref m_he, .ref m_pu, .ref m_pc, .ref m_pl, .ref m_pb, .ref m_ps, .int pv, .int ev]))]) [3] (by decide) rfl) (ci := 4) (q0 := 0) rfl rfl) rfl rfl hl.1 rfl (lv_room (Nat.le_of_ble_eq_true rfl)) d_Modl_does_248 ⟨Nat.le_of_ble_eq_true rfl, Nat.le_of_ble_eq_true rfl⟩) hP hD hS hA [3] [0, 1, 2] rfl rfl (by decide) (by decide) (fun r_55 u_56 H locs hw hP hD hS => ?_)
            try dsimp only at hw
            subst hw
            have hP : va_P (dC, dI) classes [(m_he, .inl (cL, 36, .inr (.inl (hh_w ra rb)))), (m_pu, .inl (cL, 8, .inr (.inl (pp_w qa qb)))), (m_gv, .inl (cI, 4, .inl gg)), (y0, .inr (4, [.int th, .int (nI lm), .int sz, .int em, .int lt, .int sp, .int (nI np), .int fd, .int bg, .ref m_op, .ref m_nu, .ref m_gv, .ref m_sh, .ref m_he, .ref m_pu, .ref m_pc, .ref m_pl, .ref m_pb, .ref m_ps, .int pv, .int ev]))] H := hP
            have hD : va_D A [(m_he, .inl (cL, 36, .inr (.inl (hh_w ra rb)))), (m_pu, .inl (cL, 8, .inr (.inl (pp_w qa qb)))), (m_gv, .inl (cI, 4, .inl gg)), (y0, .inr (4, [.int th, .int (nI lm), .int sz, .int em, .int lt, .int sp, .int (nI np), .int fd, .int bg, .ref m_op, .ref m_nu, .ref m_gv, .ref m_sh, .ref m_he, .ref m_pu, .ref m_pc, .ref m_pl, .ref m_pb, .ref m_ps, .int pv, .int ev]))] := hD
            refine lv_ldiv hx hb d_Modl_does_251 (by decide) ?_
            refine lv_lstore (lv' := [(9, .long (((rb 16) * (rb 17)) / 58659)), (7, .long (rb 17)), (5, .long (rb 16)), (4, .int 18), (0, .ref y0), (1, .int 1), (2, .int 6), (3, .int n0)]) hx hb d_Modl_does_252 hl (by decide) rfl (fun ls hl => ?_)
            refine lv_goto (tgt := 434) hx hb d_Modl_does_254 (by decide) ?_
            refine lv_aload_n hx hb d_Modl_does_434 rfl (lv_at hl 4 rfl) ?_
            refine va_get (D := (dC, dI)) (ci := 4) (v := .ref m_he) (C := R_Modl) (T := F_Modl) (N := 21) hx hb htb iw_Modl hown hK.1 hP 3 rfl rfl 13 (by decide) (htb _ tw_428) (fun _ h9 => h9) rfl d_Modl_does_435 ?_
            refine lv_iload hx hb d_Modl_does_438 (lv_at hl 3 rfl) ?_
            refine lv_bipush (v := 16) hx hb d_Modl_does_440 (by decide) ?_
            refine lv_iadd hx hb d_Modl_does_442 ?_
            refine W.eq (g2 := F0 m 443 ls [.int 34, .ref m_he]) rfl ?_
            refine lv_lload hx hb d_Modl_does_443 (lv_at hl 0 rfl) ?_
            refine sd_l (g := hh_w ra (vp_updL rb 16 (((rb 16) * (rb 17)) / 58659))) (cA := cL) hx hb hK.1 hP hD hS 0 1 rfl rfl (show ¬ (_ ∨ _) by decide) (hh_k1 (k := 16)) d_Modl_does_445 (fun H locs hP hD hS => ?_)
            have hP : va_P (dC, dI) classes [(m_he, .inl (cL, 36, .inr (.inl (hh_w ra (vp_updL rb 16 (((rb 16) * (rb 17)) / 58659)))))), (m_pu, .inl (cL, 8, .inr (.inl (pp_w qa qb)))), (m_gv, .inl (cI, 4, .inl gg)), (y0, .inr (4, [.int th, .int (nI lm), .int sz, .int em, .int lt, .int sp, .int (nI np), .int fd, .int bg, .ref m_op, .ref m_nu, .ref m_gv, .ref m_sh, .ref m_he, .ref m_pu, .ref m_pc, .ref m_pl, .ref m_pb, .ref m_ps, .int pv, .int ev]))] H := hP
            have hD : va_D A [(m_he, .inl (cL, 36, .inr (.inl (hh_w ra (vp_updL rb 16 (((rb 16) * (rb 17)) / 58659)))))), (m_pu, .inl (cL, 8, .inr (.inl (pp_w qa qb)))), (m_gv, .inl (cI, 4, .inl gg)), (y0, .inr (4, [.int th, .int (nI lm), .int sz, .int em, .int lt, .int sp, .int (nI np), .int fd, .int bg, .ref m_op, .ref m_nu, .ref m_gv, .ref m_sh, .ref m_he, .ref m_pu, .ref m_pc, .ref m_pl, .ref m_pb, .ref m_ps, .int pv, .int ev]))] := hD
            refine lv_iload_n hx hb d_Modl_does_446 rfl (lv_at hl 6 rfl) ?_
            refine lv_iconst (v := 3) hx hb d_Modl_does_447 (by decide) ?_
            refine lv_icmp_le (tgt := 457) hx hb d_Modl_does_448 (by decide) (fun c_57 => ?_) (fun c_57 => ?_)
            · exact absurd c_57 (by decide)
            · skip
              refine lv_iload_n hx hb d_Modl_does_451 rfl (lv_at hl 6 rfl) ?_
              refine lv_bipush (v := 7) hx hb d_Modl_does_452 (by decide) ?_
              refine lv_icmp_lt (tgt := 469) hx hb d_Modl_does_454 (by decide) (fun c_58 => ?_) (fun c_58 => ?_)
              · skip
                refine lv_iconst (v := 1) hx hb d_Modl_does_469 (by decide) ?_
                refine lv_goto (tgt := 474) hx hb d_Modl_does_470 (by decide) ?_
                refine lv_istore (lv' := [(11, .int 1), (9, .long (((rb 16) * (rb 17)) / 58659)), (7, .long (rb 17)), (5, .long (rb 16)), (4, .int 18), (0, .ref y0), (1, .int 1), (2, .int 6), (3, .int n0)]) hx hb d_Modl_does_474 hl (by decide) rfl (fun ls hl => ?_)
                refine lv_iload hx hb d_Modl_does_476 (lv_at hl 0 rfl) ?_
                refine lv_if_eq (tgt := 491) hx hb d_Modl_does_478 (by decide) (fun c_59 => ?_) (fun c_59 => ?_)
                · exact absurd c_59 (by decide)
                · skip
                  refine lv_aload_n hx hb d_Modl_does_481 rfl (lv_at hl 5 rfl) ?_
                  refine lv_iload_n hx hb d_Modl_does_482 rfl (lv_at hl 6 rfl) ?_
                  refine lv_lload hx hb d_Modl_does_483 (lv_at hl 1 rfl) ?_
                  refine af_i (wr := [(m_he, .inl (cL, 36, .inr (.inl (hh_w ra (vp_updL rb 16 (((rb 16) * (rb 17)) / 58659)))))), (m_pu, .inl (cL, 8, .inr (.inl (pp_w qa qb)))), (m_gv, .inl (cI, 4, .inl gg))]) (va_runV (As := [.int 1, .long (((rb 16) * (rb 17)) / 58659)]) (rest := []) ⟨hx, hb, hml, hown, htb⟩ (c_Modl_may1 l dC dI cI cL H.size y0 th lm sz em lt sp np fd bg m_op m_nu m_gv m_sh m_he m_pu m_pc m_pl m_pb m_ps pv ev (((rb 16) * (rb 17)) / 58659) ) ⟨callB_of 2 htb (gd_w tw_522) rfl rfl rfl (htb _ tw_25) (htb _ tw_519) (by decide +kernel) ⟨Nat.le_of_ble_eq_true rfl, Nat.le_of_ble_eq_true rfl⟩, htb _ tw_521, htb _ tw_17⟩ (pv_V hK (hP.sub (ws' := [(y0, .inr (4, [.int th, .int (nI lm), .int sz, .int em, .int lt, .int sp, .int (nI np), .int fd, .int bg, .ref m_op, .ref m_nu, .ref m_gv, .ref m_sh, .ref m_he, .ref m_pu, .ref m_pc, .ref m_pl, .ref m_pb, .ref m_ps, .int pv, .int ev]))]) [3] rfl) (hD.sub (ws' := [(y0, .inr (4, [.int th, .int (nI lm), .int sz, .int em, .int lt, .int sp, .int (nI np), .int fd, .int bg, .ref m_op, .ref m_nu, .ref m_gv, .ref m_sh, .ref m_he, .ref m_pu, .ref m_pc, .ref m_pl, .ref m_pb, .ref m_ps, .int pv, .int ev]))]) [3] (by decide) rfl) (ci := 4) (q0 := 0) rfl rfl) rfl rfl hl.1 rfl (lv_room (Nat.le_of_ble_eq_true rfl)) d_Modl_does_485 ⟨Nat.le_of_ble_eq_true rfl, Nat.le_of_ble_eq_true rfl⟩) hP hD hS hA [3] [0, 1, 2] rfl rfl (by decide) (by decide) (fun r_60 u_61 H locs hw hP hD hS => ?_)
                  try dsimp only at hw
                  subst hw
                  have hP : va_P (dC, dI) classes [(m_he, .inl (cL, 36, .inr (.inl (hh_w ra (vp_updL rb 16 (((rb 16) * (rb 17)) / 58659)))))), (m_pu, .inl (cL, 8, .inr (.inl (pp_w qa qb)))), (m_gv, .inl (cI, 4, .inl gg)), (y0, .inr (4, [.int th, .int (nI lm), .int sz, .int em, .int lt, .int sp, .int (nI np), .int fd, .int bg, .ref m_op, .ref m_nu, .ref m_gv, .ref m_sh, .ref m_he, .ref m_pu, .ref m_pc, .ref m_pl, .ref m_pb, .ref m_ps, .int pv, .int ev]))] H := hP
                  have hD : va_D A [(m_he, .inl (cL, 36, .inr (.inl (hh_w ra (vp_updL rb 16 (((rb 16) * (rb 17)) / 58659)))))), (m_pu, .inl (cL, 8, .inr (.inl (pp_w qa qb)))), (m_gv, .inl (cI, 4, .inl gg)), (y0, .inr (4, [.int th, .int (nI lm), .int sz, .int em, .int lt, .int sp, .int (nI np), .int fd, .int bg, .ref m_op, .ref m_nu, .ref m_gv, .ref m_sh, .ref m_he, .ref m_pu, .ref m_pc, .ref m_pl, .ref m_pb, .ref m_ps, .int pv, .int ev]))] := hD
                  refine lv_if_eq (tgt := 495) hx hb d_Modl_does_488 (by decide) (fun c_62 => ?_) (fun c_62 => ?_)
                  · have c_62 : (ma_w (-117318000000000) 117318000000000 (((rb 16) * (rb 17)) / 58659)) = 0 := c_62
                    refine lv_iconst (v := 0) hx hb d_Modl_does_495 (by decide) ?_
                    exact rt_z (v := 0) ((vp_updL rb 16 (((rb 16) * (rb 17)) / 58659)), qb, pv, ev) hx hb hr hlocks (by decide) (show (0 : Int32) = dz_w (de_w 58659 6 n0 gg rb qb pv).1 ∧ (vp_updL rb 16 (((rb 16) * (rb 17)) / 58659)) = (de_w 58659 6 n0 gg rb qb pv).2.1 ∧ qb = (de_w 58659 6 n0 gg rb qb pv).2.2.1 ∧ pv = (de_w 58659 6 n0 gg rb qb pv).2.2.2 ∧ ev = en_w (de_w 58659 6 n0 gg rb qb pv).1 ev from (by rw [de_6b (show ¬ (58659 : Int64) = 0 by decide) (pb_3 c_38 c_50 c_51) (im_1 (show ¬ (58659 : Int64) = 0 by decide) c_54)]; exact ⟨(dz_0 ((ma_tb1 (rb 16 * rb 17 / 58659)).mp c_62)).symm, rfl, rfl, rfl, en_0 (tb_n1 _ _)⟩)) (hP.sub (ws' := [(y0, .inr (4, [.int th, .int (nI lm), .int sz, .int em, .int lt, .int sp, .int (nI np), .int fd, .int bg, .ref m_op, .ref m_nu, .ref m_gv, .ref m_sh, .ref m_he, .ref m_pu, .ref m_pc, .ref m_pl, .ref m_pb, .ref m_ps, .int pv, .int ev])), (m_he, .inl (cL, 36, .inr (.inl (hh_w ra (vp_updL rb 16 (((rb 16) * (rb 17)) / 58659)))))), (m_pu, .inl (cL, 8, .inr (.inl (pp_w qa qb)))), (m_gv, .inl (cI, 4, .inl gg))]) [3, 0, 1, 2] rfl) (hD.sub (ws' := [(y0, .inr (4, [.int th, .int (nI lm), .int sz, .int em, .int lt, .int sp, .int (nI np), .int fd, .int bg, .ref m_op, .ref m_nu, .ref m_gv, .ref m_sh, .ref m_he, .ref m_pu, .ref m_pc, .ref m_pl, .ref m_pb, .ref m_ps, .int pv, .int ev])), (m_he, .inl (cL, 36, .inr (.inl (hh_w ra (vp_updL rb 16 (((rb 16) * (rb 17)) / 58659)))))), (m_pu, .inl (cL, 8, .inr (.inl (pp_w qa qb)))), (m_gv, .inl (cI, 4, .inl gg))]) [3, 0, 1, 2] (by decide) rfl) hS d_Modl_does_496
                  · have c_62 : ¬ (ma_w (-117318000000000) 117318000000000 (((rb 16) * (rb 17)) / 58659)) = 0 := c_62
                    refine lv_iconst (v := 1) hx hb d_Modl_does_491 (by decide) ?_
                    refine lv_goto (tgt := 496) hx hb d_Modl_does_492 (by decide) ?_
                    exact rt_z (v := 1) ((vp_updL rb 16 (((rb 16) * (rb 17)) / 58659)), qb, pv, ev) hx hb hr hlocks (by decide) (show (1 : Int32) = dz_w (de_w 58659 6 n0 gg rb qb pv).1 ∧ (vp_updL rb 16 (((rb 16) * (rb 17)) / 58659)) = (de_w 58659 6 n0 gg rb qb pv).2.1 ∧ qb = (de_w 58659 6 n0 gg rb qb pv).2.2.1 ∧ pv = (de_w 58659 6 n0 gg rb qb pv).2.2.2 ∧ ev = en_w (de_w 58659 6 n0 gg rb qb pv).1 ev from (by rw [de_6b (show ¬ (58659 : Int64) = 0 by decide) (pb_3 c_38 c_50 c_51) (im_1 (show ¬ (58659 : Int64) = 0 by decide) c_54)]; exact ⟨(dz_1 (fun h9 => c_62 ((ma_tb1 (rb 16 * rb 17 / 58659)).mpr h9))).symm, rfl, rfl, rfl, en_0 (tb_n1 _ _)⟩)) (hP.sub (ws' := [(y0, .inr (4, [.int th, .int (nI lm), .int sz, .int em, .int lt, .int sp, .int (nI np), .int fd, .int bg, .ref m_op, .ref m_nu, .ref m_gv, .ref m_sh, .ref m_he, .ref m_pu, .ref m_pc, .ref m_pl, .ref m_pb, .ref m_ps, .int pv, .int ev])), (m_he, .inl (cL, 36, .inr (.inl (hh_w ra (vp_updL rb 16 (((rb 16) * (rb 17)) / 58659)))))), (m_pu, .inl (cL, 8, .inr (.inl (pp_w qa qb)))), (m_gv, .inl (cI, 4, .inl gg))]) [3, 0, 1, 2] rfl) (hD.sub (ws' := [(y0, .inr (4, [.int th, .int (nI lm), .int sz, .int em, .int lt, .int sp, .int (nI np), .int fd, .int bg, .ref m_op, .ref m_nu, .ref m_gv, .ref m_sh, .ref m_he, .ref m_pu, .ref m_pc, .ref m_pl, .ref m_pb, .ref m_ps, .int pv, .int ev])), (m_he, .inl (cL, 36, .inr (.inl (hh_w ra (vp_updL rb 16 (((rb 16) * (rb 17)) / 58659)))))), (m_pu, .inl (cL, 8, .inr (.inl (pp_w qa qb)))), (m_gv, .inl (cI, 4, .inl gg))]) [3, 0, 1, 2] (by decide) rfl) hS d_Modl_does_496
              · exact absurd (by decide) c_58
          · have c_54 : ¬ (lg_cmp (((rb 16) * (rb 17)) - ((rb 16) * (rb 17)) / 58659 * 58659) 0) = 0 := c_54
            rw [lc_eq] at c_54
            refine lv_iconst (v := 0) hx hb d_Modl_does_242 (by decide) ?_
            exact rt_z (v := 0) (rb, qb, pv, ev) hx hb hr hlocks (by decide) (show (0 : Int32) = dz_w (de_w 58659 6 n0 gg rb qb pv).1 ∧ rb = (de_w 58659 6 n0 gg rb qb pv).2.1 ∧ qb = (de_w 58659 6 n0 gg rb qb pv).2.2.1 ∧ pv = (de_w 58659 6 n0 gg rb qb pv).2.2.2 ∧ ev = en_w (de_w 58659 6 n0 gg rb qb pv).1 ev from (by rw [de_6a (pb_3 c_38 c_50 c_51) (im_0 c_54)]; exact ⟨rfl, rfl, rfl, rfl, rfl⟩)) (hP.sub (ws' := [(y0, .inr (4, [.int th, .int (nI lm), .int sz, .int em, .int lt, .int sp, .int (nI np), .int fd, .int bg, .ref m_op, .ref m_nu, .ref m_gv, .ref m_sh, .ref m_he, .ref m_pu, .ref m_pc, .ref m_pl, .ref m_pb, .ref m_ps, .int pv, .int ev])), (m_he, .inl (cL, 36, .inr (.inl (hh_w ra rb)))), (m_pu, .inl (cL, 8, .inr (.inl (pp_w qa qb)))), (m_gv, .inl (cI, 4, .inl gg))]) [3, 0, 1, 2] rfl) (hD.sub (ws' := [(y0, .inr (4, [.int th, .int (nI lm), .int sz, .int em, .int lt, .int sp, .int (nI np), .int fd, .int bg, .ref m_op, .ref m_nu, .ref m_gv, .ref m_sh, .ref m_he, .ref m_pu, .ref m_pc, .ref m_pl, .ref m_pb, .ref m_ps, .int pv, .int ev])), (m_he, .inl (cL, 36, .inr (.inl (hh_w ra rb)))), (m_pu, .inl (cL, 8, .inr (.inl (pp_w qa qb)))), (m_gv, .inl (cI, 4, .inl gg))]) [3, 0, 1, 2] (by decide) rfl) hS d_Modl_does_243
        · have c_51 : (lg_cmp (rb 16) (-1)) = 0 := c_51
          rw [lc_eq] at c_51
          refine lv_lload hx hb d_Modl_does_218 (lv_at hl 1 rfl) ?_
          refine lv_ldc2 (v := (-9223372036854775808)) hx hb hown (htb _ tw_517) d_Modl_does_220 ?_
          refine W.lcmp hx hb d_Modl_does_223 ?_
          refine lv_if_ne (tgt := 229) hx hb d_Modl_does_224 (by decide) (fun c_63 => ?_) (fun c_63 => ?_)
          · have c_63 : ¬ (lg_cmp (rb 17) (-9223372036854775808)) = 0 := c_63
            rw [lc_eq] at c_63
            refine lv_lload hx hb d_Modl_does_229 (lv_at hl 0 rfl) ?_
            refine lv_aload_n hx hb d_Modl_does_231 rfl (lv_at hl 4 rfl) ?_
            refine lv_iload_n hx hb d_Modl_does_232 rfl (lv_at hl 5 rfl) ?_
            refine af_l (wr := [(m_he, .inl (cL, 36, .inr (.inl (hh_w ra rb)))), (m_pu, .inl (cL, 8, .inr (.inl (pp_w qa qb)))), (m_gv, .inl (cI, 4, .inl gg))]) (va_runV (As := [.int 1]) (rest := [.long ((rb 16) * (rb 17))]) ⟨hx, hb, hml, hown, htb⟩ (c_Modl_times1 l dC dI cI cL s.heap.size y0 th lm sz em lt sp np fd bg m_op m_nu m_gv m_sh m_he m_pu m_pc m_pl m_pb m_ps pv ev ) ⟨callB_of 1 htb (gd_w tw_514) rfl rfl rfl (htb _ tw_25) (htb _ tw_511) (by decide +kernel) ⟨Nat.le_of_ble_eq_true rfl, Nat.le_of_ble_eq_true rfl⟩, htb _ tw_513, htb _ tw_16⟩ (pv_V hK (hP.sub (ws' := [(y0, .inr (4, [.int th, .int (nI lm), .int sz, .int em, .int lt, .int sp, .int (nI np), .int fd, .int bg, .ref m_op, .ref m_nu, .ref m_gv, .ref m_sh, .ref m_he, .ref m_pu, .ref m_pc, .ref m_pl, .ref m_pb, .ref m_ps, .int pv, .int ev]))]) [0] rfl) (hD.sub (ws' := [(y0, .inr (4, [.int th, .int (nI lm), .int sz, .int em, .int lt, .int sp, .int (nI np), .int fd, .int bg, .ref m_op, .ref m_nu, .ref m_gv, .ref m_sh, .ref m_he, .ref m_pu, .ref m_pc, .ref m_pl, .ref m_pb, .ref m_ps, .int pv, .int ev]))]) [0] (by decide) rfl) (ci := 4) (q0 := 0) rfl rfl) rfl rfl hl.1 rfl (lv_room (Nat.le_of_ble_eq_true rfl)) d_Modl_does_233 ⟨Nat.le_of_ble_eq_true rfl, Nat.le_of_ble_eq_true rfl⟩) hP hD hS hA [0] [1, 2, 3] rfl rfl (by decide) (by decide) (fun r_64 u_65 H locs hw hP hD hS => ?_)
            try dsimp only at hw
            subst hw
            have hP : va_P (dC, dI) classes [(m_he, .inl (cL, 36, .inr (.inl (hh_w ra rb)))), (m_pu, .inl (cL, 8, .inr (.inl (pp_w qa qb)))), (m_gv, .inl (cI, 4, .inl gg)), (y0, .inr (4, [.int th, .int (nI lm), .int sz, .int em, .int lt, .int sp, .int (nI np), .int fd, .int bg, .ref m_op, .ref m_nu, .ref m_gv, .ref m_sh, .ref m_he, .ref m_pu, .ref m_pc, .ref m_pl, .ref m_pb, .ref m_ps, .int pv, .int ev]))] H := hP
            have hD : va_D A [(m_he, .inl (cL, 36, .inr (.inl (hh_w ra rb)))), (m_pu, .inl (cL, 8, .inr (.inl (pp_w qa qb)))), (m_gv, .inl (cI, 4, .inl gg)), (y0, .inr (4, [.int th, .int (nI lm), .int sz, .int em, .int lt, .int sp, .int (nI np), .int fd, .int bg, .ref m_op, .ref m_nu, .ref m_gv, .ref m_sh, .ref m_he, .ref m_pu, .ref m_pc, .ref m_pl, .ref m_pb, .ref m_ps, .int pv, .int ev]))] := hD
            refine lv_lrem hx hb d_Modl_does_236 (by decide) ?_
            refine lv_lconst (v := 0) hx hb d_Modl_does_237 (by decide) ?_
            refine W.lcmp hx hb d_Modl_does_238 ?_
            refine lv_if_eq (tgt := 244) hx hb d_Modl_does_239 (by decide) (fun c_66 => ?_) (fun c_66 => ?_)
            · have c_66 : (lg_cmp (((rb 16) * (rb 17)) - ((rb 16) * (rb 17)) / 58659 * 58659) 0) = 0 := c_66
              rw [lc_eq] at c_66
              refine lv_lload hx hb d_Modl_does_244 (lv_at hl 0 rfl) ?_
              refine lv_aload_n hx hb d_Modl_does_246 rfl (lv_at hl 4 rfl) ?_
              refine lv_iload_n hx hb d_Modl_does_247 rfl (lv_at hl 5 rfl) ?_
              refine af_l (wr := [(m_he, .inl (cL, 36, .inr (.inl (hh_w ra rb)))), (m_pu, .inl (cL, 8, .inr (.inl (pp_w qa qb)))), (m_gv, .inl (cI, 4, .inl gg))]) (va_runV (As := [.int 1]) (rest := [.long ((rb 16) * (rb 17))]) ⟨hx, hb, hml, hown, htb⟩ (c_Modl_times1 l dC dI cI cL H.size y0 th lm sz em lt sp np fd bg m_op m_nu m_gv m_sh m_he m_pu m_pc m_pl m_pb m_ps pv ev ) ⟨callB_of 1 htb (gd_w tw_514) rfl rfl rfl (htb _ tw_25) (htb _ tw_511) (by decide +kernel) ⟨Nat.le_of_ble_eq_true rfl, Nat.le_of_ble_eq_true rfl⟩, htb _ tw_513, htb _ tw_16⟩ (pv_V hK (hP.sub (ws' := [(y0, .inr (4, [.int th, .int (nI lm), .int sz, .int em, .int lt, .int sp, .int (nI np), .int fd, .int bg, .ref m_op, .ref m_nu, .ref m_gv, .ref m_sh, .ref m_he, .ref m_pu, .ref m_pc, .ref m_pl, .ref m_pb, .ref m_ps, .int pv, .int ev]))]) [3] rfl) (hD.sub (ws' := [(y0, .inr (4, [.int th, .int (nI lm), .int sz, .int em, .int lt, .int sp, .int (nI np), .int fd, .int bg, .ref m_op, .ref m_nu, .ref m_gv, .ref m_sh, .ref m_he, .ref m_pu, .ref m_pc, .ref m_pl, .ref m_pb, .ref m_ps, .int pv, .int ev]))]) [3] (by decide) rfl) (ci := 4) (q0 := 0) rfl rfl) rfl rfl hl.1 rfl (lv_room (Nat.le_of_ble_eq_true rfl)) d_Modl_does_248 ⟨Nat.le_of_ble_eq_true rfl, Nat.le_of_ble_eq_true rfl⟩) hP hD hS hA [3] [0, 1, 2] rfl rfl (by decide) (by decide) (fun r_67 u_68 H locs hw hP hD hS => ?_)
              try dsimp only at hw
              subst hw
              have hP : va_P (dC, dI) classes [(m_he, .inl (cL, 36, .inr (.inl (hh_w ra rb)))), (m_pu, .inl (cL, 8, .inr (.inl (pp_w qa qb)))), (m_gv, .inl (cI, 4, .inl gg)), (y0, .inr (4, [.int th, .int (nI lm), .int sz, .int em, .int lt, .int sp, .int (nI np), .int fd, .int bg, .ref m_op, .ref m_nu, .ref m_gv, .ref m_sh, .ref m_he, .ref m_pu, .ref m_pc, .ref m_pl, .ref m_pb, .ref m_ps, .int pv, .int ev]))] H := hP
              have hD : va_D A [(m_he, .inl (cL, 36, .inr (.inl (hh_w ra rb)))), (m_pu, .inl (cL, 8, .inr (.inl (pp_w qa qb)))), (m_gv, .inl (cI, 4, .inl gg)), (y0, .inr (4, [.int th, .int (nI lm), .int sz, .int em, .int lt, .int sp, .int (nI np), .int fd, .int bg, .ref m_op, .ref m_nu, .ref m_gv, .ref m_sh, .ref m_he, .ref m_pu, .ref m_pc, .ref m_pl, .ref m_pb, .ref m_ps, .int pv, .int ev]))] := hD
              refine lv_ldiv hx hb d_Modl_does_251 (by decide) ?_
              refine lv_lstore (lv' := [(9, .long (((rb 16) * (rb 17)) / 58659)), (7, .long (rb 17)), (5, .long (rb 16)), (4, .int 18), (0, .ref y0), (1, .int 1), (2, .int 6), (3, .int n0)]) hx hb d_Modl_does_252 hl (by decide) rfl (fun ls hl => ?_)
              refine lv_goto (tgt := 434) hx hb d_Modl_does_254 (by decide) ?_
              refine lv_aload_n hx hb d_Modl_does_434 rfl (lv_at hl 4 rfl) ?_
              refine va_get (D := (dC, dI)) (ci := 4) (v := .ref m_he) (C := R_Modl) (T := F_Modl) (N := 21) hx hb htb iw_Modl hown hK.1 hP 3 rfl rfl 13 (by decide) (htb _ tw_428) (fun _ h9 => h9) rfl d_Modl_does_435 ?_
              refine lv_iload hx hb d_Modl_does_438 (lv_at hl 3 rfl) ?_
              refine lv_bipush (v := 16) hx hb d_Modl_does_440 (by decide) ?_
              refine lv_iadd hx hb d_Modl_does_442 ?_
              refine W.eq (g2 := F0 m 443 ls [.int 34, .ref m_he]) rfl ?_
              refine lv_lload hx hb d_Modl_does_443 (lv_at hl 0 rfl) ?_
              refine sd_l (g := hh_w ra (vp_updL rb 16 (((rb 16) * (rb 17)) / 58659))) (cA := cL) hx hb hK.1 hP hD hS 0 1 rfl rfl (show ¬ (_ ∨ _) by decide) (hh_k1 (k := 16)) d_Modl_does_445 (fun H locs hP hD hS => ?_)
              have hP : va_P (dC, dI) classes [(m_he, .inl (cL, 36, .inr (.inl (hh_w ra (vp_updL rb 16 (((rb 16) * (rb 17)) / 58659)))))), (m_pu, .inl (cL, 8, .inr (.inl (pp_w qa qb)))), (m_gv, .inl (cI, 4, .inl gg)), (y0, .inr (4, [.int th, .int (nI lm), .int sz, .int em, .int lt, .int sp, .int (nI np), .int fd, .int bg, .ref m_op, .ref m_nu, .ref m_gv, .ref m_sh, .ref m_he, .ref m_pu, .ref m_pc, .ref m_pl, .ref m_pb, .ref m_ps, .int pv, .int ev]))] H := hP
              have hD : va_D A [(m_he, .inl (cL, 36, .inr (.inl (hh_w ra (vp_updL rb 16 (((rb 16) * (rb 17)) / 58659)))))), (m_pu, .inl (cL, 8, .inr (.inl (pp_w qa qb)))), (m_gv, .inl (cI, 4, .inl gg)), (y0, .inr (4, [.int th, .int (nI lm), .int sz, .int em, .int lt, .int sp, .int (nI np), .int fd, .int bg, .ref m_op, .ref m_nu, .ref m_gv, .ref m_sh, .ref m_he, .ref m_pu, .ref m_pc, .ref m_pl, .ref m_pb, .ref m_ps, .int pv, .int ev]))] := hD
              refine lv_iload_n hx hb d_Modl_does_446 rfl (lv_at hl 6 rfl) ?_
              refine lv_iconst (v := 3) hx hb d_Modl_does_447 (by decide) ?_
              refine lv_icmp_le (tgt := 457) hx hb d_Modl_does_448 (by decide) (fun c_69 => ?_) (fun c_69 => ?_)
              · exact absurd c_69 (by decide)
              · skip
                refine lv_iload_n hx hb d_Modl_does_451 rfl (lv_at hl 6 rfl) ?_
                refine lv_bipush (v := 7) hx hb d_Modl_does_452 (by decide) ?_
                refine lv_icmp_lt (tgt := 469) hx hb d_Modl_does_454 (by decide) (fun c_70 => ?_) (fun c_70 => ?_)
                · skip
                  refine lv_iconst (v := 1) hx hb d_Modl_does_469 (by decide) ?_
                  refine lv_goto (tgt := 474) hx hb d_Modl_does_470 (by decide) ?_
                  refine lv_istore (lv' := [(11, .int 1), (9, .long (((rb 16) * (rb 17)) / 58659)), (7, .long (rb 17)), (5, .long (rb 16)), (4, .int 18), (0, .ref y0), (1, .int 1), (2, .int 6), (3, .int n0)]) hx hb d_Modl_does_474 hl (by decide) rfl (fun ls hl => ?_)
                  refine lv_iload hx hb d_Modl_does_476 (lv_at hl 0 rfl) ?_
                  refine lv_if_eq (tgt := 491) hx hb d_Modl_does_478 (by decide) (fun c_71 => ?_) (fun c_71 => ?_)
                  · exact absurd c_71 (by decide)
                  · skip
                    refine lv_aload_n hx hb d_Modl_does_481 rfl (lv_at hl 5 rfl) ?_
                    refine lv_iload_n hx hb d_Modl_does_482 rfl (lv_at hl 6 rfl) ?_
                    refine lv_lload hx hb d_Modl_does_483 (lv_at hl 1 rfl) ?_
                    refine af_i (wr := [(m_he, .inl (cL, 36, .inr (.inl (hh_w ra (vp_updL rb 16 (((rb 16) * (rb 17)) / 58659)))))), (m_pu, .inl (cL, 8, .inr (.inl (pp_w qa qb)))), (m_gv, .inl (cI, 4, .inl gg))]) (va_runV (As := [.int 1, .long (((rb 16) * (rb 17)) / 58659)]) (rest := []) ⟨hx, hb, hml, hown, htb⟩ (c_Modl_may1 l dC dI cI cL H.size y0 th lm sz em lt sp np fd bg m_op m_nu m_gv m_sh m_he m_pu m_pc m_pl m_pb m_ps pv ev (((rb 16) * (rb 17)) / 58659) ) ⟨callB_of 2 htb (gd_w tw_522) rfl rfl rfl (htb _ tw_25) (htb _ tw_519) (by decide +kernel) ⟨Nat.le_of_ble_eq_true rfl, Nat.le_of_ble_eq_true rfl⟩, htb _ tw_521, htb _ tw_17⟩ (pv_V hK (hP.sub (ws' := [(y0, .inr (4, [.int th, .int (nI lm), .int sz, .int em, .int lt, .int sp, .int (nI np), .int fd, .int bg, .ref m_op, .ref m_nu, .ref m_gv, .ref m_sh, .ref m_he, .ref m_pu, .ref m_pc, .ref m_pl, .ref m_pb, .ref m_ps, .int pv, .int ev]))]) [3] rfl) (hD.sub (ws' := [(y0, .inr (4, [.int th, .int (nI lm), .int sz, .int em, .int lt, .int sp, .int (nI np), .int fd, .int bg, .ref m_op, .ref m_nu, .ref m_gv, .ref m_sh, .ref m_he, .ref m_pu, .ref m_pc, .ref m_pl, .ref m_pb, .ref m_ps, .int pv, .int ev]))]) [3] (by decide) rfl) (ci := 4) (q0 := 0) rfl rfl) rfl rfl hl.1 rfl (lv_room (Nat.le_of_ble_eq_true rfl)) d_Modl_does_485 ⟨Nat.le_of_ble_eq_true rfl, Nat.le_of_ble_eq_true rfl⟩) hP hD hS hA [3] [0, 1, 2] rfl rfl (by decide) (by decide) (fun r_72 u_73 H locs hw hP hD hS => ?_)
                    try dsimp only at hw
                    subst hw
                    have hP : va_P (dC, dI) classes [(m_he, .inl (cL, 36, .inr (.inl (hh_w ra (vp_updL rb 16 (((rb 16) * (rb 17)) / 58659)))))), (m_pu, .inl (cL, 8, .inr (.inl (pp_w qa qb)))), (m_gv, .inl (cI, 4, .inl gg)), (y0, .inr (4, [.int th, .int (nI lm), .int sz, .int em, .int lt, .int sp, .int (nI np), .int fd, .int bg, .ref m_op, .ref m_nu, .ref m_gv, .ref m_sh, .ref m_he, .ref m_pu, .ref m_pc, .ref m_pl, .ref m_pb, .ref m_ps, .int pv, .int ev]))] H := hP
                    have hD : va_D A [(m_he, .inl (cL, 36, .inr (.inl (hh_w ra (vp_updL rb 16 (((rb 16) * (rb 17)) / 58659)))))), (m_pu, .inl (cL, 8, .inr (.inl (pp_w qa qb)))), (m_gv, .inl (cI, 4, .inl gg)), (y0, .inr (4, [.int th, .int (nI lm), .int sz, .int em, .int lt, .int sp, .int (nI np), .int fd, .int bg, .ref m_op, .ref m_nu, .ref m_gv, .ref m_sh, .ref m_he, .ref m_pu, .ref m_pc, .ref m_pl, .ref m_pb, .ref m_ps, .int pv, .int ev]))] := hD
                    refine lv_if_eq (tgt := 495) hx hb d_Modl_does_488 (by decide) (fun c_74 => ?_) (fun c_74 => ?_)
                    · have c_74 : (ma_w (-117318000000000) 117318000000000 (((rb 16) * (rb 17)) / 58659)) = 0 := c_74
                      refine lv_iconst (v := 0) hx hb d_Modl_does_495 (by decide) ?_
                      exact rt_z (v := 0) ((vp_updL rb 16 (((rb 16) * (rb 17)) / 58659)), qb, pv, ev) hx hb hr hlocks (by decide) (show (0 : Int32) = dz_w (de_w 58659 6 n0 gg rb qb pv).1 ∧ (vp_updL rb 16 (((rb 16) * (rb 17)) / 58659)) = (de_w 58659 6 n0 gg rb qb pv).2.1 ∧ qb = (de_w 58659 6 n0 gg rb qb pv).2.2.1 ∧ pv = (de_w 58659 6 n0 gg rb qb pv).2.2.2 ∧ ev = en_w (de_w 58659 6 n0 gg rb qb pv).1 ev from (by rw [de_6b (show ¬ (58659 : Int64) = 0 by decide) (pb_5 c_38 c_51 c_63) (im_1 (show ¬ (58659 : Int64) = 0 by decide) c_66)]; exact ⟨(dz_0 ((ma_tb1 (rb 16 * rb 17 / 58659)).mp c_74)).symm, rfl, rfl, rfl, en_0 (tb_n1 _ _)⟩)) (hP.sub (ws' := [(y0, .inr (4, [.int th, .int (nI lm), .int sz, .int em, .int lt, .int sp, .int (nI np), .int fd, .int bg, .ref m_op, .ref m_nu, .ref m_gv, .ref m_sh, .ref m_he, .ref m_pu, .ref m_pc, .ref m_pl, .ref m_pb, .ref m_ps, .int pv, .int ev])), (m_he, .inl (cL, 36, .inr (.inl (hh_w ra (vp_updL rb 16 (((rb 16) * (rb 17)) / 58659)))))), (m_pu, .inl (cL, 8, .inr (.inl (pp_w qa qb)))), (m_gv, .inl (cI, 4, .inl gg))]) [3, 0, 1, 2] rfl) (hD.sub (ws' := [(y0, .inr (4, [.int th, .int (nI lm), .int sz, .int em, .int lt, .int sp, .int (nI np), .int fd, .int bg, .ref m_op, .ref m_nu, .ref m_gv, .ref m_sh, .ref m_he, .ref m_pu, .ref m_pc, .ref m_pl, .ref m_pb, .ref m_ps, .int pv, .int ev])), (m_he, .inl (cL, 36, .inr (.inl (hh_w ra (vp_updL rb 16 (((rb 16) * (rb 17)) / 58659)))))), (m_pu, .inl (cL, 8, .inr (.inl (pp_w qa qb)))), (m_gv, .inl (cI, 4, .inl gg))]) [3, 0, 1, 2] (by decide) rfl) hS d_Modl_does_496
                    · have c_74 : ¬ (ma_w (-117318000000000) 117318000000000 (((rb 16) * (rb 17)) / 58659)) = 0 := c_74
                      refine lv_iconst (v := 1) hx hb d_Modl_does_491 (by decide) ?_
                      refine lv_goto (tgt := 496) hx hb d_Modl_does_492 (by decide) ?_
                      exact rt_z (v := 1) ((vp_updL rb 16 (((rb 16) * (rb 17)) / 58659)), qb, pv, ev) hx hb hr hlocks (by decide) (show (1 : Int32) = dz_w (de_w 58659 6 n0 gg rb qb pv).1 ∧ (vp_updL rb 16 (((rb 16) * (rb 17)) / 58659)) = (de_w 58659 6 n0 gg rb qb pv).2.1 ∧ qb = (de_w 58659 6 n0 gg rb qb pv).2.2.1 ∧ pv = (de_w 58659 6 n0 gg rb qb pv).2.2.2 ∧ ev = en_w (de_w 58659 6 n0 gg rb qb pv).1 ev from (by rw [de_6b (show ¬ (58659 : Int64) = 0 by decide) (pb_5 c_38 c_51 c_63) (im_1 (show ¬ (58659 : Int64) = 0 by decide) c_66)]; exact ⟨(dz_1 (fun h9 => c_74 ((ma_tb1 (rb 16 * rb 17 / 58659)).mpr h9))).symm, rfl, rfl, rfl, en_0 (tb_n1 _ _)⟩)) (hP.sub (ws' := [(y0, .inr (4, [.int th, .int (nI lm), .int sz, .int em, .int lt, .int sp, .int (nI np), .int fd, .int bg, .ref m_op, .ref m_nu, .ref m_gv, .ref m_sh, .ref m_he, .ref m_pu, .ref m_pc, .ref m_pl, .ref m_pb, .ref m_ps, .int pv, .int ev])), (m_he, .inl (cL, 36, .inr (.inl (hh_w ra (vp_updL rb 16 (((rb 16) * (rb 17)) / 58659)))))), (m_pu, .inl (cL, 8, .inr (.inl (pp_w qa qb)))), (m_gv, .inl (cI, 4, .inl gg))]) [3, 0, 1, 2] rfl) (hD.sub (ws' := [(y0, .inr (4, [.int th, .int (nI lm), .int sz, .int em, .int lt, .int sp, .int (nI np), .int fd, .int bg, .ref m_op, .ref m_nu, .ref m_gv, .ref m_sh, .ref m_he, .ref m_pu, .ref m_pc, .ref m_pl, .ref m_pb, .ref m_ps, .int pv, .int ev])), (m_he, .inl (cL, 36, .inr (.inl (hh_w ra (vp_updL rb 16 (((rb 16) * (rb 17)) / 58659)))))), (m_pu, .inl (cL, 8, .inr (.inl (pp_w qa qb)))), (m_gv, .inl (cI, 4, .inl gg))]) [3, 0, 1, 2] (by decide) rfl) hS d_Modl_does_496
                · exact absurd (by decide) c_70
            · have c_66 : ¬ (lg_cmp (((rb 16) * (rb 17)) - ((rb 16) * (rb 17)) / 58659 * 58659) 0) = 0 := c_66
              rw [lc_eq] at c_66
              refine lv_iconst (v := 0) hx hb d_Modl_does_242 (by decide) ?_
              exact rt_z (v := 0) (rb, qb, pv, ev) hx hb hr hlocks (by decide) (show (0 : Int32) = dz_w (de_w 58659 6 n0 gg rb qb pv).1 ∧ rb = (de_w 58659 6 n0 gg rb qb pv).2.1 ∧ qb = (de_w 58659 6 n0 gg rb qb pv).2.2.1 ∧ pv = (de_w 58659 6 n0 gg rb qb pv).2.2.2 ∧ ev = en_w (de_w 58659 6 n0 gg rb qb pv).1 ev from (by rw [de_6a (pb_5 c_38 c_51 c_63) (im_0 c_66)]; exact ⟨rfl, rfl, rfl, rfl, rfl⟩)) (hP.sub (ws' := [(y0, .inr (4, [.int th, .int (nI lm), .int sz, .int em, .int lt, .int sp, .int (nI np), .int fd, .int bg, .ref m_op, .ref m_nu, .ref m_gv, .ref m_sh, .ref m_he, .ref m_pu, .ref m_pc, .ref m_pl, .ref m_pb, .ref m_ps, .int pv, .int ev])), (m_he, .inl (cL, 36, .inr (.inl (hh_w ra rb)))), (m_pu, .inl (cL, 8, .inr (.inl (pp_w qa qb)))), (m_gv, .inl (cI, 4, .inl gg))]) [3, 0, 1, 2] rfl) (hD.sub (ws' := [(y0, .inr (4, [.int th, .int (nI lm), .int sz, .int em, .int lt, .int sp, .int (nI np), .int fd, .int bg, .ref m_op, .ref m_nu, .ref m_gv, .ref m_sh, .ref m_he, .ref m_pu, .ref m_pc, .ref m_pl, .ref m_pb, .ref m_ps, .int pv, .int ev])), (m_he, .inl (cL, 36, .inr (.inl (hh_w ra rb)))), (m_pu, .inl (cL, 8, .inr (.inl (pp_w qa qb)))), (m_gv, .inl (cI, 4, .inl gg))]) [3, 0, 1, 2] (by decide) rfl) hS d_Modl_does_243
          · have c_63 : (lg_cmp (rb 17) (-9223372036854775808)) = 0 := c_63
            rw [lc_eq] at c_63
            refine lv_iconst (v := 0) hx hb d_Modl_does_227 (by decide) ?_
            exact rt_z (v := 0) (rb, qb, pv, ev) hx hb hr hlocks (by decide) (show (0 : Int32) = dz_w (de_w 58659 6 n0 gg rb qb pv).1 ∧ rb = (de_w 58659 6 n0 gg rb qb pv).2.1 ∧ qb = (de_w 58659 6 n0 gg rb qb pv).2.2.1 ∧ pv = (de_w 58659 6 n0 gg rb qb pv).2.2.2 ∧ ev = en_w (de_w 58659 6 n0 gg rb qb pv).1 ev from (by rw [de_6c (pb_4 c_51 c_63)]; exact ⟨rfl, rfl, rfl, rfl, rfl⟩)) (hP.sub (ws' := [(y0, .inr (4, [.int th, .int (nI lm), .int sz, .int em, .int lt, .int sp, .int (nI np), .int fd, .int bg, .ref m_op, .ref m_nu, .ref m_gv, .ref m_sh, .ref m_he, .ref m_pu, .ref m_pc, .ref m_pl, .ref m_pb, .ref m_ps, .int pv, .int ev])), (m_he, .inl (cL, 36, .inr (.inl (hh_w ra rb)))), (m_pu, .inl (cL, 8, .inr (.inl (pp_w qa qb)))), (m_gv, .inl (cI, 4, .inl gg))]) [0, 1, 2, 3] rfl) (hD.sub (ws' := [(y0, .inr (4, [.int th, .int (nI lm), .int sz, .int em, .int lt, .int sp, .int (nI np), .int fd, .int bg, .ref m_op, .ref m_nu, .ref m_gv, .ref m_sh, .ref m_he, .ref m_pu, .ref m_pc, .ref m_pl, .ref m_pb, .ref m_ps, .int pv, .int ev])), (m_he, .inl (cL, 36, .inr (.inl (hh_w ra rb)))), (m_pu, .inl (cL, 8, .inr (.inl (pp_w qa qb)))), (m_gv, .inl (cI, 4, .inl gg))]) [0, 1, 2, 3] (by decide) rfl) hS d_Modl_does_228
  by_cases c_75 : o0 = 7
  · refine lv_tableIn (tgt := 257) hx hb d_Modl_does_35 (by rw [c_75]; decide) (by rw [c_75]; decide) (by rw [c_75]; rfl) (by decide) ?_
    subst c_75
    refine lv_lload hx hb d_Modl_does_257 (lv_at hl 2 rfl) ?_
    refine lv_lload hx hb d_Modl_does_259 (lv_at hl 1 rfl) ?_
    refine W.lcmp hx hb d_Modl_does_261 ?_
    refine lv_if_ge (tgt := 273) hx hb d_Modl_does_262 (by decide) (fun c_76 => ?_) (fun c_76 => ?_)
    · have c_76 : 0 ≤ (lg_cmp (rb 16) (rb 17)) := c_76
      rw [lc_ge] at c_76
      refine lv_lconst (v := 0) hx hb d_Modl_does_273 (by decide) ?_
      refine lv_lstore (lv' := [(9, .long 0), (7, .long (rb 17)), (5, .long (rb 16)), (4, .int 18), (0, .ref y0), (1, .int 1), (2, .int 7), (3, .int n0)]) hx hb d_Modl_does_274 hl (by decide) rfl (fun ls hl => ?_)
      refine lv_goto (tgt := 434) hx hb d_Modl_does_276 (by decide) ?_
      refine lv_aload_n hx hb d_Modl_does_434 rfl (lv_at hl 4 rfl) ?_
      refine va_get (D := (dC, dI)) (ci := 4) (v := .ref m_he) (C := R_Modl) (T := F_Modl) (N := 21) hx hb htb iw_Modl hown hK.1 hP 0 rfl rfl 13 (by decide) (htb _ tw_428) (fun _ h9 => h9) rfl d_Modl_does_435 ?_
      refine lv_iload hx hb d_Modl_does_438 (lv_at hl 3 rfl) ?_
      refine lv_bipush (v := 16) hx hb d_Modl_does_440 (by decide) ?_
      refine lv_iadd hx hb d_Modl_does_442 ?_
      refine W.eq (g2 := F0 m 443 ls [.int 34, .ref m_he]) rfl ?_
      refine lv_lload hx hb d_Modl_does_443 (lv_at hl 0 rfl) ?_
      refine sd_l (g := hh_w ra (vp_updL rb 16 0)) (cA := cL) hx hb hK.1 hP hD hS 1 1 rfl rfl (show ¬ (_ ∨ _) by decide) (hh_k1 (k := 16)) d_Modl_does_445 (fun H locs hP hD hS => ?_)
      have hP : va_P (dC, dI) classes [(y0, .inr (4, [.int th, .int (nI lm), .int sz, .int em, .int lt, .int sp, .int (nI np), .int fd, .int bg, .ref m_op, .ref m_nu, .ref m_gv, .ref m_sh, .ref m_he, .ref m_pu, .ref m_pc, .ref m_pl, .ref m_pb, .ref m_ps, .int pv, .int ev])), (m_he, .inl (cL, 36, .inr (.inl (hh_w ra (vp_updL rb 16 0))))), (m_pu, .inl (cL, 8, .inr (.inl (pp_w qa qb)))), (m_gv, .inl (cI, 4, .inl gg))] H := hP
      have hD : va_D A [(y0, .inr (4, [.int th, .int (nI lm), .int sz, .int em, .int lt, .int sp, .int (nI np), .int fd, .int bg, .ref m_op, .ref m_nu, .ref m_gv, .ref m_sh, .ref m_he, .ref m_pu, .ref m_pc, .ref m_pl, .ref m_pb, .ref m_ps, .int pv, .int ev])), (m_he, .inl (cL, 36, .inr (.inl (hh_w ra (vp_updL rb 16 0))))), (m_pu, .inl (cL, 8, .inr (.inl (pp_w qa qb)))), (m_gv, .inl (cI, 4, .inl gg))] := hD
      refine lv_iload_n hx hb d_Modl_does_446 rfl (lv_at hl 6 rfl) ?_
      refine lv_iconst (v := 3) hx hb d_Modl_does_447 (by decide) ?_
      refine lv_icmp_le (tgt := 457) hx hb d_Modl_does_448 (by decide) (fun c_77 => ?_) (fun c_77 => ?_)
      · exact absurd c_77 (by decide)
      · skip
        refine lv_iload_n hx hb d_Modl_does_451 rfl (lv_at hl 6 rfl) ?_
        refine lv_bipush (v := 7) hx hb d_Modl_does_452 (by decide) ?_
        refine lv_icmp_lt (tgt := 469) hx hb d_Modl_does_454 (by decide) (fun c_78 => ?_) (fun c_78 => ?_)
        · exact absurd c_78 (by decide)
        · skip
          refine lv_iload_n hx hb d_Modl_does_457 rfl (lv_at hl 6 rfl) ?_
          refine lv_bipush (v := 9) hx hb d_Modl_does_458 (by decide) ?_
          refine lv_icmp_eq (tgt := 469) hx hb d_Modl_does_460 (by decide) (fun c_79 => ?_) (fun c_79 => ?_)
          · exact absurd c_79 (by decide)
          · skip
            refine lv_iload_n hx hb d_Modl_does_463 rfl (lv_at hl 6 rfl) ?_
            refine lv_bipush (v := 12) hx hb d_Modl_does_464 (by decide) ?_
            refine lv_icmp_ne (tgt := 473) hx hb d_Modl_does_466 (by decide) (fun c_80 => ?_) (fun c_80 => ?_)
            · skip
              refine lv_iconst (v := 0) hx hb d_Modl_does_473 (by decide) ?_
              refine lv_istore (lv' := [(11, .int 0), (9, .long 0), (7, .long (rb 17)), (5, .long (rb 16)), (4, .int 18), (0, .ref y0), (1, .int 1), (2, .int 7), (3, .int n0)]) hx hb d_Modl_does_474 hl (by decide) rfl (fun ls hl => ?_)
              refine lv_iload hx hb d_Modl_does_476 (lv_at hl 0 rfl) ?_
              refine lv_if_eq (tgt := 491) hx hb d_Modl_does_478 (by decide) (fun c_81 => ?_) (fun c_81 => ?_)
              · skip
                refine lv_iconst (v := 1) hx hb d_Modl_does_491 (by decide) ?_
                refine lv_goto (tgt := 496) hx hb d_Modl_does_492 (by decide) ?_
                exact rt_z (v := 1) ((vp_updL rb 16 0), qb, pv, ev) hx hb hr hlocks (by decide) (show (1 : Int32) = dz_w (de_w 58659 7 n0 gg rb qb pv).1 ∧ (vp_updL rb 16 0) = (de_w 58659 7 n0 gg rb qb pv).2.1 ∧ qb = (de_w 58659 7 n0 gg rb qb pv).2.2.1 ∧ pv = (de_w 58659 7 n0 gg rb qb pv).2.2.2 ∧ ev = en_w (de_w 58659 7 n0 gg rb qb pv).1 ev from (by rw [de_7n c_76]; exact ⟨rfl, rfl, rfl, rfl, rfl⟩)) (hP.sub (ws' := [(y0, .inr (4, [.int th, .int (nI lm), .int sz, .int em, .int lt, .int sp, .int (nI np), .int fd, .int bg, .ref m_op, .ref m_nu, .ref m_gv, .ref m_sh, .ref m_he, .ref m_pu, .ref m_pc, .ref m_pl, .ref m_pb, .ref m_ps, .int pv, .int ev])), (m_he, .inl (cL, 36, .inr (.inl (hh_w ra (vp_updL rb 16 0))))), (m_pu, .inl (cL, 8, .inr (.inl (pp_w qa qb)))), (m_gv, .inl (cI, 4, .inl gg))]) [0, 1, 2, 3] rfl) (hD.sub (ws' := [(y0, .inr (4, [.int th, .int (nI lm), .int sz, .int em, .int lt, .int sp, .int (nI np), .int fd, .int bg, .ref m_op, .ref m_nu, .ref m_gv, .ref m_sh, .ref m_he, .ref m_pu, .ref m_pc, .ref m_pl, .ref m_pb, .ref m_ps, .int pv, .int ev])), (m_he, .inl (cL, 36, .inr (.inl (hh_w ra (vp_updL rb 16 0))))), (m_pu, .inl (cL, 8, .inr (.inl (pp_w qa qb)))), (m_gv, .inl (cI, 4, .inl gg))]) [0, 1, 2, 3] (by decide) rfl) hS d_Modl_does_496
              · exact absurd (by decide) c_81
            · exact absurd c_80 (by decide)
    · have c_76 : ¬ 0 ≤ (lg_cmp (rb 16) (rb 17)) := c_76
      rw [lc_ge, Decidable.not_not] at c_76
      refine lv_aload_n hx hb d_Modl_does_265 rfl (lv_at hl 4 rfl) ?_
      refine lv_iload_n hx hb d_Modl_does_266 rfl (lv_at hl 5 rfl) ?_
      refine af_l (wr := [(m_he, .inl (cL, 36, .inr (.inl (hh_w ra rb)))), (m_pu, .inl (cL, 8, .inr (.inl (pp_w qa qb)))), (m_gv, .inl (cI, 4, .inl gg))]) (va_runV (As := [.int 1]) (rest := []) ⟨hx, hb, hml, hown, htb⟩ (c_Modl_times1 l dC dI cI cL s.heap.size y0 th lm sz em lt sp np fd bg m_op m_nu m_gv m_sh m_he m_pu m_pc m_pl m_pb m_ps pv ev ) ⟨callB_of 1 htb (gd_w tw_514) rfl rfl rfl (htb _ tw_25) (htb _ tw_511) (by decide +kernel) ⟨Nat.le_of_ble_eq_true rfl, Nat.le_of_ble_eq_true rfl⟩, htb _ tw_513, htb _ tw_16⟩ (pv_V hK (hP.sub (ws' := [(y0, .inr (4, [.int th, .int (nI lm), .int sz, .int em, .int lt, .int sp, .int (nI np), .int fd, .int bg, .ref m_op, .ref m_nu, .ref m_gv, .ref m_sh, .ref m_he, .ref m_pu, .ref m_pc, .ref m_pl, .ref m_pb, .ref m_ps, .int pv, .int ev]))]) [0] rfl) (hD.sub (ws' := [(y0, .inr (4, [.int th, .int (nI lm), .int sz, .int em, .int lt, .int sp, .int (nI np), .int fd, .int bg, .ref m_op, .ref m_nu, .ref m_gv, .ref m_sh, .ref m_he, .ref m_pu, .ref m_pc, .ref m_pl, .ref m_pb, .ref m_ps, .int pv, .int ev]))]) [0] (by decide) rfl) (ci := 4) (q0 := 0) rfl rfl) rfl rfl hl.1 rfl (lv_room (Nat.le_of_ble_eq_true rfl)) d_Modl_does_267 ⟨Nat.le_of_ble_eq_true rfl, Nat.le_of_ble_eq_true rfl⟩) hP hD hS hA [0] [1, 2, 3] rfl rfl (by decide) (by decide) (fun r_82 u_83 H locs hw hP hD hS => ?_)
      try dsimp only at hw
      subst hw
      have hP : va_P (dC, dI) classes [(m_he, .inl (cL, 36, .inr (.inl (hh_w ra rb)))), (m_pu, .inl (cL, 8, .inr (.inl (pp_w qa qb)))), (m_gv, .inl (cI, 4, .inl gg)), (y0, .inr (4, [.int th, .int (nI lm), .int sz, .int em, .int lt, .int sp, .int (nI np), .int fd, .int bg, .ref m_op, .ref m_nu, .ref m_gv, .ref m_sh, .ref m_he, .ref m_pu, .ref m_pc, .ref m_pl, .ref m_pb, .ref m_ps, .int pv, .int ev]))] H := hP
      have hD : va_D A [(m_he, .inl (cL, 36, .inr (.inl (hh_w ra rb)))), (m_pu, .inl (cL, 8, .inr (.inl (pp_w qa qb)))), (m_gv, .inl (cI, 4, .inl gg)), (y0, .inr (4, [.int th, .int (nI lm), .int sz, .int em, .int lt, .int sp, .int (nI np), .int fd, .int bg, .ref m_op, .ref m_nu, .ref m_gv, .ref m_sh, .ref m_he, .ref m_pu, .ref m_pc, .ref m_pl, .ref m_pb, .ref m_ps, .int pv, .int ev]))] := hD
      refine lv_goto (tgt := 274) hx hb d_Modl_does_270 (by decide) ?_
      refine lv_lstore (lv' := [(9, .long 58659), (7, .long (rb 17)), (5, .long (rb 16)), (4, .int 18), (0, .ref y0), (1, .int 1), (2, .int 7), (3, .int n0)]) hx hb d_Modl_does_274 hl (by decide) rfl (fun ls hl => ?_)
      refine lv_goto (tgt := 434) hx hb d_Modl_does_276 (by decide) ?_
      refine lv_aload_n hx hb d_Modl_does_434 rfl (lv_at hl 4 rfl) ?_
      refine va_get (D := (dC, dI)) (ci := 4) (v := .ref m_he) (C := R_Modl) (T := F_Modl) (N := 21) hx hb htb iw_Modl hown hK.1 hP 3 rfl rfl 13 (by decide) (htb _ tw_428) (fun _ h9 => h9) rfl d_Modl_does_435 ?_
      refine lv_iload hx hb d_Modl_does_438 (lv_at hl 3 rfl) ?_
      refine lv_bipush (v := 16) hx hb d_Modl_does_440 (by decide) ?_
      refine lv_iadd hx hb d_Modl_does_442 ?_
      refine W.eq (g2 := F0 m 443 ls [.int 34, .ref m_he]) rfl ?_
      refine lv_lload hx hb d_Modl_does_443 (lv_at hl 0 rfl) ?_
      refine sd_l (g := hh_w ra (vp_updL rb 16 58659)) (cA := cL) hx hb hK.1 hP hD hS 0 1 rfl rfl (show ¬ (_ ∨ _) by decide) (hh_k1 (k := 16)) d_Modl_does_445 (fun H locs hP hD hS => ?_)
      have hP : va_P (dC, dI) classes [(m_he, .inl (cL, 36, .inr (.inl (hh_w ra (vp_updL rb 16 58659))))), (m_pu, .inl (cL, 8, .inr (.inl (pp_w qa qb)))), (m_gv, .inl (cI, 4, .inl gg)), (y0, .inr (4, [.int th, .int (nI lm), .int sz, .int em, .int lt, .int sp, .int (nI np), .int fd, .int bg, .ref m_op, .ref m_nu, .ref m_gv, .ref m_sh, .ref m_he, .ref m_pu, .ref m_pc, .ref m_pl, .ref m_pb, .ref m_ps, .int pv, .int ev]))] H := hP
      have hD : va_D A [(m_he, .inl (cL, 36, .inr (.inl (hh_w ra (vp_updL rb 16 58659))))), (m_pu, .inl (cL, 8, .inr (.inl (pp_w qa qb)))), (m_gv, .inl (cI, 4, .inl gg)), (y0, .inr (4, [.int th, .int (nI lm), .int sz, .int em, .int lt, .int sp, .int (nI np), .int fd, .int bg, .ref m_op, .ref m_nu, .ref m_gv, .ref m_sh, .ref m_he, .ref m_pu, .ref m_pc, .ref m_pl, .ref m_pb, .ref m_ps, .int pv, .int ev]))] := hD
      refine lv_iload_n hx hb d_Modl_does_446 rfl (lv_at hl 6 rfl) ?_
      refine lv_iconst (v := 3) hx hb d_Modl_does_447 (by decide) ?_
      refine lv_icmp_le (tgt := 457) hx hb d_Modl_does_448 (by decide) (fun c_84 => ?_) (fun c_84 => ?_)
      · exact absurd c_84 (by decide)
      · skip
        refine lv_iload_n hx hb d_Modl_does_451 rfl (lv_at hl 6 rfl) ?_
        refine lv_bipush (v := 7) hx hb d_Modl_does_452 (by decide) ?_
        refine lv_icmp_lt (tgt := 469) hx hb d_Modl_does_454 (by decide) (fun c_85 => ?_) (fun c_85 => ?_)
        · exact absurd c_85 (by decide)
        · skip
          refine lv_iload_n hx hb d_Modl_does_457 rfl (lv_at hl 6 rfl) ?_
          refine lv_bipush (v := 9) hx hb d_Modl_does_458 (by decide) ?_
          refine lv_icmp_eq (tgt := 469) hx hb d_Modl_does_460 (by decide) (fun c_86 => ?_) (fun c_86 => ?_)
          · exact absurd c_86 (by decide)
          · skip
            refine lv_iload_n hx hb d_Modl_does_463 rfl (lv_at hl 6 rfl) ?_
            refine lv_bipush (v := 12) hx hb d_Modl_does_464 (by decide) ?_
            refine lv_icmp_ne (tgt := 473) hx hb d_Modl_does_466 (by decide) (fun c_87 => ?_) (fun c_87 => ?_)
            · skip
              refine lv_iconst (v := 0) hx hb d_Modl_does_473 (by decide) ?_
              refine lv_istore (lv' := [(11, .int 0), (9, .long 58659), (7, .long (rb 17)), (5, .long (rb 16)), (4, .int 18), (0, .ref y0), (1, .int 1), (2, .int 7), (3, .int n0)]) hx hb d_Modl_does_474 hl (by decide) rfl (fun ls hl => ?_)
              refine lv_iload hx hb d_Modl_does_476 (lv_at hl 0 rfl) ?_
              refine lv_if_eq (tgt := 491) hx hb d_Modl_does_478 (by decide) (fun c_88 => ?_) (fun c_88 => ?_)
              · skip
                refine lv_iconst (v := 1) hx hb d_Modl_does_491 (by decide) ?_
                refine lv_goto (tgt := 496) hx hb d_Modl_does_492 (by decide) ?_
                exact rt_z (v := 1) ((vp_updL rb 16 58659), qb, pv, ev) hx hb hr hlocks (by decide) (show (1 : Int32) = dz_w (de_w 58659 7 n0 gg rb qb pv).1 ∧ (vp_updL rb 16 58659) = (de_w 58659 7 n0 gg rb qb pv).2.1 ∧ qb = (de_w 58659 7 n0 gg rb qb pv).2.2.1 ∧ pv = (de_w 58659 7 n0 gg rb qb pv).2.2.2 ∧ ev = en_w (de_w 58659 7 n0 gg rb qb pv).1 ev from (by rw [de_7p c_76]; exact ⟨rfl, rfl, rfl, rfl, rfl⟩)) (hP.sub (ws' := [(y0, .inr (4, [.int th, .int (nI lm), .int sz, .int em, .int lt, .int sp, .int (nI np), .int fd, .int bg, .ref m_op, .ref m_nu, .ref m_gv, .ref m_sh, .ref m_he, .ref m_pu, .ref m_pc, .ref m_pl, .ref m_pb, .ref m_ps, .int pv, .int ev])), (m_he, .inl (cL, 36, .inr (.inl (hh_w ra (vp_updL rb 16 58659))))), (m_pu, .inl (cL, 8, .inr (.inl (pp_w qa qb)))), (m_gv, .inl (cI, 4, .inl gg))]) [3, 0, 1, 2] rfl) (hD.sub (ws' := [(y0, .inr (4, [.int th, .int (nI lm), .int sz, .int em, .int lt, .int sp, .int (nI np), .int fd, .int bg, .ref m_op, .ref m_nu, .ref m_gv, .ref m_sh, .ref m_he, .ref m_pu, .ref m_pc, .ref m_pl, .ref m_pb, .ref m_ps, .int pv, .int ev])), (m_he, .inl (cL, 36, .inr (.inl (hh_w ra (vp_updL rb 16 58659))))), (m_pu, .inl (cL, 8, .inr (.inl (pp_w qa qb)))), (m_gv, .inl (cI, 4, .inl gg))]) [3, 0, 1, 2] (by decide) rfl) hS d_Modl_does_496
              · exact absurd (by decide) c_88
            · exact absurd c_87 (by decide)
  by_cases c_89 : o0 = 8
  · refine lv_tableIn (tgt := 279) hx hb d_Modl_does_35 (by rw [c_89]; decide) (by rw [c_89]; decide) (by rw [c_89]; rfl) (by decide) ?_
    subst c_89
    refine lv_lload hx hb d_Modl_does_279 (lv_at hl 2 rfl) ?_
    refine lv_lload hx hb d_Modl_does_281 (lv_at hl 1 rfl) ?_
    refine W.lcmp hx hb d_Modl_does_283 ?_
    refine lv_if_ne (tgt := 295) hx hb d_Modl_does_284 (by decide) (fun c_90 => ?_) (fun c_90 => ?_)
    · have c_90 : ¬ (lg_cmp (rb 16) (rb 17)) = 0 := c_90
      rw [lc_eq] at c_90
      refine lv_lconst (v := 0) hx hb d_Modl_does_295 (by decide) ?_
      refine lv_lstore (lv' := [(9, .long 0), (7, .long (rb 17)), (5, .long (rb 16)), (4, .int 18), (0, .ref y0), (1, .int 1), (2, .int 8), (3, .int n0)]) hx hb d_Modl_does_296 hl (by decide) rfl (fun ls hl => ?_)
      refine lv_goto (tgt := 434) hx hb d_Modl_does_298 (by decide) ?_
      refine lv_aload_n hx hb d_Modl_does_434 rfl (lv_at hl 4 rfl) ?_
      refine va_get (D := (dC, dI)) (ci := 4) (v := .ref m_he) (C := R_Modl) (T := F_Modl) (N := 21) hx hb htb iw_Modl hown hK.1 hP 0 rfl rfl 13 (by decide) (htb _ tw_428) (fun _ h9 => h9) rfl d_Modl_does_435 ?_
      refine lv_iload hx hb d_Modl_does_438 (lv_at hl 3 rfl) ?_
      refine lv_bipush (v := 16) hx hb d_Modl_does_440 (by decide) ?_
      refine lv_iadd hx hb d_Modl_does_442 ?_
      refine W.eq (g2 := F0 m 443 ls [.int 34, .ref m_he]) rfl ?_
      refine lv_lload hx hb d_Modl_does_443 (lv_at hl 0 rfl) ?_
      refine sd_l (g := hh_w ra (vp_updL rb 16 0)) (cA := cL) hx hb hK.1 hP hD hS 1 1 rfl rfl (show ¬ (_ ∨ _) by decide) (hh_k1 (k := 16)) d_Modl_does_445 (fun H locs hP hD hS => ?_)
      have hP : va_P (dC, dI) classes [(y0, .inr (4, [.int th, .int (nI lm), .int sz, .int em, .int lt, .int sp, .int (nI np), .int fd, .int bg, .ref m_op, .ref m_nu, .ref m_gv, .ref m_sh, .ref m_he, .ref m_pu, .ref m_pc, .ref m_pl, .ref m_pb, .ref m_ps, .int pv, .int ev])), (m_he, .inl (cL, 36, .inr (.inl (hh_w ra (vp_updL rb 16 0))))), (m_pu, .inl (cL, 8, .inr (.inl (pp_w qa qb)))), (m_gv, .inl (cI, 4, .inl gg))] H := hP
      have hD : va_D A [(y0, .inr (4, [.int th, .int (nI lm), .int sz, .int em, .int lt, .int sp, .int (nI np), .int fd, .int bg, .ref m_op, .ref m_nu, .ref m_gv, .ref m_sh, .ref m_he, .ref m_pu, .ref m_pc, .ref m_pl, .ref m_pb, .ref m_ps, .int pv, .int ev])), (m_he, .inl (cL, 36, .inr (.inl (hh_w ra (vp_updL rb 16 0))))), (m_pu, .inl (cL, 8, .inr (.inl (pp_w qa qb)))), (m_gv, .inl (cI, 4, .inl gg))] := hD
      refine lv_iload_n hx hb d_Modl_does_446 rfl (lv_at hl 6 rfl) ?_
      refine lv_iconst (v := 3) hx hb d_Modl_does_447 (by decide) ?_
      refine lv_icmp_le (tgt := 457) hx hb d_Modl_does_448 (by decide) (fun c_91 => ?_) (fun c_91 => ?_)
      · exact absurd c_91 (by decide)
      · skip
        refine lv_iload_n hx hb d_Modl_does_451 rfl (lv_at hl 6 rfl) ?_
        refine lv_bipush (v := 7) hx hb d_Modl_does_452 (by decide) ?_
        refine lv_icmp_lt (tgt := 469) hx hb d_Modl_does_454 (by decide) (fun c_92 => ?_) (fun c_92 => ?_)
        · exact absurd c_92 (by decide)
        · skip
          refine lv_iload_n hx hb d_Modl_does_457 rfl (lv_at hl 6 rfl) ?_
          refine lv_bipush (v := 9) hx hb d_Modl_does_458 (by decide) ?_
          refine lv_icmp_eq (tgt := 469) hx hb d_Modl_does_460 (by decide) (fun c_93 => ?_) (fun c_93 => ?_)
          · exact absurd c_93 (by decide)
          · skip
            refine lv_iload_n hx hb d_Modl_does_463 rfl (lv_at hl 6 rfl) ?_
            refine lv_bipush (v := 12) hx hb d_Modl_does_464 (by decide) ?_
            refine lv_icmp_ne (tgt := 473) hx hb d_Modl_does_466 (by decide) (fun c_94 => ?_) (fun c_94 => ?_)
            · skip
              refine lv_iconst (v := 0) hx hb d_Modl_does_473 (by decide) ?_
              refine lv_istore (lv' := [(11, .int 0), (9, .long 0), (7, .long (rb 17)), (5, .long (rb 16)), (4, .int 18), (0, .ref y0), (1, .int 1), (2, .int 8), (3, .int n0)]) hx hb d_Modl_does_474 hl (by decide) rfl (fun ls hl => ?_)
              refine lv_iload hx hb d_Modl_does_476 (lv_at hl 0 rfl) ?_
              refine lv_if_eq (tgt := 491) hx hb d_Modl_does_478 (by decide) (fun c_95 => ?_) (fun c_95 => ?_)
              · skip
                refine lv_iconst (v := 1) hx hb d_Modl_does_491 (by decide) ?_
                refine lv_goto (tgt := 496) hx hb d_Modl_does_492 (by decide) ?_
                exact rt_z (v := 1) ((vp_updL rb 16 0), qb, pv, ev) hx hb hr hlocks (by decide) (show (1 : Int32) = dz_w (de_w 58659 8 n0 gg rb qb pv).1 ∧ (vp_updL rb 16 0) = (de_w 58659 8 n0 gg rb qb pv).2.1 ∧ qb = (de_w 58659 8 n0 gg rb qb pv).2.2.1 ∧ pv = (de_w 58659 8 n0 gg rb qb pv).2.2.2 ∧ ev = en_w (de_w 58659 8 n0 gg rb qb pv).1 ev from (by rw [de_8n c_90]; exact ⟨rfl, rfl, rfl, rfl, rfl⟩)) (hP.sub (ws' := [(y0, .inr (4, [.int th, .int (nI lm), .int sz, .int em, .int lt, .int sp, .int (nI np), .int fd, .int bg, .ref m_op, .ref m_nu, .ref m_gv, .ref m_sh, .ref m_he, .ref m_pu, .ref m_pc, .ref m_pl, .ref m_pb, .ref m_ps, .int pv, .int ev])), (m_he, .inl (cL, 36, .inr (.inl (hh_w ra (vp_updL rb 16 0))))), (m_pu, .inl (cL, 8, .inr (.inl (pp_w qa qb)))), (m_gv, .inl (cI, 4, .inl gg))]) [0, 1, 2, 3] rfl) (hD.sub (ws' := [(y0, .inr (4, [.int th, .int (nI lm), .int sz, .int em, .int lt, .int sp, .int (nI np), .int fd, .int bg, .ref m_op, .ref m_nu, .ref m_gv, .ref m_sh, .ref m_he, .ref m_pu, .ref m_pc, .ref m_pl, .ref m_pb, .ref m_ps, .int pv, .int ev])), (m_he, .inl (cL, 36, .inr (.inl (hh_w ra (vp_updL rb 16 0))))), (m_pu, .inl (cL, 8, .inr (.inl (pp_w qa qb)))), (m_gv, .inl (cI, 4, .inl gg))]) [0, 1, 2, 3] (by decide) rfl) hS d_Modl_does_496
              · exact absurd (by decide) c_95
            · exact absurd c_94 (by decide)
    · have c_90 : (lg_cmp (rb 16) (rb 17)) = 0 := c_90
      rw [lc_eq] at c_90
      refine lv_aload_n hx hb d_Modl_does_287 rfl (lv_at hl 4 rfl) ?_
      refine lv_iload_n hx hb d_Modl_does_288 rfl (lv_at hl 5 rfl) ?_
      refine af_l (wr := [(m_he, .inl (cL, 36, .inr (.inl (hh_w ra rb)))), (m_pu, .inl (cL, 8, .inr (.inl (pp_w qa qb)))), (m_gv, .inl (cI, 4, .inl gg))]) (va_runV (As := [.int 1]) (rest := []) ⟨hx, hb, hml, hown, htb⟩ (c_Modl_times1 l dC dI cI cL s.heap.size y0 th lm sz em lt sp np fd bg m_op m_nu m_gv m_sh m_he m_pu m_pc m_pl m_pb m_ps pv ev ) ⟨callB_of 1 htb (gd_w tw_514) rfl rfl rfl (htb _ tw_25) (htb _ tw_511) (by decide +kernel) ⟨Nat.le_of_ble_eq_true rfl, Nat.le_of_ble_eq_true rfl⟩, htb _ tw_513, htb _ tw_16⟩ (pv_V hK (hP.sub (ws' := [(y0, .inr (4, [.int th, .int (nI lm), .int sz, .int em, .int lt, .int sp, .int (nI np), .int fd, .int bg, .ref m_op, .ref m_nu, .ref m_gv, .ref m_sh, .ref m_he, .ref m_pu, .ref m_pc, .ref m_pl, .ref m_pb, .ref m_ps, .int pv, .int ev]))]) [0] rfl) (hD.sub (ws' := [(y0, .inr (4, [.int th, .int (nI lm), .int sz, .int em, .int lt, .int sp, .int (nI np), .int fd, .int bg, .ref m_op, .ref m_nu, .ref m_gv, .ref m_sh, .ref m_he, .ref m_pu, .ref m_pc, .ref m_pl, .ref m_pb, .ref m_ps, .int pv, .int ev]))]) [0] (by decide) rfl) (ci := 4) (q0 := 0) rfl rfl) rfl rfl hl.1 rfl (lv_room (Nat.le_of_ble_eq_true rfl)) d_Modl_does_289 ⟨Nat.le_of_ble_eq_true rfl, Nat.le_of_ble_eq_true rfl⟩) hP hD hS hA [0] [1, 2, 3] rfl rfl (by decide) (by decide) (fun r_96 u_97 H locs hw hP hD hS => ?_)
      try dsimp only at hw
      subst hw
      have hP : va_P (dC, dI) classes [(m_he, .inl (cL, 36, .inr (.inl (hh_w ra rb)))), (m_pu, .inl (cL, 8, .inr (.inl (pp_w qa qb)))), (m_gv, .inl (cI, 4, .inl gg)), (y0, .inr (4, [.int th, .int (nI lm), .int sz, .int em, .int lt, .int sp, .int (nI np), .int fd, .int bg, .ref m_op, .ref m_nu, .ref m_gv, .ref m_sh, .ref m_he, .ref m_pu, .ref m_pc, .ref m_pl, .ref m_pb, .ref m_ps, .int pv, .int ev]))] H := hP
      have hD : va_D A [(m_he, .inl (cL, 36, .inr (.inl (hh_w ra rb)))), (m_pu, .inl (cL, 8, .inr (.inl (pp_w qa qb)))), (m_gv, .inl (cI, 4, .inl gg)), (y0, .inr (4, [.int th, .int (nI lm), .int sz, .int em, .int lt, .int sp, .int (nI np), .int fd, .int bg, .ref m_op, .ref m_nu, .ref m_gv, .ref m_sh, .ref m_he, .ref m_pu, .ref m_pc, .ref m_pl, .ref m_pb, .ref m_ps, .int pv, .int ev]))] := hD
      refine lv_goto (tgt := 296) hx hb d_Modl_does_292 (by decide) ?_
      refine lv_lstore (lv' := [(9, .long 58659), (7, .long (rb 17)), (5, .long (rb 16)), (4, .int 18), (0, .ref y0), (1, .int 1), (2, .int 8), (3, .int n0)]) hx hb d_Modl_does_296 hl (by decide) rfl (fun ls hl => ?_)
      refine lv_goto (tgt := 434) hx hb d_Modl_does_298 (by decide) ?_
      refine lv_aload_n hx hb d_Modl_does_434 rfl (lv_at hl 4 rfl) ?_
      refine va_get (D := (dC, dI)) (ci := 4) (v := .ref m_he) (C := R_Modl) (T := F_Modl) (N := 21) hx hb htb iw_Modl hown hK.1 hP 3 rfl rfl 13 (by decide) (htb _ tw_428) (fun _ h9 => h9) rfl d_Modl_does_435 ?_
      refine lv_iload hx hb d_Modl_does_438 (lv_at hl 3 rfl) ?_
      refine lv_bipush (v := 16) hx hb d_Modl_does_440 (by decide) ?_
      refine lv_iadd hx hb d_Modl_does_442 ?_
      refine W.eq (g2 := F0 m 443 ls [.int 34, .ref m_he]) rfl ?_
      refine lv_lload hx hb d_Modl_does_443 (lv_at hl 0 rfl) ?_
      refine sd_l (g := hh_w ra (vp_updL rb 16 58659)) (cA := cL) hx hb hK.1 hP hD hS 0 1 rfl rfl (show ¬ (_ ∨ _) by decide) (hh_k1 (k := 16)) d_Modl_does_445 (fun H locs hP hD hS => ?_)
      have hP : va_P (dC, dI) classes [(m_he, .inl (cL, 36, .inr (.inl (hh_w ra (vp_updL rb 16 58659))))), (m_pu, .inl (cL, 8, .inr (.inl (pp_w qa qb)))), (m_gv, .inl (cI, 4, .inl gg)), (y0, .inr (4, [.int th, .int (nI lm), .int sz, .int em, .int lt, .int sp, .int (nI np), .int fd, .int bg, .ref m_op, .ref m_nu, .ref m_gv, .ref m_sh, .ref m_he, .ref m_pu, .ref m_pc, .ref m_pl, .ref m_pb, .ref m_ps, .int pv, .int ev]))] H := hP
      have hD : va_D A [(m_he, .inl (cL, 36, .inr (.inl (hh_w ra (vp_updL rb 16 58659))))), (m_pu, .inl (cL, 8, .inr (.inl (pp_w qa qb)))), (m_gv, .inl (cI, 4, .inl gg)), (y0, .inr (4, [.int th, .int (nI lm), .int sz, .int em, .int lt, .int sp, .int (nI np), .int fd, .int bg, .ref m_op, .ref m_nu, .ref m_gv, .ref m_sh, .ref m_he, .ref m_pu, .ref m_pc, .ref m_pl, .ref m_pb, .ref m_ps, .int pv, .int ev]))] := hD
      refine lv_iload_n hx hb d_Modl_does_446 rfl (lv_at hl 6 rfl) ?_
      refine lv_iconst (v := 3) hx hb d_Modl_does_447 (by decide) ?_
      refine lv_icmp_le (tgt := 457) hx hb d_Modl_does_448 (by decide) (fun c_98 => ?_) (fun c_98 => ?_)
      · exact absurd c_98 (by decide)
      · skip
        refine lv_iload_n hx hb d_Modl_does_451 rfl (lv_at hl 6 rfl) ?_
        refine lv_bipush (v := 7) hx hb d_Modl_does_452 (by decide) ?_
        refine lv_icmp_lt (tgt := 469) hx hb d_Modl_does_454 (by decide) (fun c_99 => ?_) (fun c_99 => ?_)
        · exact absurd c_99 (by decide)
        · skip
          refine lv_iload_n hx hb d_Modl_does_457 rfl (lv_at hl 6 rfl) ?_
          refine lv_bipush (v := 9) hx hb d_Modl_does_458 (by decide) ?_
          refine lv_icmp_eq (tgt := 469) hx hb d_Modl_does_460 (by decide) (fun c_100 => ?_) (fun c_100 => ?_)
          · exact absurd c_100 (by decide)
          · skip
            refine lv_iload_n hx hb d_Modl_does_463 rfl (lv_at hl 6 rfl) ?_
            refine lv_bipush (v := 12) hx hb d_Modl_does_464 (by decide) ?_
            refine lv_icmp_ne (tgt := 473) hx hb d_Modl_does_466 (by decide) (fun c_101 => ?_) (fun c_101 => ?_)
            · skip
              refine lv_iconst (v := 0) hx hb d_Modl_does_473 (by decide) ?_
              refine lv_istore (lv' := [(11, .int 0), (9, .long 58659), (7, .long (rb 17)), (5, .long (rb 16)), (4, .int 18), (0, .ref y0), (1, .int 1), (2, .int 8), (3, .int n0)]) hx hb d_Modl_does_474 hl (by decide) rfl (fun ls hl => ?_)
              refine lv_iload hx hb d_Modl_does_476 (lv_at hl 0 rfl) ?_
              refine lv_if_eq (tgt := 491) hx hb d_Modl_does_478 (by decide) (fun c_102 => ?_) (fun c_102 => ?_)
              · skip
                refine lv_iconst (v := 1) hx hb d_Modl_does_491 (by decide) ?_
                refine lv_goto (tgt := 496) hx hb d_Modl_does_492 (by decide) ?_
                exact rt_z (v := 1) ((vp_updL rb 16 58659), qb, pv, ev) hx hb hr hlocks (by decide) (show (1 : Int32) = dz_w (de_w 58659 8 n0 gg rb qb pv).1 ∧ (vp_updL rb 16 58659) = (de_w 58659 8 n0 gg rb qb pv).2.1 ∧ qb = (de_w 58659 8 n0 gg rb qb pv).2.2.1 ∧ pv = (de_w 58659 8 n0 gg rb qb pv).2.2.2 ∧ ev = en_w (de_w 58659 8 n0 gg rb qb pv).1 ev from (by rw [de_8p c_90]; exact ⟨rfl, rfl, rfl, rfl, rfl⟩)) (hP.sub (ws' := [(y0, .inr (4, [.int th, .int (nI lm), .int sz, .int em, .int lt, .int sp, .int (nI np), .int fd, .int bg, .ref m_op, .ref m_nu, .ref m_gv, .ref m_sh, .ref m_he, .ref m_pu, .ref m_pc, .ref m_pl, .ref m_pb, .ref m_ps, .int pv, .int ev])), (m_he, .inl (cL, 36, .inr (.inl (hh_w ra (vp_updL rb 16 58659))))), (m_pu, .inl (cL, 8, .inr (.inl (pp_w qa qb)))), (m_gv, .inl (cI, 4, .inl gg))]) [3, 0, 1, 2] rfl) (hD.sub (ws' := [(y0, .inr (4, [.int th, .int (nI lm), .int sz, .int em, .int lt, .int sp, .int (nI np), .int fd, .int bg, .ref m_op, .ref m_nu, .ref m_gv, .ref m_sh, .ref m_he, .ref m_pu, .ref m_pc, .ref m_pl, .ref m_pb, .ref m_ps, .int pv, .int ev])), (m_he, .inl (cL, 36, .inr (.inl (hh_w ra (vp_updL rb 16 58659))))), (m_pu, .inl (cL, 8, .inr (.inl (pp_w qa qb)))), (m_gv, .inl (cI, 4, .inl gg))]) [3, 0, 1, 2] (by decide) rfl) hS d_Modl_does_496
              · exact absurd (by decide) c_102
            · exact absurd c_101 (by decide)
  by_cases c_103 : o0 = 9
  · refine lv_tableIn (tgt := 301) hx hb d_Modl_does_35 (by rw [c_103]; decide) (by rw [c_103]; decide) (by rw [c_103]; rfl) (by decide) ?_
    subst c_103
    refine lv_lload hx hb d_Modl_does_301 (lv_at hl 2 rfl) ?_
    refine lv_lneg hx hb d_Modl_does_303 ?_
    refine lv_lstore (lv' := [(9, .long (-(rb 16))), (7, .long (rb 17)), (5, .long (rb 16)), (4, .int 18), (0, .ref y0), (1, .int 1), (2, .int 9), (3, .int n0)]) hx hb d_Modl_does_304 hl (by decide) rfl (fun ls hl => ?_)
    refine lv_goto (tgt := 434) hx hb d_Modl_does_306 (by decide) ?_
    refine lv_aload_n hx hb d_Modl_does_434 rfl (lv_at hl 4 rfl) ?_
    refine va_get (D := (dC, dI)) (ci := 4) (v := .ref m_he) (C := R_Modl) (T := F_Modl) (N := 21) hx hb htb iw_Modl hown hK.1 hP 0 rfl rfl 13 (by decide) (htb _ tw_428) (fun _ h9 => h9) rfl d_Modl_does_435 ?_
    refine lv_iload hx hb d_Modl_does_438 (lv_at hl 3 rfl) ?_
    refine lv_bipush (v := 16) hx hb d_Modl_does_440 (by decide) ?_
    refine lv_iadd hx hb d_Modl_does_442 ?_
    refine W.eq (g2 := F0 m 443 ls [.int 34, .ref m_he]) rfl ?_
    refine lv_lload hx hb d_Modl_does_443 (lv_at hl 0 rfl) ?_
    refine sd_l (g := hh_w ra (vp_updL rb 16 (-(rb 16)))) (cA := cL) hx hb hK.1 hP hD hS 1 1 rfl rfl (show ¬ (_ ∨ _) by decide) (hh_k1 (k := 16)) d_Modl_does_445 (fun H locs hP hD hS => ?_)
    have hP : va_P (dC, dI) classes [(y0, .inr (4, [.int th, .int (nI lm), .int sz, .int em, .int lt, .int sp, .int (nI np), .int fd, .int bg, .ref m_op, .ref m_nu, .ref m_gv, .ref m_sh, .ref m_he, .ref m_pu, .ref m_pc, .ref m_pl, .ref m_pb, .ref m_ps, .int pv, .int ev])), (m_he, .inl (cL, 36, .inr (.inl (hh_w ra (vp_updL rb 16 (-(rb 16))))))), (m_pu, .inl (cL, 8, .inr (.inl (pp_w qa qb)))), (m_gv, .inl (cI, 4, .inl gg))] H := hP
    have hD : va_D A [(y0, .inr (4, [.int th, .int (nI lm), .int sz, .int em, .int lt, .int sp, .int (nI np), .int fd, .int bg, .ref m_op, .ref m_nu, .ref m_gv, .ref m_sh, .ref m_he, .ref m_pu, .ref m_pc, .ref m_pl, .ref m_pb, .ref m_ps, .int pv, .int ev])), (m_he, .inl (cL, 36, .inr (.inl (hh_w ra (vp_updL rb 16 (-(rb 16))))))), (m_pu, .inl (cL, 8, .inr (.inl (pp_w qa qb)))), (m_gv, .inl (cI, 4, .inl gg))] := hD
    refine lv_iload_n hx hb d_Modl_does_446 rfl (lv_at hl 6 rfl) ?_
    refine lv_iconst (v := 3) hx hb d_Modl_does_447 (by decide) ?_
    refine lv_icmp_le (tgt := 457) hx hb d_Modl_does_448 (by decide) (fun c_104 => ?_) (fun c_104 => ?_)
    · exact absurd c_104 (by decide)
    · skip
      refine lv_iload_n hx hb d_Modl_does_451 rfl (lv_at hl 6 rfl) ?_
      refine lv_bipush (v := 7) hx hb d_Modl_does_452 (by decide) ?_
      refine lv_icmp_lt (tgt := 469) hx hb d_Modl_does_454 (by decide) (fun c_105 => ?_) (fun c_105 => ?_)
      · exact absurd c_105 (by decide)
      · skip
        refine lv_iload_n hx hb d_Modl_does_457 rfl (lv_at hl 6 rfl) ?_
        refine lv_bipush (v := 9) hx hb d_Modl_does_458 (by decide) ?_
        refine lv_icmp_eq (tgt := 469) hx hb d_Modl_does_460 (by decide) (fun c_106 => ?_) (fun c_106 => ?_)
        · skip
          refine lv_iconst (v := 1) hx hb d_Modl_does_469 (by decide) ?_
          refine lv_goto (tgt := 474) hx hb d_Modl_does_470 (by decide) ?_
          refine lv_istore (lv' := [(11, .int 1), (9, .long (-(rb 16))), (7, .long (rb 17)), (5, .long (rb 16)), (4, .int 18), (0, .ref y0), (1, .int 1), (2, .int 9), (3, .int n0)]) hx hb d_Modl_does_474 hl (by decide) rfl (fun ls hl => ?_)
          refine lv_iload hx hb d_Modl_does_476 (lv_at hl 0 rfl) ?_
          refine lv_if_eq (tgt := 491) hx hb d_Modl_does_478 (by decide) (fun c_107 => ?_) (fun c_107 => ?_)
          · exact absurd c_107 (by decide)
          · skip
            refine lv_aload_n hx hb d_Modl_does_481 rfl (lv_at hl 5 rfl) ?_
            refine lv_iload_n hx hb d_Modl_does_482 rfl (lv_at hl 6 rfl) ?_
            refine lv_lload hx hb d_Modl_does_483 (lv_at hl 1 rfl) ?_
            refine af_i (wr := [(m_he, .inl (cL, 36, .inr (.inl (hh_w ra (vp_updL rb 16 (-(rb 16))))))), (m_pu, .inl (cL, 8, .inr (.inl (pp_w qa qb)))), (m_gv, .inl (cI, 4, .inl gg))]) (va_runV (As := [.int 1, .long (-(rb 16))]) (rest := []) ⟨hx, hb, hml, hown, htb⟩ (c_Modl_may1 l dC dI cI cL H.size y0 th lm sz em lt sp np fd bg m_op m_nu m_gv m_sh m_he m_pu m_pc m_pl m_pb m_ps pv ev (-(rb 16)) ) ⟨callB_of 2 htb (gd_w tw_522) rfl rfl rfl (htb _ tw_25) (htb _ tw_519) (by decide +kernel) ⟨Nat.le_of_ble_eq_true rfl, Nat.le_of_ble_eq_true rfl⟩, htb _ tw_521, htb _ tw_17⟩ (pv_V hK (hP.sub (ws' := [(y0, .inr (4, [.int th, .int (nI lm), .int sz, .int em, .int lt, .int sp, .int (nI np), .int fd, .int bg, .ref m_op, .ref m_nu, .ref m_gv, .ref m_sh, .ref m_he, .ref m_pu, .ref m_pc, .ref m_pl, .ref m_pb, .ref m_ps, .int pv, .int ev]))]) [0] rfl) (hD.sub (ws' := [(y0, .inr (4, [.int th, .int (nI lm), .int sz, .int em, .int lt, .int sp, .int (nI np), .int fd, .int bg, .ref m_op, .ref m_nu, .ref m_gv, .ref m_sh, .ref m_he, .ref m_pu, .ref m_pc, .ref m_pl, .ref m_pb, .ref m_ps, .int pv, .int ev]))]) [0] (by decide) rfl) (ci := 4) (q0 := 0) rfl rfl) rfl rfl hl.1 rfl (lv_room (Nat.le_of_ble_eq_true rfl)) d_Modl_does_485 ⟨Nat.le_of_ble_eq_true rfl, Nat.le_of_ble_eq_true rfl⟩) hP hD hS hA [0] [1, 2, 3] rfl rfl (by decide) (by decide) (fun r_108 u_109 H locs hw hP hD hS => ?_)
            try dsimp only at hw
            subst hw
            have hP : va_P (dC, dI) classes [(m_he, .inl (cL, 36, .inr (.inl (hh_w ra (vp_updL rb 16 (-(rb 16))))))), (m_pu, .inl (cL, 8, .inr (.inl (pp_w qa qb)))), (m_gv, .inl (cI, 4, .inl gg)), (y0, .inr (4, [.int th, .int (nI lm), .int sz, .int em, .int lt, .int sp, .int (nI np), .int fd, .int bg, .ref m_op, .ref m_nu, .ref m_gv, .ref m_sh, .ref m_he, .ref m_pu, .ref m_pc, .ref m_pl, .ref m_pb, .ref m_ps, .int pv, .int ev]))] H := hP
            have hD : va_D A [(m_he, .inl (cL, 36, .inr (.inl (hh_w ra (vp_updL rb 16 (-(rb 16))))))), (m_pu, .inl (cL, 8, .inr (.inl (pp_w qa qb)))), (m_gv, .inl (cI, 4, .inl gg)), (y0, .inr (4, [.int th, .int (nI lm), .int sz, .int em, .int lt, .int sp, .int (nI np), .int fd, .int bg, .ref m_op, .ref m_nu, .ref m_gv, .ref m_sh, .ref m_he, .ref m_pu, .ref m_pc, .ref m_pl, .ref m_pb, .ref m_ps, .int pv, .int ev]))] := hD
            refine lv_if_eq (tgt := 495) hx hb d_Modl_does_488 (by decide) (fun c_110 => ?_) (fun c_110 => ?_)
            · have c_110 : (ma_w (-117318000000000) 117318000000000 (-(rb 16))) = 0 := c_110
              refine lv_iconst (v := 0) hx hb d_Modl_does_495 (by decide) ?_
              exact rt_z (v := 0) ((vp_updL rb 16 (-(rb 16))), qb, pv, ev) hx hb hr hlocks (by decide) (show (0 : Int32) = dz_w (de_w 58659 9 n0 gg rb qb pv).1 ∧ (vp_updL rb 16 (-(rb 16))) = (de_w 58659 9 n0 gg rb qb pv).2.1 ∧ qb = (de_w 58659 9 n0 gg rb qb pv).2.2.1 ∧ pv = (de_w 58659 9 n0 gg rb qb pv).2.2.2 ∧ ev = en_w (de_w 58659 9 n0 gg rb qb pv).1 ev from (by exact ⟨(dz_0 ((ma_tb1 (-(rb 16))).mp c_110)).symm, rfl, rfl, rfl, en_0 (tb_n1 _ _)⟩)) (hP.sub (ws' := [(y0, .inr (4, [.int th, .int (nI lm), .int sz, .int em, .int lt, .int sp, .int (nI np), .int fd, .int bg, .ref m_op, .ref m_nu, .ref m_gv, .ref m_sh, .ref m_he, .ref m_pu, .ref m_pc, .ref m_pl, .ref m_pb, .ref m_ps, .int pv, .int ev])), (m_he, .inl (cL, 36, .inr (.inl (hh_w ra (vp_updL rb 16 (-(rb 16))))))), (m_pu, .inl (cL, 8, .inr (.inl (pp_w qa qb)))), (m_gv, .inl (cI, 4, .inl gg))]) [3, 0, 1, 2] rfl) (hD.sub (ws' := [(y0, .inr (4, [.int th, .int (nI lm), .int sz, .int em, .int lt, .int sp, .int (nI np), .int fd, .int bg, .ref m_op, .ref m_nu, .ref m_gv, .ref m_sh, .ref m_he, .ref m_pu, .ref m_pc, .ref m_pl, .ref m_pb, .ref m_ps, .int pv, .int ev])), (m_he, .inl (cL, 36, .inr (.inl (hh_w ra (vp_updL rb 16 (-(rb 16))))))), (m_pu, .inl (cL, 8, .inr (.inl (pp_w qa qb)))), (m_gv, .inl (cI, 4, .inl gg))]) [3, 0, 1, 2] (by decide) rfl) hS d_Modl_does_496
            · have c_110 : ¬ (ma_w (-117318000000000) 117318000000000 (-(rb 16))) = 0 := c_110
              refine lv_iconst (v := 1) hx hb d_Modl_does_491 (by decide) ?_
              refine lv_goto (tgt := 496) hx hb d_Modl_does_492 (by decide) ?_
              exact rt_z (v := 1) ((vp_updL rb 16 (-(rb 16))), qb, pv, ev) hx hb hr hlocks (by decide) (show (1 : Int32) = dz_w (de_w 58659 9 n0 gg rb qb pv).1 ∧ (vp_updL rb 16 (-(rb 16))) = (de_w 58659 9 n0 gg rb qb pv).2.1 ∧ qb = (de_w 58659 9 n0 gg rb qb pv).2.2.1 ∧ pv = (de_w 58659 9 n0 gg rb qb pv).2.2.2 ∧ ev = en_w (de_w 58659 9 n0 gg rb qb pv).1 ev from (by exact ⟨(dz_1 (fun h9 => c_110 ((ma_tb1 (-(rb 16))).mpr h9))).symm, rfl, rfl, rfl, en_0 (tb_n1 _ _)⟩)) (hP.sub (ws' := [(y0, .inr (4, [.int th, .int (nI lm), .int sz, .int em, .int lt, .int sp, .int (nI np), .int fd, .int bg, .ref m_op, .ref m_nu, .ref m_gv, .ref m_sh, .ref m_he, .ref m_pu, .ref m_pc, .ref m_pl, .ref m_pb, .ref m_ps, .int pv, .int ev])), (m_he, .inl (cL, 36, .inr (.inl (hh_w ra (vp_updL rb 16 (-(rb 16))))))), (m_pu, .inl (cL, 8, .inr (.inl (pp_w qa qb)))), (m_gv, .inl (cI, 4, .inl gg))]) [3, 0, 1, 2] rfl) (hD.sub (ws' := [(y0, .inr (4, [.int th, .int (nI lm), .int sz, .int em, .int lt, .int sp, .int (nI np), .int fd, .int bg, .ref m_op, .ref m_nu, .ref m_gv, .ref m_sh, .ref m_he, .ref m_pu, .ref m_pc, .ref m_pl, .ref m_pb, .ref m_ps, .int pv, .int ev])), (m_he, .inl (cL, 36, .inr (.inl (hh_w ra (vp_updL rb 16 (-(rb 16))))))), (m_pu, .inl (cL, 8, .inr (.inl (pp_w qa qb)))), (m_gv, .inl (cI, 4, .inl gg))]) [3, 0, 1, 2] (by decide) rfl) hS d_Modl_does_496
        · exact absurd (by decide) c_106
  by_cases c_111 : o0 = 10
  · refine lv_tableIn (tgt := 309) hx hb d_Modl_does_35 (by rw [c_111]; decide) (by rw [c_111]; decide) (by rw [c_111]; rfl) (by decide) ?_
    subst c_111
    refine lv_aload_n hx hb d_Modl_does_309 rfl (lv_at hl 4 rfl) ?_
    refine lv_iload_n hx hb d_Modl_does_310 rfl (lv_at hl 7 rfl) ?_
    refine va_put (D := (dC, dI)) (ci := 4) (v := .int n0) (ty := .int) (C := R_Modl) (T := F_Modl) (N := 21) hx hb htb iw_Modl t_Modl t_Modl_ok n_Modl hown hK.1 hP hD hS 0 rfl rfl 19 (by decide) (htb _ tw_434) (fun _ h9 => h9) rfl (by decide +kernel) rfl rfl (Nat.le_of_ble_eq_true rfl) d_Modl_does_311 (fun H locs hP hD hS => ?_)
    have hP : va_P (dC, dI) classes [(y0, .inr (4, [.int th, .int (nI lm), .int sz, .int em, .int lt, .int sp, .int (nI np), .int fd, .int bg, .ref m_op, .ref m_nu, .ref m_gv, .ref m_sh, .ref m_he, .ref m_pu, .ref m_pc, .ref m_pl, .ref m_pb, .ref m_ps, .int n0, .int ev])), (m_he, .inl (cL, 36, .inr (.inl (hh_w ra rb)))), (m_pu, .inl (cL, 8, .inr (.inl (pp_w qa qb)))), (m_gv, .inl (cI, 4, .inl gg))] H := hP
    have hD : va_D A [(y0, .inr (4, [.int th, .int (nI lm), .int sz, .int em, .int lt, .int sp, .int (nI np), .int fd, .int bg, .ref m_op, .ref m_nu, .ref m_gv, .ref m_sh, .ref m_he, .ref m_pu, .ref m_pc, .ref m_pl, .ref m_pb, .ref m_ps, .int n0, .int ev])), (m_he, .inl (cL, 36, .inr (.inl (hh_w ra rb)))), (m_pu, .inl (cL, 8, .inr (.inl (pp_w qa qb)))), (m_gv, .inl (cI, 4, .inl gg))] := hD
    refine lv_goto (tgt := 434) hx hb d_Modl_does_314 (by decide) ?_
    refine lv_aload_n hx hb d_Modl_does_434 rfl (lv_at hl 4 rfl) ?_
    refine va_get (D := (dC, dI)) (ci := 4) (v := .ref m_he) (C := R_Modl) (T := F_Modl) (N := 21) hx hb htb iw_Modl hown hK.1 hP 0 rfl rfl 13 (by decide) (htb _ tw_428) (fun _ h9 => h9) rfl d_Modl_does_435 ?_
    refine lv_iload hx hb d_Modl_does_438 (lv_at hl 3 rfl) ?_
    refine lv_bipush (v := 16) hx hb d_Modl_does_440 (by decide) ?_
    refine lv_iadd hx hb d_Modl_does_442 ?_
    refine W.eq (g2 := F0 m 443 ls [.int 34, .ref m_he]) rfl ?_
    refine lv_lload hx hb d_Modl_does_443 (lv_at hl 0 rfl) ?_
    refine sd_l (g := hh_w ra (vp_updL rb 16 (rb 16))) (cA := cL) hx hb hK.1 hP hD hS 1 1 rfl rfl (show ¬ (_ ∨ _) by decide) (hh_k1 (k := 16)) d_Modl_does_445 (fun H locs hP hD hS => ?_)
    have hP : va_P (dC, dI) classes [(y0, .inr (4, [.int th, .int (nI lm), .int sz, .int em, .int lt, .int sp, .int (nI np), .int fd, .int bg, .ref m_op, .ref m_nu, .ref m_gv, .ref m_sh, .ref m_he, .ref m_pu, .ref m_pc, .ref m_pl, .ref m_pb, .ref m_ps, .int n0, .int ev])), (m_he, .inl (cL, 36, .inr (.inl (hh_w ra (vp_updL rb 16 (rb 16)))))), (m_pu, .inl (cL, 8, .inr (.inl (pp_w qa qb)))), (m_gv, .inl (cI, 4, .inl gg))] H := hP
    have hD : va_D A [(y0, .inr (4, [.int th, .int (nI lm), .int sz, .int em, .int lt, .int sp, .int (nI np), .int fd, .int bg, .ref m_op, .ref m_nu, .ref m_gv, .ref m_sh, .ref m_he, .ref m_pu, .ref m_pc, .ref m_pl, .ref m_pb, .ref m_ps, .int n0, .int ev])), (m_he, .inl (cL, 36, .inr (.inl (hh_w ra (vp_updL rb 16 (rb 16)))))), (m_pu, .inl (cL, 8, .inr (.inl (pp_w qa qb)))), (m_gv, .inl (cI, 4, .inl gg))] := hD
    refine lv_iload_n hx hb d_Modl_does_446 rfl (lv_at hl 6 rfl) ?_
    refine lv_iconst (v := 3) hx hb d_Modl_does_447 (by decide) ?_
    refine lv_icmp_le (tgt := 457) hx hb d_Modl_does_448 (by decide) (fun c_112 => ?_) (fun c_112 => ?_)
    · exact absurd c_112 (by decide)
    · skip
      refine lv_iload_n hx hb d_Modl_does_451 rfl (lv_at hl 6 rfl) ?_
      refine lv_bipush (v := 7) hx hb d_Modl_does_452 (by decide) ?_
      refine lv_icmp_lt (tgt := 469) hx hb d_Modl_does_454 (by decide) (fun c_113 => ?_) (fun c_113 => ?_)
      · exact absurd c_113 (by decide)
      · skip
        refine lv_iload_n hx hb d_Modl_does_457 rfl (lv_at hl 6 rfl) ?_
        refine lv_bipush (v := 9) hx hb d_Modl_does_458 (by decide) ?_
        refine lv_icmp_eq (tgt := 469) hx hb d_Modl_does_460 (by decide) (fun c_114 => ?_) (fun c_114 => ?_)
        · exact absurd c_114 (by decide)
        · skip
          refine lv_iload_n hx hb d_Modl_does_463 rfl (lv_at hl 6 rfl) ?_
          refine lv_bipush (v := 12) hx hb d_Modl_does_464 (by decide) ?_
          refine lv_icmp_ne (tgt := 473) hx hb d_Modl_does_466 (by decide) (fun c_115 => ?_) (fun c_115 => ?_)
          · skip
            refine lv_iconst (v := 0) hx hb d_Modl_does_473 (by decide) ?_
            refine lv_istore (lv' := [(11, .int 0), (9, .long (rb 16)), (7, .long (rb 17)), (5, .long (rb 16)), (4, .int 18), (0, .ref y0), (1, .int 1), (2, .int 10), (3, .int n0)]) hx hb d_Modl_does_474 hl (by decide) rfl (fun ls hl => ?_)
            refine lv_iload hx hb d_Modl_does_476 (lv_at hl 0 rfl) ?_
            refine lv_if_eq (tgt := 491) hx hb d_Modl_does_478 (by decide) (fun c_116 => ?_) (fun c_116 => ?_)
            · skip
              refine lv_iconst (v := 1) hx hb d_Modl_does_491 (by decide) ?_
              refine lv_goto (tgt := 496) hx hb d_Modl_does_492 (by decide) ?_
              exact rt_z (v := 1) ((vp_updL rb 16 (rb 16)), qb, n0, ev) hx hb hr hlocks (by decide) (show (1 : Int32) = dz_w (de_w 58659 10 n0 gg rb qb pv).1 ∧ (vp_updL rb 16 (rb 16)) = (de_w 58659 10 n0 gg rb qb pv).2.1 ∧ qb = (de_w 58659 10 n0 gg rb qb pv).2.2.1 ∧ n0 = (de_w 58659 10 n0 gg rb qb pv).2.2.2 ∧ ev = en_w (de_w 58659 10 n0 gg rb qb pv).1 ev from (⟨rfl, up_same rb, rfl, rfl, rfl⟩)) (hP.sub (ws' := [(y0, .inr (4, [.int th, .int (nI lm), .int sz, .int em, .int lt, .int sp, .int (nI np), .int fd, .int bg, .ref m_op, .ref m_nu, .ref m_gv, .ref m_sh, .ref m_he, .ref m_pu, .ref m_pc, .ref m_pl, .ref m_pb, .ref m_ps, .int n0, .int ev])), (m_he, .inl (cL, 36, .inr (.inl (hh_w ra (vp_updL rb 16 (rb 16)))))), (m_pu, .inl (cL, 8, .inr (.inl (pp_w qa qb)))), (m_gv, .inl (cI, 4, .inl gg))]) [0, 1, 2, 3] rfl) (hD.sub (ws' := [(y0, .inr (4, [.int th, .int (nI lm), .int sz, .int em, .int lt, .int sp, .int (nI np), .int fd, .int bg, .ref m_op, .ref m_nu, .ref m_gv, .ref m_sh, .ref m_he, .ref m_pu, .ref m_pc, .ref m_pl, .ref m_pb, .ref m_ps, .int n0, .int ev])), (m_he, .inl (cL, 36, .inr (.inl (hh_w ra (vp_updL rb 16 (rb 16)))))), (m_pu, .inl (cL, 8, .inr (.inl (pp_w qa qb)))), (m_gv, .inl (cI, 4, .inl gg))]) [0, 1, 2, 3] (by decide) rfl) hS d_Modl_does_496
            · exact absurd (by decide) c_116
          · exact absurd c_115 (by decide)
  by_cases c_117 : o0 = 11
  · refine lv_tableIn (tgt := 317) hx hb d_Modl_does_35 (by rw [c_117]; decide) (by rw [c_117]; decide) (by rw [c_117]; rfl) (by decide) ?_
    subst c_117
    refine lv_aload_n hx hb d_Modl_does_317 rfl (lv_at hl 4 rfl) ?_
    refine lv_lload hx hb d_Modl_does_318 (lv_at hl 2 rfl) ?_
    refine lv_lconst (v := 0) hx hb d_Modl_does_320 (by decide) ?_
    refine W.lcmp hx hb d_Modl_does_321 ?_
    refine lv_if_ne (tgt := 329) hx hb d_Modl_does_322 (by decide) (fun c_118 => ?_) (fun c_118 => ?_)
    · have c_118 : ¬ (lg_cmp (rb 16) 0) = 0 := c_118
      rw [lc_eq] at c_118
      refine lv_aload_n hx hb d_Modl_does_329 rfl (lv_at hl 4 rfl) ?_
      refine va_get (D := (dC, dI)) (ci := 4) (v := .int pv) (C := R_Modl) (T := F_Modl) (N := 21) hx hb htb iw_Modl hown hK.1 hP 0 rfl rfl 19 (by decide) (htb _ tw_434) (fun _ h9 => h9) rfl d_Modl_does_330 ?_
      refine va_put (D := (dC, dI)) (ci := 4) (v := .int pv) (ty := .int) (C := R_Modl) (T := F_Modl) (N := 21) hx hb htb iw_Modl t_Modl t_Modl_ok n_Modl hown hK.1 hP hD hS 0 rfl rfl 19 (by decide) (htb _ tw_434) (fun _ h9 => h9) rfl (by decide +kernel) rfl rfl (Nat.le_of_ble_eq_true rfl) d_Modl_does_333 (fun H locs hP hD hS => ?_)
      have hP : va_P (dC, dI) classes [(y0, .inr (4, [.int th, .int (nI lm), .int sz, .int em, .int lt, .int sp, .int (nI np), .int fd, .int bg, .ref m_op, .ref m_nu, .ref m_gv, .ref m_sh, .ref m_he, .ref m_pu, .ref m_pc, .ref m_pl, .ref m_pb, .ref m_ps, .int pv, .int ev])), (m_he, .inl (cL, 36, .inr (.inl (hh_w ra rb)))), (m_pu, .inl (cL, 8, .inr (.inl (pp_w qa qb)))), (m_gv, .inl (cI, 4, .inl gg))] H := hP
      have hD : va_D A [(y0, .inr (4, [.int th, .int (nI lm), .int sz, .int em, .int lt, .int sp, .int (nI np), .int fd, .int bg, .ref m_op, .ref m_nu, .ref m_gv, .ref m_sh, .ref m_he, .ref m_pu, .ref m_pc, .ref m_pl, .ref m_pb, .ref m_ps, .int pv, .int ev])), (m_he, .inl (cL, 36, .inr (.inl (hh_w ra rb)))), (m_pu, .inl (cL, 8, .inr (.inl (pp_w qa qb)))), (m_gv, .inl (cI, 4, .inl gg))] := hD
      refine lv_goto (tgt := 434) hx hb d_Modl_does_336 (by decide) ?_
      refine lv_aload_n hx hb d_Modl_does_434 rfl (lv_at hl 4 rfl) ?_
      refine va_get (D := (dC, dI)) (ci := 4) (v := .ref m_he) (C := R_Modl) (T := F_Modl) (N := 21) hx hb htb iw_Modl hown hK.1 hP 0 rfl rfl 13 (by decide) (htb _ tw_428) (fun _ h9 => h9) rfl d_Modl_does_435 ?_
      refine lv_iload hx hb d_Modl_does_438 (lv_at hl 3 rfl) ?_
      refine lv_bipush (v := 16) hx hb d_Modl_does_440 (by decide) ?_
      refine lv_iadd hx hb d_Modl_does_442 ?_
      refine W.eq (g2 := F0 m 443 ls [.int 34, .ref m_he]) rfl ?_
      refine lv_lload hx hb d_Modl_does_443 (lv_at hl 0 rfl) ?_
      refine sd_l (g := hh_w ra (vp_updL rb 16 (rb 16))) (cA := cL) hx hb hK.1 hP hD hS 1 1 rfl rfl (show ¬ (_ ∨ _) by decide) (hh_k1 (k := 16)) d_Modl_does_445 (fun H locs hP hD hS => ?_)
      have hP : va_P (dC, dI) classes [(y0, .inr (4, [.int th, .int (nI lm), .int sz, .int em, .int lt, .int sp, .int (nI np), .int fd, .int bg, .ref m_op, .ref m_nu, .ref m_gv, .ref m_sh, .ref m_he, .ref m_pu, .ref m_pc, .ref m_pl, .ref m_pb, .ref m_ps, .int pv, .int ev])), (m_he, .inl (cL, 36, .inr (.inl (hh_w ra (vp_updL rb 16 (rb 16)))))), (m_pu, .inl (cL, 8, .inr (.inl (pp_w qa qb)))), (m_gv, .inl (cI, 4, .inl gg))] H := hP
      have hD : va_D A [(y0, .inr (4, [.int th, .int (nI lm), .int sz, .int em, .int lt, .int sp, .int (nI np), .int fd, .int bg, .ref m_op, .ref m_nu, .ref m_gv, .ref m_sh, .ref m_he, .ref m_pu, .ref m_pc, .ref m_pl, .ref m_pb, .ref m_ps, .int pv, .int ev])), (m_he, .inl (cL, 36, .inr (.inl (hh_w ra (vp_updL rb 16 (rb 16)))))), (m_pu, .inl (cL, 8, .inr (.inl (pp_w qa qb)))), (m_gv, .inl (cI, 4, .inl gg))] := hD
      refine lv_iload_n hx hb d_Modl_does_446 rfl (lv_at hl 6 rfl) ?_
      refine lv_iconst (v := 3) hx hb d_Modl_does_447 (by decide) ?_
      refine lv_icmp_le (tgt := 457) hx hb d_Modl_does_448 (by decide) (fun c_119 => ?_) (fun c_119 => ?_)
      · exact absurd c_119 (by decide)
      · skip
        refine lv_iload_n hx hb d_Modl_does_451 rfl (lv_at hl 6 rfl) ?_
        refine lv_bipush (v := 7) hx hb d_Modl_does_452 (by decide) ?_
        refine lv_icmp_lt (tgt := 469) hx hb d_Modl_does_454 (by decide) (fun c_120 => ?_) (fun c_120 => ?_)
        · exact absurd c_120 (by decide)
        · skip
          refine lv_iload_n hx hb d_Modl_does_457 rfl (lv_at hl 6 rfl) ?_
          refine lv_bipush (v := 9) hx hb d_Modl_does_458 (by decide) ?_
          refine lv_icmp_eq (tgt := 469) hx hb d_Modl_does_460 (by decide) (fun c_121 => ?_) (fun c_121 => ?_)
          · exact absurd c_121 (by decide)
          · skip
            refine lv_iload_n hx hb d_Modl_does_463 rfl (lv_at hl 6 rfl) ?_
            refine lv_bipush (v := 12) hx hb d_Modl_does_464 (by decide) ?_
            refine lv_icmp_ne (tgt := 473) hx hb d_Modl_does_466 (by decide) (fun c_122 => ?_) (fun c_122 => ?_)
            · skip
              refine lv_iconst (v := 0) hx hb d_Modl_does_473 (by decide) ?_
              refine lv_istore (lv' := [(11, .int 0), (9, .long (rb 16)), (7, .long (rb 17)), (5, .long (rb 16)), (4, .int 18), (0, .ref y0), (1, .int 1), (2, .int 11), (3, .int n0)]) hx hb d_Modl_does_474 hl (by decide) rfl (fun ls hl => ?_)
              refine lv_iload hx hb d_Modl_does_476 (lv_at hl 0 rfl) ?_
              refine lv_if_eq (tgt := 491) hx hb d_Modl_does_478 (by decide) (fun c_123 => ?_) (fun c_123 => ?_)
              · skip
                refine lv_iconst (v := 1) hx hb d_Modl_does_491 (by decide) ?_
                refine lv_goto (tgt := 496) hx hb d_Modl_does_492 (by decide) ?_
                exact rt_z (v := 1) ((vp_updL rb 16 (rb 16)), qb, pv, ev) hx hb hr hlocks (by decide) (show (1 : Int32) = dz_w (de_w 58659 11 n0 gg rb qb pv).1 ∧ (vp_updL rb 16 (rb 16)) = (de_w 58659 11 n0 gg rb qb pv).2.1 ∧ qb = (de_w 58659 11 n0 gg rb qb pv).2.2.1 ∧ pv = (de_w 58659 11 n0 gg rb qb pv).2.2.2 ∧ ev = en_w (de_w 58659 11 n0 gg rb qb pv).1 ev from (by rw [de_11n c_118]; exact ⟨rfl, up_same rb, rfl, rfl, rfl⟩)) (hP.sub (ws' := [(y0, .inr (4, [.int th, .int (nI lm), .int sz, .int em, .int lt, .int sp, .int (nI np), .int fd, .int bg, .ref m_op, .ref m_nu, .ref m_gv, .ref m_sh, .ref m_he, .ref m_pu, .ref m_pc, .ref m_pl, .ref m_pb, .ref m_ps, .int pv, .int ev])), (m_he, .inl (cL, 36, .inr (.inl (hh_w ra (vp_updL rb 16 (rb 16)))))), (m_pu, .inl (cL, 8, .inr (.inl (pp_w qa qb)))), (m_gv, .inl (cI, 4, .inl gg))]) [0, 1, 2, 3] rfl) (hD.sub (ws' := [(y0, .inr (4, [.int th, .int (nI lm), .int sz, .int em, .int lt, .int sp, .int (nI np), .int fd, .int bg, .ref m_op, .ref m_nu, .ref m_gv, .ref m_sh, .ref m_he, .ref m_pu, .ref m_pc, .ref m_pl, .ref m_pb, .ref m_ps, .int pv, .int ev])), (m_he, .inl (cL, 36, .inr (.inl (hh_w ra (vp_updL rb 16 (rb 16)))))), (m_pu, .inl (cL, 8, .inr (.inl (pp_w qa qb)))), (m_gv, .inl (cI, 4, .inl gg))]) [0, 1, 2, 3] (by decide) rfl) hS d_Modl_does_496
              · exact absurd (by decide) c_123
            · exact absurd c_122 (by decide)
    · have c_118 : (lg_cmp (rb 16) 0) = 0 := c_118
      rw [lc_eq] at c_118
      refine lv_iload_n hx hb d_Modl_does_325 rfl (lv_at hl 7 rfl) ?_
      refine lv_goto (tgt := 333) hx hb d_Modl_does_326 (by decide) ?_
      refine va_put (D := (dC, dI)) (ci := 4) (v := .int n0) (ty := .int) (C := R_Modl) (T := F_Modl) (N := 21) hx hb htb iw_Modl t_Modl t_Modl_ok n_Modl hown hK.1 hP hD hS 0 rfl rfl 19 (by decide) (htb _ tw_434) (fun _ h9 => h9) rfl (by decide +kernel) rfl rfl (Nat.le_of_ble_eq_true rfl) d_Modl_does_333 (fun H locs hP hD hS => ?_)
      have hP : va_P (dC, dI) classes [(y0, .inr (4, [.int th, .int (nI lm), .int sz, .int em, .int lt, .int sp, .int (nI np), .int fd, .int bg, .ref m_op, .ref m_nu, .ref m_gv, .ref m_sh, .ref m_he, .ref m_pu, .ref m_pc, .ref m_pl, .ref m_pb, .ref m_ps, .int n0, .int ev])), (m_he, .inl (cL, 36, .inr (.inl (hh_w ra rb)))), (m_pu, .inl (cL, 8, .inr (.inl (pp_w qa qb)))), (m_gv, .inl (cI, 4, .inl gg))] H := hP
      have hD : va_D A [(y0, .inr (4, [.int th, .int (nI lm), .int sz, .int em, .int lt, .int sp, .int (nI np), .int fd, .int bg, .ref m_op, .ref m_nu, .ref m_gv, .ref m_sh, .ref m_he, .ref m_pu, .ref m_pc, .ref m_pl, .ref m_pb, .ref m_ps, .int n0, .int ev])), (m_he, .inl (cL, 36, .inr (.inl (hh_w ra rb)))), (m_pu, .inl (cL, 8, .inr (.inl (pp_w qa qb)))), (m_gv, .inl (cI, 4, .inl gg))] := hD
      refine lv_goto (tgt := 434) hx hb d_Modl_does_336 (by decide) ?_
      refine lv_aload_n hx hb d_Modl_does_434 rfl (lv_at hl 4 rfl) ?_
      refine va_get (D := (dC, dI)) (ci := 4) (v := .ref m_he) (C := R_Modl) (T := F_Modl) (N := 21) hx hb htb iw_Modl hown hK.1 hP 0 rfl rfl 13 (by decide) (htb _ tw_428) (fun _ h9 => h9) rfl d_Modl_does_435 ?_
      refine lv_iload hx hb d_Modl_does_438 (lv_at hl 3 rfl) ?_
      refine lv_bipush (v := 16) hx hb d_Modl_does_440 (by decide) ?_
      refine lv_iadd hx hb d_Modl_does_442 ?_
      refine W.eq (g2 := F0 m 443 ls [.int 34, .ref m_he]) rfl ?_
      refine lv_lload hx hb d_Modl_does_443 (lv_at hl 0 rfl) ?_
      refine sd_l (g := hh_w ra (vp_updL rb 16 (rb 16))) (cA := cL) hx hb hK.1 hP hD hS 1 1 rfl rfl (show ¬ (_ ∨ _) by decide) (hh_k1 (k := 16)) d_Modl_does_445 (fun H locs hP hD hS => ?_)
      have hP : va_P (dC, dI) classes [(y0, .inr (4, [.int th, .int (nI lm), .int sz, .int em, .int lt, .int sp, .int (nI np), .int fd, .int bg, .ref m_op, .ref m_nu, .ref m_gv, .ref m_sh, .ref m_he, .ref m_pu, .ref m_pc, .ref m_pl, .ref m_pb, .ref m_ps, .int n0, .int ev])), (m_he, .inl (cL, 36, .inr (.inl (hh_w ra (vp_updL rb 16 (rb 16)))))), (m_pu, .inl (cL, 8, .inr (.inl (pp_w qa qb)))), (m_gv, .inl (cI, 4, .inl gg))] H := hP
      have hD : va_D A [(y0, .inr (4, [.int th, .int (nI lm), .int sz, .int em, .int lt, .int sp, .int (nI np), .int fd, .int bg, .ref m_op, .ref m_nu, .ref m_gv, .ref m_sh, .ref m_he, .ref m_pu, .ref m_pc, .ref m_pl, .ref m_pb, .ref m_ps, .int n0, .int ev])), (m_he, .inl (cL, 36, .inr (.inl (hh_w ra (vp_updL rb 16 (rb 16)))))), (m_pu, .inl (cL, 8, .inr (.inl (pp_w qa qb)))), (m_gv, .inl (cI, 4, .inl gg))] := hD
      refine lv_iload_n hx hb d_Modl_does_446 rfl (lv_at hl 6 rfl) ?_
      refine lv_iconst (v := 3) hx hb d_Modl_does_447 (by decide) ?_
      refine lv_icmp_le (tgt := 457) hx hb d_Modl_does_448 (by decide) (fun c_124 => ?_) (fun c_124 => ?_)
      · exact absurd c_124 (by decide)
      · skip
        refine lv_iload_n hx hb d_Modl_does_451 rfl (lv_at hl 6 rfl) ?_
        refine lv_bipush (v := 7) hx hb d_Modl_does_452 (by decide) ?_
        refine lv_icmp_lt (tgt := 469) hx hb d_Modl_does_454 (by decide) (fun c_125 => ?_) (fun c_125 => ?_)
        · exact absurd c_125 (by decide)
        · skip
          refine lv_iload_n hx hb d_Modl_does_457 rfl (lv_at hl 6 rfl) ?_
          refine lv_bipush (v := 9) hx hb d_Modl_does_458 (by decide) ?_
          refine lv_icmp_eq (tgt := 469) hx hb d_Modl_does_460 (by decide) (fun c_126 => ?_) (fun c_126 => ?_)
          · exact absurd c_126 (by decide)
          · skip
            refine lv_iload_n hx hb d_Modl_does_463 rfl (lv_at hl 6 rfl) ?_
            refine lv_bipush (v := 12) hx hb d_Modl_does_464 (by decide) ?_
            refine lv_icmp_ne (tgt := 473) hx hb d_Modl_does_466 (by decide) (fun c_127 => ?_) (fun c_127 => ?_)
            · skip
              refine lv_iconst (v := 0) hx hb d_Modl_does_473 (by decide) ?_
              refine lv_istore (lv' := [(11, .int 0), (9, .long (rb 16)), (7, .long (rb 17)), (5, .long (rb 16)), (4, .int 18), (0, .ref y0), (1, .int 1), (2, .int 11), (3, .int n0)]) hx hb d_Modl_does_474 hl (by decide) rfl (fun ls hl => ?_)
              refine lv_iload hx hb d_Modl_does_476 (lv_at hl 0 rfl) ?_
              refine lv_if_eq (tgt := 491) hx hb d_Modl_does_478 (by decide) (fun c_128 => ?_) (fun c_128 => ?_)
              · skip
                refine lv_iconst (v := 1) hx hb d_Modl_does_491 (by decide) ?_
                refine lv_goto (tgt := 496) hx hb d_Modl_does_492 (by decide) ?_
                exact rt_z (v := 1) ((vp_updL rb 16 (rb 16)), qb, n0, ev) hx hb hr hlocks (by decide) (show (1 : Int32) = dz_w (de_w 58659 11 n0 gg rb qb pv).1 ∧ (vp_updL rb 16 (rb 16)) = (de_w 58659 11 n0 gg rb qb pv).2.1 ∧ qb = (de_w 58659 11 n0 gg rb qb pv).2.2.1 ∧ n0 = (de_w 58659 11 n0 gg rb qb pv).2.2.2 ∧ ev = en_w (de_w 58659 11 n0 gg rb qb pv).1 ev from (by rw [de_11p c_118]; exact ⟨rfl, up_same rb, rfl, rfl, rfl⟩)) (hP.sub (ws' := [(y0, .inr (4, [.int th, .int (nI lm), .int sz, .int em, .int lt, .int sp, .int (nI np), .int fd, .int bg, .ref m_op, .ref m_nu, .ref m_gv, .ref m_sh, .ref m_he, .ref m_pu, .ref m_pc, .ref m_pl, .ref m_pb, .ref m_ps, .int n0, .int ev])), (m_he, .inl (cL, 36, .inr (.inl (hh_w ra (vp_updL rb 16 (rb 16)))))), (m_pu, .inl (cL, 8, .inr (.inl (pp_w qa qb)))), (m_gv, .inl (cI, 4, .inl gg))]) [0, 1, 2, 3] rfl) (hD.sub (ws' := [(y0, .inr (4, [.int th, .int (nI lm), .int sz, .int em, .int lt, .int sp, .int (nI np), .int fd, .int bg, .ref m_op, .ref m_nu, .ref m_gv, .ref m_sh, .ref m_he, .ref m_pu, .ref m_pc, .ref m_pl, .ref m_pb, .ref m_ps, .int n0, .int ev])), (m_he, .inl (cL, 36, .inr (.inl (hh_w ra (vp_updL rb 16 (rb 16)))))), (m_pu, .inl (cL, 8, .inr (.inl (pp_w qa qb)))), (m_gv, .inl (cI, 4, .inl gg))]) [0, 1, 2, 3] (by decide) rfl) hS d_Modl_does_496
              · exact absurd (by decide) c_128
            · exact absurd c_127 (by decide)
  by_cases c_129 : o0 = 12
  · refine lv_tableIn (tgt := 339) hx hb d_Modl_does_35 (by rw [c_129]; decide) (by rw [c_129]; decide) (by rw [c_129]; rfl) (by decide) ?_
    subst c_129
    refine lv_aload_n hx hb d_Modl_does_339 rfl (lv_at hl 4 rfl) ?_
    refine va_get (D := (dC, dI)) (ci := 4) (v := .ref m_gv) (C := R_Modl) (T := F_Modl) (N := 21) hx hb htb iw_Modl hown hK.1 hP 0 rfl rfl 11 (by decide) (htb _ tw_426) (fun _ h9 => h9) rfl d_Modl_does_340 ?_
    refine lv_iload_n hx hb d_Modl_does_343 rfl (lv_at hl 7 rfl) ?_
    refine ld_i (v := gg n0.toNatClampNeg) (cA := cI) hx hb hK.1 hP 3 0 rfl rfl (ii_in12 hv) rfl d_Modl_does_344 ?_
    refine lv_i2l (v := (gg n0.toNatClampNeg).toInt64) hx hb d_Modl_does_345 (by first | rfl | decide) ?_
    refine lv_aload_n hx hb d_Modl_does_346 rfl (lv_at hl 4 rfl) ?_
    refine lv_iload_n hx hb d_Modl_does_347 rfl (lv_at hl 5 rfl) ?_
    refine af_l (wr := [(m_he, .inl (cL, 36, .inr (.inl (hh_w ra rb)))), (m_pu, .inl (cL, 8, .inr (.inl (pp_w qa qb)))), (m_gv, .inl (cI, 4, .inl gg))]) (va_runV (As := [.int 1]) (rest := [.long ((gg n0.toNatClampNeg).toInt64)]) ⟨hx, hb, hml, hown, htb⟩ (c_Modl_times1 l dC dI cI cL s.heap.size y0 th lm sz em lt sp np fd bg m_op m_nu m_gv m_sh m_he m_pu m_pc m_pl m_pb m_ps pv ev ) ⟨callB_of 1 htb (gd_w tw_514) rfl rfl rfl (htb _ tw_25) (htb _ tw_511) (by decide +kernel) ⟨Nat.le_of_ble_eq_true rfl, Nat.le_of_ble_eq_true rfl⟩, htb _ tw_513, htb _ tw_16⟩ (pv_V hK (hP.sub (ws' := [(y0, .inr (4, [.int th, .int (nI lm), .int sz, .int em, .int lt, .int sp, .int (nI np), .int fd, .int bg, .ref m_op, .ref m_nu, .ref m_gv, .ref m_sh, .ref m_he, .ref m_pu, .ref m_pc, .ref m_pl, .ref m_pb, .ref m_ps, .int pv, .int ev]))]) [0] rfl) (hD.sub (ws' := [(y0, .inr (4, [.int th, .int (nI lm), .int sz, .int em, .int lt, .int sp, .int (nI np), .int fd, .int bg, .ref m_op, .ref m_nu, .ref m_gv, .ref m_sh, .ref m_he, .ref m_pu, .ref m_pc, .ref m_pl, .ref m_pb, .ref m_ps, .int pv, .int ev]))]) [0] (by decide) rfl) (ci := 4) (q0 := 0) rfl rfl) rfl rfl hl.1 rfl (lv_room (Nat.le_of_ble_eq_true rfl)) d_Modl_does_348 ⟨Nat.le_of_ble_eq_true rfl, Nat.le_of_ble_eq_true rfl⟩) hP hD hS hA [0] [1, 2, 3] rfl rfl (by decide) (by decide) (fun r_130 u_131 H locs hw hP hD hS => ?_)
    try dsimp only at hw
    subst hw
    have hP : va_P (dC, dI) classes [(m_he, .inl (cL, 36, .inr (.inl (hh_w ra rb)))), (m_pu, .inl (cL, 8, .inr (.inl (pp_w qa qb)))), (m_gv, .inl (cI, 4, .inl gg)), (y0, .inr (4, [.int th, .int (nI lm), .int sz, .int em, .int lt, .int sp, .int (nI np), .int fd, .int bg, .ref m_op, .ref m_nu, .ref m_gv, .ref m_sh, .ref m_he, .ref m_pu, .ref m_pc, .ref m_pl, .ref m_pb, .ref m_ps, .int pv, .int ev]))] H := hP
    have hD : va_D A [(m_he, .inl (cL, 36, .inr (.inl (hh_w ra rb)))), (m_pu, .inl (cL, 8, .inr (.inl (pp_w qa qb)))), (m_gv, .inl (cI, 4, .inl gg)), (y0, .inr (4, [.int th, .int (nI lm), .int sz, .int em, .int lt, .int sp, .int (nI np), .int fd, .int bg, .ref m_op, .ref m_nu, .ref m_gv, .ref m_sh, .ref m_he, .ref m_pu, .ref m_pc, .ref m_pl, .ref m_pb, .ref m_ps, .int pv, .int ev]))] := hD
    refine lv_lmul hx hb d_Modl_does_351 ?_
    refine lv_lstore (lv' := [(9, .long (((gg n0.toNatClampNeg).toInt64) * 58659)), (7, .long (rb 17)), (5, .long (rb 16)), (4, .int 18), (0, .ref y0), (1, .int 1), (2, .int 12), (3, .int n0)]) hx hb d_Modl_does_352 hl (by decide) rfl (fun ls hl => ?_)
    refine lv_goto (tgt := 434) hx hb d_Modl_does_354 (by decide) ?_
    refine lv_aload_n hx hb d_Modl_does_434 rfl (lv_at hl 4 rfl) ?_
    refine va_get (D := (dC, dI)) (ci := 4) (v := .ref m_he) (C := R_Modl) (T := F_Modl) (N := 21) hx hb htb iw_Modl hown hK.1 hP 3 rfl rfl 13 (by decide) (htb _ tw_428) (fun _ h9 => h9) rfl d_Modl_does_435 ?_
    refine lv_iload hx hb d_Modl_does_438 (lv_at hl 3 rfl) ?_
    refine lv_bipush (v := 16) hx hb d_Modl_does_440 (by decide) ?_
    refine lv_iadd hx hb d_Modl_does_442 ?_
    refine W.eq (g2 := F0 m 443 ls [.int 34, .ref m_he]) rfl ?_
    refine lv_lload hx hb d_Modl_does_443 (lv_at hl 0 rfl) ?_
    refine sd_l (g := hh_w ra (vp_updL rb 16 (((gg n0.toNatClampNeg).toInt64) * 58659))) (cA := cL) hx hb hK.1 hP hD hS 0 1 rfl rfl (show ¬ (_ ∨ _) by decide) (hh_k1 (k := 16)) d_Modl_does_445 (fun H locs hP hD hS => ?_)
    have hP : va_P (dC, dI) classes [(m_he, .inl (cL, 36, .inr (.inl (hh_w ra (vp_updL rb 16 (((gg n0.toNatClampNeg).toInt64) * 58659)))))), (m_pu, .inl (cL, 8, .inr (.inl (pp_w qa qb)))), (m_gv, .inl (cI, 4, .inl gg)), (y0, .inr (4, [.int th, .int (nI lm), .int sz, .int em, .int lt, .int sp, .int (nI np), .int fd, .int bg, .ref m_op, .ref m_nu, .ref m_gv, .ref m_sh, .ref m_he, .ref m_pu, .ref m_pc, .ref m_pl, .ref m_pb, .ref m_ps, .int pv, .int ev]))] H := hP
    have hD : va_D A [(m_he, .inl (cL, 36, .inr (.inl (hh_w ra (vp_updL rb 16 (((gg n0.toNatClampNeg).toInt64) * 58659)))))), (m_pu, .inl (cL, 8, .inr (.inl (pp_w qa qb)))), (m_gv, .inl (cI, 4, .inl gg)), (y0, .inr (4, [.int th, .int (nI lm), .int sz, .int em, .int lt, .int sp, .int (nI np), .int fd, .int bg, .ref m_op, .ref m_nu, .ref m_gv, .ref m_sh, .ref m_he, .ref m_pu, .ref m_pc, .ref m_pl, .ref m_pb, .ref m_ps, .int pv, .int ev]))] := hD
    refine lv_iload_n hx hb d_Modl_does_446 rfl (lv_at hl 6 rfl) ?_
    refine lv_iconst (v := 3) hx hb d_Modl_does_447 (by decide) ?_
    refine lv_icmp_le (tgt := 457) hx hb d_Modl_does_448 (by decide) (fun c_132 => ?_) (fun c_132 => ?_)
    · exact absurd c_132 (by decide)
    · skip
      refine lv_iload_n hx hb d_Modl_does_451 rfl (lv_at hl 6 rfl) ?_
      refine lv_bipush (v := 7) hx hb d_Modl_does_452 (by decide) ?_
      refine lv_icmp_lt (tgt := 469) hx hb d_Modl_does_454 (by decide) (fun c_133 => ?_) (fun c_133 => ?_)
      · exact absurd c_133 (by decide)
      · skip
        refine lv_iload_n hx hb d_Modl_does_457 rfl (lv_at hl 6 rfl) ?_
        refine lv_bipush (v := 9) hx hb d_Modl_does_458 (by decide) ?_
        refine lv_icmp_eq (tgt := 469) hx hb d_Modl_does_460 (by decide) (fun c_134 => ?_) (fun c_134 => ?_)
        · exact absurd c_134 (by decide)
        · skip
          refine lv_iload_n hx hb d_Modl_does_463 rfl (lv_at hl 6 rfl) ?_
          refine lv_bipush (v := 12) hx hb d_Modl_does_464 (by decide) ?_
          refine lv_icmp_ne (tgt := 473) hx hb d_Modl_does_466 (by decide) (fun c_135 => ?_) (fun c_135 => ?_)
          · exact absurd (by decide) c_135
          · skip
            refine lv_iconst (v := 1) hx hb d_Modl_does_469 (by decide) ?_
            refine lv_goto (tgt := 474) hx hb d_Modl_does_470 (by decide) ?_
            refine lv_istore (lv' := [(11, .int 1), (9, .long (((gg n0.toNatClampNeg).toInt64) * 58659)), (7, .long (rb 17)), (5, .long (rb 16)), (4, .int 18), (0, .ref y0), (1, .int 1), (2, .int 12), (3, .int n0)]) hx hb d_Modl_does_474 hl (by decide) rfl (fun ls hl => ?_)
            refine lv_iload hx hb d_Modl_does_476 (lv_at hl 0 rfl) ?_
            refine lv_if_eq (tgt := 491) hx hb d_Modl_does_478 (by decide) (fun c_136 => ?_) (fun c_136 => ?_)
            · exact absurd c_136 (by decide)
            · skip
              refine lv_aload_n hx hb d_Modl_does_481 rfl (lv_at hl 5 rfl) ?_
              refine lv_iload_n hx hb d_Modl_does_482 rfl (lv_at hl 6 rfl) ?_
              refine lv_lload hx hb d_Modl_does_483 (lv_at hl 1 rfl) ?_
              refine af_i (wr := [(m_he, .inl (cL, 36, .inr (.inl (hh_w ra (vp_updL rb 16 (((gg n0.toNatClampNeg).toInt64) * 58659)))))), (m_pu, .inl (cL, 8, .inr (.inl (pp_w qa qb)))), (m_gv, .inl (cI, 4, .inl gg))]) (va_runV (As := [.int 1, .long (((gg n0.toNatClampNeg).toInt64) * 58659)]) (rest := []) ⟨hx, hb, hml, hown, htb⟩ (c_Modl_may1 l dC dI cI cL H.size y0 th lm sz em lt sp np fd bg m_op m_nu m_gv m_sh m_he m_pu m_pc m_pl m_pb m_ps pv ev (((gg n0.toNatClampNeg).toInt64) * 58659) ) ⟨callB_of 2 htb (gd_w tw_522) rfl rfl rfl (htb _ tw_25) (htb _ tw_519) (by decide +kernel) ⟨Nat.le_of_ble_eq_true rfl, Nat.le_of_ble_eq_true rfl⟩, htb _ tw_521, htb _ tw_17⟩ (pv_V hK (hP.sub (ws' := [(y0, .inr (4, [.int th, .int (nI lm), .int sz, .int em, .int lt, .int sp, .int (nI np), .int fd, .int bg, .ref m_op, .ref m_nu, .ref m_gv, .ref m_sh, .ref m_he, .ref m_pu, .ref m_pc, .ref m_pl, .ref m_pb, .ref m_ps, .int pv, .int ev]))]) [3] rfl) (hD.sub (ws' := [(y0, .inr (4, [.int th, .int (nI lm), .int sz, .int em, .int lt, .int sp, .int (nI np), .int fd, .int bg, .ref m_op, .ref m_nu, .ref m_gv, .ref m_sh, .ref m_he, .ref m_pu, .ref m_pc, .ref m_pl, .ref m_pb, .ref m_ps, .int pv, .int ev]))]) [3] (by decide) rfl) (ci := 4) (q0 := 0) rfl rfl) rfl rfl hl.1 rfl (lv_room (Nat.le_of_ble_eq_true rfl)) d_Modl_does_485 ⟨Nat.le_of_ble_eq_true rfl, Nat.le_of_ble_eq_true rfl⟩) hP hD hS hA [3] [0, 1, 2] rfl rfl (by decide) (by decide) (fun r_137 u_138 H locs hw hP hD hS => ?_)
              try dsimp only at hw
              subst hw
              have hP : va_P (dC, dI) classes [(m_he, .inl (cL, 36, .inr (.inl (hh_w ra (vp_updL rb 16 (((gg n0.toNatClampNeg).toInt64) * 58659)))))), (m_pu, .inl (cL, 8, .inr (.inl (pp_w qa qb)))), (m_gv, .inl (cI, 4, .inl gg)), (y0, .inr (4, [.int th, .int (nI lm), .int sz, .int em, .int lt, .int sp, .int (nI np), .int fd, .int bg, .ref m_op, .ref m_nu, .ref m_gv, .ref m_sh, .ref m_he, .ref m_pu, .ref m_pc, .ref m_pl, .ref m_pb, .ref m_ps, .int pv, .int ev]))] H := hP
              have hD : va_D A [(m_he, .inl (cL, 36, .inr (.inl (hh_w ra (vp_updL rb 16 (((gg n0.toNatClampNeg).toInt64) * 58659)))))), (m_pu, .inl (cL, 8, .inr (.inl (pp_w qa qb)))), (m_gv, .inl (cI, 4, .inl gg)), (y0, .inr (4, [.int th, .int (nI lm), .int sz, .int em, .int lt, .int sp, .int (nI np), .int fd, .int bg, .ref m_op, .ref m_nu, .ref m_gv, .ref m_sh, .ref m_he, .ref m_pu, .ref m_pc, .ref m_pl, .ref m_pb, .ref m_ps, .int pv, .int ev]))] := hD
              refine lv_if_eq (tgt := 495) hx hb d_Modl_does_488 (by decide) (fun c_139 => ?_) (fun c_139 => ?_)
              · have c_139 : (ma_w (-117318000000000) 117318000000000 (((gg n0.toNatClampNeg).toInt64) * 58659)) = 0 := c_139
                refine lv_iconst (v := 0) hx hb d_Modl_does_495 (by decide) ?_
                exact rt_z (v := 0) ((vp_updL rb 16 (((gg n0.toNatClampNeg).toInt64) * 58659)), qb, pv, ev) hx hb hr hlocks (by decide) (show (0 : Int32) = dz_w (de_w 58659 12 n0 gg rb qb pv).1 ∧ (vp_updL rb 16 (((gg n0.toNatClampNeg).toInt64) * 58659)) = (de_w 58659 12 n0 gg rb qb pv).2.1 ∧ qb = (de_w 58659 12 n0 gg rb qb pv).2.2.1 ∧ pv = (de_w 58659 12 n0 gg rb qb pv).2.2.2 ∧ ev = en_w (de_w 58659 12 n0 gg rb qb pv).1 ev from (by exact ⟨(dz_0 ((ma_tb1 ((gg n0.toNatClampNeg).toInt64 * 58659)).mp c_139)).symm, rfl, rfl, rfl, en_0 (tb_n1 _ _)⟩)) (hP.sub (ws' := [(y0, .inr (4, [.int th, .int (nI lm), .int sz, .int em, .int lt, .int sp, .int (nI np), .int fd, .int bg, .ref m_op, .ref m_nu, .ref m_gv, .ref m_sh, .ref m_he, .ref m_pu, .ref m_pc, .ref m_pl, .ref m_pb, .ref m_ps, .int pv, .int ev])), (m_he, .inl (cL, 36, .inr (.inl (hh_w ra (vp_updL rb 16 (((gg n0.toNatClampNeg).toInt64) * 58659)))))), (m_pu, .inl (cL, 8, .inr (.inl (pp_w qa qb)))), (m_gv, .inl (cI, 4, .inl gg))]) [3, 0, 1, 2] rfl) (hD.sub (ws' := [(y0, .inr (4, [.int th, .int (nI lm), .int sz, .int em, .int lt, .int sp, .int (nI np), .int fd, .int bg, .ref m_op, .ref m_nu, .ref m_gv, .ref m_sh, .ref m_he, .ref m_pu, .ref m_pc, .ref m_pl, .ref m_pb, .ref m_ps, .int pv, .int ev])), (m_he, .inl (cL, 36, .inr (.inl (hh_w ra (vp_updL rb 16 (((gg n0.toNatClampNeg).toInt64) * 58659)))))), (m_pu, .inl (cL, 8, .inr (.inl (pp_w qa qb)))), (m_gv, .inl (cI, 4, .inl gg))]) [3, 0, 1, 2] (by decide) rfl) hS d_Modl_does_496
              · have c_139 : ¬ (ma_w (-117318000000000) 117318000000000 (((gg n0.toNatClampNeg).toInt64) * 58659)) = 0 := c_139
                refine lv_iconst (v := 1) hx hb d_Modl_does_491 (by decide) ?_
                refine lv_goto (tgt := 496) hx hb d_Modl_does_492 (by decide) ?_
                exact rt_z (v := 1) ((vp_updL rb 16 (((gg n0.toNatClampNeg).toInt64) * 58659)), qb, pv, ev) hx hb hr hlocks (by decide) (show (1 : Int32) = dz_w (de_w 58659 12 n0 gg rb qb pv).1 ∧ (vp_updL rb 16 (((gg n0.toNatClampNeg).toInt64) * 58659)) = (de_w 58659 12 n0 gg rb qb pv).2.1 ∧ qb = (de_w 58659 12 n0 gg rb qb pv).2.2.1 ∧ pv = (de_w 58659 12 n0 gg rb qb pv).2.2.2 ∧ ev = en_w (de_w 58659 12 n0 gg rb qb pv).1 ev from (by exact ⟨(dz_1 (fun h9 => c_139 ((ma_tb1 ((gg n0.toNatClampNeg).toInt64 * 58659)).mpr h9))).symm, rfl, rfl, rfl, en_0 (tb_n1 _ _)⟩)) (hP.sub (ws' := [(y0, .inr (4, [.int th, .int (nI lm), .int sz, .int em, .int lt, .int sp, .int (nI np), .int fd, .int bg, .ref m_op, .ref m_nu, .ref m_gv, .ref m_sh, .ref m_he, .ref m_pu, .ref m_pc, .ref m_pl, .ref m_pb, .ref m_ps, .int pv, .int ev])), (m_he, .inl (cL, 36, .inr (.inl (hh_w ra (vp_updL rb 16 (((gg n0.toNatClampNeg).toInt64) * 58659)))))), (m_pu, .inl (cL, 8, .inr (.inl (pp_w qa qb)))), (m_gv, .inl (cI, 4, .inl gg))]) [3, 0, 1, 2] rfl) (hD.sub (ws' := [(y0, .inr (4, [.int th, .int (nI lm), .int sz, .int em, .int lt, .int sp, .int (nI np), .int fd, .int bg, .ref m_op, .ref m_nu, .ref m_gv, .ref m_sh, .ref m_he, .ref m_pu, .ref m_pc, .ref m_pl, .ref m_pb, .ref m_ps, .int pv, .int ev])), (m_he, .inl (cL, 36, .inr (.inl (hh_w ra (vp_updL rb 16 (((gg n0.toNatClampNeg).toInt64) * 58659)))))), (m_pu, .inl (cL, 8, .inr (.inl (pp_w qa qb)))), (m_gv, .inl (cI, 4, .inl gg))]) [3, 0, 1, 2] (by decide) rfl) hS d_Modl_does_496
  by_cases c_140 : o0 = 13
  · refine lv_tableIn (tgt := 357) hx hb d_Modl_does_35 (by rw [c_140]; decide) (by rw [c_140]; decide) (by rw [c_140]; rfl) (by decide) ?_
    subst c_140
    refine lv_aload_n hx hb d_Modl_does_357 rfl (lv_at hl 4 rfl) ?_
    refine va_get (D := (dC, dI)) (ci := 4) (v := .ref m_pu) (C := R_Modl) (T := F_Modl) (N := 21) hx hb htb iw_Modl hown hK.1 hP 0 rfl rfl 14 (by decide) (htb _ tw_429) (fun _ h9 => h9) rfl d_Modl_does_358 ?_
    refine lv_iconst (v := 4) hx hb d_Modl_does_361 (by decide) ?_
    refine lv_iload_n hx hb d_Modl_does_362 rfl (lv_at hl 5 rfl) ?_
    refine lv_imul hx hb d_Modl_does_363 ?_
    refine W.eq (g2 := F0 m 364 ls [.int 4, .ref m_pu]) rfl ?_
    refine lv_iload_n hx hb d_Modl_does_364 rfl (lv_at hl 7 rfl) ?_
    refine lv_iadd hx hb d_Modl_does_365 ?_
    refine lv_lload hx hb d_Modl_does_366 (lv_at hl 2 rfl) ?_
    refine sd_l (g := pp_w qa (vp_updL qb n0.toNatClampNeg (rb 16))) (cA := cL) hx hb hK.1 hP hD hS 2 1 rfl rfl (pp_i1 (ii_in13 hv)).2 (pp_u1 (ii_in13 hv)) d_Modl_does_368 (fun H locs hP hD hS => ?_)
    have hP : va_P (dC, dI) classes [(y0, .inr (4, [.int th, .int (nI lm), .int sz, .int em, .int lt, .int sp, .int (nI np), .int fd, .int bg, .ref m_op, .ref m_nu, .ref m_gv, .ref m_sh, .ref m_he, .ref m_pu, .ref m_pc, .ref m_pl, .ref m_pb, .ref m_ps, .int pv, .int ev])), (m_he, .inl (cL, 36, .inr (.inl (hh_w ra rb)))), (m_pu, .inl (cL, 8, .inr (.inl (pp_w qa (vp_updL qb n0.toNatClampNeg (rb 16)))))), (m_gv, .inl (cI, 4, .inl gg))] H := hP
    have hD : va_D A [(y0, .inr (4, [.int th, .int (nI lm), .int sz, .int em, .int lt, .int sp, .int (nI np), .int fd, .int bg, .ref m_op, .ref m_nu, .ref m_gv, .ref m_sh, .ref m_he, .ref m_pu, .ref m_pc, .ref m_pl, .ref m_pb, .ref m_ps, .int pv, .int ev])), (m_he, .inl (cL, 36, .inr (.inl (hh_w ra rb)))), (m_pu, .inl (cL, 8, .inr (.inl (pp_w qa (vp_updL qb n0.toNatClampNeg (rb 16)))))), (m_gv, .inl (cI, 4, .inl gg))] := hD
    refine lv_goto (tgt := 434) hx hb d_Modl_does_369 (by decide) ?_
    refine lv_aload_n hx hb d_Modl_does_434 rfl (lv_at hl 4 rfl) ?_
    refine va_get (D := (dC, dI)) (ci := 4) (v := .ref m_he) (C := R_Modl) (T := F_Modl) (N := 21) hx hb htb iw_Modl hown hK.1 hP 0 rfl rfl 13 (by decide) (htb _ tw_428) (fun _ h9 => h9) rfl d_Modl_does_435 ?_
    refine lv_iload hx hb d_Modl_does_438 (lv_at hl 3 rfl) ?_
    refine lv_bipush (v := 16) hx hb d_Modl_does_440 (by decide) ?_
    refine lv_iadd hx hb d_Modl_does_442 ?_
    refine W.eq (g2 := F0 m 443 ls [.int 34, .ref m_he]) rfl ?_
    refine lv_lload hx hb d_Modl_does_443 (lv_at hl 0 rfl) ?_
    refine sd_l (g := hh_w ra (vp_updL rb 16 (rb 16))) (cA := cL) hx hb hK.1 hP hD hS 1 1 rfl rfl (show ¬ (_ ∨ _) by decide) (hh_k1 (k := 16)) d_Modl_does_445 (fun H locs hP hD hS => ?_)
    have hP : va_P (dC, dI) classes [(y0, .inr (4, [.int th, .int (nI lm), .int sz, .int em, .int lt, .int sp, .int (nI np), .int fd, .int bg, .ref m_op, .ref m_nu, .ref m_gv, .ref m_sh, .ref m_he, .ref m_pu, .ref m_pc, .ref m_pl, .ref m_pb, .ref m_ps, .int pv, .int ev])), (m_he, .inl (cL, 36, .inr (.inl (hh_w ra (vp_updL rb 16 (rb 16)))))), (m_pu, .inl (cL, 8, .inr (.inl (pp_w qa (vp_updL qb n0.toNatClampNeg (rb 16)))))), (m_gv, .inl (cI, 4, .inl gg))] H := hP
    have hD : va_D A [(y0, .inr (4, [.int th, .int (nI lm), .int sz, .int em, .int lt, .int sp, .int (nI np), .int fd, .int bg, .ref m_op, .ref m_nu, .ref m_gv, .ref m_sh, .ref m_he, .ref m_pu, .ref m_pc, .ref m_pl, .ref m_pb, .ref m_ps, .int pv, .int ev])), (m_he, .inl (cL, 36, .inr (.inl (hh_w ra (vp_updL rb 16 (rb 16)))))), (m_pu, .inl (cL, 8, .inr (.inl (pp_w qa (vp_updL qb n0.toNatClampNeg (rb 16)))))), (m_gv, .inl (cI, 4, .inl gg))] := hD
    refine lv_iload_n hx hb d_Modl_does_446 rfl (lv_at hl 6 rfl) ?_
    refine lv_iconst (v := 3) hx hb d_Modl_does_447 (by decide) ?_
    refine lv_icmp_le (tgt := 457) hx hb d_Modl_does_448 (by decide) (fun c_141 => ?_) (fun c_141 => ?_)
    · exact absurd c_141 (by decide)
    · skip
      refine lv_iload_n hx hb d_Modl_does_451 rfl (lv_at hl 6 rfl) ?_
      refine lv_bipush (v := 7) hx hb d_Modl_does_452 (by decide) ?_
      refine lv_icmp_lt (tgt := 469) hx hb d_Modl_does_454 (by decide) (fun c_142 => ?_) (fun c_142 => ?_)
      · exact absurd c_142 (by decide)
      · skip
        refine lv_iload_n hx hb d_Modl_does_457 rfl (lv_at hl 6 rfl) ?_
        refine lv_bipush (v := 9) hx hb d_Modl_does_458 (by decide) ?_
        refine lv_icmp_eq (tgt := 469) hx hb d_Modl_does_460 (by decide) (fun c_143 => ?_) (fun c_143 => ?_)
        · exact absurd c_143 (by decide)
        · skip
          refine lv_iload_n hx hb d_Modl_does_463 rfl (lv_at hl 6 rfl) ?_
          refine lv_bipush (v := 12) hx hb d_Modl_does_464 (by decide) ?_
          refine lv_icmp_ne (tgt := 473) hx hb d_Modl_does_466 (by decide) (fun c_144 => ?_) (fun c_144 => ?_)
          · skip
            refine lv_iconst (v := 0) hx hb d_Modl_does_473 (by decide) ?_
            refine lv_istore (lv' := [(11, .int 0), (9, .long (rb 16)), (7, .long (rb 17)), (5, .long (rb 16)), (4, .int 18), (0, .ref y0), (1, .int 1), (2, .int 13), (3, .int n0)]) hx hb d_Modl_does_474 hl (by decide) rfl (fun ls hl => ?_)
            refine lv_iload hx hb d_Modl_does_476 (lv_at hl 0 rfl) ?_
            refine lv_if_eq (tgt := 491) hx hb d_Modl_does_478 (by decide) (fun c_145 => ?_) (fun c_145 => ?_)
            · skip
              refine lv_iconst (v := 1) hx hb d_Modl_does_491 (by decide) ?_
              refine lv_goto (tgt := 496) hx hb d_Modl_does_492 (by decide) ?_
              exact rt_z (v := 1) ((vp_updL rb 16 (rb 16)), (vp_updL qb n0.toNatClampNeg (rb 16)), pv, ev) hx hb hr hlocks (by decide) (show (1 : Int32) = dz_w (de_w 58659 13 n0 gg rb qb pv).1 ∧ (vp_updL rb 16 (rb 16)) = (de_w 58659 13 n0 gg rb qb pv).2.1 ∧ (vp_updL qb n0.toNatClampNeg (rb 16)) = (de_w 58659 13 n0 gg rb qb pv).2.2.1 ∧ pv = (de_w 58659 13 n0 gg rb qb pv).2.2.2 ∧ ev = en_w (de_w 58659 13 n0 gg rb qb pv).1 ev from (⟨rfl, up_same rb, rfl, rfl, rfl⟩)) (hP.sub (ws' := [(y0, .inr (4, [.int th, .int (nI lm), .int sz, .int em, .int lt, .int sp, .int (nI np), .int fd, .int bg, .ref m_op, .ref m_nu, .ref m_gv, .ref m_sh, .ref m_he, .ref m_pu, .ref m_pc, .ref m_pl, .ref m_pb, .ref m_ps, .int pv, .int ev])), (m_he, .inl (cL, 36, .inr (.inl (hh_w ra (vp_updL rb 16 (rb 16)))))), (m_pu, .inl (cL, 8, .inr (.inl (pp_w qa (vp_updL qb n0.toNatClampNeg (rb 16)))))), (m_gv, .inl (cI, 4, .inl gg))]) [0, 1, 2, 3] rfl) (hD.sub (ws' := [(y0, .inr (4, [.int th, .int (nI lm), .int sz, .int em, .int lt, .int sp, .int (nI np), .int fd, .int bg, .ref m_op, .ref m_nu, .ref m_gv, .ref m_sh, .ref m_he, .ref m_pu, .ref m_pc, .ref m_pl, .ref m_pb, .ref m_ps, .int pv, .int ev])), (m_he, .inl (cL, 36, .inr (.inl (hh_w ra (vp_updL rb 16 (rb 16)))))), (m_pu, .inl (cL, 8, .inr (.inl (pp_w qa (vp_updL qb n0.toNatClampNeg (rb 16)))))), (m_gv, .inl (cI, 4, .inl gg))]) [0, 1, 2, 3] (by decide) rfl) hS d_Modl_does_496
            · exact absurd (by decide) c_145
          · exact absurd c_144 (by decide)
  by_cases c_146 : o0 = 14
  · refine lv_tableIn (tgt := 372) hx hb d_Modl_does_35 (by rw [c_146]; decide) (by rw [c_146]; decide) (by rw [c_146]; rfl) (by decide) ?_
    subst c_146
    refine lv_aload_n hx hb d_Modl_does_372 rfl (lv_at hl 4 rfl) ?_
    refine lv_iconst (v := 1) hx hb d_Modl_does_373 (by decide) ?_
    refine va_put (D := (dC, dI)) (ci := 4) (v := .int 1) (ty := .boolean) (C := R_Modl) (T := F_Modl) (N := 21) hx hb htb iw_Modl t_Modl t_Modl_ok n_Modl hown hK.1 hP hD hS 0 rfl rfl 20 (by decide) (htb _ tw_435) (fun _ h9 => h9) rfl (by decide +kernel) (by first | rfl | decide) (by first | rfl | decide) (Nat.le_of_ble_eq_true rfl) d_Modl_does_374 (fun H locs hP hD hS => ?_)
    have hP : va_P (dC, dI) classes [(y0, .inr (4, [.int th, .int (nI lm), .int sz, .int em, .int lt, .int sp, .int (nI np), .int fd, .int bg, .ref m_op, .ref m_nu, .ref m_gv, .ref m_sh, .ref m_he, .ref m_pu, .ref m_pc, .ref m_pl, .ref m_pb, .ref m_ps, .int pv, .int 1])), (m_he, .inl (cL, 36, .inr (.inl (hh_w ra rb)))), (m_pu, .inl (cL, 8, .inr (.inl (pp_w qa qb)))), (m_gv, .inl (cI, 4, .inl gg))] H := hP
    have hD : va_D A [(y0, .inr (4, [.int th, .int (nI lm), .int sz, .int em, .int lt, .int sp, .int (nI np), .int fd, .int bg, .ref m_op, .ref m_nu, .ref m_gv, .ref m_sh, .ref m_he, .ref m_pu, .ref m_pc, .ref m_pl, .ref m_pb, .ref m_ps, .int pv, .int 1])), (m_he, .inl (cL, 36, .inr (.inl (hh_w ra rb)))), (m_pu, .inl (cL, 8, .inr (.inl (pp_w qa qb)))), (m_gv, .inl (cI, 4, .inl gg))] := hD
    refine lv_goto (tgt := 434) hx hb d_Modl_does_377 (by decide) ?_
    refine lv_aload_n hx hb d_Modl_does_434 rfl (lv_at hl 4 rfl) ?_
    refine va_get (D := (dC, dI)) (ci := 4) (v := .ref m_he) (C := R_Modl) (T := F_Modl) (N := 21) hx hb htb iw_Modl hown hK.1 hP 0 rfl rfl 13 (by decide) (htb _ tw_428) (fun _ h9 => h9) rfl d_Modl_does_435 ?_
    refine lv_iload hx hb d_Modl_does_438 (lv_at hl 3 rfl) ?_
    refine lv_bipush (v := 16) hx hb d_Modl_does_440 (by decide) ?_
    refine lv_iadd hx hb d_Modl_does_442 ?_
    refine W.eq (g2 := F0 m 443 ls [.int 34, .ref m_he]) rfl ?_
    refine lv_lload hx hb d_Modl_does_443 (lv_at hl 0 rfl) ?_
    refine sd_l (g := hh_w ra (vp_updL rb 16 (rb 16))) (cA := cL) hx hb hK.1 hP hD hS 1 1 rfl rfl (show ¬ (_ ∨ _) by decide) (hh_k1 (k := 16)) d_Modl_does_445 (fun H locs hP hD hS => ?_)
    have hP : va_P (dC, dI) classes [(y0, .inr (4, [.int th, .int (nI lm), .int sz, .int em, .int lt, .int sp, .int (nI np), .int fd, .int bg, .ref m_op, .ref m_nu, .ref m_gv, .ref m_sh, .ref m_he, .ref m_pu, .ref m_pc, .ref m_pl, .ref m_pb, .ref m_ps, .int pv, .int 1])), (m_he, .inl (cL, 36, .inr (.inl (hh_w ra (vp_updL rb 16 (rb 16)))))), (m_pu, .inl (cL, 8, .inr (.inl (pp_w qa qb)))), (m_gv, .inl (cI, 4, .inl gg))] H := hP
    have hD : va_D A [(y0, .inr (4, [.int th, .int (nI lm), .int sz, .int em, .int lt, .int sp, .int (nI np), .int fd, .int bg, .ref m_op, .ref m_nu, .ref m_gv, .ref m_sh, .ref m_he, .ref m_pu, .ref m_pc, .ref m_pl, .ref m_pb, .ref m_ps, .int pv, .int 1])), (m_he, .inl (cL, 36, .inr (.inl (hh_w ra (vp_updL rb 16 (rb 16)))))), (m_pu, .inl (cL, 8, .inr (.inl (pp_w qa qb)))), (m_gv, .inl (cI, 4, .inl gg))] := hD
    refine lv_iload_n hx hb d_Modl_does_446 rfl (lv_at hl 6 rfl) ?_
    refine lv_iconst (v := 3) hx hb d_Modl_does_447 (by decide) ?_
    refine lv_icmp_le (tgt := 457) hx hb d_Modl_does_448 (by decide) (fun c_147 => ?_) (fun c_147 => ?_)
    · exact absurd c_147 (by decide)
    · skip
      refine lv_iload_n hx hb d_Modl_does_451 rfl (lv_at hl 6 rfl) ?_
      refine lv_bipush (v := 7) hx hb d_Modl_does_452 (by decide) ?_
      refine lv_icmp_lt (tgt := 469) hx hb d_Modl_does_454 (by decide) (fun c_148 => ?_) (fun c_148 => ?_)
      · exact absurd c_148 (by decide)
      · skip
        refine lv_iload_n hx hb d_Modl_does_457 rfl (lv_at hl 6 rfl) ?_
        refine lv_bipush (v := 9) hx hb d_Modl_does_458 (by decide) ?_
        refine lv_icmp_eq (tgt := 469) hx hb d_Modl_does_460 (by decide) (fun c_149 => ?_) (fun c_149 => ?_)
        · exact absurd c_149 (by decide)
        · skip
          refine lv_iload_n hx hb d_Modl_does_463 rfl (lv_at hl 6 rfl) ?_
          refine lv_bipush (v := 12) hx hb d_Modl_does_464 (by decide) ?_
          refine lv_icmp_ne (tgt := 473) hx hb d_Modl_does_466 (by decide) (fun c_150 => ?_) (fun c_150 => ?_)
          · skip
            refine lv_iconst (v := 0) hx hb d_Modl_does_473 (by decide) ?_
            refine lv_istore (lv' := [(11, .int 0), (9, .long (rb 16)), (7, .long (rb 17)), (5, .long (rb 16)), (4, .int 18), (0, .ref y0), (1, .int 1), (2, .int 14), (3, .int n0)]) hx hb d_Modl_does_474 hl (by decide) rfl (fun ls hl => ?_)
            refine lv_iload hx hb d_Modl_does_476 (lv_at hl 0 rfl) ?_
            refine lv_if_eq (tgt := 491) hx hb d_Modl_does_478 (by decide) (fun c_151 => ?_) (fun c_151 => ?_)
            · skip
              refine lv_iconst (v := 1) hx hb d_Modl_does_491 (by decide) ?_
              refine lv_goto (tgt := 496) hx hb d_Modl_does_492 (by decide) ?_
              exact rt_z (v := 1) ((vp_updL rb 16 (rb 16)), qb, pv, 1) hx hb hr hlocks (by decide) (show (1 : Int32) = dz_w (de_w 58659 14 n0 gg rb qb pv).1 ∧ (vp_updL rb 16 (rb 16)) = (de_w 58659 14 n0 gg rb qb pv).2.1 ∧ qb = (de_w 58659 14 n0 gg rb qb pv).2.2.1 ∧ pv = (de_w 58659 14 n0 gg rb qb pv).2.2.2 ∧ (1 : Int32) = en_w (de_w 58659 14 n0 gg rb qb pv).1 ev from (⟨rfl, up_same rb, rfl, rfl, rfl⟩)) (hP.sub (ws' := [(y0, .inr (4, [.int th, .int (nI lm), .int sz, .int em, .int lt, .int sp, .int (nI np), .int fd, .int bg, .ref m_op, .ref m_nu, .ref m_gv, .ref m_sh, .ref m_he, .ref m_pu, .ref m_pc, .ref m_pl, .ref m_pb, .ref m_ps, .int pv, .int 1])), (m_he, .inl (cL, 36, .inr (.inl (hh_w ra (vp_updL rb 16 (rb 16)))))), (m_pu, .inl (cL, 8, .inr (.inl (pp_w qa qb)))), (m_gv, .inl (cI, 4, .inl gg))]) [0, 1, 2, 3] rfl) (hD.sub (ws' := [(y0, .inr (4, [.int th, .int (nI lm), .int sz, .int em, .int lt, .int sp, .int (nI np), .int fd, .int bg, .ref m_op, .ref m_nu, .ref m_gv, .ref m_sh, .ref m_he, .ref m_pu, .ref m_pc, .ref m_pl, .ref m_pb, .ref m_ps, .int pv, .int 1])), (m_he, .inl (cL, 36, .inr (.inl (hh_w ra (vp_updL rb 16 (rb 16)))))), (m_pu, .inl (cL, 8, .inr (.inl (pp_w qa qb)))), (m_gv, .inl (cI, 4, .inl gg))]) [0, 1, 2, 3] (by decide) rfl) hS d_Modl_does_496
            · exact absurd (by decide) c_151
          · exact absurd c_150 (by decide)
  refine lv_tableE (tgt := 380) hx hb d_Modl_does_35 (by decide) (fun j hj he => by have q_0 := lv_neT c_1 (a := 0) (by decide); have q_1 := lv_neT c_8 (a := 1) (by decide); have q_2 := lv_neT c_13 (a := 2) (by decide); have q_3 := lv_neT c_18 (a := 3) (by decide); have q_4 := lv_neT c_23 (a := 4) (by decide); have q_5 := lv_neT c_30 (a := 5) (by decide); have q_6 := lv_neT c_37 (a := 6) (by decide); have q_7 := lv_neT c_75 (a := 7) (by decide); have q_8 := lv_neT c_89 (a := 8) (by decide); have q_9 := lv_neT c_103 (a := 9) (by decide); have q_10 := lv_neT c_111 (a := 10) (by decide); have q_11 := lv_neT c_117 (a := 11) (by decide); have q_12 := lv_neT c_129 (a := 12) (by decide); have q_13 := lv_neT c_140 (a := 13) (by decide); have q_14 := lv_neT c_146 (a := 14) (by decide); rcases (show j = 0 ∨ j = 1 ∨ j = 2 ∨ j = 3 ∨ j = 4 ∨ j = 5 ∨ j = 6 ∨ j = 7 ∨ j = 8 ∨ j = 9 ∨ j = 10 ∨ j = 11 ∨ j = 12 ∨ j = 13 ∨ j = 14 by omega) with rfl | rfl | rfl | rfl | rfl | rfl | rfl | rfl | rfl | rfl | rfl | rfl | rfl | rfl | rfl <;> first | rfl | (exfalso; omega)) ?_
  obtain rfl : o0 = 15 := ii_15 hv c_1 c_8 c_13 c_18 c_23 c_30 c_37 c_75 c_89 c_103 c_111 c_117 c_129 c_140 c_146
  refine lv_lload hx hb d_Modl_does_380 (lv_at hl 2 rfl) ?_
  refine lv_aload_n hx hb d_Modl_does_382 rfl (lv_at hl 4 rfl) ?_
  refine lv_iload_n hx hb d_Modl_does_383 rfl (lv_at hl 5 rfl) ?_
  refine af_l (wr := [(m_he, .inl (cL, 36, .inr (.inl (hh_w ra rb)))), (m_pu, .inl (cL, 8, .inr (.inl (pp_w qa qb)))), (m_gv, .inl (cI, 4, .inl gg))]) (va_runV (As := [.int 1]) (rest := [.long (rb 16)]) ⟨hx, hb, hml, hown, htb⟩ (c_Modl_times1 l dC dI cI cL s.heap.size y0 th lm sz em lt sp np fd bg m_op m_nu m_gv m_sh m_he m_pu m_pc m_pl m_pb m_ps pv ev ) ⟨callB_of 1 htb (gd_w tw_514) rfl rfl rfl (htb _ tw_25) (htb _ tw_511) (by decide +kernel) ⟨Nat.le_of_ble_eq_true rfl, Nat.le_of_ble_eq_true rfl⟩, htb _ tw_513, htb _ tw_16⟩ (pv_V hK (hP.sub (ws' := [(y0, .inr (4, [.int th, .int (nI lm), .int sz, .int em, .int lt, .int sp, .int (nI np), .int fd, .int bg, .ref m_op, .ref m_nu, .ref m_gv, .ref m_sh, .ref m_he, .ref m_pu, .ref m_pc, .ref m_pl, .ref m_pb, .ref m_ps, .int pv, .int ev]))]) [0] rfl) (hD.sub (ws' := [(y0, .inr (4, [.int th, .int (nI lm), .int sz, .int em, .int lt, .int sp, .int (nI np), .int fd, .int bg, .ref m_op, .ref m_nu, .ref m_gv, .ref m_sh, .ref m_he, .ref m_pu, .ref m_pc, .ref m_pl, .ref m_pb, .ref m_ps, .int pv, .int ev]))]) [0] (by decide) rfl) (ci := 4) (q0 := 0) rfl rfl) rfl rfl hl.1 rfl (lv_room (Nat.le_of_ble_eq_true rfl)) d_Modl_does_384 ⟨Nat.le_of_ble_eq_true rfl, Nat.le_of_ble_eq_true rfl⟩) hP hD hS hA [0] [1, 2, 3] rfl rfl (by decide) (by decide) (fun r_152 u_153 H locs hw hP hD hS => ?_)
  try dsimp only at hw
  subst hw
  have hP : va_P (dC, dI) classes [(m_he, .inl (cL, 36, .inr (.inl (hh_w ra rb)))), (m_pu, .inl (cL, 8, .inr (.inl (pp_w qa qb)))), (m_gv, .inl (cI, 4, .inl gg)), (y0, .inr (4, [.int th, .int (nI lm), .int sz, .int em, .int lt, .int sp, .int (nI np), .int fd, .int bg, .ref m_op, .ref m_nu, .ref m_gv, .ref m_sh, .ref m_he, .ref m_pu, .ref m_pc, .ref m_pl, .ref m_pb, .ref m_ps, .int pv, .int ev]))] H := hP
  have hD : va_D A [(m_he, .inl (cL, 36, .inr (.inl (hh_w ra rb)))), (m_pu, .inl (cL, 8, .inr (.inl (pp_w qa qb)))), (m_gv, .inl (cI, 4, .inl gg)), (y0, .inr (4, [.int th, .int (nI lm), .int sz, .int em, .int lt, .int sp, .int (nI np), .int fd, .int bg, .ref m_op, .ref m_nu, .ref m_gv, .ref m_sh, .ref m_he, .ref m_pu, .ref m_pc, .ref m_pl, .ref m_pb, .ref m_ps, .int pv, .int ev]))] := hD
  refine lv_ldiv hx hb d_Modl_does_387 (by decide) ?_
  refine lv_lstore (lv' := [(11, .long ((rb 16) / 58659)), (9, .long (rb 16)), (7, .long (rb 17)), (5, .long (rb 16)), (4, .int 18), (0, .ref y0), (1, .int 1), (2, .int 15), (3, .int n0)]) hx hb d_Modl_does_388 hl (by decide) rfl (fun ls hl => ?_)
  refine lv_lload hx hb d_Modl_does_390 (lv_at hl 3 rfl) ?_
  refine lv_aload_n hx hb d_Modl_does_392 rfl (lv_at hl 5 rfl) ?_
  refine lv_iload_n hx hb d_Modl_does_393 rfl (lv_at hl 6 rfl) ?_
  refine af_l (wr := [(m_he, .inl (cL, 36, .inr (.inl (hh_w ra rb)))), (m_pu, .inl (cL, 8, .inr (.inl (pp_w qa qb)))), (m_gv, .inl (cI, 4, .inl gg))]) (va_runV (As := [.int 1]) (rest := [.long (rb 16)]) ⟨hx, hb, hml, hown, htb⟩ (c_Modl_times1 l dC dI cI cL H.size y0 th lm sz em lt sp np fd bg m_op m_nu m_gv m_sh m_he m_pu m_pc m_pl m_pb m_ps pv ev ) ⟨callB_of 1 htb (gd_w tw_514) rfl rfl rfl (htb _ tw_25) (htb _ tw_511) (by decide +kernel) ⟨Nat.le_of_ble_eq_true rfl, Nat.le_of_ble_eq_true rfl⟩, htb _ tw_513, htb _ tw_16⟩ (pv_V hK (hP.sub (ws' := [(y0, .inr (4, [.int th, .int (nI lm), .int sz, .int em, .int lt, .int sp, .int (nI np), .int fd, .int bg, .ref m_op, .ref m_nu, .ref m_gv, .ref m_sh, .ref m_he, .ref m_pu, .ref m_pc, .ref m_pl, .ref m_pb, .ref m_ps, .int pv, .int ev]))]) [3] rfl) (hD.sub (ws' := [(y0, .inr (4, [.int th, .int (nI lm), .int sz, .int em, .int lt, .int sp, .int (nI np), .int fd, .int bg, .ref m_op, .ref m_nu, .ref m_gv, .ref m_sh, .ref m_he, .ref m_pu, .ref m_pc, .ref m_pl, .ref m_pb, .ref m_ps, .int pv, .int ev]))]) [3] (by decide) rfl) (ci := 4) (q0 := 0) rfl rfl) rfl rfl hl.1 rfl (lv_room (Nat.le_of_ble_eq_true rfl)) d_Modl_does_394 ⟨Nat.le_of_ble_eq_true rfl, Nat.le_of_ble_eq_true rfl⟩) hP hD hS hA [3] [0, 1, 2] rfl rfl (by decide) (by decide) (fun r_154 u_155 H locs hw hP hD hS => ?_)
  try dsimp only at hw
  subst hw
  have hP : va_P (dC, dI) classes [(m_he, .inl (cL, 36, .inr (.inl (hh_w ra rb)))), (m_pu, .inl (cL, 8, .inr (.inl (pp_w qa qb)))), (m_gv, .inl (cI, 4, .inl gg)), (y0, .inr (4, [.int th, .int (nI lm), .int sz, .int em, .int lt, .int sp, .int (nI np), .int fd, .int bg, .ref m_op, .ref m_nu, .ref m_gv, .ref m_sh, .ref m_he, .ref m_pu, .ref m_pc, .ref m_pl, .ref m_pb, .ref m_ps, .int pv, .int ev]))] H := hP
  have hD : va_D A [(m_he, .inl (cL, 36, .inr (.inl (hh_w ra rb)))), (m_pu, .inl (cL, 8, .inr (.inl (pp_w qa qb)))), (m_gv, .inl (cI, 4, .inl gg)), (y0, .inr (4, [.int th, .int (nI lm), .int sz, .int em, .int lt, .int sp, .int (nI np), .int fd, .int bg, .ref m_op, .ref m_nu, .ref m_gv, .ref m_sh, .ref m_he, .ref m_pu, .ref m_pc, .ref m_pl, .ref m_pb, .ref m_ps, .int pv, .int ev]))] := hD
  refine lv_lrem hx hb d_Modl_does_397 (by decide) ?_
  refine lv_lconst (v := 0) hx hb d_Modl_does_398 (by decide) ?_
  refine W.lcmp hx hb d_Modl_does_399 ?_
  refine lv_if_ne (tgt := 419) hx hb d_Modl_does_400 (by decide) (fun c_156 => ?_) (fun c_156 => ?_)
  · have c_156 : ¬ (lg_cmp ((rb 16) - (rb 16) / 58659 * 58659) 0) = 0 := c_156
    rw [lc_eq] at c_156
    refine lv_iconst (v := 0) hx hb d_Modl_does_419 (by decide) ?_
    exact rt_z (v := 0) (rb, qb, pv, ev) hx hb hr hlocks (by decide) (show (0 : Int32) = dz_w (de_w 58659 15 n0 gg rb qb pv).1 ∧ rb = (de_w 58659 15 n0 gg rb qb pv).2.1 ∧ qb = (de_w 58659 15 n0 gg rb qb pv).2.2.1 ∧ pv = (de_w 58659 15 n0 gg rb qb pv).2.2.2 ∧ ev = en_w (de_w 58659 15 n0 gg rb qb pv).1 ev from (by rw [de_15a c_156]; exact ⟨rfl, rfl, rfl, rfl, rfl⟩)) (hP.sub (ws' := [(y0, .inr (4, [.int th, .int (nI lm), .int sz, .int em, .int lt, .int sp, .int (nI np), .int fd, .int bg, .ref m_op, .ref m_nu, .ref m_gv, .ref m_sh, .ref m_he, .ref m_pu, .ref m_pc, .ref m_pl, .ref m_pb, .ref m_ps, .int pv, .int ev])), (m_he, .inl (cL, 36, .inr (.inl (hh_w ra rb)))), (m_pu, .inl (cL, 8, .inr (.inl (pp_w qa qb)))), (m_gv, .inl (cI, 4, .inl gg))]) [3, 0, 1, 2] rfl) (hD.sub (ws' := [(y0, .inr (4, [.int th, .int (nI lm), .int sz, .int em, .int lt, .int sp, .int (nI np), .int fd, .int bg, .ref m_op, .ref m_nu, .ref m_gv, .ref m_sh, .ref m_he, .ref m_pu, .ref m_pc, .ref m_pl, .ref m_pb, .ref m_ps, .int pv, .int ev])), (m_he, .inl (cL, 36, .inr (.inl (hh_w ra rb)))), (m_pu, .inl (cL, 8, .inr (.inl (pp_w qa qb)))), (m_gv, .inl (cI, 4, .inl gg))]) [3, 0, 1, 2] (by decide) rfl) hS d_Modl_does_420
  · have c_156 : (lg_cmp ((rb 16) - (rb 16) / 58659 * 58659) 0) = 0 := c_156
    rw [lc_eq] at c_156
    refine lv_lload hx hb d_Modl_does_403 (lv_at hl 0 rfl) ?_
    refine lv_lconst (v := 0) hx hb d_Modl_does_405 (by decide) ?_
    refine W.lcmp hx hb d_Modl_does_406 ?_
    refine lv_if_lt (tgt := 419) hx hb d_Modl_does_407 (by decide) (fun c_157 => ?_) (fun c_157 => ?_)
    · have c_157 : (lg_cmp ((rb 16) / 58659) 0) < 0 := c_157
      rw [lc_lt] at c_157
      refine lv_iconst (v := 0) hx hb d_Modl_does_419 (by decide) ?_
      exact rt_z (v := 0) (rb, qb, pv, ev) hx hb hr hlocks (by decide) (show (0 : Int32) = dz_w (de_w 58659 15 n0 gg rb qb pv).1 ∧ rb = (de_w 58659 15 n0 gg rb qb pv).2.1 ∧ qb = (de_w 58659 15 n0 gg rb qb pv).2.2.1 ∧ pv = (de_w 58659 15 n0 gg rb qb pv).2.2.2 ∧ ev = en_w (de_w 58659 15 n0 gg rb qb pv).1 ev from (by rw [de_15b (show ¬ (58659 : Int64) = 0 by decide) c_156 c_157]; exact ⟨rfl, rfl, rfl, rfl, rfl⟩)) (hP.sub (ws' := [(y0, .inr (4, [.int th, .int (nI lm), .int sz, .int em, .int lt, .int sp, .int (nI np), .int fd, .int bg, .ref m_op, .ref m_nu, .ref m_gv, .ref m_sh, .ref m_he, .ref m_pu, .ref m_pc, .ref m_pl, .ref m_pb, .ref m_ps, .int pv, .int ev])), (m_he, .inl (cL, 36, .inr (.inl (hh_w ra rb)))), (m_pu, .inl (cL, 8, .inr (.inl (pp_w qa qb)))), (m_gv, .inl (cI, 4, .inl gg))]) [3, 0, 1, 2] rfl) (hD.sub (ws' := [(y0, .inr (4, [.int th, .int (nI lm), .int sz, .int em, .int lt, .int sp, .int (nI np), .int fd, .int bg, .ref m_op, .ref m_nu, .ref m_gv, .ref m_sh, .ref m_he, .ref m_pu, .ref m_pc, .ref m_pl, .ref m_pb, .ref m_ps, .int pv, .int ev])), (m_he, .inl (cL, 36, .inr (.inl (hh_w ra rb)))), (m_pu, .inl (cL, 8, .inr (.inl (pp_w qa qb)))), (m_gv, .inl (cI, 4, .inl gg))]) [3, 0, 1, 2] (by decide) rfl) hS d_Modl_does_420
    · have c_157 : ¬ (lg_cmp ((rb 16) / 58659) 0) < 0 := c_157
      rw [lc_lt] at c_157
      refine lv_lload hx hb d_Modl_does_410 (lv_at hl 0 rfl) ?_
      refine lv_ldc2 (v := 16) hx hb hown (htb _ tw_518) d_Modl_does_412 ?_
      refine W.lcmp hx hb d_Modl_does_415 ?_
      refine lv_if_lt (tgt := 421) hx hb d_Modl_does_416 (by decide) (fun c_158 => ?_) (fun c_158 => ?_)
      · have c_158 : (lg_cmp ((rb 16) / 58659) 16) < 0 := c_158
        rw [lc_lt] at c_158
        refine lv_aload_n hx hb d_Modl_does_421 rfl (lv_at hl 5 rfl) ?_
        refine va_get (D := (dC, dI)) (ci := 4) (v := .ref m_he) (C := R_Modl) (T := F_Modl) (N := 21) hx hb htb iw_Modl hown hK.1 hP 3 rfl rfl 13 (by decide) (htb _ tw_428) (fun _ h9 => h9) rfl d_Modl_does_422 ?_
        refine lv_iload hx hb d_Modl_does_425 (lv_at hl 4 rfl) ?_
        refine lv_lload hx hb d_Modl_does_427 (lv_at hl 0 rfl) ?_
        refine lv_l2i (v := ((rb 16) / 58659).toInt32) hx hb d_Modl_does_429 rfl ?_
        refine lv_iadd hx hb d_Modl_does_430 ?_
        refine ld_l (v := rb (((rb 16) / 58659).toInt32).toNatClampNeg) (cA := cL) hx hb hK.1 hP 0 1 rfl rfl (hh_i1 (lk_in c_157 c_158)).2 (hh_r1 (lk_in c_157 c_158)) d_Modl_does_431 ?_
        refine lv_lstore (lv' := [(9, .long (rb (((rb 16) / 58659).toInt32).toNatClampNeg)), (11, .long ((rb 16) / 58659)), (7, .long (rb 17)), (5, .long (rb 16)), (4, .int 18), (0, .ref y0), (1, .int 1), (2, .int 15), (3, .int n0)]) hx hb d_Modl_does_432 hl (by decide) rfl (fun ls hl => ?_)
        refine lv_aload_n hx hb d_Modl_does_434 rfl (lv_at hl 5 rfl) ?_
        refine va_get (D := (dC, dI)) (ci := 4) (v := .ref m_he) (C := R_Modl) (T := F_Modl) (N := 21) hx hb htb iw_Modl hown hK.1 hP 3 rfl rfl 13 (by decide) (htb _ tw_428) (fun _ h9 => h9) rfl d_Modl_does_435 ?_
        refine lv_iload hx hb d_Modl_does_438 (lv_at hl 4 rfl) ?_
        refine lv_bipush (v := 16) hx hb d_Modl_does_440 (by decide) ?_
        refine lv_iadd hx hb d_Modl_does_442 ?_
        refine W.eq (g2 := F0 m 443 ls [.int 34, .ref m_he]) rfl ?_
        refine lv_lload hx hb d_Modl_does_443 (lv_at hl 0 rfl) ?_
        refine sd_l (g := hh_w ra (vp_updL rb 16 (rb (((rb 16) / 58659).toInt32).toNatClampNeg))) (cA := cL) hx hb hK.1 hP hD hS 0 1 rfl rfl (show ¬ (_ ∨ _) by decide) (hh_k1 (k := 16)) d_Modl_does_445 (fun H locs hP hD hS => ?_)
        have hP : va_P (dC, dI) classes [(m_he, .inl (cL, 36, .inr (.inl (hh_w ra (vp_updL rb 16 (rb (((rb 16) / 58659).toInt32).toNatClampNeg)))))), (m_pu, .inl (cL, 8, .inr (.inl (pp_w qa qb)))), (m_gv, .inl (cI, 4, .inl gg)), (y0, .inr (4, [.int th, .int (nI lm), .int sz, .int em, .int lt, .int sp, .int (nI np), .int fd, .int bg, .ref m_op, .ref m_nu, .ref m_gv, .ref m_sh, .ref m_he, .ref m_pu, .ref m_pc, .ref m_pl, .ref m_pb, .ref m_ps, .int pv, .int ev]))] H := hP
        have hD : va_D A [(m_he, .inl (cL, 36, .inr (.inl (hh_w ra (vp_updL rb 16 (rb (((rb 16) / 58659).toInt32).toNatClampNeg)))))), (m_pu, .inl (cL, 8, .inr (.inl (pp_w qa qb)))), (m_gv, .inl (cI, 4, .inl gg)), (y0, .inr (4, [.int th, .int (nI lm), .int sz, .int em, .int lt, .int sp, .int (nI np), .int fd, .int bg, .ref m_op, .ref m_nu, .ref m_gv, .ref m_sh, .ref m_he, .ref m_pu, .ref m_pc, .ref m_pl, .ref m_pb, .ref m_ps, .int pv, .int ev]))] := hD
        refine lv_iload_n hx hb d_Modl_does_446 rfl (lv_at hl 7 rfl) ?_
        refine lv_iconst (v := 3) hx hb d_Modl_does_447 (by decide) ?_
        refine lv_icmp_le (tgt := 457) hx hb d_Modl_does_448 (by decide) (fun c_159 => ?_) (fun c_159 => ?_)
        · exact absurd c_159 (by decide)
        · skip
          refine lv_iload_n hx hb d_Modl_does_451 rfl (lv_at hl 7 rfl) ?_
          refine lv_bipush (v := 7) hx hb d_Modl_does_452 (by decide) ?_
          refine lv_icmp_lt (tgt := 469) hx hb d_Modl_does_454 (by decide) (fun c_160 => ?_) (fun c_160 => ?_)
          · exact absurd c_160 (by decide)
          · skip
            refine lv_iload_n hx hb d_Modl_does_457 rfl (lv_at hl 7 rfl) ?_
            refine lv_bipush (v := 9) hx hb d_Modl_does_458 (by decide) ?_
            refine lv_icmp_eq (tgt := 469) hx hb d_Modl_does_460 (by decide) (fun c_161 => ?_) (fun c_161 => ?_)
            · exact absurd c_161 (by decide)
            · skip
              refine lv_iload_n hx hb d_Modl_does_463 rfl (lv_at hl 7 rfl) ?_
              refine lv_bipush (v := 12) hx hb d_Modl_does_464 (by decide) ?_
              refine lv_icmp_ne (tgt := 473) hx hb d_Modl_does_466 (by decide) (fun c_162 => ?_) (fun c_162 => ?_)
              · skip
                refine lv_iconst (v := 0) hx hb d_Modl_does_473 (by decide) ?_
                refine lv_istore (lv' := [(11, .int 0), (9, .long (rb (((rb 16) / 58659).toInt32).toNatClampNeg)), (7, .long (rb 17)), (5, .long (rb 16)), (4, .int 18), (0, .ref y0), (1, .int 1), (2, .int 15), (3, .int n0)]) hx hb d_Modl_does_474 hl (by decide) rfl (fun ls hl => ?_)
                refine lv_iload hx hb d_Modl_does_476 (lv_at hl 0 rfl) ?_
                refine lv_if_eq (tgt := 491) hx hb d_Modl_does_478 (by decide) (fun c_163 => ?_) (fun c_163 => ?_)
                · skip
                  refine lv_iconst (v := 1) hx hb d_Modl_does_491 (by decide) ?_
                  refine lv_goto (tgt := 496) hx hb d_Modl_does_492 (by decide) ?_
                  exact rt_z (v := 1) ((vp_updL rb 16 (rb (((rb 16) / 58659).toInt32).toNatClampNeg)), qb, pv, ev) hx hb hr hlocks (by decide) (show (1 : Int32) = dz_w (de_w 58659 15 n0 gg rb qb pv).1 ∧ (vp_updL rb 16 (rb (((rb 16) / 58659).toInt32).toNatClampNeg)) = (de_w 58659 15 n0 gg rb qb pv).2.1 ∧ qb = (de_w 58659 15 n0 gg rb qb pv).2.2.1 ∧ pv = (de_w 58659 15 n0 gg rb qb pv).2.2.2 ∧ ev = en_w (de_w 58659 15 n0 gg rb qb pv).1 ev from (by rw [de_15c (show ¬ (58659 : Int64) = 0 by decide) c_156 c_157 c_158]; exact ⟨rfl, rfl, rfl, rfl, rfl⟩)) (hP.sub (ws' := [(y0, .inr (4, [.int th, .int (nI lm), .int sz, .int em, .int lt, .int sp, .int (nI np), .int fd, .int bg, .ref m_op, .ref m_nu, .ref m_gv, .ref m_sh, .ref m_he, .ref m_pu, .ref m_pc, .ref m_pl, .ref m_pb, .ref m_ps, .int pv, .int ev])), (m_he, .inl (cL, 36, .inr (.inl (hh_w ra (vp_updL rb 16 (rb (((rb 16) / 58659).toInt32).toNatClampNeg)))))), (m_pu, .inl (cL, 8, .inr (.inl (pp_w qa qb)))), (m_gv, .inl (cI, 4, .inl gg))]) [3, 0, 1, 2] rfl) (hD.sub (ws' := [(y0, .inr (4, [.int th, .int (nI lm), .int sz, .int em, .int lt, .int sp, .int (nI np), .int fd, .int bg, .ref m_op, .ref m_nu, .ref m_gv, .ref m_sh, .ref m_he, .ref m_pu, .ref m_pc, .ref m_pl, .ref m_pb, .ref m_ps, .int pv, .int ev])), (m_he, .inl (cL, 36, .inr (.inl (hh_w ra (vp_updL rb 16 (rb (((rb 16) / 58659).toInt32).toNatClampNeg)))))), (m_pu, .inl (cL, 8, .inr (.inl (pp_w qa qb)))), (m_gv, .inl (cI, 4, .inl gg))]) [3, 0, 1, 2] (by decide) rfl) hS d_Modl_does_496
                · exact absurd (by decide) c_163
              · exact absurd c_162 (by decide)
      · have c_158 : ¬ (lg_cmp ((rb 16) / 58659) 16) < 0 := c_158
        rw [lc_lt] at c_158
        refine lv_iconst (v := 0) hx hb d_Modl_does_419 (by decide) ?_
        exact rt_z (v := 0) (rb, qb, pv, ev) hx hb hr hlocks (by decide) (show (0 : Int32) = dz_w (de_w 58659 15 n0 gg rb qb pv).1 ∧ rb = (de_w 58659 15 n0 gg rb qb pv).2.1 ∧ qb = (de_w 58659 15 n0 gg rb qb pv).2.2.1 ∧ pv = (de_w 58659 15 n0 gg rb qb pv).2.2.2 ∧ ev = en_w (de_w 58659 15 n0 gg rb qb pv).1 ev from (by rw [de_15d (show ¬ (58659 : Int64) = 0 by decide) c_156 c_157 c_158]; exact ⟨rfl, rfl, rfl, rfl, rfl⟩)) (hP.sub (ws' := [(y0, .inr (4, [.int th, .int (nI lm), .int sz, .int em, .int lt, .int sp, .int (nI np), .int fd, .int bg, .ref m_op, .ref m_nu, .ref m_gv, .ref m_sh, .ref m_he, .ref m_pu, .ref m_pc, .ref m_pl, .ref m_pb, .ref m_ps, .int pv, .int ev])), (m_he, .inl (cL, 36, .inr (.inl (hh_w ra rb)))), (m_pu, .inl (cL, 8, .inr (.inl (pp_w qa qb)))), (m_gv, .inl (cI, 4, .inl gg))]) [3, 0, 1, 2] rfl) (hD.sub (ws' := [(y0, .inr (4, [.int th, .int (nI lm), .int sz, .int em, .int lt, .int sp, .int (nI np), .int fd, .int bg, .ref m_op, .ref m_nu, .ref m_gv, .ref m_sh, .ref m_he, .ref m_pu, .ref m_pc, .ref m_pl, .ref m_pb, .ref m_ps, .int pv, .int ev])), (m_he, .inl (cL, 36, .inr (.inl (hh_w ra rb)))), (m_pu, .inl (cL, 8, .inr (.inl (pp_w qa qb)))), (m_gv, .inl (cI, 4, .inl gg))]) [3, 0, 1, 2] (by decide) rfl) hS d_Modl_does_420
