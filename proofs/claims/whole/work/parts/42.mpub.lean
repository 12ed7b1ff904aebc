set_option maxRecDepth 20000 in
theorem tw_488 : (Cond.code y_Modl_fits b_Modl_fits 2 (some .boolean)) ∈ TB_w := List.mem_filter.mpr ⟨List.mem_of_getElem? (i := 488) rfl, by decide +kernel⟩
theorem tw_486 : (Cond.methodLink R_Modl 52 y_Modl_fits) ∈ TB_w := List.mem_filter.mpr ⟨List.mem_of_getElem? (i := 486) (by decide +kernel), by decide +kernel⟩
theorem tw_487 : (Cond.static y_Modl_fits) ∈ TB_w := List.mem_filter.mpr ⟨List.mem_of_getElem? (i := 487) (by decide +kernel), by decide +kernel⟩
set_option maxRecDepth 20000 in
theorem tw_485 : (Cond.code y_Modl_isGood b_Modl_isGood 2 (some .boolean)) ∈ TB_w := List.mem_filter.mpr ⟨List.mem_of_getElem? (i := 485) rfl, by decide +kernel⟩
theorem tw_483 : (Cond.methodLink R_Modl 56 y_Modl_isGood) ∈ TB_w := List.mem_filter.mpr ⟨List.mem_of_getElem? (i := 483) (by decide +kernel), by decide +kernel⟩
theorem tw_484 : (Cond.static y_Modl_isGood) ∈ TB_w := List.mem_filter.mpr ⟨List.mem_of_getElem? (i := 484) (by decide +kernel), by decide +kernel⟩
theorem tw_414 : (Cond.methodLink R_Modl 7 objectInit) ∈ TB_w := List.mem_filter.mpr ⟨List.mem_of_getElem? (i := 414) (by decide +kernel), by decide +kernel⟩
set_option maxHeartbeats 4000000 in
set_option maxRecDepth 100000 in
theorem c_Modl_give (l : Launch) (dC : Nat → ClassId) (dI : Nat → Nat → Nat) (cI cL : ClassId) (hs0 : Nat) (y0 : Nat) (th : Int32) (lm : Nat) (sz : Int32) (em : Int32) (lt : Int32) (sp : Int32) (np : Nat) (fd : Int32) (bg : Int32) (m_op : Nat) (m_nu : Nat) (m_gv : Nat) (m_sh : Nat) (m_he : Nat) (m_pu : Nat) (m_pc : Nat) (m_pl : Nat) (m_pb : Nat) (m_ps : Nat) (pv : Int32) (ev : Int32) (gg : Nat → Int32) (p1 : Int32) (p2 : Int32)  : ct_i l y_Modl_give b_Modl_give 3 (some .boolean) ({ frames := 1, cells := 0, slots := 0, locals := 40 }) (dC, dI) cI cL [.ref y0, .int p1, .int p2] [(y0, .inr (4, [.int th, .int (nI lm), .int sz, .int em, .int lt, .int sp, .int (nI np), .int fd, .int bg, .ref m_op, .ref m_nu, .ref m_gv, .ref m_sh, .ref m_he, .ref m_pu, .ref m_pc, .ref m_pl, .ref m_pb, .ref m_ps, .int pv, .int ev])), (m_gv, .inl (cI, 4, .inl gg))] hs0 (fun (r : Int32) (u : (Nat → Int32)) => r = gi_w p1 p2 ∧ u = (if gi_w p1 p2 = 0 then gg else upd gg p1.toNatClampNeg p2)) (fun u => [(y0, .inr (4, [.int 0, .int (nI lm), .int sz, .int em, .int lt, .int sp, .int (nI np), .int fd, .int bg, .ref m_op, .ref m_nu, .ref m_gv, .ref m_sh, .ref m_he, .ref m_pu, .ref m_pc, .ref m_pl, .ref m_pb, .ref m_ps, .int pv, .int ev])), (m_gv, .inl (cI, 4, .inl u))]) 0 0 := by
  refine st_w (Qc := fun A => va_Qi (fun (r : Int32) (u : (Nat → Int32)) => r = gi_w p1 p2 ∧ u = (if gi_w p1 p2 = 0 then gg else upd gg p1.toNatClampNeg p2)) (fun (u : (Nat → Int32)) t => pos_w (dC, dI) A [(y0, .inr (4, [.int 0, .int (nI lm), .int sz, .int em, .int lt, .int sp, .int (nI np), .int fd, .int bg, .ref m_op, .ref m_nu, .ref m_gv, .ref m_sh, .ref m_he, .ref m_pu, .ref m_pc, .ref m_pl, .ref m_pb, .ref m_ps, .int pv, .int ev])), (m_gv, .inl (cI, 4, .inl u))] t) A) (by decide) (Nat.le_of_ble_eq_true rfl) ?_
  intro p e s m below meth c A ls hfx hK hA hP hD hS hl
  obtain ⟨hx, hb, hml, hown, htb, hr, hlocks, hin⟩ := hfx
  have hl : lv_has ls 3 [(0, .ref y0), (1, .int p1), (2, .int p2)] := hl
  refine lv_aload_n hx hb d_Modl_give_0 rfl (lv_at hl 0 rfl) ?_
  refine lv_iconst (v := 0) hx hb d_Modl_give_1 (by decide) ?_
  refine va_put (D := (dC, dI)) (ci := 4) (v := .int 0) (ty := .int) (C := R_Modl) (T := F_Modl) (N := 21) hx hb htb iw_Modl t_Modl t_Modl_ok n_Modl hown hK.1 hP hD hS 0 rfl rfl 0 (by decide) (htb _ tw_415) (fun _ h9 => h9) rfl (by decide +kernel) rfl rfl (Nat.le_of_ble_eq_true rfl) d_Modl_give_2 (fun H locs hP hD hS => ?_)
  have hP : va_P (dC, dI) classes [(y0, .inr (4, [.int 0, .int (nI lm), .int sz, .int em, .int lt, .int sp, .int (nI np), .int fd, .int bg, .ref m_op, .ref m_nu, .ref m_gv, .ref m_sh, .ref m_he, .ref m_pu, .ref m_pc, .ref m_pl, .ref m_pb, .ref m_ps, .int pv, .int ev])), (m_gv, .inl (cI, 4, .inl gg))] H := hP
  have hD : va_D A [(y0, .inr (4, [.int 0, .int (nI lm), .int sz, .int em, .int lt, .int sp, .int (nI np), .int fd, .int bg, .ref m_op, .ref m_nu, .ref m_gv, .ref m_sh, .ref m_he, .ref m_pu, .ref m_pc, .ref m_pl, .ref m_pb, .ref m_ps, .int pv, .int ev])), (m_gv, .inl (cI, 4, .inl gg))] := hD
  refine lv_iload_n hx hb d_Modl_give_5 rfl (lv_at hl 1 rfl) ?_
  refine lv_if_lt (tgt := 22) hx hb d_Modl_give_6 (by decide) (fun c_1 => ?_) (fun c_1 => ?_)
  · have c_1 : p1 < 0 := c_1
    refine lv_iconst (v := 0) hx hb d_Modl_give_22 (by decide) ?_
    exact rt_z (v := 0) gg hx hb hr hlocks (by decide) (show (0 : Int32) = gi_w p1 p2 ∧ gg = (if gi_w p1 p2 = 0 then gg else upd gg p1.toNatClampNeg p2) from (gi_zero (gi_a (bl_neg c_1)))) (hP.sub (ws' := [(y0, .inr (4, [.int 0, .int (nI lm), .int sz, .int em, .int lt, .int sp, .int (nI np), .int fd, .int bg, .ref m_op, .ref m_nu, .ref m_gv, .ref m_sh, .ref m_he, .ref m_pu, .ref m_pc, .ref m_pl, .ref m_pb, .ref m_ps, .int pv, .int ev])), (m_gv, .inl (cI, 4, .inl gg))]) [0, 1] rfl) (hD.sub (ws' := [(y0, .inr (4, [.int 0, .int (nI lm), .int sz, .int em, .int lt, .int sp, .int (nI np), .int fd, .int bg, .ref m_op, .ref m_nu, .ref m_gv, .ref m_sh, .ref m_he, .ref m_pu, .ref m_pc, .ref m_pl, .ref m_pb, .ref m_ps, .int pv, .int ev])), (m_gv, .inl (cI, 4, .inl gg))]) [0, 1] (by decide) rfl) hS d_Modl_give_23
  · have c_1 : ¬ p1 < 0 := c_1
    refine lv_iload_n hx hb d_Modl_give_9 rfl (lv_at hl 1 rfl) ?_
    refine lv_iconst (v := 4) hx hb d_Modl_give_10 (by decide) ?_
    refine lv_icmp_ge (tgt := 22) hx hb d_Modl_give_11 (by decide) (fun c_2 => ?_) (fun c_2 => ?_)
    · have c_2 : 4 ≤ p1 := c_2
      refine lv_iconst (v := 0) hx hb d_Modl_give_22 (by decide) ?_
      exact rt_z (v := 0) gg hx hb hr hlocks (by decide) (show (0 : Int32) = gi_w p1 p2 ∧ gg = (if gi_w p1 p2 = 0 then gg else upd gg p1.toNatClampNeg p2) from (gi_zero (gi_a (bl_0 c_2)))) (hP.sub (ws' := [(y0, .inr (4, [.int 0, .int (nI lm), .int sz, .int em, .int lt, .int sp, .int (nI np), .int fd, .int bg, .ref m_op, .ref m_nu, .ref m_gv, .ref m_sh, .ref m_he, .ref m_pu, .ref m_pc, .ref m_pl, .ref m_pb, .ref m_ps, .int pv, .int ev])), (m_gv, .inl (cI, 4, .inl gg))]) [0, 1] rfl) (hD.sub (ws' := [(y0, .inr (4, [.int 0, .int (nI lm), .int sz, .int em, .int lt, .int sp, .int (nI np), .int fd, .int bg, .ref m_op, .ref m_nu, .ref m_gv, .ref m_sh, .ref m_he, .ref m_pu, .ref m_pc, .ref m_pl, .ref m_pb, .ref m_ps, .int pv, .int ev])), (m_gv, .inl (cI, 4, .inl gg))]) [0, 1] (by decide) rfl) hS d_Modl_give_23
    · have c_2 : ¬ 4 ≤ p1 := c_2
      refine lv_iload_n hx hb d_Modl_give_14 rfl (lv_at hl 2 rfl) ?_
      refine lv_i2l (v := p2.toInt64) hx hb d_Modl_give_15 (by first | rfl | decide) ?_
      refine af_i (wr := [(y0, .inr (4, [.int 0, .int (nI lm), .int sz, .int em, .int lt, .int sp, .int (nI np), .int fd, .int bg, .ref m_op, .ref m_nu, .ref m_gv, .ref m_sh, .ref m_he, .ref m_pu, .ref m_pc, .ref m_pl, .ref m_pb, .ref m_ps, .int pv, .int ev])), (m_gv, .inl (cI, 4, .inl gg))]) (va_runS (As := [.long p2.toInt64]) (rest := []) ⟨hx, hb, hml, hown, htb⟩ (c_Modl_fits l dC dI cI cL H.size p2.toInt64 ) ⟨callB_of 1 htb (gd_w tw_488) rfl rfl rfl (htb _ tw_25) (htb _ tw_486) (by decide +kernel) ⟨Nat.le_of_ble_eq_true rfl, Nat.le_of_ble_eq_true rfl⟩, htb _ tw_487⟩ (pv_S hK (hP.sub (ws' := []) [] rfl) (hD.sub (ws' := []) [] (by decide) rfl)) rfl rfl hl.1 rfl (lv_room (Nat.le_of_ble_eq_true rfl)) d_Modl_give_16 ⟨Nat.le_of_ble_eq_true rfl, Nat.le_of_ble_eq_true rfl⟩) hP hD hS hA [] [0, 1] rfl rfl (by decide) (by decide) (fun r_3 u_4 H locs hw hP hD hS => ?_)
      try dsimp only at hw
      subst hw
      have hP : va_P (dC, dI) classes [(y0, .inr (4, [.int 0, .int (nI lm), .int sz, .int em, .int lt, .int sp, .int (nI np), .int fd, .int bg, .ref m_op, .ref m_nu, .ref m_gv, .ref m_sh, .ref m_he, .ref m_pu, .ref m_pc, .ref m_pl, .ref m_pb, .ref m_ps, .int pv, .int ev])), (m_gv, .inl (cI, 4, .inl gg))] H := hP
      have hD : va_D A [(y0, .inr (4, [.int 0, .int (nI lm), .int sz, .int em, .int lt, .int sp, .int (nI np), .int fd, .int bg, .ref m_op, .ref m_nu, .ref m_gv, .ref m_sh, .ref m_he, .ref m_pu, .ref m_pc, .ref m_pl, .ref m_pb, .ref m_ps, .int pv, .int ev])), (m_gv, .inl (cI, 4, .inl gg))] := hD
      refine lv_if_ne (tgt := 24) hx hb d_Modl_give_19 (by decide) (fun c_5 => ?_) (fun c_5 => ?_)
      · have c_5 : ¬ (ft_w p2.toInt64) = 0 := c_5
        refine lv_aload_n hx hb d_Modl_give_24 rfl (lv_at hl 0 rfl) ?_
        refine va_get (D := (dC, dI)) (ci := 4) (v := .ref m_gv) (C := R_Modl) (T := F_Modl) (N := 21) hx hb htb iw_Modl hown hK.1 hP 0 rfl rfl 11 (by decide) (htb _ tw_426) (fun _ h9 => h9) rfl d_Modl_give_25 ?_
        refine lv_iload_n hx hb d_Modl_give_28 rfl (lv_at hl 1 rfl) ?_
        refine lv_iload_n hx hb d_Modl_give_29 rfl (lv_at hl 2 rfl) ?_
        refine sd_i (g := upd gg p1.toNatClampNeg p2) (cA := cI) hx hb hK.1 hP hD hS 1 0 rfl rfl (bl_use (N := 4) (e := 4) (by decide) (bl_n c_1 c_2)) rfl d_Modl_give_30 (fun H locs hP hD hS => ?_)
        have hP : va_P (dC, dI) classes [(y0, .inr (4, [.int 0, .int (nI lm), .int sz, .int em, .int lt, .int sp, .int (nI np), .int fd, .int bg, .ref m_op, .ref m_nu, .ref m_gv, .ref m_sh, .ref m_he, .ref m_pu, .ref m_pc, .ref m_pl, .ref m_pb, .ref m_ps, .int pv, .int ev])), (m_gv, .inl (cI, 4, .inl (upd gg p1.toNatClampNeg p2)))] H := hP
        have hD : va_D A [(y0, .inr (4, [.int 0, .int (nI lm), .int sz, .int em, .int lt, .int sp, .int (nI np), .int fd, .int bg, .ref m_op, .ref m_nu, .ref m_gv, .ref m_sh, .ref m_he, .ref m_pu, .ref m_pc, .ref m_pl, .ref m_pb, .ref m_ps, .int pv, .int ev])), (m_gv, .inl (cI, 4, .inl (upd gg p1.toNatClampNeg p2)))] := hD
        refine lv_iconst (v := 1) hx hb d_Modl_give_31 (by decide) ?_
        exact rt_z (v := 1) (upd gg p1.toNatClampNeg p2) hx hb hr hlocks (by decide) (show (1 : Int32) = gi_w p1 p2 ∧ (upd gg p1.toNatClampNeg p2) = (if gi_w p1 p2 = 0 then gg else upd gg p1.toNatClampNeg p2) from (gi_one (gi_d (bl_n c_1 c_2) c_5))) (hP.sub (ws' := [(y0, .inr (4, [.int 0, .int (nI lm), .int sz, .int em, .int lt, .int sp, .int (nI np), .int fd, .int bg, .ref m_op, .ref m_nu, .ref m_gv, .ref m_sh, .ref m_he, .ref m_pu, .ref m_pc, .ref m_pl, .ref m_pb, .ref m_ps, .int pv, .int ev])), (m_gv, .inl (cI, 4, .inl (upd gg p1.toNatClampNeg p2)))]) [0, 1] rfl) (hD.sub (ws' := [(y0, .inr (4, [.int 0, .int (nI lm), .int sz, .int em, .int lt, .int sp, .int (nI np), .int fd, .int bg, .ref m_op, .ref m_nu, .ref m_gv, .ref m_sh, .ref m_he, .ref m_pu, .ref m_pc, .ref m_pl, .ref m_pb, .ref m_ps, .int pv, .int ev])), (m_gv, .inl (cI, 4, .inl (upd gg p1.toNatClampNeg p2)))]) [0, 1] (by decide) rfl) hS d_Modl_give_32
      · have c_5 : (ft_w p2.toInt64) = 0 := c_5
        refine lv_iconst (v := 0) hx hb d_Modl_give_22 (by decide) ?_
        exact rt_z (v := 0) gg hx hb hr hlocks (by decide) (show (0 : Int32) = gi_w p1 p2 ∧ gg = (if gi_w p1 p2 = 0 then gg else upd gg p1.toNatClampNeg p2) from (gi_zero (gi_c c_5))) (hP.sub (ws' := [(y0, .inr (4, [.int 0, .int (nI lm), .int sz, .int em, .int lt, .int sp, .int (nI np), .int fd, .int bg, .ref m_op, .ref m_nu, .ref m_gv, .ref m_sh, .ref m_he, .ref m_pu, .ref m_pc, .ref m_pl, .ref m_pb, .ref m_ps, .int pv, .int ev])), (m_gv, .inl (cI, 4, .inl gg))]) [0, 1] rfl) (hD.sub (ws' := [(y0, .inr (4, [.int 0, .int (nI lm), .int sz, .int em, .int lt, .int sp, .int (nI np), .int fd, .int bg, .ref m_op, .ref m_nu, .ref m_gv, .ref m_sh, .ref m_he, .ref m_pu, .ref m_pc, .ref m_pl, .ref m_pb, .ref m_ps, .int pv, .int ev])), (m_gv, .inl (cI, 4, .inl gg))]) [0, 1] (by decide) rfl) hS d_Modl_give_23

set_option maxHeartbeats 4000000 in
set_option maxRecDepth 100000 in
theorem c_Modl_output (l : Launch) (dC : Nat → ClassId) (dI : Nat → Nat → Nat) (cI cL : ClassId) (hs0 : Nat) (y0 : Nat) (th : Int32) (lm : Nat) (sz : Int32) (em : Int32) (lt : Int32) (sp : Int32) (np : Nat) (fd : Int32) (bg : Int32) (m_op : Nat) (m_nu : Nat) (m_gv : Nat) (m_sh : Nat) (m_he : Nat) (m_pu : Nat) (m_pc : Nat) (m_pl : Nat) (m_pb : Nat) (m_ps : Nat) (pv : Int32) (ev : Int32) (ss : Nat → Int32) (p1 : Int32)  : ct_i l y_Modl_output b_Modl_output 2 (some .int) ({ frames := 0, cells := 0, slots := 0, locals := 0 }) (dC, dI) cI cL [.ref y0, .int p1] [(y0, .inr (4, [.int th, .int (nI lm), .int sz, .int em, .int lt, .int sp, .int (nI np), .int fd, .int bg, .ref m_op, .ref m_nu, .ref m_gv, .ref m_sh, .ref m_he, .ref m_pu, .ref m_pc, .ref m_pl, .ref m_pb, .ref m_ps, .int pv, .int ev])), (m_sh, .inl (cI, 4, .inl ss))] hs0 (fun (r : Int32) (u : Unit) => r = ou_w p1 ss) (fun u => [(y0, .inr (4, [.int 0, .int (nI lm), .int sz, .int em, .int lt, .int sp, .int (nI np), .int fd, .int bg, .ref m_op, .ref m_nu, .ref m_gv, .ref m_sh, .ref m_he, .ref m_pu, .ref m_pc, .ref m_pl, .ref m_pb, .ref m_ps, .int pv, .int ev])), (m_sh, .inl (cI, 4, .inl ss))]) 0 0 := by
  refine st_w (Qc := fun A => va_Qi (fun (r : Int32) (u : Unit) => r = ou_w p1 ss) (fun (u : Unit) t => pos_w (dC, dI) A [(y0, .inr (4, [.int 0, .int (nI lm), .int sz, .int em, .int lt, .int sp, .int (nI np), .int fd, .int bg, .ref m_op, .ref m_nu, .ref m_gv, .ref m_sh, .ref m_he, .ref m_pu, .ref m_pc, .ref m_pl, .ref m_pb, .ref m_ps, .int pv, .int ev])), (m_sh, .inl (cI, 4, .inl ss))] t) A) (by decide) (Nat.le_of_ble_eq_true rfl) ?_
  intro p e s m below meth c A ls hfx hK hA hP hD hS hl
  obtain ⟨hx, hb, hml, hown, htb, hr, hlocks, hin⟩ := hfx
  have hl : lv_has ls 2 [(0, .ref y0), (1, .int p1)] := hl
  refine lv_aload_n hx hb d_Modl_output_0 rfl (lv_at hl 0 rfl) ?_
  refine lv_iconst (v := 0) hx hb d_Modl_output_1 (by decide) ?_
  refine va_put (D := (dC, dI)) (ci := 4) (v := .int 0) (ty := .int) (C := R_Modl) (T := F_Modl) (N := 21) hx hb htb iw_Modl t_Modl t_Modl_ok n_Modl hown hK.1 hP hD hS 0 rfl rfl 0 (by decide) (htb _ tw_415) (fun _ h9 => h9) rfl (by decide +kernel) rfl rfl (Nat.le_of_ble_eq_true rfl) d_Modl_output_2 (fun H locs hP hD hS => ?_)
  have hP : va_P (dC, dI) classes [(y0, .inr (4, [.int 0, .int (nI lm), .int sz, .int em, .int lt, .int sp, .int (nI np), .int fd, .int bg, .ref m_op, .ref m_nu, .ref m_gv, .ref m_sh, .ref m_he, .ref m_pu, .ref m_pc, .ref m_pl, .ref m_pb, .ref m_ps, .int pv, .int ev])), (m_sh, .inl (cI, 4, .inl ss))] H := hP
  have hD : va_D A [(y0, .inr (4, [.int 0, .int (nI lm), .int sz, .int em, .int lt, .int sp, .int (nI np), .int fd, .int bg, .ref m_op, .ref m_nu, .ref m_gv, .ref m_sh, .ref m_he, .ref m_pu, .ref m_pc, .ref m_pl, .ref m_pb, .ref m_ps, .int pv, .int ev])), (m_sh, .inl (cI, 4, .inl ss))] := hD
  refine lv_iload_n hx hb d_Modl_output_5 rfl (lv_at hl 1 rfl) ?_
  refine lv_if_lt (tgt := 14) hx hb d_Modl_output_6 (by decide) (fun c_1 => ?_) (fun c_1 => ?_)
  · have c_1 : p1 < 0 := c_1
    refine lv_iconst (v := (-1)) hx hb d_Modl_output_14 (by decide) ?_
    refine lv_goto (tgt := 24) hx hb d_Modl_output_15 (by decide) ?_
    exact rt_i (v := (-1)) () hx hb hr hlocks (show ((-1) : Int32) = ou_w p1 ss from (ou_z (bl_neg c_1))) (hP.sub (ws' := [(y0, .inr (4, [.int 0, .int (nI lm), .int sz, .int em, .int lt, .int sp, .int (nI np), .int fd, .int bg, .ref m_op, .ref m_nu, .ref m_gv, .ref m_sh, .ref m_he, .ref m_pu, .ref m_pc, .ref m_pl, .ref m_pb, .ref m_ps, .int pv, .int ev])), (m_sh, .inl (cI, 4, .inl ss))]) [0, 1] rfl) (hD.sub (ws' := [(y0, .inr (4, [.int 0, .int (nI lm), .int sz, .int em, .int lt, .int sp, .int (nI np), .int fd, .int bg, .ref m_op, .ref m_nu, .ref m_gv, .ref m_sh, .ref m_he, .ref m_pu, .ref m_pc, .ref m_pl, .ref m_pb, .ref m_ps, .int pv, .int ev])), (m_sh, .inl (cI, 4, .inl ss))]) [0, 1] (by decide) rfl) hS d_Modl_output_24
  · have c_1 : ¬ p1 < 0 := c_1
    refine lv_iload_n hx hb d_Modl_output_9 rfl (lv_at hl 1 rfl) ?_
    refine lv_iconst (v := 4) hx hb d_Modl_output_10 (by decide) ?_
    refine lv_icmp_lt (tgt := 18) hx hb d_Modl_output_11 (by decide) (fun c_2 => ?_) (fun c_2 => ?_)
    · have c_2 : p1 < 4 := c_2
      refine lv_aload_n hx hb d_Modl_output_18 rfl (lv_at hl 0 rfl) ?_
      refine va_get (D := (dC, dI)) (ci := 4) (v := .ref m_sh) (C := R_Modl) (T := F_Modl) (N := 21) hx hb htb iw_Modl hown hK.1 hP 0 rfl rfl 12 (by decide) (htb _ tw_427) (fun _ h9 => h9) rfl d_Modl_output_19 ?_
      refine lv_iload_n hx hb d_Modl_output_22 rfl (lv_at hl 1 rfl) ?_
      refine ld_i (v := ss p1.toNatClampNeg) (cA := cI) hx hb hK.1 hP 1 0 rfl rfl (bl_use (N := 4) (e := 4) (by decide) (bl_n (e := 4) c_1 (Int32.not_le.mpr c_2))) rfl d_Modl_output_23 ?_
      exact rt_i (v := ss p1.toNatClampNeg) () hx hb hr hlocks (show (ss p1.toNatClampNeg) = ou_w p1 ss from (ou_o (bl_n (e := 4) c_1 (Int32.not_le.mpr c_2)))) (hP.sub (ws' := [(y0, .inr (4, [.int 0, .int (nI lm), .int sz, .int em, .int lt, .int sp, .int (nI np), .int fd, .int bg, .ref m_op, .ref m_nu, .ref m_gv, .ref m_sh, .ref m_he, .ref m_pu, .ref m_pc, .ref m_pl, .ref m_pb, .ref m_ps, .int pv, .int ev])), (m_sh, .inl (cI, 4, .inl ss))]) [0, 1] rfl) (hD.sub (ws' := [(y0, .inr (4, [.int 0, .int (nI lm), .int sz, .int em, .int lt, .int sp, .int (nI np), .int fd, .int bg, .ref m_op, .ref m_nu, .ref m_gv, .ref m_sh, .ref m_he, .ref m_pu, .ref m_pc, .ref m_pl, .ref m_pb, .ref m_ps, .int pv, .int ev])), (m_sh, .inl (cI, 4, .inl ss))]) [0, 1] (by decide) rfl) hS d_Modl_output_24
    · have c_2 : ¬ p1 < 4 := c_2
      refine lv_iconst (v := (-1)) hx hb d_Modl_output_14 (by decide) ?_
      refine lv_goto (tgt := 24) hx hb d_Modl_output_15 (by decide) ?_
      exact rt_i (v := (-1)) () hx hb hr hlocks (show ((-1) : Int32) = ou_w p1 ss from (ou_z (bl_0 (Int32.not_lt.mp c_2)))) (hP.sub (ws' := [(y0, .inr (4, [.int 0, .int (nI lm), .int sz, .int em, .int lt, .int sp, .int (nI np), .int fd, .int bg, .ref m_op, .ref m_nu, .ref m_gv, .ref m_sh, .ref m_he, .ref m_pu, .ref m_pc, .ref m_pl, .ref m_pb, .ref m_ps, .int pv, .int ev])), (m_sh, .inl (cI, 4, .inl ss))]) [0, 1] rfl) (hD.sub (ws' := [(y0, .inr (4, [.int 0, .int (nI lm), .int sz, .int em, .int lt, .int sp, .int (nI np), .int fd, .int bg, .ref m_op, .ref m_nu, .ref m_gv, .ref m_sh, .ref m_he, .ref m_pu, .ref m_pc, .ref m_pl, .ref m_pb, .ref m_ps, .int pv, .int ev])), (m_sh, .inl (cI, 4, .inl ss))]) [0, 1] (by decide) rfl) hS d_Modl_output_24

set_option maxHeartbeats 4000000 in
set_option maxRecDepth 100000 in
theorem c_Modl_count (l : Launch) (dC : Nat → ClassId) (dI : Nat → Nat → Nat) (cI cL : ClassId) (hs0 : Nat) (y0 : Nat) (th : Int32) (lm : Nat) (sz : Int32) (em : Int32) (lt : Int32) (sp : Int32) (np : Nat) (fd : Int32) (bg : Int32) (m_op : Nat) (m_nu : Nat) (m_gv : Nat) (m_sh : Nat) (m_he : Nat) (m_pu : Nat) (m_pc : Nat) (m_pl : Nat) (m_pb : Nat) (m_ps : Nat) (pv : Int32) (ev : Int32) (p1 : Int32)  : ct_i l y_Modl_count b_Modl_count 2 (some .int) ({ frames := 0, cells := 0, slots := 0, locals := 0 }) (dC, dI) cI cL [.ref y0, .int p1] [(y0, .inr (4, [.int th, .int (nI lm), .int sz, .int em, .int lt, .int sp, .int (nI np), .int fd, .int bg, .ref m_op, .ref m_nu, .ref m_gv, .ref m_sh, .ref m_he, .ref m_pu, .ref m_pc, .ref m_pl, .ref m_pb, .ref m_ps, .int pv, .int ev]))] hs0 (fun (r : Int32) (u : Unit) => r = co_w p1 sz em lt sp np fd lm) (fun u => [(y0, .inr (4, [.int 0, .int (nI lm), .int sz, .int em, .int lt, .int sp, .int (nI np), .int fd, .int bg, .ref m_op, .ref m_nu, .ref m_gv, .ref m_sh, .ref m_he, .ref m_pu, .ref m_pc, .ref m_pl, .ref m_pb, .ref m_ps, .int pv, .int ev]))]) 0 0 := by
  refine st_w (Qc := fun A => va_Qi (fun (r : Int32) (u : Unit) => r = co_w p1 sz em lt sp np fd lm) (fun (u : Unit) t => pos_w (dC, dI) A [(y0, .inr (4, [.int 0, .int (nI lm), .int sz, .int em, .int lt, .int sp, .int (nI np), .int fd, .int bg, .ref m_op, .ref m_nu, .ref m_gv, .ref m_sh, .ref m_he, .ref m_pu, .ref m_pc, .ref m_pl, .ref m_pb, .ref m_ps, .int pv, .int ev]))] t) A) (by decide) (Nat.le_of_ble_eq_true rfl) ?_
  intro p e s m below meth c A ls hfx hK hA hP hD hS hl
  obtain ⟨hx, hb, hml, hown, htb, hr, hlocks, hin⟩ := hfx
  have hl : lv_has ls 2 [(0, .ref y0), (1, .int p1)] := hl
  refine lv_aload_n hx hb d_Modl_count_0 rfl (lv_at hl 0 rfl) ?_
  refine lv_iconst (v := 0) hx hb d_Modl_count_1 (by decide) ?_
  refine va_put (D := (dC, dI)) (ci := 4) (v := .int 0) (ty := .int) (C := R_Modl) (T := F_Modl) (N := 21) hx hb htb iw_Modl t_Modl t_Modl_ok n_Modl hown hK.1 hP hD hS 0 rfl rfl 0 (by decide) (htb _ tw_415) (fun _ h9 => h9) rfl (by decide +kernel) rfl rfl (Nat.le_of_ble_eq_true rfl) d_Modl_count_2 (fun H locs hP hD hS => ?_)
  have hP : va_P (dC, dI) classes [(y0, .inr (4, [.int 0, .int (nI lm), .int sz, .int em, .int lt, .int sp, .int (nI np), .int fd, .int bg, .ref m_op, .ref m_nu, .ref m_gv, .ref m_sh, .ref m_he, .ref m_pu, .ref m_pc, .ref m_pl, .ref m_pb, .ref m_ps, .int pv, .int ev]))] H := hP
  have hD : va_D A [(y0, .inr (4, [.int 0, .int (nI lm), .int sz, .int em, .int lt, .int sp, .int (nI np), .int fd, .int bg, .ref m_op, .ref m_nu, .ref m_gv, .ref m_sh, .ref m_he, .ref m_pu, .ref m_pc, .ref m_pl, .ref m_pb, .ref m_ps, .int pv, .int ev]))] := hD
  refine lv_iload_n hx hb d_Modl_count_5 rfl (lv_at hl 1 rfl) ?_
  by_cases c_1 : p1 = 0
  · refine lv_tableIn (tgt := 48) hx hb d_Modl_count_6 (by rw [c_1]; decide) (by rw [c_1]; decide) (by rw [c_1]; rfl) (by decide) ?_
    refine lv_aload_n hx hb d_Modl_count_48 rfl (lv_at hl 0 rfl) ?_
    refine va_get (D := (dC, dI)) (ci := 4) (v := .int sz) (C := R_Modl) (T := F_Modl) (N := 21) hx hb htb iw_Modl hown hK.1 hP 0 rfl rfl 2 (by decide) (htb _ tw_417) (fun _ h9 => h9) rfl d_Modl_count_49 ?_
    exact rt_i (v := sz) () hx hb hr hlocks (show sz = co_w p1 sz em lt sp np fd lm from (by simp only [co_w, if_pos c_1, and_self])) (hP.sub (ws' := [(y0, .inr (4, [.int 0, .int (nI lm), .int sz, .int em, .int lt, .int sp, .int (nI np), .int fd, .int bg, .ref m_op, .ref m_nu, .ref m_gv, .ref m_sh, .ref m_he, .ref m_pu, .ref m_pc, .ref m_pl, .ref m_pb, .ref m_ps, .int pv, .int ev]))]) [0] rfl) (hD.sub (ws' := [(y0, .inr (4, [.int 0, .int (nI lm), .int sz, .int em, .int lt, .int sp, .int (nI np), .int fd, .int bg, .ref m_op, .ref m_nu, .ref m_gv, .ref m_sh, .ref m_he, .ref m_pu, .ref m_pc, .ref m_pl, .ref m_pb, .ref m_ps, .int pv, .int ev]))]) [0] (by decide) rfl) hS d_Modl_count_52
  by_cases c_2 : p1 = 1
  · refine lv_tableIn (tgt := 53) hx hb d_Modl_count_6 (by rw [c_2]; decide) (by rw [c_2]; decide) (by rw [c_2]; rfl) (by decide) ?_
    refine lv_aload_n hx hb d_Modl_count_53 rfl (lv_at hl 0 rfl) ?_
    refine va_get (D := (dC, dI)) (ci := 4) (v := .int em) (C := R_Modl) (T := F_Modl) (N := 21) hx hb htb iw_Modl hown hK.1 hP 0 rfl rfl 3 (by decide) (htb _ tw_418) (fun _ h9 => h9) rfl d_Modl_count_54 ?_
    exact rt_i (v := em) () hx hb hr hlocks (show em = co_w p1 sz em lt sp np fd lm from (by simp only [co_w, if_neg c_1, if_pos c_2, and_self])) (hP.sub (ws' := [(y0, .inr (4, [.int 0, .int (nI lm), .int sz, .int em, .int lt, .int sp, .int (nI np), .int fd, .int bg, .ref m_op, .ref m_nu, .ref m_gv, .ref m_sh, .ref m_he, .ref m_pu, .ref m_pc, .ref m_pl, .ref m_pb, .ref m_ps, .int pv, .int ev]))]) [0] rfl) (hD.sub (ws' := [(y0, .inr (4, [.int 0, .int (nI lm), .int sz, .int em, .int lt, .int sp, .int (nI np), .int fd, .int bg, .ref m_op, .ref m_nu, .ref m_gv, .ref m_sh, .ref m_he, .ref m_pu, .ref m_pc, .ref m_pl, .ref m_pb, .ref m_ps, .int pv, .int ev]))]) [0] (by decide) rfl) hS d_Modl_count_57
  by_cases c_3 : p1 = 2
  · refine lv_tableIn (tgt := 58) hx hb d_Modl_count_6 (by rw [c_3]; decide) (by rw [c_3]; decide) (by rw [c_3]; rfl) (by decide) ?_
    refine lv_aload_n hx hb d_Modl_count_58 rfl (lv_at hl 0 rfl) ?_
    refine va_get (D := (dC, dI)) (ci := 4) (v := .int lt) (C := R_Modl) (T := F_Modl) (N := 21) hx hb htb iw_Modl hown hK.1 hP 0 rfl rfl 4 (by decide) (htb _ tw_419) (fun _ h9 => h9) rfl d_Modl_count_59 ?_
    exact rt_i (v := lt) () hx hb hr hlocks (show lt = co_w p1 sz em lt sp np fd lm from (by simp only [co_w, if_neg c_1, if_neg c_2, if_pos c_3, and_self])) (hP.sub (ws' := [(y0, .inr (4, [.int 0, .int (nI lm), .int sz, .int em, .int lt, .int sp, .int (nI np), .int fd, .int bg, .ref m_op, .ref m_nu, .ref m_gv, .ref m_sh, .ref m_he, .ref m_pu, .ref m_pc, .ref m_pl, .ref m_pb, .ref m_ps, .int pv, .int ev]))]) [0] rfl) (hD.sub (ws' := [(y0, .inr (4, [.int 0, .int (nI lm), .int sz, .int em, .int lt, .int sp, .int (nI np), .int fd, .int bg, .ref m_op, .ref m_nu, .ref m_gv, .ref m_sh, .ref m_he, .ref m_pu, .ref m_pc, .ref m_pl, .ref m_pb, .ref m_ps, .int pv, .int ev]))]) [0] (by decide) rfl) hS d_Modl_count_62
  by_cases c_4 : p1 = 3
  · refine lv_tableIn (tgt := 63) hx hb d_Modl_count_6 (by rw [c_4]; decide) (by rw [c_4]; decide) (by rw [c_4]; rfl) (by decide) ?_
    refine lv_aload_n hx hb d_Modl_count_63 rfl (lv_at hl 0 rfl) ?_
    refine va_get (D := (dC, dI)) (ci := 4) (v := .int sp) (C := R_Modl) (T := F_Modl) (N := 21) hx hb htb iw_Modl hown hK.1 hP 0 rfl rfl 5 (by decide) (htb _ tw_420) (fun _ h9 => h9) rfl d_Modl_count_64 ?_
    exact rt_i (v := sp) () hx hb hr hlocks (show sp = co_w p1 sz em lt sp np fd lm from (by simp only [co_w, if_neg c_1, if_neg c_2, if_neg c_3, if_pos c_4, and_self])) (hP.sub (ws' := [(y0, .inr (4, [.int 0, .int (nI lm), .int sz, .int em, .int lt, .int sp, .int (nI np), .int fd, .int bg, .ref m_op, .ref m_nu, .ref m_gv, .ref m_sh, .ref m_he, .ref m_pu, .ref m_pc, .ref m_pl, .ref m_pb, .ref m_ps, .int pv, .int ev]))]) [0] rfl) (hD.sub (ws' := [(y0, .inr (4, [.int 0, .int (nI lm), .int sz, .int em, .int lt, .int sp, .int (nI np), .int fd, .int bg, .ref m_op, .ref m_nu, .ref m_gv, .ref m_sh, .ref m_he, .ref m_pu, .ref m_pc, .ref m_pl, .ref m_pb, .ref m_ps, .int pv, .int ev]))]) [0] (by decide) rfl) hS d_Modl_count_67
  by_cases c_5 : p1 = 4
  · refine lv_tableIn (tgt := 68) hx hb d_Modl_count_6 (by rw [c_5]; decide) (by rw [c_5]; decide) (by rw [c_5]; rfl) (by decide) ?_
    refine lv_aload_n hx hb d_Modl_count_68 rfl (lv_at hl 0 rfl) ?_
    refine va_get (D := (dC, dI)) (ci := 4) (v := .int (nI np)) (C := R_Modl) (T := F_Modl) (N := 21) hx hb htb iw_Modl hown hK.1 hP 0 rfl rfl 6 (by decide) (htb _ tw_421) (fun _ h9 => h9) rfl d_Modl_count_69 ?_
    exact rt_i (v := nI np) () hx hb hr hlocks (show (nI np) = co_w p1 sz em lt sp np fd lm from (by simp only [co_w, if_neg c_1, if_neg c_2, if_neg c_3, if_neg c_4, if_pos c_5, and_self])) (hP.sub (ws' := [(y0, .inr (4, [.int 0, .int (nI lm), .int sz, .int em, .int lt, .int sp, .int (nI np), .int fd, .int bg, .ref m_op, .ref m_nu, .ref m_gv, .ref m_sh, .ref m_he, .ref m_pu, .ref m_pc, .ref m_pl, .ref m_pb, .ref m_ps, .int pv, .int ev]))]) [0] rfl) (hD.sub (ws' := [(y0, .inr (4, [.int 0, .int (nI lm), .int sz, .int em, .int lt, .int sp, .int (nI np), .int fd, .int bg, .ref m_op, .ref m_nu, .ref m_gv, .ref m_sh, .ref m_he, .ref m_pu, .ref m_pc, .ref m_pl, .ref m_pb, .ref m_ps, .int pv, .int ev]))]) [0] (by decide) rfl) hS d_Modl_count_72
  by_cases c_6 : p1 = 5
  · refine lv_tableIn (tgt := 73) hx hb d_Modl_count_6 (by rw [c_6]; decide) (by rw [c_6]; decide) (by rw [c_6]; rfl) (by decide) ?_
    refine lv_aload_n hx hb d_Modl_count_73 rfl (lv_at hl 0 rfl) ?_
    refine va_get (D := (dC, dI)) (ci := 4) (v := .int fd) (C := R_Modl) (T := F_Modl) (N := 21) hx hb htb iw_Modl hown hK.1 hP 0 rfl rfl 7 (by decide) (htb _ tw_422) (fun _ h9 => h9) rfl d_Modl_count_74 ?_
    exact rt_i (v := fd) () hx hb hr hlocks (show fd = co_w p1 sz em lt sp np fd lm from (by simp only [co_w, if_neg c_1, if_neg c_2, if_neg c_3, if_neg c_4, if_neg c_5, if_pos c_6, and_self])) (hP.sub (ws' := [(y0, .inr (4, [.int 0, .int (nI lm), .int sz, .int em, .int lt, .int sp, .int (nI np), .int fd, .int bg, .ref m_op, .ref m_nu, .ref m_gv, .ref m_sh, .ref m_he, .ref m_pu, .ref m_pc, .ref m_pl, .ref m_pb, .ref m_ps, .int pv, .int ev]))]) [0] rfl) (hD.sub (ws' := [(y0, .inr (4, [.int 0, .int (nI lm), .int sz, .int em, .int lt, .int sp, .int (nI np), .int fd, .int bg, .ref m_op, .ref m_nu, .ref m_gv, .ref m_sh, .ref m_he, .ref m_pu, .ref m_pc, .ref m_pl, .ref m_pb, .ref m_ps, .int pv, .int ev]))]) [0] (by decide) rfl) hS d_Modl_count_77
  by_cases c_7 : p1 = 6
  · refine lv_tableIn (tgt := 78) hx hb d_Modl_count_6 (by rw [c_7]; decide) (by rw [c_7]; decide) (by rw [c_7]; rfl) (by decide) ?_
    refine lv_aload_n hx hb d_Modl_count_78 rfl (lv_at hl 0 rfl) ?_
    refine va_get (D := (dC, dI)) (ci := 4) (v := .int (nI lm)) (C := R_Modl) (T := F_Modl) (N := 21) hx hb htb iw_Modl hown hK.1 hP 0 rfl rfl 1 (by decide) (htb _ tw_416) (fun _ h9 => h9) rfl d_Modl_count_79 ?_
    exact rt_i (v := nI lm) () hx hb hr hlocks (show (nI lm) = co_w p1 sz em lt sp np fd lm from (by simp only [co_w, if_neg c_1, if_neg c_2, if_neg c_3, if_neg c_4, if_neg c_5, if_neg c_6, if_pos c_7, and_self])) (hP.sub (ws' := [(y0, .inr (4, [.int 0, .int (nI lm), .int sz, .int em, .int lt, .int sp, .int (nI np), .int fd, .int bg, .ref m_op, .ref m_nu, .ref m_gv, .ref m_sh, .ref m_he, .ref m_pu, .ref m_pc, .ref m_pl, .ref m_pb, .ref m_ps, .int pv, .int ev]))]) [0] rfl) (hD.sub (ws' := [(y0, .inr (4, [.int 0, .int (nI lm), .int sz, .int em, .int lt, .int sp, .int (nI np), .int fd, .int bg, .ref m_op, .ref m_nu, .ref m_gv, .ref m_sh, .ref m_he, .ref m_pu, .ref m_pc, .ref m_pl, .ref m_pb, .ref m_ps, .int pv, .int ev]))]) [0] (by decide) rfl) hS d_Modl_count_82
  refine lv_tableE (tgt := 83) hx hb d_Modl_count_6 (by decide) (fun j hj he => by have q_0 := lv_neT c_1 (a := 0) (by decide); have q_1 := lv_neT c_2 (a := 1) (by decide); have q_2 := lv_neT c_3 (a := 2) (by decide); have q_3 := lv_neT c_4 (a := 3) (by decide); have q_4 := lv_neT c_5 (a := 4) (by decide); have q_5 := lv_neT c_6 (a := 5) (by decide); have q_6 := lv_neT c_7 (a := 6) (by decide); rcases (show j = 0 ∨ j = 1 ∨ j = 2 ∨ j = 3 ∨ j = 4 ∨ j = 5 ∨ j = 6 by omega) with rfl | rfl | rfl | rfl | rfl | rfl | rfl <;> first | rfl | (exfalso; omega)) ?_
  refine lv_iconst (v := (-1)) hx hb d_Modl_count_83 (by decide) ?_
  exact rt_i (v := (-1)) () hx hb hr hlocks (show ((-1) : Int32) = co_w p1 sz em lt sp np fd lm from (by simp only [co_w, if_neg c_1, if_neg c_2, if_neg c_3, if_neg c_4, if_neg c_5, if_neg c_6, if_neg c_7, and_self])) (hP.sub (ws' := [(y0, .inr (4, [.int 0, .int (nI lm), .int sz, .int em, .int lt, .int sp, .int (nI np), .int fd, .int bg, .ref m_op, .ref m_nu, .ref m_gv, .ref m_sh, .ref m_he, .ref m_pu, .ref m_pc, .ref m_pl, .ref m_pb, .ref m_ps, .int pv, .int ev]))]) [0] rfl) (hD.sub (ws' := [(y0, .inr (4, [.int 0, .int (nI lm), .int sz, .int em, .int lt, .int sp, .int (nI np), .int fd, .int bg, .ref m_op, .ref m_nu, .ref m_gv, .ref m_sh, .ref m_he, .ref m_pu, .ref m_pc, .ref m_pl, .ref m_pb, .ref m_ps, .int pv, .int ev]))]) [0] (by decide) rfl) hS d_Modl_count_84

set_option maxHeartbeats 4000000 in
set_option maxRecDepth 100000 in
theorem c_Modl_flip (l : Launch) (dC : Nat → ClassId) (dI : Nat → Nat → Nat) (cI cL : ClassId) (hs0 : Nat) (y0 : Nat) (th : Int32) (lm : Nat) (sz : Int32) (em : Int32) (lt : Int32) (sp : Int32) (np : Nat) (fd : Int32) (bg : Int32) (m_op : Nat) (m_nu : Nat) (m_gv : Nat) (m_sh : Nat) (m_he : Nat) (m_pu : Nat) (m_pc : Nat) (m_pl : Nat) (m_pb : Nat) (m_ps : Nat) (pv : Int32) (ev : Int32) (fc : Nat → Int32) (fl : Nat → Int32) (fb : Nat → Int32) (fs : Nat → Int32) (p1 : Int32) (p2 : Int32) (p3 : Int32) (p4 : Int32) (hnp : np ≤ 4) (hlt : ¬ lt < 0) : ct_i l y_Modl_flip b_Modl_flip 5 (some .boolean) ({ frames := 0, cells := 0, slots := 0, locals := 0 }) (dC, dI) cI cL [.ref y0, .int p1, .int p2, .int p3, .int p4] [(y0, .inr (4, [.int th, .int (nI lm), .int sz, .int em, .int lt, .int sp, .int (nI np), .int fd, .int bg, .ref m_op, .ref m_nu, .ref m_gv, .ref m_sh, .ref m_he, .ref m_pu, .ref m_pc, .ref m_pl, .ref m_pb, .ref m_ps, .int pv, .int ev])), (m_pc, .inl (cI, 4, .inl fc)), (m_pl, .inl (cI, 4, .inl fl)), (m_pb, .inl (cI, 4, .inl fb)), (m_ps, .inl (cI, 4, .inl fs))] hs0 (fun (r : Int32) (u : (Nat → Int32) × (Nat → Int32) × (Nat → Int32) × (Nat → Int32) × Nat) => r = fp_w p1 p2 p3 p4 lt np ∧ u.1 = (if fp_w p1 p2 p3 p4 lt np = 0 then fc else upd fc np p1) ∧ u.2.1 = (if fp_w p1 p2 p3 p4 lt np = 0 then fl else upd fl np p2) ∧ u.2.2.1 = (if fp_w p1 p2 p3 p4 lt np = 0 then fb else upd fb np p3) ∧ u.2.2.2.1 = (if fp_w p1 p2 p3 p4 lt np = 0 then fs else upd fs np p4) ∧ u.2.2.2.2 = (if fp_w p1 p2 p3 p4 lt np = 0 then np else np + 1)) (fun u => [(y0, .inr (4, [.int 0, .int (nI lm), .int sz, .int em, .int lt, .int sp, .int (nI u.2.2.2.2), .int fd, .int bg, .ref m_op, .ref m_nu, .ref m_gv, .ref m_sh, .ref m_he, .ref m_pu, .ref m_pc, .ref m_pl, .ref m_pb, .ref m_ps, .int pv, .int ev])), (m_pc, .inl (cI, 4, .inl u.1)), (m_pl, .inl (cI, 4, .inl u.2.1)), (m_pb, .inl (cI, 4, .inl u.2.2.1)), (m_ps, .inl (cI, 4, .inl u.2.2.2.1))]) 0 0 := by
  refine st_w (Qc := fun A => va_Qi (fun (r : Int32) (u : (Nat → Int32) × (Nat → Int32) × (Nat → Int32) × (Nat → Int32) × Nat) => r = fp_w p1 p2 p3 p4 lt np ∧ u.1 = (if fp_w p1 p2 p3 p4 lt np = 0 then fc else upd fc np p1) ∧ u.2.1 = (if fp_w p1 p2 p3 p4 lt np = 0 then fl else upd fl np p2) ∧ u.2.2.1 = (if fp_w p1 p2 p3 p4 lt np = 0 then fb else upd fb np p3) ∧ u.2.2.2.1 = (if fp_w p1 p2 p3 p4 lt np = 0 then fs else upd fs np p4) ∧ u.2.2.2.2 = (if fp_w p1 p2 p3 p4 lt np = 0 then np else np + 1)) (fun (u : (Nat → Int32) × (Nat → Int32) × (Nat → Int32) × (Nat → Int32) × Nat) t => pos_w (dC, dI) A [(y0, .inr (4, [.int 0, .int (nI lm), .int sz, .int em, .int lt, .int sp, .int (nI u.2.2.2.2), .int fd, .int bg, .ref m_op, .ref m_nu, .ref m_gv, .ref m_sh, .ref m_he, .ref m_pu, .ref m_pc, .ref m_pl, .ref m_pb, .ref m_ps, .int pv, .int ev])), (m_pc, .inl (cI, 4, .inl u.1)), (m_pl, .inl (cI, 4, .inl u.2.1)), (m_pb, .inl (cI, 4, .inl u.2.2.1)), (m_ps, .inl (cI, 4, .inl u.2.2.2.1))] t) A) (by decide) (Nat.le_of_ble_eq_true rfl) ?_
  intro p e s m below meth c A ls hfx hK hA hP hD hS hl
  obtain ⟨hx, hb, hml, hown, htb, hr, hlocks, hin⟩ := hfx
  have hl : lv_has ls 5 [(0, .ref y0), (1, .int p1), (2, .int p2), (3, .int p3), (4, .int p4)] := hl
  refine lv_aload_n hx hb d_Modl_flip_0 rfl (lv_at hl 0 rfl) ?_
  refine lv_iconst (v := 0) hx hb d_Modl_flip_1 (by decide) ?_
  refine va_put (D := (dC, dI)) (ci := 4) (v := .int 0) (ty := .int) (C := R_Modl) (T := F_Modl) (N := 21) hx hb htb iw_Modl t_Modl t_Modl_ok n_Modl hown hK.1 hP hD hS 0 rfl rfl 0 (by decide) (htb _ tw_415) (fun _ h9 => h9) rfl (by decide +kernel) rfl rfl (Nat.le_of_ble_eq_true rfl) d_Modl_flip_2 (fun H locs hP hD hS => ?_)
  have hP : va_P (dC, dI) classes [(y0, .inr (4, [.int 0, .int (nI lm), .int sz, .int em, .int lt, .int sp, .int (nI np), .int fd, .int bg, .ref m_op, .ref m_nu, .ref m_gv, .ref m_sh, .ref m_he, .ref m_pu, .ref m_pc, .ref m_pl, .ref m_pb, .ref m_ps, .int pv, .int ev])), (m_pc, .inl (cI, 4, .inl fc)), (m_pl, .inl (cI, 4, .inl fl)), (m_pb, .inl (cI, 4, .inl fb)), (m_ps, .inl (cI, 4, .inl fs))] H := hP
  have hD : va_D A [(y0, .inr (4, [.int 0, .int (nI lm), .int sz, .int em, .int lt, .int sp, .int (nI np), .int fd, .int bg, .ref m_op, .ref m_nu, .ref m_gv, .ref m_sh, .ref m_he, .ref m_pu, .ref m_pc, .ref m_pl, .ref m_pb, .ref m_ps, .int pv, .int ev])), (m_pc, .inl (cI, 4, .inl fc)), (m_pl, .inl (cI, 4, .inl fl)), (m_pb, .inl (cI, 4, .inl fb)), (m_ps, .inl (cI, 4, .inl fs))] := hD
  refine lv_iload_n hx hb d_Modl_flip_5 rfl (lv_at hl 1 rfl) ?_
  refine lv_if_lt (tgt := 54) hx hb d_Modl_flip_6 (by decide) (fun c_1 => ?_) (fun c_1 => ?_)
  · have c_1 : p1 < 0 := c_1
    refine lv_iconst (v := 0) hx hb d_Modl_flip_54 (by decide) ?_
    exact rt_z (v := 0) (fc, fl, fb, fs, np) hx hb hr hlocks (by decide) (show (0 : Int32) = fp_w p1 p2 p3 p4 lt np ∧ fc = (if fp_w p1 p2 p3 p4 lt np = 0 then fc else upd fc np p1) ∧ fl = (if fp_w p1 p2 p3 p4 lt np = 0 then fl else upd fl np p2) ∧ fb = (if fp_w p1 p2 p3 p4 lt np = 0 then fb else upd fb np p3) ∧ fs = (if fp_w p1 p2 p3 p4 lt np = 0 then fs else upd fs np p4) ∧ np = (if fp_w p1 p2 p3 p4 lt np = 0 then np else np + 1) from (fp_zero (fp_0 (Or.inl (bl_neg c_1))))) (hP.sub (ws' := [(y0, .inr (4, [.int 0, .int (nI lm), .int sz, .int em, .int lt, .int sp, .int (nI np), .int fd, .int bg, .ref m_op, .ref m_nu, .ref m_gv, .ref m_sh, .ref m_he, .ref m_pu, .ref m_pc, .ref m_pl, .ref m_pb, .ref m_ps, .int pv, .int ev])), (m_pc, .inl (cI, 4, .inl fc)), (m_pl, .inl (cI, 4, .inl fl)), (m_pb, .inl (cI, 4, .inl fb)), (m_ps, .inl (cI, 4, .inl fs))]) [0, 1, 2, 3, 4] rfl) (hD.sub (ws' := [(y0, .inr (4, [.int 0, .int (nI lm), .int sz, .int em, .int lt, .int sp, .int (nI np), .int fd, .int bg, .ref m_op, .ref m_nu, .ref m_gv, .ref m_sh, .ref m_he, .ref m_pu, .ref m_pc, .ref m_pl, .ref m_pb, .ref m_ps, .int pv, .int ev])), (m_pc, .inl (cI, 4, .inl fc)), (m_pl, .inl (cI, 4, .inl fl)), (m_pb, .inl (cI, 4, .inl fb)), (m_ps, .inl (cI, 4, .inl fs))]) [0, 1, 2, 3, 4] (by decide) rfl) hS d_Modl_flip_55
  · have c_1 : ¬ p1 < 0 := c_1
    refine lv_iload_n hx hb d_Modl_flip_9 rfl (lv_at hl 1 rfl) ?_
    refine lv_iconst (v := 1) hx hb d_Modl_flip_10 (by decide) ?_
    refine lv_icmp_gt (tgt := 54) hx hb d_Modl_flip_11 (by decide) (fun c_2 => ?_) (fun c_2 => ?_)
    · have c_2 : 1 < p1 := c_2
      refine lv_iconst (v := 0) hx hb d_Modl_flip_54 (by decide) ?_
      exact rt_z (v := 0) (fc, fl, fb, fs, np) hx hb hr hlocks (by decide) (show (0 : Int32) = fp_w p1 p2 p3 p4 lt np ∧ fc = (if fp_w p1 p2 p3 p4 lt np = 0 then fc else upd fc np p1) ∧ fl = (if fp_w p1 p2 p3 p4 lt np = 0 then fl else upd fl np p2) ∧ fb = (if fp_w p1 p2 p3 p4 lt np = 0 then fb else upd fb np p3) ∧ fs = (if fp_w p1 p2 p3 p4 lt np = 0 then fs else upd fs np p4) ∧ np = (if fp_w p1 p2 p3 p4 lt np = 0 then np else np + 1) from (fp_zero (fp_0 (Or.inl (bl_gt (f := 1) c_2 (by decide)))))) (hP.sub (ws' := [(y0, .inr (4, [.int 0, .int (nI lm), .int sz, .int em, .int lt, .int sp, .int (nI np), .int fd, .int bg, .ref m_op, .ref m_nu, .ref m_gv, .ref m_sh, .ref m_he, .ref m_pu, .ref m_pc, .ref m_pl, .ref m_pb, .ref m_ps, .int pv, .int ev])), (m_pc, .inl (cI, 4, .inl fc)), (m_pl, .inl (cI, 4, .inl fl)), (m_pb, .inl (cI, 4, .inl fb)), (m_ps, .inl (cI, 4, .inl fs))]) [0, 1, 2, 3, 4] rfl) (hD.sub (ws' := [(y0, .inr (4, [.int 0, .int (nI lm), .int sz, .int em, .int lt, .int sp, .int (nI np), .int fd, .int bg, .ref m_op, .ref m_nu, .ref m_gv, .ref m_sh, .ref m_he, .ref m_pu, .ref m_pc, .ref m_pl, .ref m_pb, .ref m_ps, .int pv, .int ev])), (m_pc, .inl (cI, 4, .inl fc)), (m_pl, .inl (cI, 4, .inl fl)), (m_pb, .inl (cI, 4, .inl fb)), (m_ps, .inl (cI, 4, .inl fs))]) [0, 1, 2, 3, 4] (by decide) rfl) hS d_Modl_flip_55
    · have c_2 : ¬ 1 < p1 := c_2
      refine lv_iload_n hx hb d_Modl_flip_14 rfl (lv_at hl 2 rfl) ?_
      refine lv_if_lt (tgt := 54) hx hb d_Modl_flip_15 (by decide) (fun c_3 => ?_) (fun c_3 => ?_)
      · have c_3 : p2 < 0 := c_3
        refine lv_iconst (v := 0) hx hb d_Modl_flip_54 (by decide) ?_
        exact rt_z (v := 0) (fc, fl, fb, fs, np) hx hb hr hlocks (by decide) (show (0 : Int32) = fp_w p1 p2 p3 p4 lt np ∧ fc = (if fp_w p1 p2 p3 p4 lt np = 0 then fc else upd fc np p1) ∧ fl = (if fp_w p1 p2 p3 p4 lt np = 0 then fl else upd fl np p2) ∧ fb = (if fp_w p1 p2 p3 p4 lt np = 0 then fb else upd fb np p3) ∧ fs = (if fp_w p1 p2 p3 p4 lt np = 0 then fs else upd fs np p4) ∧ np = (if fp_w p1 p2 p3 p4 lt np = 0 then np else np + 1) from (fp_zero (fp_0 (Or.inr (Or.inl (bl_neg c_3)))))) (hP.sub (ws' := [(y0, .inr (4, [.int 0, .int (nI lm), .int sz, .int em, .int lt, .int sp, .int (nI np), .int fd, .int bg, .ref m_op, .ref m_nu, .ref m_gv, .ref m_sh, .ref m_he, .ref m_pu, .ref m_pc, .ref m_pl, .ref m_pb, .ref m_ps, .int pv, .int ev])), (m_pc, .inl (cI, 4, .inl fc)), (m_pl, .inl (cI, 4, .inl fl)), (m_pb, .inl (cI, 4, .inl fb)), (m_ps, .inl (cI, 4, .inl fs))]) [0, 1, 2, 3, 4] rfl) (hD.sub (ws' := [(y0, .inr (4, [.int 0, .int (nI lm), .int sz, .int em, .int lt, .int sp, .int (nI np), .int fd, .int bg, .ref m_op, .ref m_nu, .ref m_gv, .ref m_sh, .ref m_he, .ref m_pu, .ref m_pc, .ref m_pl, .ref m_pb, .ref m_ps, .int pv, .int ev])), (m_pc, .inl (cI, 4, .inl fc)), (m_pl, .inl (cI, 4, .inl fl)), (m_pb, .inl (cI, 4, .inl fb)), (m_ps, .inl (cI, 4, .inl fs))]) [0, 1, 2, 3, 4] (by decide) rfl) hS d_Modl_flip_55
      · have c_3 : ¬ p2 < 0 := c_3
        refine lv_iload_n hx hb d_Modl_flip_18 rfl (lv_at hl 2 rfl) ?_
        refine lv_bipush (v := 17) hx hb d_Modl_flip_19 (by decide) ?_
        refine lv_icmp_gt (tgt := 54) hx hb d_Modl_flip_21 (by decide) (fun c_4 => ?_) (fun c_4 => ?_)
        · have c_4 : 17 < p2 := c_4
          refine lv_iconst (v := 0) hx hb d_Modl_flip_54 (by decide) ?_
          exact rt_z (v := 0) (fc, fl, fb, fs, np) hx hb hr hlocks (by decide) (show (0 : Int32) = fp_w p1 p2 p3 p4 lt np ∧ fc = (if fp_w p1 p2 p3 p4 lt np = 0 then fc else upd fc np p1) ∧ fl = (if fp_w p1 p2 p3 p4 lt np = 0 then fl else upd fl np p2) ∧ fb = (if fp_w p1 p2 p3 p4 lt np = 0 then fb else upd fb np p3) ∧ fs = (if fp_w p1 p2 p3 p4 lt np = 0 then fs else upd fs np p4) ∧ np = (if fp_w p1 p2 p3 p4 lt np = 0 then np else np + 1) from (fp_zero (fp_0 (Or.inr (Or.inl (bl_gt (f := 17) c_4 (by decide))))))) (hP.sub (ws' := [(y0, .inr (4, [.int 0, .int (nI lm), .int sz, .int em, .int lt, .int sp, .int (nI np), .int fd, .int bg, .ref m_op, .ref m_nu, .ref m_gv, .ref m_sh, .ref m_he, .ref m_pu, .ref m_pc, .ref m_pl, .ref m_pb, .ref m_ps, .int pv, .int ev])), (m_pc, .inl (cI, 4, .inl fc)), (m_pl, .inl (cI, 4, .inl fl)), (m_pb, .inl (cI, 4, .inl fb)), (m_ps, .inl (cI, 4, .inl fs))]) [0, 1, 2, 3, 4] rfl) (hD.sub (ws' := [(y0, .inr (4, [.int 0, .int (nI lm), .int sz, .int em, .int lt, .int sp, .int (nI np), .int fd, .int bg, .ref m_op, .ref m_nu, .ref m_gv, .ref m_sh, .ref m_he, .ref m_pu, .ref m_pc, .ref m_pl, .ref m_pb, .ref m_ps, .int pv, .int ev])), (m_pc, .inl (cI, 4, .inl fc)), (m_pl, .inl (cI, 4, .inl fl)), (m_pb, .inl (cI, 4, .inl fb)), (m_ps, .inl (cI, 4, .inl fs))]) [0, 1, 2, 3, 4] (by decide) rfl) hS d_Modl_flip_55
        · have c_4 : ¬ 17 < p2 := c_4
          refine lv_iload_n hx hb d_Modl_flip_24 rfl (lv_at hl 3 rfl) ?_
          refine lv_if_lt (tgt := 54) hx hb d_Modl_flip_25 (by decide) (fun c_5 => ?_) (fun c_5 => ?_)
          · have c_5 : p3 < 0 := c_5
            refine lv_iconst (v := 0) hx hb d_Modl_flip_54 (by decide) ?_
            exact rt_z (v := 0) (fc, fl, fb, fs, np) hx hb hr hlocks (by decide) (show (0 : Int32) = fp_w p1 p2 p3 p4 lt np ∧ fc = (if fp_w p1 p2 p3 p4 lt np = 0 then fc else upd fc np p1) ∧ fl = (if fp_w p1 p2 p3 p4 lt np = 0 then fl else upd fl np p2) ∧ fb = (if fp_w p1 p2 p3 p4 lt np = 0 then fb else upd fb np p3) ∧ fs = (if fp_w p1 p2 p3 p4 lt np = 0 then fs else upd fs np p4) ∧ np = (if fp_w p1 p2 p3 p4 lt np = 0 then np else np + 1) from (fp_zero (fp_0 (Or.inr (Or.inr (Or.inl (bl_neg c_5))))))) (hP.sub (ws' := [(y0, .inr (4, [.int 0, .int (nI lm), .int sz, .int em, .int lt, .int sp, .int (nI np), .int fd, .int bg, .ref m_op, .ref m_nu, .ref m_gv, .ref m_sh, .ref m_he, .ref m_pu, .ref m_pc, .ref m_pl, .ref m_pb, .ref m_ps, .int pv, .int ev])), (m_pc, .inl (cI, 4, .inl fc)), (m_pl, .inl (cI, 4, .inl fl)), (m_pb, .inl (cI, 4, .inl fb)), (m_ps, .inl (cI, 4, .inl fs))]) [0, 1, 2, 3, 4] rfl) (hD.sub (ws' := [(y0, .inr (4, [.int 0, .int (nI lm), .int sz, .int em, .int lt, .int sp, .int (nI np), .int fd, .int bg, .ref m_op, .ref m_nu, .ref m_gv, .ref m_sh, .ref m_he, .ref m_pu, .ref m_pc, .ref m_pl, .ref m_pb, .ref m_ps, .int pv, .int ev])), (m_pc, .inl (cI, 4, .inl fc)), (m_pl, .inl (cI, 4, .inl fl)), (m_pb, .inl (cI, 4, .inl fb)), (m_ps, .inl (cI, 4, .inl fs))]) [0, 1, 2, 3, 4] (by decide) rfl) hS d_Modl_flip_55
          · have c_5 : ¬ p3 < 0 := c_5
            refine lv_iload_n hx hb d_Modl_flip_28 rfl (lv_at hl 3 rfl) ?_
            refine lv_bipush (v := 63) hx hb d_Modl_flip_29 (by decide) ?_
            refine lv_icmp_gt (tgt := 54) hx hb d_Modl_flip_31 (by decide) (fun c_6 => ?_) (fun c_6 => ?_)
            · have c_6 : 63 < p3 := c_6
              refine lv_iconst (v := 0) hx hb d_Modl_flip_54 (by decide) ?_
              exact rt_z (v := 0) (fc, fl, fb, fs, np) hx hb hr hlocks (by decide) (show (0 : Int32) = fp_w p1 p2 p3 p4 lt np ∧ fc = (if fp_w p1 p2 p3 p4 lt np = 0 then fc else upd fc np p1) ∧ fl = (if fp_w p1 p2 p3 p4 lt np = 0 then fl else upd fl np p2) ∧ fb = (if fp_w p1 p2 p3 p4 lt np = 0 then fb else upd fb np p3) ∧ fs = (if fp_w p1 p2 p3 p4 lt np = 0 then fs else upd fs np p4) ∧ np = (if fp_w p1 p2 p3 p4 lt np = 0 then np else np + 1) from (fp_zero (fp_0 (Or.inr (Or.inr (Or.inl (bl_gt (f := 63) c_6 (by decide)))))))) (hP.sub (ws' := [(y0, .inr (4, [.int 0, .int (nI lm), .int sz, .int em, .int lt, .int sp, .int (nI np), .int fd, .int bg, .ref m_op, .ref m_nu, .ref m_gv, .ref m_sh, .ref m_he, .ref m_pu, .ref m_pc, .ref m_pl, .ref m_pb, .ref m_ps, .int pv, .int ev])), (m_pc, .inl (cI, 4, .inl fc)), (m_pl, .inl (cI, 4, .inl fl)), (m_pb, .inl (cI, 4, .inl fb)), (m_ps, .inl (cI, 4, .inl fs))]) [0, 1, 2, 3, 4] rfl) (hD.sub (ws' := [(y0, .inr (4, [.int 0, .int (nI lm), .int sz, .int em, .int lt, .int sp, .int (nI np), .int fd, .int bg, .ref m_op, .ref m_nu, .ref m_gv, .ref m_sh, .ref m_he, .ref m_pu, .ref m_pc, .ref m_pl, .ref m_pb, .ref m_ps, .int pv, .int ev])), (m_pc, .inl (cI, 4, .inl fc)), (m_pl, .inl (cI, 4, .inl fl)), (m_pb, .inl (cI, 4, .inl fb)), (m_ps, .inl (cI, 4, .inl fs))]) [0, 1, 2, 3, 4] (by decide) rfl) hS d_Modl_flip_55
            · have c_6 : ¬ 63 < p3 := c_6
              refine lv_iload hx hb d_Modl_flip_34 (lv_at hl 4 rfl) ?_
              refine lv_if_lt (tgt := 54) hx hb d_Modl_flip_36 (by decide) (fun c_7 => ?_) (fun c_7 => ?_)
              · have c_7 : p4 < 0 := c_7
                refine lv_iconst (v := 0) hx hb d_Modl_flip_54 (by decide) ?_
                exact rt_z (v := 0) (fc, fl, fb, fs, np) hx hb hr hlocks (by decide) (show (0 : Int32) = fp_w p1 p2 p3 p4 lt np ∧ fc = (if fp_w p1 p2 p3 p4 lt np = 0 then fc else upd fc np p1) ∧ fl = (if fp_w p1 p2 p3 p4 lt np = 0 then fl else upd fl np p2) ∧ fb = (if fp_w p1 p2 p3 p4 lt np = 0 then fb else upd fb np p3) ∧ fs = (if fp_w p1 p2 p3 p4 lt np = 0 then fs else upd fs np p4) ∧ np = (if fp_w p1 p2 p3 p4 lt np = 0 then np else np + 1) from (fp_zero (fp_0 (Or.inr (Or.inr (Or.inr (Or.inl (neg_s c_7)))))))) (hP.sub (ws' := [(y0, .inr (4, [.int 0, .int (nI lm), .int sz, .int em, .int lt, .int sp, .int (nI np), .int fd, .int bg, .ref m_op, .ref m_nu, .ref m_gv, .ref m_sh, .ref m_he, .ref m_pu, .ref m_pc, .ref m_pl, .ref m_pb, .ref m_ps, .int pv, .int ev])), (m_pc, .inl (cI, 4, .inl fc)), (m_pl, .inl (cI, 4, .inl fl)), (m_pb, .inl (cI, 4, .inl fb)), (m_ps, .inl (cI, 4, .inl fs))]) [0, 1, 2, 3, 4] rfl) (hD.sub (ws' := [(y0, .inr (4, [.int 0, .int (nI lm), .int sz, .int em, .int lt, .int sp, .int (nI np), .int fd, .int bg, .ref m_op, .ref m_nu, .ref m_gv, .ref m_sh, .ref m_he, .ref m_pu, .ref m_pc, .ref m_pl, .ref m_pb, .ref m_ps, .int pv, .int ev])), (m_pc, .inl (cI, 4, .inl fc)), (m_pl, .inl (cI, 4, .inl fl)), (m_pb, .inl (cI, 4, .inl fb)), (m_ps, .inl (cI, 4, .inl fs))]) [0, 1, 2, 3, 4] (by decide) rfl) hS d_Modl_flip_55
              · have c_7 : ¬ p4 < 0 := c_7
                refine lv_aload_n hx hb d_Modl_flip_39 rfl (lv_at hl 0 rfl) ?_
                refine va_get (D := (dC, dI)) (ci := 4) (v := .int lt) (C := R_Modl) (T := F_Modl) (N := 21) hx hb htb iw_Modl hown hK.1 hP 0 rfl rfl 4 (by decide) (htb _ tw_419) (fun _ h9 => h9) rfl d_Modl_flip_40 ?_
                refine lv_if_gt (tgt := 54) hx hb d_Modl_flip_43 (by decide) (fun c_8 => ?_) (fun c_8 => ?_)
                · have c_8 : 0 < lt := c_8
                  refine lv_iconst (v := 0) hx hb d_Modl_flip_54 (by decide) ?_
                  exact rt_z (v := 0) (fc, fl, fb, fs, np) hx hb hr hlocks (by decide) (show (0 : Int32) = fp_w p1 p2 p3 p4 lt np ∧ fc = (if fp_w p1 p2 p3 p4 lt np = 0 then fc else upd fc np p1) ∧ fl = (if fp_w p1 p2 p3 p4 lt np = 0 then fl else upd fl np p2) ∧ fb = (if fp_w p1 p2 p3 p4 lt np = 0 then fb else upd fb np p3) ∧ fs = (if fp_w p1 p2 p3 p4 lt np = 0 then fs else upd fs np p4) ∧ np = (if fp_w p1 p2 p3 p4 lt np = 0 then np else np + 1) from (fp_zero (fp_0 (Or.inr (Or.inr (Or.inr (Or.inr (Or.inl (nlt_0 c_8))))))))) (hP.sub (ws' := [(y0, .inr (4, [.int 0, .int (nI lm), .int sz, .int em, .int lt, .int sp, .int (nI np), .int fd, .int bg, .ref m_op, .ref m_nu, .ref m_gv, .ref m_sh, .ref m_he, .ref m_pu, .ref m_pc, .ref m_pl, .ref m_pb, .ref m_ps, .int pv, .int ev])), (m_pc, .inl (cI, 4, .inl fc)), (m_pl, .inl (cI, 4, .inl fl)), (m_pb, .inl (cI, 4, .inl fb)), (m_ps, .inl (cI, 4, .inl fs))]) [0, 1, 2, 3, 4] rfl) (hD.sub (ws' := [(y0, .inr (4, [.int 0, .int (nI lm), .int sz, .int em, .int lt, .int sp, .int (nI np), .int fd, .int bg, .ref m_op, .ref m_nu, .ref m_gv, .ref m_sh, .ref m_he, .ref m_pu, .ref m_pc, .ref m_pl, .ref m_pb, .ref m_ps, .int pv, .int ev])), (m_pc, .inl (cI, 4, .inl fc)), (m_pl, .inl (cI, 4, .inl fl)), (m_pb, .inl (cI, 4, .inl fb)), (m_ps, .inl (cI, 4, .inl fs))]) [0, 1, 2, 3, 4] (by decide) rfl) hS d_Modl_flip_55
                · have c_8 : ¬ 0 < lt := c_8
                  refine lv_aload_n hx hb d_Modl_flip_46 rfl (lv_at hl 0 rfl) ?_
                  refine va_get (D := (dC, dI)) (ci := 4) (v := .int (nI np)) (C := R_Modl) (T := F_Modl) (N := 21) hx hb htb iw_Modl hown hK.1 hP 0 rfl rfl 6 (by decide) (htb _ tw_421) (fun _ h9 => h9) rfl d_Modl_flip_47 ?_
                  refine lv_iconst (v := 4) hx hb d_Modl_flip_50 (by decide) ?_
                  refine lv_icmp_ne (tgt := 56) hx hb d_Modl_flip_51 (by decide) (fun c_9 => ?_) (fun c_9 => ?_)
                  · have c_9 : ¬ (nI np) = 4 := c_9
                    refine lv_aload_n hx hb d_Modl_flip_56 rfl (lv_at hl 0 rfl) ?_
                    refine va_get (D := (dC, dI)) (ci := 4) (v := .ref m_pc) (C := R_Modl) (T := F_Modl) (N := 21) hx hb htb iw_Modl hown hK.1 hP 0 rfl rfl 15 (by decide) (htb _ tw_430) (fun _ h9 => h9) rfl d_Modl_flip_57 ?_
                    refine lv_aload_n hx hb d_Modl_flip_60 rfl (lv_at hl 0 rfl) ?_
                    refine va_get (D := (dC, dI)) (ci := 4) (v := .int (nI np)) (C := R_Modl) (T := F_Modl) (N := 21) hx hb htb iw_Modl hown hK.1 hP 0 rfl rfl 6 (by decide) (htb _ tw_421) (fun _ h9 => h9) rfl d_Modl_flip_61 ?_
                    refine lv_iload_n hx hb d_Modl_flip_64 rfl (lv_at hl 1 rfl) ?_
                    refine sd_i (g := upd fc np p1) (cA := cI) hx hb hK.1 hP hD hS 1 0 rfl rfl (vp_in_nI (fu_lt (fu_n c_9 hnp) hnp) (by decide)) (by rw [(nI_clamp (by omega))]) d_Modl_flip_65 (fun H locs hP hD hS => ?_)
                    have hP : va_P (dC, dI) classes [(y0, .inr (4, [.int 0, .int (nI lm), .int sz, .int em, .int lt, .int sp, .int (nI np), .int fd, .int bg, .ref m_op, .ref m_nu, .ref m_gv, .ref m_sh, .ref m_he, .ref m_pu, .ref m_pc, .ref m_pl, .ref m_pb, .ref m_ps, .int pv, .int ev])), (m_pc, .inl (cI, 4, .inl (upd fc np p1))), (m_pl, .inl (cI, 4, .inl fl)), (m_pb, .inl (cI, 4, .inl fb)), (m_ps, .inl (cI, 4, .inl fs))] H := hP
                    have hD : va_D A [(y0, .inr (4, [.int 0, .int (nI lm), .int sz, .int em, .int lt, .int sp, .int (nI np), .int fd, .int bg, .ref m_op, .ref m_nu, .ref m_gv, .ref m_sh, .ref m_he, .ref m_pu, .ref m_pc, .ref m_pl, .ref m_pb, .ref m_ps, .int pv, .int ev])), (m_pc, .inl (cI, 4, .inl (upd fc np p1))), (m_pl, .inl (cI, 4, .inl fl)), (m_pb, .inl (cI, 4, .inl fb)), (m_ps, .inl (cI, 4, .inl fs))] := hD
                    refine lv_aload_n hx hb d_Modl_flip_66 rfl (lv_at hl 0 rfl) ?_
                    refine va_get (D := (dC, dI)) (ci := 4) (v := .ref m_pl) (C := R_Modl) (T := F_Modl) (N := 21) hx hb htb iw_Modl hown hK.1 hP 0 rfl rfl 16 (by decide) (htb _ tw_431) (fun _ h9 => h9) rfl d_Modl_flip_67 ?_
                    refine lv_aload_n hx hb d_Modl_flip_70 rfl (lv_at hl 0 rfl) ?_
                    refine va_get (D := (dC, dI)) (ci := 4) (v := .int (nI np)) (C := R_Modl) (T := F_Modl) (N := 21) hx hb htb iw_Modl hown hK.1 hP 0 rfl rfl 6 (by decide) (htb _ tw_421) (fun _ h9 => h9) rfl d_Modl_flip_71 ?_
                    refine lv_iload_n hx hb d_Modl_flip_74 rfl (lv_at hl 2 rfl) ?_
                    refine sd_i (g := upd fl np p2) (cA := cI) hx hb hK.1 hP hD hS 2 0 rfl rfl (vp_in_nI (fu_lt (fu_n c_9 hnp) hnp) (by decide)) (by rw [(nI_clamp (by omega))]) d_Modl_flip_75 (fun H locs hP hD hS => ?_)
                    have hP : va_P (dC, dI) classes [(y0, .inr (4, [.int 0, .int (nI lm), .int sz, .int em, .int lt, .int sp, .int (nI np), .int fd, .int bg, .ref m_op, .ref m_nu, .ref m_gv, .ref m_sh, .ref m_he, .ref m_pu, .ref m_pc, .ref m_pl, .ref m_pb, .ref m_ps, .int pv, .int ev])), (m_pc, .inl (cI, 4, .inl (upd fc np p1))), (m_pl, .inl (cI, 4, .inl (upd fl np p2))), (m_pb, .inl (cI, 4, .inl fb)), (m_ps, .inl (cI, 4, .inl fs))] H := hP
                    have hD : va_D A [(y0, .inr (4, [.int 0, .int (nI lm), .int sz, .int em, .int lt, .int sp, .int (nI np), .int fd, .int bg, .ref m_op, .ref m_nu, .ref m_gv, .ref m_sh, .ref m_he, .ref m_pu, .ref m_pc, .ref m_pl, .ref m_pb, .ref m_ps, .int pv, .int ev])), (m_pc, .inl (cI, 4, .inl (upd fc np p1))), (m_pl, .inl (cI, 4, .inl (upd fl np p2))), (m_pb, .inl (cI, 4, .inl fb)), (m_ps, .inl (cI, 4, .inl fs))] := hD
                    refine lv_aload_n hx hb d_Modl_flip_76 rfl (lv_at hl 0 rfl) ?_
                    refine va_get (D := (dC, dI)) (ci := 4) (v := .ref m_pb) (C := R_Modl) (T := F_Modl) (N := 21) hx hb htb iw_Modl hown hK.1 hP 0 rfl rfl 17 (by decide) (htb _ tw_432) (fun _ h9 => h9) rfl d_Modl_flip_77 ?_
                    refine lv_aload_n hx hb d_Modl_flip_80 rfl (lv_at hl 0 rfl) ?_
                    refine va_get (D := (dC, dI)) (ci := 4) (v := .int (nI np)) (C := R_Modl) (T := F_Modl) (N := 21) hx hb htb iw_Modl hown hK.1 hP 0 rfl rfl 6 (by decide) (htb _ tw_421) (fun _ h9 => h9) rfl d_Modl_flip_81 ?_
                    refine lv_iload_n hx hb d_Modl_flip_84 rfl (lv_at hl 3 rfl) ?_
                    refine sd_i (g := upd fb np p3) (cA := cI) hx hb hK.1 hP hD hS 3 0 rfl rfl (vp_in_nI (fu_lt (fu_n c_9 hnp) hnp) (by decide)) (by rw [(nI_clamp (by omega))]) d_Modl_flip_85 (fun H locs hP hD hS => ?_)
                    have hP : va_P (dC, dI) classes [(y0, .inr (4, [.int 0, .int (nI lm), .int sz, .int em, .int lt, .int sp, .int (nI np), .int fd, .int bg, .ref m_op, .ref m_nu, .ref m_gv, .ref m_sh, .ref m_he, .ref m_pu, .ref m_pc, .ref m_pl, .ref m_pb, .ref m_ps, .int pv, .int ev])), (m_pc, .inl (cI, 4, .inl (upd fc np p1))), (m_pl, .inl (cI, 4, .inl (upd fl np p2))), (m_pb, .inl (cI, 4, .inl (upd fb np p3))), (m_ps, .inl (cI, 4, .inl fs))] H := hP
                    have hD : va_D A [(y0, .inr (4, [.int 0, .int (nI lm), .int sz, .int em, .int lt, .int sp, .int (nI np), .int fd, .int bg, .ref m_op, .ref m_nu, .ref m_gv, .ref m_sh, .ref m_he, .ref m_pu, .ref m_pc, .ref m_pl, .ref m_pb, .ref m_ps, .int pv, .int ev])), (m_pc, .inl (cI, 4, .inl (upd fc np p1))), (m_pl, .inl (cI, 4, .inl (upd fl np p2))), (m_pb, .inl (cI, 4, .inl (upd fb np p3))), (m_ps, .inl (cI, 4, .inl fs))] := hD
                    refine lv_aload_n hx hb d_Modl_flip_86 rfl (lv_at hl 0 rfl) ?_
                    refine va_get (D := (dC, dI)) (ci := 4) (v := .ref m_ps) (C := R_Modl) (T := F_Modl) (N := 21) hx hb htb iw_Modl hown hK.1 hP 0 rfl rfl 18 (by decide) (htb _ tw_433) (fun _ h9 => h9) rfl d_Modl_flip_87 ?_
                    refine lv_aload_n hx hb d_Modl_flip_90 rfl (lv_at hl 0 rfl) ?_
                    refine va_get (D := (dC, dI)) (ci := 4) (v := .int (nI np)) (C := R_Modl) (T := F_Modl) (N := 21) hx hb htb iw_Modl hown hK.1 hP 0 rfl rfl 6 (by decide) (htb _ tw_421) (fun _ h9 => h9) rfl d_Modl_flip_91 ?_
                    refine lv_iload hx hb d_Modl_flip_94 (lv_at hl 4 rfl) ?_
                    refine sd_i (g := upd fs np p4) (cA := cI) hx hb hK.1 hP hD hS 4 0 rfl rfl (vp_in_nI (fu_lt (fu_n c_9 hnp) hnp) (by decide)) (by rw [(nI_clamp (by omega))]) d_Modl_flip_96 (fun H locs hP hD hS => ?_)
                    have hP : va_P (dC, dI) classes [(y0, .inr (4, [.int 0, .int (nI lm), .int sz, .int em, .int lt, .int sp, .int (nI np), .int fd, .int bg, .ref m_op, .ref m_nu, .ref m_gv, .ref m_sh, .ref m_he, .ref m_pu, .ref m_pc, .ref m_pl, .ref m_pb, .ref m_ps, .int pv, .int ev])), (m_pc, .inl (cI, 4, .inl (upd fc np p1))), (m_pl, .inl (cI, 4, .inl (upd fl np p2))), (m_pb, .inl (cI, 4, .inl (upd fb np p3))), (m_ps, .inl (cI, 4, .inl (upd fs np p4)))] H := hP
                    have hD : va_D A [(y0, .inr (4, [.int 0, .int (nI lm), .int sz, .int em, .int lt, .int sp, .int (nI np), .int fd, .int bg, .ref m_op, .ref m_nu, .ref m_gv, .ref m_sh, .ref m_he, .ref m_pu, .ref m_pc, .ref m_pl, .ref m_pb, .ref m_ps, .int pv, .int ev])), (m_pc, .inl (cI, 4, .inl (upd fc np p1))), (m_pl, .inl (cI, 4, .inl (upd fl np p2))), (m_pb, .inl (cI, 4, .inl (upd fb np p3))), (m_ps, .inl (cI, 4, .inl (upd fs np p4)))] := hD
                    refine lv_aload_n hx hb d_Modl_flip_97 rfl (lv_at hl 0 rfl) ?_
                    refine lv_dup hx hb d_Modl_flip_98 rfl ?_
                    refine va_get (D := (dC, dI)) (ci := 4) (v := .int (nI np)) (C := R_Modl) (T := F_Modl) (N := 21) hx hb htb iw_Modl hown hK.1 hP 0 rfl rfl 6 (by decide) (htb _ tw_421) (fun _ h9 => h9) rfl d_Modl_flip_99 ?_
                    refine lv_iconst (v := 1) hx hb d_Modl_flip_102 (by decide) ?_
                    refine lv_iadd hx hb d_Modl_flip_103 ?_
                    refine tp_i (nI_1 np) ?_
                    refine va_put (D := (dC, dI)) (ci := 4) (v := .int (nI (np + 1))) (ty := .int) (C := R_Modl) (T := F_Modl) (N := 21) hx hb htb iw_Modl t_Modl t_Modl_ok n_Modl hown hK.1 hP hD hS 0 rfl rfl 6 (by decide) (htb _ tw_421) (fun _ h9 => h9) rfl (by decide +kernel) rfl rfl (Nat.le_of_ble_eq_true rfl) d_Modl_flip_104 (fun H locs hP hD hS => ?_)
                    have hP : va_P (dC, dI) classes [(y0, .inr (4, [.int 0, .int (nI lm), .int sz, .int em, .int lt, .int sp, .int (nI (np + 1)), .int fd, .int bg, .ref m_op, .ref m_nu, .ref m_gv, .ref m_sh, .ref m_he, .ref m_pu, .ref m_pc, .ref m_pl, .ref m_pb, .ref m_ps, .int pv, .int ev])), (m_pc, .inl (cI, 4, .inl (upd fc np p1))), (m_pl, .inl (cI, 4, .inl (upd fl np p2))), (m_pb, .inl (cI, 4, .inl (upd fb np p3))), (m_ps, .inl (cI, 4, .inl (upd fs np p4)))] H := hP
                    have hD : va_D A [(y0, .inr (4, [.int 0, .int (nI lm), .int sz, .int em, .int lt, .int sp, .int (nI (np + 1)), .int fd, .int bg, .ref m_op, .ref m_nu, .ref m_gv, .ref m_sh, .ref m_he, .ref m_pu, .ref m_pc, .ref m_pl, .ref m_pb, .ref m_ps, .int pv, .int ev])), (m_pc, .inl (cI, 4, .inl (upd fc np p1))), (m_pl, .inl (cI, 4, .inl (upd fl np p2))), (m_pb, .inl (cI, 4, .inl (upd fb np p3))), (m_ps, .inl (cI, 4, .inl (upd fs np p4)))] := hD
                    refine lv_iconst (v := 1) hx hb d_Modl_flip_107 (by decide) ?_
                    exact rt_z (v := 1) ((upd fc np p1), (upd fl np p2), (upd fb np p3), (upd fs np p4), (np + 1)) hx hb hr hlocks (by decide) (show (1 : Int32) = fp_w p1 p2 p3 p4 lt np ∧ (upd fc np p1) = (if fp_w p1 p2 p3 p4 lt np = 0 then fc else upd fc np p1) ∧ (upd fl np p2) = (if fp_w p1 p2 p3 p4 lt np = 0 then fl else upd fl np p2) ∧ (upd fb np p3) = (if fp_w p1 p2 p3 p4 lt np = 0 then fb else upd fb np p3) ∧ (upd fs np p4) = (if fp_w p1 p2 p3 p4 lt np = 0 then fs else upd fs np p4) ∧ (np + 1) = (if fp_w p1 p2 p3 p4 lt np = 0 then np else np + 1) from (fp_one (fp_1 (bl_n2 (f := 1) c_1 c_2 (by decide)) (bl_n2 (f := 17) c_3 c_4 (by decide)) (bl_n2 (f := 63) c_5 c_6 (by decide)) (pos_s c_7) (ngt_0 c_8 hlt) (fu_n c_9 hnp)))) (hP.sub (ws' := [(y0, .inr (4, [.int 0, .int (nI lm), .int sz, .int em, .int lt, .int sp, .int (nI (np + 1)), .int fd, .int bg, .ref m_op, .ref m_nu, .ref m_gv, .ref m_sh, .ref m_he, .ref m_pu, .ref m_pc, .ref m_pl, .ref m_pb, .ref m_ps, .int pv, .int ev])), (m_pc, .inl (cI, 4, .inl (upd fc np p1))), (m_pl, .inl (cI, 4, .inl (upd fl np p2))), (m_pb, .inl (cI, 4, .inl (upd fb np p3))), (m_ps, .inl (cI, 4, .inl (upd fs np p4)))]) [0, 1, 2, 3, 4] rfl) (hD.sub (ws' := [(y0, .inr (4, [.int 0, .int (nI lm), .int sz, .int em, .int lt, .int sp, .int (nI (np + 1)), .int fd, .int bg, .ref m_op, .ref m_nu, .ref m_gv, .ref m_sh, .ref m_he, .ref m_pu, .ref m_pc, .ref m_pl, .ref m_pb, .ref m_ps, .int pv, .int ev])), (m_pc, .inl (cI, 4, .inl (upd fc np p1))), (m_pl, .inl (cI, 4, .inl (upd fl np p2))), (m_pb, .inl (cI, 4, .inl (upd fb np p3))), (m_ps, .inl (cI, 4, .inl (upd fs np p4)))]) [0, 1, 2, 3, 4] (by decide) rfl) hS d_Modl_flip_108
                  · have c_9 : (nI np) = 4 := c_9
                    refine lv_iconst (v := 0) hx hb d_Modl_flip_54 (by decide) ?_
                    exact rt_z (v := 0) (fc, fl, fb, fs, np) hx hb hr hlocks (by decide) (show (0 : Int32) = fp_w p1 p2 p3 p4 lt np ∧ fc = (if fp_w p1 p2 p3 p4 lt np = 0 then fc else upd fc np p1) ∧ fl = (if fp_w p1 p2 p3 p4 lt np = 0 then fl else upd fl np p2) ∧ fb = (if fp_w p1 p2 p3 p4 lt np = 0 then fb else upd fb np p3) ∧ fs = (if fp_w p1 p2 p3 p4 lt np = 0 then fs else upd fs np p4) ∧ np = (if fp_w p1 p2 p3 p4 lt np = 0 then np else np + 1) from (fp_zero (fp_0 (Or.inr (Or.inr (Or.inr (Or.inr (Or.inr ((fu_4 c_9)))))))))) (hP.sub (ws' := [(y0, .inr (4, [.int 0, .int (nI lm), .int sz, .int em, .int lt, .int sp, .int (nI np), .int fd, .int bg, .ref m_op, .ref m_nu, .ref m_gv, .ref m_sh, .ref m_he, .ref m_pu, .ref m_pc, .ref m_pl, .ref m_pb, .ref m_ps, .int pv, .int ev])), (m_pc, .inl (cI, 4, .inl fc)), (m_pl, .inl (cI, 4, .inl fl)), (m_pb, .inl (cI, 4, .inl fb)), (m_ps, .inl (cI, 4, .inl fs))]) [0, 1, 2, 3, 4] rfl) (hD.sub (ws' := [(y0, .inr (4, [.int 0, .int (nI lm), .int sz, .int em, .int lt, .int sp, .int (nI np), .int fd, .int bg, .ref m_op, .ref m_nu, .ref m_gv, .ref m_sh, .ref m_he, .ref m_pu, .ref m_pc, .ref m_pl, .ref m_pb, .ref m_ps, .int pv, .int ev])), (m_pc, .inl (cI, 4, .inl fc)), (m_pl, .inl (cI, 4, .inl fl)), (m_pb, .inl (cI, 4, .inl fb)), (m_ps, .inl (cI, 4, .inl fs))]) [0, 1, 2, 3, 4] (by decide) rfl) hS d_Modl_flip_55

set_option maxHeartbeats 4000000 in
set_option maxRecDepth 100000 in
theorem c_Modl_cell (l : Launch) (dC : Nat → ClassId) (dI : Nat → Nat → Nat) (cI cL : ClassId) (hs0 : Nat) (y0 : Nat) (th : Int32) (lm : Nat) (sz : Int32) (em : Int32) (lt : Int32) (sp : Int32) (np : Nat) (fd : Int32) (bg : Int32) (m_op : Nat) (m_nu : Nat) (m_gv : Nat) (m_sh : Nat) (m_he : Nat) (m_pu : Nat) (m_pc : Nat) (m_pl : Nat) (m_pb : Nat) (m_ps : Nat) (pv : Int32) (ev : Int32) (ra : Nat → Int64) (rb : Nat → Int64) (p1 : Int32) (p2 : Int32)  : ct_l l y_Modl_cell b_Modl_cell 3 (some .long) ({ frames := 0, cells := 0, slots := 0, locals := 0 }) (dC, dI) cI cL [.ref y0, .int p1, .int p2] [(y0, .inr (4, [.int th, .int (nI lm), .int sz, .int em, .int lt, .int sp, .int (nI np), .int fd, .int bg, .ref m_op, .ref m_nu, .ref m_gv, .ref m_sh, .ref m_he, .ref m_pu, .ref m_pc, .ref m_pl, .ref m_pb, .ref m_ps, .int pv, .int ev])), (m_he, .inl (cL, 36, .inr (.inl (hh_w ra rb))))] hs0 (fun (r : Int64) (u : Int32) => r = ce_w p1 p2 ra rb ∧ u = tc_w p1 p2) (fun u => [(y0, .inr (4, [.int u, .int (nI lm), .int sz, .int em, .int lt, .int sp, .int (nI np), .int fd, .int bg, .ref m_op, .ref m_nu, .ref m_gv, .ref m_sh, .ref m_he, .ref m_pu, .ref m_pc, .ref m_pl, .ref m_pb, .ref m_ps, .int pv, .int ev])), (m_he, .inl (cL, 36, .inr (.inl (hh_w ra rb))))]) 0 0 := by
  refine st_w (Qc := fun A => va_Ql (fun (r : Int64) (u : Int32) => r = ce_w p1 p2 ra rb ∧ u = tc_w p1 p2) (fun (u : Int32) t => pos_w (dC, dI) A [(y0, .inr (4, [.int u, .int (nI lm), .int sz, .int em, .int lt, .int sp, .int (nI np), .int fd, .int bg, .ref m_op, .ref m_nu, .ref m_gv, .ref m_sh, .ref m_he, .ref m_pu, .ref m_pc, .ref m_pl, .ref m_pb, .ref m_ps, .int pv, .int ev])), (m_he, .inl (cL, 36, .inr (.inl (hh_w ra rb))))] t) A) (by decide) (Nat.le_of_ble_eq_true rfl) ?_
  intro p e s m below meth c A ls hfx hK hA hP hD hS hl
  obtain ⟨hx, hb, hml, hown, htb, hr, hlocks, hin⟩ := hfx
  have hl : lv_has ls 3 [(0, .ref y0), (1, .int p1), (2, .int p2)] := hl
  refine lv_aload_n hx hb d_Modl_cell_0 rfl (lv_at hl 0 rfl) ?_
  refine lv_iload_n hx hb d_Modl_cell_1 rfl (lv_at hl 1 rfl) ?_
  refine lv_if_lt (tgt := 20) hx hb d_Modl_cell_2 (by decide) (fun c_1 => ?_) (fun c_1 => ?_)
  · have c_1 : p1 < 0 := c_1
    refine lv_iconst (v := 1) hx hb d_Modl_cell_20 (by decide) ?_
    refine lv_goto (tgt := 25) hx hb d_Modl_cell_21 (by decide) ?_
    refine va_put (D := (dC, dI)) (ci := 4) (v := .int 1) (ty := .int) (C := R_Modl) (T := F_Modl) (N := 21) hx hb htb iw_Modl t_Modl t_Modl_ok n_Modl hown hK.1 hP hD hS 0 rfl rfl 0 (by decide) (htb _ tw_415) (fun _ h9 => h9) rfl (by decide +kernel) rfl rfl (Nat.le_of_ble_eq_true rfl) d_Modl_cell_25 (fun H locs hP hD hS => ?_)
    have hP : va_P (dC, dI) classes [(y0, .inr (4, [.int 1, .int (nI lm), .int sz, .int em, .int lt, .int sp, .int (nI np), .int fd, .int bg, .ref m_op, .ref m_nu, .ref m_gv, .ref m_sh, .ref m_he, .ref m_pu, .ref m_pc, .ref m_pl, .ref m_pb, .ref m_ps, .int pv, .int ev])), (m_he, .inl (cL, 36, .inr (.inl (hh_w ra rb))))] H := hP
    have hD : va_D A [(y0, .inr (4, [.int 1, .int (nI lm), .int sz, .int em, .int lt, .int sp, .int (nI np), .int fd, .int bg, .ref m_op, .ref m_nu, .ref m_gv, .ref m_sh, .ref m_he, .ref m_pu, .ref m_pc, .ref m_pl, .ref m_pb, .ref m_ps, .int pv, .int ev])), (m_he, .inl (cL, 36, .inr (.inl (hh_w ra rb))))] := hD
    refine lv_aload_n hx hb d_Modl_cell_28 rfl (lv_at hl 0 rfl) ?_
    refine va_get (D := (dC, dI)) (ci := 4) (v := .int 1) (C := R_Modl) (T := F_Modl) (N := 21) hx hb htb iw_Modl hown hK.1 hP 0 rfl rfl 0 (by decide) (htb _ tw_415) (fun _ h9 => h9) rfl d_Modl_cell_29 ?_
    refine lv_if_le (tgt := 39) hx hb d_Modl_cell_32 (by decide) (fun c_2 => ?_) (fun c_2 => ?_)
    · exact absurd c_2 (by decide)
    · skip
      refine lv_lconst (v := 0) hx hb d_Modl_cell_35 (by decide) ?_
      refine lv_goto (tgt := 50) hx hb d_Modl_cell_36 (by decide) ?_
      exact rt_l (v := 0) 1 hx hb hr hlocks (show (0 : Int64) = ce_w p1 p2 ra rb ∧ (1 : Int32) = tc_w p1 p2 from (ce_t (tc_1 (Or.inl (bl_neg c_1))))) (hP.sub (ws' := [(y0, .inr (4, [.int 1, .int (nI lm), .int sz, .int em, .int lt, .int sp, .int (nI np), .int fd, .int bg, .ref m_op, .ref m_nu, .ref m_gv, .ref m_sh, .ref m_he, .ref m_pu, .ref m_pc, .ref m_pl, .ref m_pb, .ref m_ps, .int pv, .int ev])), (m_he, .inl (cL, 36, .inr (.inl (hh_w ra rb))))]) [0, 1] rfl) (hD.sub (ws' := [(y0, .inr (4, [.int 1, .int (nI lm), .int sz, .int em, .int lt, .int sp, .int (nI np), .int fd, .int bg, .ref m_op, .ref m_nu, .ref m_gv, .ref m_sh, .ref m_he, .ref m_pu, .ref m_pc, .ref m_pl, .ref m_pb, .ref m_ps, .int pv, .int ev])), (m_he, .inl (cL, 36, .inr (.inl (hh_w ra rb))))]) [0, 1] (by decide) rfl) hS d_Modl_cell_50
  · have c_1 : ¬ p1 < 0 := c_1
    refine lv_iload_n hx hb d_Modl_cell_5 rfl (lv_at hl 1 rfl) ?_
    refine lv_iconst (v := 1) hx hb d_Modl_cell_6 (by decide) ?_
    refine lv_icmp_gt (tgt := 20) hx hb d_Modl_cell_7 (by decide) (fun c_3 => ?_) (fun c_3 => ?_)
    · have c_3 : 1 < p1 := c_3
      refine lv_iconst (v := 1) hx hb d_Modl_cell_20 (by decide) ?_
      refine lv_goto (tgt := 25) hx hb d_Modl_cell_21 (by decide) ?_
      refine va_put (D := (dC, dI)) (ci := 4) (v := .int 1) (ty := .int) (C := R_Modl) (T := F_Modl) (N := 21) hx hb htb iw_Modl t_Modl t_Modl_ok n_Modl hown hK.1 hP hD hS 0 rfl rfl 0 (by decide) (htb _ tw_415) (fun _ h9 => h9) rfl (by decide +kernel) rfl rfl (Nat.le_of_ble_eq_true rfl) d_Modl_cell_25 (fun H locs hP hD hS => ?_)
      have hP : va_P (dC, dI) classes [(y0, .inr (4, [.int 1, .int (nI lm), .int sz, .int em, .int lt, .int sp, .int (nI np), .int fd, .int bg, .ref m_op, .ref m_nu, .ref m_gv, .ref m_sh, .ref m_he, .ref m_pu, .ref m_pc, .ref m_pl, .ref m_pb, .ref m_ps, .int pv, .int ev])), (m_he, .inl (cL, 36, .inr (.inl (hh_w ra rb))))] H := hP
      have hD : va_D A [(y0, .inr (4, [.int 1, .int (nI lm), .int sz, .int em, .int lt, .int sp, .int (nI np), .int fd, .int bg, .ref m_op, .ref m_nu, .ref m_gv, .ref m_sh, .ref m_he, .ref m_pu, .ref m_pc, .ref m_pl, .ref m_pb, .ref m_ps, .int pv, .int ev])), (m_he, .inl (cL, 36, .inr (.inl (hh_w ra rb))))] := hD
      refine lv_aload_n hx hb d_Modl_cell_28 rfl (lv_at hl 0 rfl) ?_
      refine va_get (D := (dC, dI)) (ci := 4) (v := .int 1) (C := R_Modl) (T := F_Modl) (N := 21) hx hb htb iw_Modl hown hK.1 hP 0 rfl rfl 0 (by decide) (htb _ tw_415) (fun _ h9 => h9) rfl d_Modl_cell_29 ?_
      refine lv_if_le (tgt := 39) hx hb d_Modl_cell_32 (by decide) (fun c_4 => ?_) (fun c_4 => ?_)
      · exact absurd c_4 (by decide)
      · skip
        refine lv_lconst (v := 0) hx hb d_Modl_cell_35 (by decide) ?_
        refine lv_goto (tgt := 50) hx hb d_Modl_cell_36 (by decide) ?_
        exact rt_l (v := 0) 1 hx hb hr hlocks (show (0 : Int64) = ce_w p1 p2 ra rb ∧ (1 : Int32) = tc_w p1 p2 from (ce_t (tc_1 (Or.inl (bl_gt (f := 1) c_3 (by decide)))))) (hP.sub (ws' := [(y0, .inr (4, [.int 1, .int (nI lm), .int sz, .int em, .int lt, .int sp, .int (nI np), .int fd, .int bg, .ref m_op, .ref m_nu, .ref m_gv, .ref m_sh, .ref m_he, .ref m_pu, .ref m_pc, .ref m_pl, .ref m_pb, .ref m_ps, .int pv, .int ev])), (m_he, .inl (cL, 36, .inr (.inl (hh_w ra rb))))]) [0, 1] rfl) (hD.sub (ws' := [(y0, .inr (4, [.int 1, .int (nI lm), .int sz, .int em, .int lt, .int sp, .int (nI np), .int fd, .int bg, .ref m_op, .ref m_nu, .ref m_gv, .ref m_sh, .ref m_he, .ref m_pu, .ref m_pc, .ref m_pl, .ref m_pb, .ref m_ps, .int pv, .int ev])), (m_he, .inl (cL, 36, .inr (.inl (hh_w ra rb))))]) [0, 1] (by decide) rfl) hS d_Modl_cell_50
    · have c_3 : ¬ 1 < p1 := c_3
      refine lv_iload_n hx hb d_Modl_cell_10 rfl (lv_at hl 2 rfl) ?_
      refine lv_if_lt (tgt := 20) hx hb d_Modl_cell_11 (by decide) (fun c_5 => ?_) (fun c_5 => ?_)
      · have c_5 : p2 < 0 := c_5
        refine lv_iconst (v := 1) hx hb d_Modl_cell_20 (by decide) ?_
        refine lv_goto (tgt := 25) hx hb d_Modl_cell_21 (by decide) ?_
        refine va_put (D := (dC, dI)) (ci := 4) (v := .int 1) (ty := .int) (C := R_Modl) (T := F_Modl) (N := 21) hx hb htb iw_Modl t_Modl t_Modl_ok n_Modl hown hK.1 hP hD hS 0 rfl rfl 0 (by decide) (htb _ tw_415) (fun _ h9 => h9) rfl (by decide +kernel) rfl rfl (Nat.le_of_ble_eq_true rfl) d_Modl_cell_25 (fun H locs hP hD hS => ?_)
        have hP : va_P (dC, dI) classes [(y0, .inr (4, [.int 1, .int (nI lm), .int sz, .int em, .int lt, .int sp, .int (nI np), .int fd, .int bg, .ref m_op, .ref m_nu, .ref m_gv, .ref m_sh, .ref m_he, .ref m_pu, .ref m_pc, .ref m_pl, .ref m_pb, .ref m_ps, .int pv, .int ev])), (m_he, .inl (cL, 36, .inr (.inl (hh_w ra rb))))] H := hP
        have hD : va_D A [(y0, .inr (4, [.int 1, .int (nI lm), .int sz, .int em, .int lt, .int sp, .int (nI np), .int fd, .int bg, .ref m_op, .ref m_nu, .ref m_gv, .ref m_sh, .ref m_he, .ref m_pu, .ref m_pc, .ref m_pl, .ref m_pb, .ref m_ps, .int pv, .int ev])), (m_he, .inl (cL, 36, .inr (.inl (hh_w ra rb))))] := hD
        refine lv_aload_n hx hb d_Modl_cell_28 rfl (lv_at hl 0 rfl) ?_
        refine va_get (D := (dC, dI)) (ci := 4) (v := .int 1) (C := R_Modl) (T := F_Modl) (N := 21) hx hb htb iw_Modl hown hK.1 hP 0 rfl rfl 0 (by decide) (htb _ tw_415) (fun _ h9 => h9) rfl d_Modl_cell_29 ?_
        refine lv_if_le (tgt := 39) hx hb d_Modl_cell_32 (by decide) (fun c_6 => ?_) (fun c_6 => ?_)
        · exact absurd c_6 (by decide)
        · skip
          refine lv_lconst (v := 0) hx hb d_Modl_cell_35 (by decide) ?_
          refine lv_goto (tgt := 50) hx hb d_Modl_cell_36 (by decide) ?_
          exact rt_l (v := 0) 1 hx hb hr hlocks (show (0 : Int64) = ce_w p1 p2 ra rb ∧ (1 : Int32) = tc_w p1 p2 from (ce_t (tc_1 (Or.inr (bl_neg c_5))))) (hP.sub (ws' := [(y0, .inr (4, [.int 1, .int (nI lm), .int sz, .int em, .int lt, .int sp, .int (nI np), .int fd, .int bg, .ref m_op, .ref m_nu, .ref m_gv, .ref m_sh, .ref m_he, .ref m_pu, .ref m_pc, .ref m_pl, .ref m_pb, .ref m_ps, .int pv, .int ev])), (m_he, .inl (cL, 36, .inr (.inl (hh_w ra rb))))]) [0, 1] rfl) (hD.sub (ws' := [(y0, .inr (4, [.int 1, .int (nI lm), .int sz, .int em, .int lt, .int sp, .int (nI np), .int fd, .int bg, .ref m_op, .ref m_nu, .ref m_gv, .ref m_sh, .ref m_he, .ref m_pu, .ref m_pc, .ref m_pl, .ref m_pb, .ref m_ps, .int pv, .int ev])), (m_he, .inl (cL, 36, .inr (.inl (hh_w ra rb))))]) [0, 1] (by decide) rfl) hS d_Modl_cell_50
      · have c_5 : ¬ p2 < 0 := c_5
        refine lv_iload_n hx hb d_Modl_cell_14 rfl (lv_at hl 2 rfl) ?_
        refine lv_bipush (v := 17) hx hb d_Modl_cell_15 (by decide) ?_
        refine lv_icmp_le (tgt := 24) hx hb d_Modl_cell_17 (by decide) (fun c_7 => ?_) (fun c_7 => ?_)
        · have c_7 : p2 ≤ 17 := c_7
          refine lv_iconst (v := 0) hx hb d_Modl_cell_24 (by decide) ?_
          refine va_put (D := (dC, dI)) (ci := 4) (v := .int 0) (ty := .int) (C := R_Modl) (T := F_Modl) (N := 21) hx hb htb iw_Modl t_Modl t_Modl_ok n_Modl hown hK.1 hP hD hS 0 rfl rfl 0 (by decide) (htb _ tw_415) (fun _ h9 => h9) rfl (by decide +kernel) rfl rfl (Nat.le_of_ble_eq_true rfl) d_Modl_cell_25 (fun H locs hP hD hS => ?_)
          have hP : va_P (dC, dI) classes [(y0, .inr (4, [.int 0, .int (nI lm), .int sz, .int em, .int lt, .int sp, .int (nI np), .int fd, .int bg, .ref m_op, .ref m_nu, .ref m_gv, .ref m_sh, .ref m_he, .ref m_pu, .ref m_pc, .ref m_pl, .ref m_pb, .ref m_ps, .int pv, .int ev])), (m_he, .inl (cL, 36, .inr (.inl (hh_w ra rb))))] H := hP
          have hD : va_D A [(y0, .inr (4, [.int 0, .int (nI lm), .int sz, .int em, .int lt, .int sp, .int (nI np), .int fd, .int bg, .ref m_op, .ref m_nu, .ref m_gv, .ref m_sh, .ref m_he, .ref m_pu, .ref m_pc, .ref m_pl, .ref m_pb, .ref m_ps, .int pv, .int ev])), (m_he, .inl (cL, 36, .inr (.inl (hh_w ra rb))))] := hD
          refine lv_aload_n hx hb d_Modl_cell_28 rfl (lv_at hl 0 rfl) ?_
          refine va_get (D := (dC, dI)) (ci := 4) (v := .int 0) (C := R_Modl) (T := F_Modl) (N := 21) hx hb htb iw_Modl hown hK.1 hP 0 rfl rfl 0 (by decide) (htb _ tw_415) (fun _ h9 => h9) rfl d_Modl_cell_29 ?_
          refine lv_if_le (tgt := 39) hx hb d_Modl_cell_32 (by decide) (fun c_8 => ?_) (fun c_8 => ?_)
          · skip
            refine lv_aload_n hx hb d_Modl_cell_39 rfl (lv_at hl 0 rfl) ?_
            refine va_get (D := (dC, dI)) (ci := 4) (v := .ref m_he) (C := R_Modl) (T := F_Modl) (N := 21) hx hb htb iw_Modl hown hK.1 hP 0 rfl rfl 13 (by decide) (htb _ tw_428) (fun _ h9 => h9) rfl d_Modl_cell_40 ?_
            refine lv_bipush (v := 18) hx hb d_Modl_cell_43 (by decide) ?_
            refine lv_iload_n hx hb d_Modl_cell_45 rfl (lv_at hl 1 rfl) ?_
            by_cases c_9 : p1 = 0
            · refine lv_imul hx hb d_Modl_cell_46 ?_
              refine tp_i (y := 0) (by rw [c_9]; rfl) ?_
              refine lv_iload_n hx hb d_Modl_cell_47 rfl (lv_at hl 2 rfl) ?_
              refine lv_iadd hx hb d_Modl_cell_48 ?_
              refine tp_i (Int32.zero_add _) ?_
              refine ld_l (v := ra p2.toNatClampNeg) (cA := cL) hx hb hK.1 hP 1 1 rfl rfl (vp_mono (bl_use (N := 18) (e := 18) (by decide) (bl_n2 (e := 18) (f := 17) c_5 (Int32.not_lt.mpr c_7) (by decide))) (by decide)) (hh_r0 (bl_use (N := 18) (e := 18) (by decide) (bl_n2 (e := 18) (f := 17) c_5 (Int32.not_lt.mpr c_7) (by decide)))) d_Modl_cell_49 ?_
              exact rt_l (v := ra p2.toNatClampNeg) 0 hx hb hr hlocks (show (ra p2.toNatClampNeg) = ce_w p1 p2 ra rb ∧ (0 : Int32) = tc_w p1 p2 from (ce_a (tc_0 (bl_n2 (f := 1) c_1 c_3 (by decide)) (bl_n2 (e := 18) (f := 17) c_5 (Int32.not_lt.mpr c_7) (by decide))) c_9)) (hP.sub (ws' := [(y0, .inr (4, [.int 0, .int (nI lm), .int sz, .int em, .int lt, .int sp, .int (nI np), .int fd, .int bg, .ref m_op, .ref m_nu, .ref m_gv, .ref m_sh, .ref m_he, .ref m_pu, .ref m_pc, .ref m_pl, .ref m_pb, .ref m_ps, .int pv, .int ev])), (m_he, .inl (cL, 36, .inr (.inl (hh_w ra rb))))]) [0, 1] rfl) (hD.sub (ws' := [(y0, .inr (4, [.int 0, .int (nI lm), .int sz, .int em, .int lt, .int sp, .int (nI np), .int fd, .int bg, .ref m_op, .ref m_nu, .ref m_gv, .ref m_sh, .ref m_he, .ref m_pu, .ref m_pc, .ref m_pl, .ref m_pb, .ref m_ps, .int pv, .int ev])), (m_he, .inl (cL, 36, .inr (.inl (hh_w ra rb))))]) [0, 1] (by decide) rfl) hS d_Modl_cell_50
            · refine lv_imul hx hb d_Modl_cell_46 ?_
              have e9 : p1 = 1 := is_1 c_1 c_3 c_9
              refine tp_i (y := 18) (by rw [e9]; rfl) ?_
              refine lv_iload_n hx hb d_Modl_cell_47 rfl (lv_at hl 2 rfl) ?_
              refine lv_iadd hx hb d_Modl_cell_48 ?_
              refine ld_l (v := rb p2.toNatClampNeg) (cA := cL) hx hb hK.1 hP 1 1 rfl rfl (hh_i1 (bl_use (N := 18) (e := 18) (by decide) (bl_n2 (e := 18) (f := 17) c_5 (Int32.not_lt.mpr c_7) (by decide)))).2 (hh_r1 (bl_use (N := 18) (e := 18) (by decide) (bl_n2 (e := 18) (f := 17) c_5 (Int32.not_lt.mpr c_7) (by decide)))) d_Modl_cell_49 ?_
              exact rt_l (v := rb p2.toNatClampNeg) 0 hx hb hr hlocks (show (rb p2.toNatClampNeg) = ce_w p1 p2 ra rb ∧ (0 : Int32) = tc_w p1 p2 from (ce_b (tc_0 (bl_n2 (f := 1) c_1 c_3 (by decide)) (bl_n2 (e := 18) (f := 17) c_5 (Int32.not_lt.mpr c_7) (by decide))) c_9)) (hP.sub (ws' := [(y0, .inr (4, [.int 0, .int (nI lm), .int sz, .int em, .int lt, .int sp, .int (nI np), .int fd, .int bg, .ref m_op, .ref m_nu, .ref m_gv, .ref m_sh, .ref m_he, .ref m_pu, .ref m_pc, .ref m_pl, .ref m_pb, .ref m_ps, .int pv, .int ev])), (m_he, .inl (cL, 36, .inr (.inl (hh_w ra rb))))]) [0, 1] rfl) (hD.sub (ws' := [(y0, .inr (4, [.int 0, .int (nI lm), .int sz, .int em, .int lt, .int sp, .int (nI np), .int fd, .int bg, .ref m_op, .ref m_nu, .ref m_gv, .ref m_sh, .ref m_he, .ref m_pu, .ref m_pc, .ref m_pl, .ref m_pb, .ref m_ps, .int pv, .int ev])), (m_he, .inl (cL, 36, .inr (.inl (hh_w ra rb))))]) [0, 1] (by decide) rfl) hS d_Modl_cell_50
          · exact absurd (by decide) c_8
        · have c_7 : ¬ p2 ≤ 17 := c_7
          refine lv_iconst (v := 1) hx hb d_Modl_cell_20 (by decide) ?_
          refine lv_goto (tgt := 25) hx hb d_Modl_cell_21 (by decide) ?_
          refine va_put (D := (dC, dI)) (ci := 4) (v := .int 1) (ty := .int) (C := R_Modl) (T := F_Modl) (N := 21) hx hb htb iw_Modl t_Modl t_Modl_ok n_Modl hown hK.1 hP hD hS 0 rfl rfl 0 (by decide) (htb _ tw_415) (fun _ h9 => h9) rfl (by decide +kernel) rfl rfl (Nat.le_of_ble_eq_true rfl) d_Modl_cell_25 (fun H locs hP hD hS => ?_)
          have hP : va_P (dC, dI) classes [(y0, .inr (4, [.int 1, .int (nI lm), .int sz, .int em, .int lt, .int sp, .int (nI np), .int fd, .int bg, .ref m_op, .ref m_nu, .ref m_gv, .ref m_sh, .ref m_he, .ref m_pu, .ref m_pc, .ref m_pl, .ref m_pb, .ref m_ps, .int pv, .int ev])), (m_he, .inl (cL, 36, .inr (.inl (hh_w ra rb))))] H := hP
          have hD : va_D A [(y0, .inr (4, [.int 1, .int (nI lm), .int sz, .int em, .int lt, .int sp, .int (nI np), .int fd, .int bg, .ref m_op, .ref m_nu, .ref m_gv, .ref m_sh, .ref m_he, .ref m_pu, .ref m_pc, .ref m_pl, .ref m_pb, .ref m_ps, .int pv, .int ev])), (m_he, .inl (cL, 36, .inr (.inl (hh_w ra rb))))] := hD
          refine lv_aload_n hx hb d_Modl_cell_28 rfl (lv_at hl 0 rfl) ?_
          refine va_get (D := (dC, dI)) (ci := 4) (v := .int 1) (C := R_Modl) (T := F_Modl) (N := 21) hx hb htb iw_Modl hown hK.1 hP 0 rfl rfl 0 (by decide) (htb _ tw_415) (fun _ h9 => h9) rfl d_Modl_cell_29 ?_
          refine lv_if_le (tgt := 39) hx hb d_Modl_cell_32 (by decide) (fun c_10 => ?_) (fun c_10 => ?_)
          · exact absurd c_10 (by decide)
          · skip
            refine lv_lconst (v := 0) hx hb d_Modl_cell_35 (by decide) ?_
            refine lv_goto (tgt := 50) hx hb d_Modl_cell_36 (by decide) ?_
            exact rt_l (v := 0) 1 hx hb hr hlocks (show (0 : Int64) = ce_w p1 p2 ra rb ∧ (1 : Int32) = tc_w p1 p2 from (ce_t (tc_1 (Or.inr (bl_gt (f := 17) (Int32.not_le.mp c_7) (by decide)))))) (hP.sub (ws' := [(y0, .inr (4, [.int 1, .int (nI lm), .int sz, .int em, .int lt, .int sp, .int (nI np), .int fd, .int bg, .ref m_op, .ref m_nu, .ref m_gv, .ref m_sh, .ref m_he, .ref m_pu, .ref m_pc, .ref m_pl, .ref m_pb, .ref m_ps, .int pv, .int ev])), (m_he, .inl (cL, 36, .inr (.inl (hh_w ra rb))))]) [0, 1] rfl) (hD.sub (ws' := [(y0, .inr (4, [.int 1, .int (nI lm), .int sz, .int em, .int lt, .int sp, .int (nI np), .int fd, .int bg, .ref m_op, .ref m_nu, .ref m_gv, .ref m_sh, .ref m_he, .ref m_pu, .ref m_pc, .ref m_pl, .ref m_pb, .ref m_ps, .int pv, .int ev])), (m_he, .inl (cL, 36, .inr (.inl (hh_w ra rb))))]) [0, 1] (by decide) rfl) hS d_Modl_cell_50

set_option maxHeartbeats 4000000 in
set_option maxRecDepth 100000 in
theorem c_Modl_isGood (l : Launch) (dC : Nat → ClassId) (dI : Nat → Nat → Nat) (cI cL : ClassId) (hs0 : Nat) (o0 : Int32) (n0 : Int32)  : ct_i l y_Modl_isGood b_Modl_isGood 2 (some .boolean) ({ frames := 1, cells := 0, slots := 0, locals := 40 }) (dC, dI) cI cL [.int o0, .int n0] [] hs0 (fun (r : Int32) (u : Unit) => r = ii_w o0 n0) (fun u => []) 0 0 := by
  refine st_w (Qc := fun A => va_Qi (fun (r : Int32) (u : Unit) => r = ii_w o0 n0) (fun (u : Unit) t => pos_w (dC, dI) A [] t) A) (by decide) (Nat.le_of_ble_eq_true rfl) ?_
  intro p e s m below meth c A ls hfx hK hA hP hD hS hl
  obtain ⟨hx, hb, hml, hown, htb, hr, hlocks, hin⟩ := hfx
  have hl : lv_has ls 2 [(0, .int o0), (1, .int n0)] := hl
  refine lv_iload_n hx hb d_Modl_isGood_0 rfl (lv_at hl 0 rfl) ?_
  refine lv_if_lt (tgt := 10) hx hb d_Modl_isGood_1 (by decide) (fun c_1 => ?_) (fun c_1 => ?_)
  · have c_1 : o0 < 0 := c_1
    refine lv_iconst (v := 0) hx hb d_Modl_isGood_10 (by decide) ?_
    exact rt_z (v := 0) () hx hb hr hlocks (by first | decide | exact ft_01 _) (show (0 : Int32) = ii_w o0 n0 from (ig_neg c_1).symm) (hP.sub (ws' := []) [] rfl) (hD.sub (ws' := []) [] (by decide) rfl) hS d_Modl_isGood_11
  · have c_1 : ¬ o0 < 0 := c_1
    refine lv_iload_n hx hb d_Modl_isGood_4 rfl (lv_at hl 0 rfl) ?_
    refine lv_bipush (v := 15) hx hb d_Modl_isGood_5 (by decide) ?_
    refine lv_icmp_le (tgt := 12) hx hb d_Modl_isGood_7 (by decide) (fun c_2 => ?_) (fun c_2 => ?_)
    · have c_2 : o0 ≤ 15 := c_2
      refine lv_iload_n hx hb d_Modl_isGood_12 rfl (lv_at hl 0 rfl) ?_
      refine lv_if_ne (tgt := 22) hx hb d_Modl_isGood_13 (by decide) (fun c_3 => ?_) (fun c_3 => ?_)
      · have c_3 : ¬ o0 = 0 := c_3
        refine lv_iload_n hx hb d_Modl_isGood_22 rfl (lv_at hl 0 rfl) ?_
        refine lv_iconst (v := 1) hx hb d_Modl_isGood_23 (by decide) ?_
        refine lv_icmp_eq (tgt := 32) hx hb d_Modl_isGood_24 (by decide) (fun c_4 => ?_) (fun c_4 => ?_)
        · have c_4 : o0 = 1 := c_4
          refine lv_iload_n hx hb d_Modl_isGood_32 rfl (lv_at hl 1 rfl) ?_
          refine lv_if_lt (tgt := 46) hx hb d_Modl_isGood_33 (by decide) (fun c_5 => ?_) (fun c_5 => ?_)
          · have c_5 : n0 < 0 := c_5
            refine lv_iconst (v := 0) hx hb d_Modl_isGood_46 (by decide) ?_
            exact rt_z (v := 0) () hx hb hr hlocks (by first | decide | exact ft_01 _) (show (0 : Int32) = ii_w o0 n0 from (by rw [c_4]; exact (show ii_w 1 n0 = 0 from bl_neg c_5).symm)) (hP.sub (ws' := []) [] rfl) (hD.sub (ws' := []) [] (by decide) rfl) hS d_Modl_isGood_47
          · have c_5 : ¬ n0 < 0 := c_5
            refine lv_iload_n hx hb d_Modl_isGood_36 rfl (lv_at hl 1 rfl) ?_
            refine lv_bipush (v := 16) hx hb d_Modl_isGood_37 (by decide) ?_
            refine lv_icmp_ge (tgt := 46) hx hb d_Modl_isGood_39 (by decide) (fun c_6 => ?_) (fun c_6 => ?_)
            · have c_6 : 16 ≤ n0 := c_6
              refine lv_iconst (v := 0) hx hb d_Modl_isGood_46 (by decide) ?_
              exact rt_z (v := 0) () hx hb hr hlocks (by first | decide | exact ft_01 _) (show (0 : Int32) = ii_w o0 n0 from (by rw [c_4]; exact (show ii_w 1 n0 = 0 from bl_0 c_6).symm)) (hP.sub (ws' := []) [] rfl) (hD.sub (ws' := []) [] (by decide) rfl) hS d_Modl_isGood_47
            · have c_6 : ¬ 16 ≤ n0 := c_6
              refine lv_iconst (v := 1) hx hb d_Modl_isGood_42 (by decide) ?_
              refine lv_goto (tgt := 47) hx hb d_Modl_isGood_43 (by decide) ?_
              exact rt_z (v := 1) () hx hb hr hlocks (by first | decide | exact ft_01 _) (show (1 : Int32) = ii_w o0 n0 from (by rw [c_4]; exact (show ii_w 1 n0 = 1 from bl_1 c_5 c_6).symm)) (hP.sub (ws' := []) [] rfl) (hD.sub (ws' := []) [] (by decide) rfl) hS d_Modl_isGood_47
        · have c_4 : ¬ o0 = 1 := c_4
          refine lv_iload_n hx hb d_Modl_isGood_27 rfl (lv_at hl 0 rfl) ?_
          refine lv_iconst (v := 2) hx hb d_Modl_isGood_28 (by decide) ?_
          refine lv_icmp_ne (tgt := 48) hx hb d_Modl_isGood_29 (by decide) (fun c_7 => ?_) (fun c_7 => ?_)
          · have c_7 : ¬ o0 = 2 := c_7
            refine lv_iload_n hx hb d_Modl_isGood_48 rfl (lv_at hl 0 rfl) ?_
            refine lv_bipush (v := 12) hx hb d_Modl_isGood_49 (by decide) ?_
            refine lv_icmp_eq (tgt := 60) hx hb d_Modl_isGood_51 (by decide) (fun c_8 => ?_) (fun c_8 => ?_)
            · have c_8 : o0 = 12 := c_8
              refine lv_iload_n hx hb d_Modl_isGood_60 rfl (lv_at hl 1 rfl) ?_
              refine lv_if_lt (tgt := 73) hx hb d_Modl_isGood_61 (by decide) (fun c_9 => ?_) (fun c_9 => ?_)
              · have c_9 : n0 < 0 := c_9
                refine lv_iconst (v := 0) hx hb d_Modl_isGood_73 (by decide) ?_
                exact rt_z (v := 0) () hx hb hr hlocks (by first | decide | exact ft_01 _) (show (0 : Int32) = ii_w o0 n0 from (by rw [c_8]; exact (show ii_w 12 n0 = 0 from bl_neg c_9).symm)) (hP.sub (ws' := []) [] rfl) (hD.sub (ws' := []) [] (by decide) rfl) hS d_Modl_isGood_74
              · have c_9 : ¬ n0 < 0 := c_9
                refine lv_iload_n hx hb d_Modl_isGood_64 rfl (lv_at hl 1 rfl) ?_
                refine lv_iconst (v := 4) hx hb d_Modl_isGood_65 (by decide) ?_
                refine lv_icmp_ge (tgt := 73) hx hb d_Modl_isGood_66 (by decide) (fun c_10 => ?_) (fun c_10 => ?_)
                · have c_10 : 4 ≤ n0 := c_10
                  refine lv_iconst (v := 0) hx hb d_Modl_isGood_73 (by decide) ?_
                  exact rt_z (v := 0) () hx hb hr hlocks (by first | decide | exact ft_01 _) (show (0 : Int32) = ii_w o0 n0 from (by rw [c_8]; exact (show ii_w 12 n0 = 0 from bl_0 c_10).symm)) (hP.sub (ws' := []) [] rfl) (hD.sub (ws' := []) [] (by decide) rfl) hS d_Modl_isGood_74
                · have c_10 : ¬ 4 ≤ n0 := c_10
                  refine lv_iconst (v := 1) hx hb d_Modl_isGood_69 (by decide) ?_
                  refine lv_goto (tgt := 74) hx hb d_Modl_isGood_70 (by decide) ?_
                  exact rt_z (v := 1) () hx hb hr hlocks (by first | decide | exact ft_01 _) (show (1 : Int32) = ii_w o0 n0 from (by rw [c_8]; exact (show ii_w 12 n0 = 1 from bl_1 c_9 c_10).symm)) (hP.sub (ws' := []) [] rfl) (hD.sub (ws' := []) [] (by decide) rfl) hS d_Modl_isGood_74
            · have c_8 : ¬ o0 = 12 := c_8
              refine lv_iload_n hx hb d_Modl_isGood_54 rfl (lv_at hl 0 rfl) ?_
              refine lv_bipush (v := 13) hx hb d_Modl_isGood_55 (by decide) ?_
              refine lv_icmp_ne (tgt := 75) hx hb d_Modl_isGood_57 (by decide) (fun c_11 => ?_) (fun c_11 => ?_)
              · have c_11 : ¬ o0 = 13 := c_11
                refine lv_iload_n hx hb d_Modl_isGood_75 rfl (lv_at hl 0 rfl) ?_
                refine lv_bipush (v := 10) hx hb d_Modl_isGood_76 (by decide) ?_
                refine lv_icmp_eq (tgt := 87) hx hb d_Modl_isGood_78 (by decide) (fun c_12 => ?_) (fun c_12 => ?_)
                · have c_12 : o0 = 10 := c_12
                  refine lv_iload_n hx hb d_Modl_isGood_87 rfl (lv_at hl 1 rfl) ?_
                  refine lv_if_lt (tgt := 101) hx hb d_Modl_isGood_88 (by decide) (fun c_13 => ?_) (fun c_13 => ?_)
                  · have c_13 : n0 < 0 := c_13
                    refine lv_iconst (v := 0) hx hb d_Modl_isGood_101 (by decide) ?_
                    exact rt_z (v := 0) () hx hb hr hlocks (by first | decide | exact ft_01 _) (show (0 : Int32) = ii_w o0 n0 from (by rw [c_12]; exact (show ii_w 10 n0 = 0 from bl_neg c_13).symm)) (hP.sub (ws' := []) [] rfl) (hD.sub (ws' := []) [] (by decide) rfl) hS d_Modl_isGood_102
                  · have c_13 : ¬ n0 < 0 := c_13
                    refine lv_iload_n hx hb d_Modl_isGood_91 rfl (lv_at hl 1 rfl) ?_
                    refine lv_bipush (v := 100) hx hb d_Modl_isGood_92 (by decide) ?_
                    refine lv_icmp_ge (tgt := 101) hx hb d_Modl_isGood_94 (by decide) (fun c_14 => ?_) (fun c_14 => ?_)
                    · have c_14 : 100 ≤ n0 := c_14
                      refine lv_iconst (v := 0) hx hb d_Modl_isGood_101 (by decide) ?_
                      exact rt_z (v := 0) () hx hb hr hlocks (by first | decide | exact ft_01 _) (show (0 : Int32) = ii_w o0 n0 from (by rw [c_12]; exact (show ii_w 10 n0 = 0 from bl_0 c_14).symm)) (hP.sub (ws' := []) [] rfl) (hD.sub (ws' := []) [] (by decide) rfl) hS d_Modl_isGood_102
                    · have c_14 : ¬ 100 ≤ n0 := c_14
                      refine lv_iconst (v := 1) hx hb d_Modl_isGood_97 (by decide) ?_
                      refine lv_goto (tgt := 102) hx hb d_Modl_isGood_98 (by decide) ?_
                      exact rt_z (v := 1) () hx hb hr hlocks (by first | decide | exact ft_01 _) (show (1 : Int32) = ii_w o0 n0 from (by rw [c_12]; exact (show ii_w 10 n0 = 1 from bl_1 c_13 c_14).symm)) (hP.sub (ws' := []) [] rfl) (hD.sub (ws' := []) [] (by decide) rfl) hS d_Modl_isGood_102
                · have c_12 : ¬ o0 = 10 := c_12
                  refine lv_iload_n hx hb d_Modl_isGood_81 rfl (lv_at hl 0 rfl) ?_
                  refine lv_bipush (v := 11) hx hb d_Modl_isGood_82 (by decide) ?_
                  refine lv_icmp_ne (tgt := 97) hx hb d_Modl_isGood_84 (by decide) (fun c_15 => ?_) (fun c_15 => ?_)
                  · have c_15 : ¬ o0 = 11 := c_15
                    refine lv_iconst (v := 1) hx hb d_Modl_isGood_97 (by decide) ?_
                    refine lv_goto (tgt := 102) hx hb d_Modl_isGood_98 (by decide) ?_
                    exact rt_z (v := 1) () hx hb hr hlocks (by first | decide | exact ft_01 _) (show (1 : Int32) = ii_w o0 n0 from (ig_1 c_1 c_2 c_3 c_4 c_7 c_8 c_11 c_12 c_15).symm) (hP.sub (ws' := []) [] rfl) (hD.sub (ws' := []) [] (by decide) rfl) hS d_Modl_isGood_102
                  · have c_15 : o0 = 11 := c_15
                    refine lv_iload_n hx hb d_Modl_isGood_87 rfl (lv_at hl 1 rfl) ?_
                    refine lv_if_lt (tgt := 101) hx hb d_Modl_isGood_88 (by decide) (fun c_16 => ?_) (fun c_16 => ?_)
                    · have c_16 : n0 < 0 := c_16
                      refine lv_iconst (v := 0) hx hb d_Modl_isGood_101 (by decide) ?_
                      exact rt_z (v := 0) () hx hb hr hlocks (by first | decide | exact ft_01 _) (show (0 : Int32) = ii_w o0 n0 from (by rw [c_15]; exact (show ii_w 11 n0 = 0 from bl_neg c_16).symm)) (hP.sub (ws' := []) [] rfl) (hD.sub (ws' := []) [] (by decide) rfl) hS d_Modl_isGood_102
                    · have c_16 : ¬ n0 < 0 := c_16
                      refine lv_iload_n hx hb d_Modl_isGood_91 rfl (lv_at hl 1 rfl) ?_
                      refine lv_bipush (v := 100) hx hb d_Modl_isGood_92 (by decide) ?_
                      refine lv_icmp_ge (tgt := 101) hx hb d_Modl_isGood_94 (by decide) (fun c_17 => ?_) (fun c_17 => ?_)
                      · have c_17 : 100 ≤ n0 := c_17
                        refine lv_iconst (v := 0) hx hb d_Modl_isGood_101 (by decide) ?_
                        exact rt_z (v := 0) () hx hb hr hlocks (by first | decide | exact ft_01 _) (show (0 : Int32) = ii_w o0 n0 from (by rw [c_15]; exact (show ii_w 11 n0 = 0 from bl_0 c_17).symm)) (hP.sub (ws' := []) [] rfl) (hD.sub (ws' := []) [] (by decide) rfl) hS d_Modl_isGood_102
                      · have c_17 : ¬ 100 ≤ n0 := c_17
                        refine lv_iconst (v := 1) hx hb d_Modl_isGood_97 (by decide) ?_
                        refine lv_goto (tgt := 102) hx hb d_Modl_isGood_98 (by decide) ?_
                        exact rt_z (v := 1) () hx hb hr hlocks (by first | decide | exact ft_01 _) (show (1 : Int32) = ii_w o0 n0 from (by rw [c_15]; exact (show ii_w 11 n0 = 1 from bl_1 c_16 c_17).symm)) (hP.sub (ws' := []) [] rfl) (hD.sub (ws' := []) [] (by decide) rfl) hS d_Modl_isGood_102
              · have c_11 : o0 = 13 := c_11
                refine lv_iload_n hx hb d_Modl_isGood_60 rfl (lv_at hl 1 rfl) ?_
                refine lv_if_lt (tgt := 73) hx hb d_Modl_isGood_61 (by decide) (fun c_18 => ?_) (fun c_18 => ?_)
                · have c_18 : n0 < 0 := c_18
                  refine lv_iconst (v := 0) hx hb d_Modl_isGood_73 (by decide) ?_
                  exact rt_z (v := 0) () hx hb hr hlocks (by first | decide | exact ft_01 _) (show (0 : Int32) = ii_w o0 n0 from (by rw [c_11]; exact (show ii_w 13 n0 = 0 from bl_neg c_18).symm)) (hP.sub (ws' := []) [] rfl) (hD.sub (ws' := []) [] (by decide) rfl) hS d_Modl_isGood_74
                · have c_18 : ¬ n0 < 0 := c_18
                  refine lv_iload_n hx hb d_Modl_isGood_64 rfl (lv_at hl 1 rfl) ?_
                  refine lv_iconst (v := 4) hx hb d_Modl_isGood_65 (by decide) ?_
                  refine lv_icmp_ge (tgt := 73) hx hb d_Modl_isGood_66 (by decide) (fun c_19 => ?_) (fun c_19 => ?_)
                  · have c_19 : 4 ≤ n0 := c_19
                    refine lv_iconst (v := 0) hx hb d_Modl_isGood_73 (by decide) ?_
                    exact rt_z (v := 0) () hx hb hr hlocks (by first | decide | exact ft_01 _) (show (0 : Int32) = ii_w o0 n0 from (by rw [c_11]; exact (show ii_w 13 n0 = 0 from bl_0 c_19).symm)) (hP.sub (ws' := []) [] rfl) (hD.sub (ws' := []) [] (by decide) rfl) hS d_Modl_isGood_74
                  · have c_19 : ¬ 4 ≤ n0 := c_19
                    refine lv_iconst (v := 1) hx hb d_Modl_isGood_69 (by decide) ?_
                    refine lv_goto (tgt := 74) hx hb d_Modl_isGood_70 (by decide) ?_
                    exact rt_z (v := 1) () hx hb hr hlocks (by first | decide | exact ft_01 _) (show (1 : Int32) = ii_w o0 n0 from (by rw [c_11]; exact (show ii_w 13 n0 = 1 from bl_1 c_18 c_19).symm)) (hP.sub (ws' := []) [] rfl) (hD.sub (ws' := []) [] (by decide) rfl) hS d_Modl_isGood_74
          · have c_7 : o0 = 2 := c_7
            refine lv_iload_n hx hb d_Modl_isGood_32 rfl (lv_at hl 1 rfl) ?_
            refine lv_if_lt (tgt := 46) hx hb d_Modl_isGood_33 (by decide) (fun c_20 => ?_) (fun c_20 => ?_)
            · have c_20 : n0 < 0 := c_20
              refine lv_iconst (v := 0) hx hb d_Modl_isGood_46 (by decide) ?_
              exact rt_z (v := 0) () hx hb hr hlocks (by first | decide | exact ft_01 _) (show (0 : Int32) = ii_w o0 n0 from (by rw [c_7]; exact (show ii_w 2 n0 = 0 from bl_neg c_20).symm)) (hP.sub (ws' := []) [] rfl) (hD.sub (ws' := []) [] (by decide) rfl) hS d_Modl_isGood_47
            · have c_20 : ¬ n0 < 0 := c_20
              refine lv_iload_n hx hb d_Modl_isGood_36 rfl (lv_at hl 1 rfl) ?_
              refine lv_bipush (v := 16) hx hb d_Modl_isGood_37 (by decide) ?_
              refine lv_icmp_ge (tgt := 46) hx hb d_Modl_isGood_39 (by decide) (fun c_21 => ?_) (fun c_21 => ?_)
              · have c_21 : 16 ≤ n0 := c_21
                refine lv_iconst (v := 0) hx hb d_Modl_isGood_46 (by decide) ?_
                exact rt_z (v := 0) () hx hb hr hlocks (by first | decide | exact ft_01 _) (show (0 : Int32) = ii_w o0 n0 from (by rw [c_7]; exact (show ii_w 2 n0 = 0 from bl_0 c_21).symm)) (hP.sub (ws' := []) [] rfl) (hD.sub (ws' := []) [] (by decide) rfl) hS d_Modl_isGood_47
              · have c_21 : ¬ 16 ≤ n0 := c_21
                refine lv_iconst (v := 1) hx hb d_Modl_isGood_42 (by decide) ?_
                refine lv_goto (tgt := 47) hx hb d_Modl_isGood_43 (by decide) ?_
                exact rt_z (v := 1) () hx hb hr hlocks (by first | decide | exact ft_01 _) (show (1 : Int32) = ii_w o0 n0 from (by rw [c_7]; exact (show ii_w 2 n0 = 1 from bl_1 c_20 c_21).symm)) (hP.sub (ws' := []) [] rfl) (hD.sub (ws' := []) [] (by decide) rfl) hS d_Modl_isGood_47
      · have c_3 : o0 = 0 := c_3
        refine lv_iload_n hx hb d_Modl_isGood_16 rfl (lv_at hl 1 rfl) ?_
        refine lv_i2l (v := n0.toInt64) hx hb d_Modl_isGood_17 (by first | rfl | decide) ?_
        refine af_i (wr := []) (va_runS (As := [.long n0.toInt64]) (rest := []) ⟨hx, hb, hml, hown, htb⟩ (c_Modl_fits l dC dI cI cL s.heap.size n0.toInt64 ) ⟨callB_of 1 htb (gd_w tw_488) rfl rfl rfl (htb _ tw_25) (htb _ tw_486) (by decide +kernel) ⟨Nat.le_of_ble_eq_true rfl, Nat.le_of_ble_eq_true rfl⟩, htb _ tw_487⟩ (pv_S hK (hP.sub (ws' := []) [] rfl) (hD.sub (ws' := []) [] (by decide) rfl)) rfl rfl hl.1 rfl (lv_room (Nat.le_of_ble_eq_true rfl)) d_Modl_isGood_18 ⟨Nat.le_of_ble_eq_true rfl, Nat.le_of_ble_eq_true rfl⟩) hP hD hS hA [] [] rfl rfl (by decide) (by decide) (fun r_22 u_23 H locs hw hP hD hS => ?_)
        try dsimp only at hw
        subst hw
        have hP : va_P (dC, dI) classes [] H := hP
        have hD : va_D A [] := hD
        exact rt_z (v := ft_w n0.toInt64) () hx hb hr hlocks (by first | decide | exact ft_01 _) (show (ft_w n0.toInt64) = ii_w o0 n0 from (by rw [c_3]; exact ft_wb n0)) (hP.sub (ws' := []) [] rfl) (hD.sub (ws' := []) [] (by decide) rfl) hS d_Modl_isGood_21
    · have c_2 : ¬ o0 ≤ 15 := c_2
      refine lv_iconst (v := 0) hx hb d_Modl_isGood_10 (by decide) ?_
      exact rt_z (v := 0) () hx hb hr hlocks (by first | decide | exact ft_01 _) (show (0 : Int32) = ii_w o0 n0 from (ig_big c_2).symm) (hP.sub (ws' := []) [] rfl) (hD.sub (ws' := []) [] (by decide) rfl) hS d_Modl_isGood_11

set_option maxHeartbeats 4000000 in
set_option maxRecDepth 100000 in
theorem c_Modl_add (l : Launch) (dC : Nat → ClassId) (dI : Nat → Nat → Nat) (cI cL : ClassId) (hs0 : Nat) (y0 : Nat) (th : Int32) (lm : Nat) (sz : Int32) (em : Int32) (lt : Int32) (sp : Int32) (np : Nat) (fd : Int32) (bg : Int32) (m_op : Nat) (m_nu : Nat) (m_gv : Nat) (m_sh : Nat) (m_he : Nat) (m_pu : Nat) (m_pc : Nat) (m_pl : Nat) (m_pb : Nat) (m_ps : Nat) (pv : Int32) (ev : Int32) (ops : Nat → Int32) (nums : Nat → Int32) (o0 : Int32) (n0 : Int32) (hz : sz ≤ 100) (hs : ¬ sz < 0) : ct_i l y_Modl_add b_Modl_add 3 (some .int) ({ frames := 2, cells := 0, slots := 0, locals := 80 }) (dC, dI) cI cL [.ref y0, .int o0, .int n0] [(y0, .inr (4, [.int th, .int (nI lm), .int sz, .int em, .int lt, .int sp, .int (nI np), .int fd, .int bg, .ref m_op, .ref m_nu, .ref m_gv, .ref m_sh, .ref m_he, .ref m_pu, .ref m_pc, .ref m_pl, .ref m_pb, .ref m_ps, .int pv, .int ev])), (m_op, .inl (cI, 100, .inl ops)), (m_nu, .inl (cI, 100, .inl nums))] hs0 (fun (r : Int32) (u : (Nat → Int32) × (Nat → Int32) × Int32 × Int32) => r = (if ad_w o0 n0 bg sz = 0 then sz + 1 else 0) ∧ u.1 = (if ad_w o0 n0 bg sz = 0 then upd ops sz.toNatClampNeg o0 else ops) ∧ u.2.1 = (if ad_w o0 n0 bg sz = 0 then upd nums sz.toNatClampNeg n0 else nums) ∧ u.2.2.1 = (if ad_w o0 n0 bg sz = 0 then sz + 1 else sz) ∧ u.2.2.2 = ad_w o0 n0 bg sz) (fun u => [(y0, .inr (4, [.int u.2.2.2, .int (nI lm), .int u.2.2.1, .int em, .int lt, .int sp, .int (nI np), .int fd, .int bg, .ref m_op, .ref m_nu, .ref m_gv, .ref m_sh, .ref m_he, .ref m_pu, .ref m_pc, .ref m_pl, .ref m_pb, .ref m_ps, .int pv, .int ev])), (m_op, .inl (cI, 100, .inl u.1)), (m_nu, .inl (cI, 100, .inl u.2.1))]) 0 0 := by
  refine st_w (Qc := fun A => va_Qi (fun (r : Int32) (u : (Nat → Int32) × (Nat → Int32) × Int32 × Int32) => r = (if ad_w o0 n0 bg sz = 0 then sz + 1 else 0) ∧ u.1 = (if ad_w o0 n0 bg sz = 0 then upd ops sz.toNatClampNeg o0 else ops) ∧ u.2.1 = (if ad_w o0 n0 bg sz = 0 then upd nums sz.toNatClampNeg n0 else nums) ∧ u.2.2.1 = (if ad_w o0 n0 bg sz = 0 then sz + 1 else sz) ∧ u.2.2.2 = ad_w o0 n0 bg sz) (fun (u : (Nat → Int32) × (Nat → Int32) × Int32 × Int32) t => pos_w (dC, dI) A [(y0, .inr (4, [.int u.2.2.2, .int (nI lm), .int u.2.2.1, .int em, .int lt, .int sp, .int (nI np), .int fd, .int bg, .ref m_op, .ref m_nu, .ref m_gv, .ref m_sh, .ref m_he, .ref m_pu, .ref m_pc, .ref m_pl, .ref m_pb, .ref m_ps, .int pv, .int ev])), (m_op, .inl (cI, 100, .inl u.1)), (m_nu, .inl (cI, 100, .inl u.2.1))] t) A) (by decide) (Nat.le_of_ble_eq_true rfl) ?_
  intro p e s m below meth c A ls hfx hK hA hP hD hS hl
  obtain ⟨hx, hb, hml, hown, htb, hr, hlocks, hin⟩ := hfx
  have hl : lv_has ls 3 [(0, .ref y0), (1, .int o0), (2, .int n0)] := hl
  refine lv_aload_n hx hb d_Modl_add_0 rfl (lv_at hl 0 rfl) ?_
  refine lv_iload_n hx hb d_Modl_add_1 rfl (lv_at hl 1 rfl) ?_
  refine lv_iload_n hx hb d_Modl_add_2 rfl (lv_at hl 2 rfl) ?_
  refine af_i (wr := [(y0, .inr (4, [.int th, .int (nI lm), .int sz, .int em, .int lt, .int sp, .int (nI np), .int fd, .int bg, .ref m_op, .ref m_nu, .ref m_gv, .ref m_sh, .ref m_he, .ref m_pu, .ref m_pc, .ref m_pl, .ref m_pb, .ref m_ps, .int pv, .int ev])), (m_op, .inl (cI, 100, .inl ops)), (m_nu, .inl (cI, 100, .inl nums))]) (va_runS (As := [.int o0, .int n0]) (rest := [.ref y0]) ⟨hx, hb, hml, hown, htb⟩ (c_Modl_isGood l dC dI cI cL s.heap.size o0 n0 ) ⟨callB_of 2 htb (gd_w tw_485) rfl rfl rfl (htb _ tw_25) (htb _ tw_483) (by decide +kernel) ⟨Nat.le_of_ble_eq_true rfl, Nat.le_of_ble_eq_true rfl⟩, htb _ tw_484⟩ (pv_S hK (hP.sub (ws' := []) [] rfl) (hD.sub (ws' := []) [] (by decide) rfl)) rfl rfl hl.1 rfl (lv_room (Nat.le_of_ble_eq_true rfl)) d_Modl_add_3 ⟨Nat.le_of_ble_eq_true rfl, Nat.le_of_ble_eq_true rfl⟩) hP hD hS hA [] [0, 1, 2] rfl rfl (by decide) (by decide) (fun r_1 u_2 H locs hw hP hD hS => ?_)
  try dsimp only at hw
  subst hw
  have hP : va_P (dC, dI) classes [(y0, .inr (4, [.int th, .int (nI lm), .int sz, .int em, .int lt, .int sp, .int (nI np), .int fd, .int bg, .ref m_op, .ref m_nu, .ref m_gv, .ref m_sh, .ref m_he, .ref m_pu, .ref m_pc, .ref m_pl, .ref m_pb, .ref m_ps, .int pv, .int ev])), (m_op, .inl (cI, 100, .inl ops)), (m_nu, .inl (cI, 100, .inl nums))] H := hP
  have hD : va_D A [(y0, .inr (4, [.int th, .int (nI lm), .int sz, .int em, .int lt, .int sp, .int (nI np), .int fd, .int bg, .ref m_op, .ref m_nu, .ref m_gv, .ref m_sh, .ref m_he, .ref m_pu, .ref m_pc, .ref m_pl, .ref m_pb, .ref m_ps, .int pv, .int ev])), (m_op, .inl (cI, 100, .inl ops)), (m_nu, .inl (cI, 100, .inl nums))] := hD
  refine lv_if_ne (tgt := 13) hx hb d_Modl_add_6 (by decide) (fun c_3 => ?_) (fun c_3 => ?_)
  · have c_3 : ¬ (ii_w o0 n0) = 0 := c_3
    refine lv_aload_n hx hb d_Modl_add_13 rfl (lv_at hl 0 rfl) ?_
    refine va_get (D := (dC, dI)) (ci := 4) (v := .int sz) (C := R_Modl) (T := F_Modl) (N := 21) hx hb htb iw_Modl hown hK.1 hP 0 rfl rfl 2 (by decide) (htb _ tw_417) (fun _ h9 => h9) rfl d_Modl_add_14 ?_
    refine lv_bipush (v := 100) hx hb d_Modl_add_17 (by decide) ?_
    refine lv_icmp_eq (tgt := 29) hx hb d_Modl_add_19 (by decide) (fun c_4 => ?_) (fun c_4 => ?_)
    · have c_4 : sz = 100 := c_4
      refine lv_iconst (v := 2) hx hb d_Modl_add_29 (by decide) ?_
      refine lv_goto (tgt := 34) hx hb d_Modl_add_30 (by decide) ?_
      refine va_put (D := (dC, dI)) (ci := 4) (v := .int 2) (ty := .int) (C := R_Modl) (T := F_Modl) (N := 21) hx hb htb iw_Modl t_Modl t_Modl_ok n_Modl hown hK.1 hP hD hS 0 rfl rfl 0 (by decide) (htb _ tw_415) (fun _ h9 => h9) rfl (by decide +kernel) rfl rfl (Nat.le_of_ble_eq_true rfl) d_Modl_add_34 (fun H locs hP hD hS => ?_)
      have hP : va_P (dC, dI) classes [(y0, .inr (4, [.int 2, .int (nI lm), .int sz, .int em, .int lt, .int sp, .int (nI np), .int fd, .int bg, .ref m_op, .ref m_nu, .ref m_gv, .ref m_sh, .ref m_he, .ref m_pu, .ref m_pc, .ref m_pl, .ref m_pb, .ref m_ps, .int pv, .int ev])), (m_op, .inl (cI, 100, .inl ops)), (m_nu, .inl (cI, 100, .inl nums))] H := hP
      have hD : va_D A [(y0, .inr (4, [.int 2, .int (nI lm), .int sz, .int em, .int lt, .int sp, .int (nI np), .int fd, .int bg, .ref m_op, .ref m_nu, .ref m_gv, .ref m_sh, .ref m_he, .ref m_pu, .ref m_pc, .ref m_pl, .ref m_pb, .ref m_ps, .int pv, .int ev])), (m_op, .inl (cI, 100, .inl ops)), (m_nu, .inl (cI, 100, .inl nums))] := hD
      refine lv_aload_n hx hb d_Modl_add_37 rfl (lv_at hl 0 rfl) ?_
      refine va_get (D := (dC, dI)) (ci := 4) (v := .int 2) (C := R_Modl) (T := F_Modl) (N := 21) hx hb htb iw_Modl hown hK.1 hP 0 rfl rfl 0 (by decide) (htb _ tw_415) (fun _ h9 => h9) rfl d_Modl_add_38 ?_
      refine lv_if_le (tgt := 46) hx hb d_Modl_add_41 (by decide) (fun c_5 => ?_) (fun c_5 => ?_)
      · exact absurd c_5 (by decide)
      · skip
        refine lv_iconst (v := 0) hx hb d_Modl_add_44 (by decide) ?_
        exact rt_i (v := 0) (ops, nums, sz, 2) hx hb hr hlocks (show (0 : Int32) = (if ad_w o0 n0 bg sz = 0 then sz + 1 else 0) ∧ ops = (if ad_w o0 n0 bg sz = 0 then upd ops sz.toNatClampNeg o0 else ops) ∧ nums = (if ad_w o0 n0 bg sz = 0 then upd nums sz.toNatClampNeg n0 else nums) ∧ sz = (if ad_w o0 n0 bg sz = 0 then sz + 1 else sz) ∧ (2 : Int32) = ad_w o0 n0 bg sz from (ad_no (ad_2a c_3 c_4) (by decide))) (hP.sub (ws' := [(y0, .inr (4, [.int 2, .int (nI lm), .int sz, .int em, .int lt, .int sp, .int (nI np), .int fd, .int bg, .ref m_op, .ref m_nu, .ref m_gv, .ref m_sh, .ref m_he, .ref m_pu, .ref m_pc, .ref m_pl, .ref m_pb, .ref m_ps, .int pv, .int ev])), (m_op, .inl (cI, 100, .inl ops)), (m_nu, .inl (cI, 100, .inl nums))]) [0, 1, 2] rfl) (hD.sub (ws' := [(y0, .inr (4, [.int 2, .int (nI lm), .int sz, .int em, .int lt, .int sp, .int (nI np), .int fd, .int bg, .ref m_op, .ref m_nu, .ref m_gv, .ref m_sh, .ref m_he, .ref m_pu, .ref m_pc, .ref m_pl, .ref m_pb, .ref m_ps, .int pv, .int ev])), (m_op, .inl (cI, 100, .inl ops)), (m_nu, .inl (cI, 100, .inl nums))]) [0, 1, 2] (by decide) rfl) hS d_Modl_add_45
    · have c_4 : ¬ sz = 100 := c_4
      refine lv_aload_n hx hb d_Modl_add_22 rfl (lv_at hl 0 rfl) ?_
      refine va_get (D := (dC, dI)) (ci := 4) (v := .int bg) (C := R_Modl) (T := F_Modl) (N := 21) hx hb htb iw_Modl hown hK.1 hP 0 rfl rfl 8 (by decide) (htb _ tw_423) (fun _ h9 => h9) rfl d_Modl_add_23 ?_
      refine lv_if_eq (tgt := 33) hx hb d_Modl_add_26 (by decide) (fun c_6 => ?_) (fun c_6 => ?_)
      · have c_6 : bg = 0 := c_6
        refine lv_iconst (v := 0) hx hb d_Modl_add_33 (by decide) ?_
        refine va_put (D := (dC, dI)) (ci := 4) (v := .int 0) (ty := .int) (C := R_Modl) (T := F_Modl) (N := 21) hx hb htb iw_Modl t_Modl t_Modl_ok n_Modl hown hK.1 hP hD hS 0 rfl rfl 0 (by decide) (htb _ tw_415) (fun _ h9 => h9) rfl (by decide +kernel) rfl rfl (Nat.le_of_ble_eq_true rfl) d_Modl_add_34 (fun H locs hP hD hS => ?_)
        have hP : va_P (dC, dI) classes [(y0, .inr (4, [.int 0, .int (nI lm), .int sz, .int em, .int lt, .int sp, .int (nI np), .int fd, .int bg, .ref m_op, .ref m_nu, .ref m_gv, .ref m_sh, .ref m_he, .ref m_pu, .ref m_pc, .ref m_pl, .ref m_pb, .ref m_ps, .int pv, .int ev])), (m_op, .inl (cI, 100, .inl ops)), (m_nu, .inl (cI, 100, .inl nums))] H := hP
        have hD : va_D A [(y0, .inr (4, [.int 0, .int (nI lm), .int sz, .int em, .int lt, .int sp, .int (nI np), .int fd, .int bg, .ref m_op, .ref m_nu, .ref m_gv, .ref m_sh, .ref m_he, .ref m_pu, .ref m_pc, .ref m_pl, .ref m_pb, .ref m_ps, .int pv, .int ev])), (m_op, .inl (cI, 100, .inl ops)), (m_nu, .inl (cI, 100, .inl nums))] := hD
        refine lv_aload_n hx hb d_Modl_add_37 rfl (lv_at hl 0 rfl) ?_
        refine va_get (D := (dC, dI)) (ci := 4) (v := .int 0) (C := R_Modl) (T := F_Modl) (N := 21) hx hb htb iw_Modl hown hK.1 hP 0 rfl rfl 0 (by decide) (htb _ tw_415) (fun _ h9 => h9) rfl d_Modl_add_38 ?_
        refine lv_if_le (tgt := 46) hx hb d_Modl_add_41 (by decide) (fun c_7 => ?_) (fun c_7 => ?_)
        · skip
          refine lv_aload_n hx hb d_Modl_add_46 rfl (lv_at hl 0 rfl) ?_
          refine va_get (D := (dC, dI)) (ci := 4) (v := .ref m_op) (C := R_Modl) (T := F_Modl) (N := 21) hx hb htb iw_Modl hown hK.1 hP 0 rfl rfl 9 (by decide) (htb _ tw_424) (fun _ h9 => h9) rfl d_Modl_add_47 ?_
          refine lv_aload_n hx hb d_Modl_add_50 rfl (lv_at hl 0 rfl) ?_
          refine va_get (D := (dC, dI)) (ci := 4) (v := .int sz) (C := R_Modl) (T := F_Modl) (N := 21) hx hb htb iw_Modl hown hK.1 hP 0 rfl rfl 2 (by decide) (htb _ tw_417) (fun _ h9 => h9) rfl d_Modl_add_51 ?_
          refine lv_iload_n hx hb d_Modl_add_54 rfl (lv_at hl 1 rfl) ?_
          refine sd_i (g := upd ops sz.toNatClampNeg o0) (cA := cI) hx hb hK.1 hP hD hS 1 0 rfl rfl (sz_in hs c_4 hz) rfl d_Modl_add_55 (fun H locs hP hD hS => ?_)
          have hP : va_P (dC, dI) classes [(y0, .inr (4, [.int 0, .int (nI lm), .int sz, .int em, .int lt, .int sp, .int (nI np), .int fd, .int bg, .ref m_op, .ref m_nu, .ref m_gv, .ref m_sh, .ref m_he, .ref m_pu, .ref m_pc, .ref m_pl, .ref m_pb, .ref m_ps, .int pv, .int ev])), (m_op, .inl (cI, 100, .inl (upd ops sz.toNatClampNeg o0))), (m_nu, .inl (cI, 100, .inl nums))] H := hP
          have hD : va_D A [(y0, .inr (4, [.int 0, .int (nI lm), .int sz, .int em, .int lt, .int sp, .int (nI np), .int fd, .int bg, .ref m_op, .ref m_nu, .ref m_gv, .ref m_sh, .ref m_he, .ref m_pu, .ref m_pc, .ref m_pl, .ref m_pb, .ref m_ps, .int pv, .int ev])), (m_op, .inl (cI, 100, .inl (upd ops sz.toNatClampNeg o0))), (m_nu, .inl (cI, 100, .inl nums))] := hD
          refine lv_aload_n hx hb d_Modl_add_56 rfl (lv_at hl 0 rfl) ?_
          refine va_get (D := (dC, dI)) (ci := 4) (v := .ref m_nu) (C := R_Modl) (T := F_Modl) (N := 21) hx hb htb iw_Modl hown hK.1 hP 0 rfl rfl 10 (by decide) (htb _ tw_425) (fun _ h9 => h9) rfl d_Modl_add_57 ?_
          refine lv_aload_n hx hb d_Modl_add_60 rfl (lv_at hl 0 rfl) ?_
          refine va_get (D := (dC, dI)) (ci := 4) (v := .int sz) (C := R_Modl) (T := F_Modl) (N := 21) hx hb htb iw_Modl hown hK.1 hP 0 rfl rfl 2 (by decide) (htb _ tw_417) (fun _ h9 => h9) rfl d_Modl_add_61 ?_
          refine lv_iload_n hx hb d_Modl_add_64 rfl (lv_at hl 2 rfl) ?_
          refine sd_i (g := upd nums sz.toNatClampNeg n0) (cA := cI) hx hb hK.1 hP hD hS 2 0 rfl rfl (sz_in hs c_4 hz) rfl d_Modl_add_65 (fun H locs hP hD hS => ?_)
          have hP : va_P (dC, dI) classes [(y0, .inr (4, [.int 0, .int (nI lm), .int sz, .int em, .int lt, .int sp, .int (nI np), .int fd, .int bg, .ref m_op, .ref m_nu, .ref m_gv, .ref m_sh, .ref m_he, .ref m_pu, .ref m_pc, .ref m_pl, .ref m_pb, .ref m_ps, .int pv, .int ev])), (m_op, .inl (cI, 100, .inl (upd ops sz.toNatClampNeg o0))), (m_nu, .inl (cI, 100, .inl (upd nums sz.toNatClampNeg n0)))] H := hP
          have hD : va_D A [(y0, .inr (4, [.int 0, .int (nI lm), .int sz, .int em, .int lt, .int sp, .int (nI np), .int fd, .int bg, .ref m_op, .ref m_nu, .ref m_gv, .ref m_sh, .ref m_he, .ref m_pu, .ref m_pc, .ref m_pl, .ref m_pb, .ref m_ps, .int pv, .int ev])), (m_op, .inl (cI, 100, .inl (upd ops sz.toNatClampNeg o0))), (m_nu, .inl (cI, 100, .inl (upd nums sz.toNatClampNeg n0)))] := hD
          refine lv_aload_n hx hb d_Modl_add_66 rfl (lv_at hl 0 rfl) ?_
          refine lv_dup hx hb d_Modl_add_67 rfl ?_
          refine va_get (D := (dC, dI)) (ci := 4) (v := .int sz) (C := R_Modl) (T := F_Modl) (N := 21) hx hb htb iw_Modl hown hK.1 hP 0 rfl rfl 2 (by decide) (htb _ tw_417) (fun _ h9 => h9) rfl d_Modl_add_68 ?_
          refine lv_iconst (v := 1) hx hb d_Modl_add_71 (by decide) ?_
          refine lv_iadd hx hb d_Modl_add_72 ?_
          refine va_put (D := (dC, dI)) (ci := 4) (v := .int (sz + 1)) (ty := .int) (C := R_Modl) (T := F_Modl) (N := 21) hx hb htb iw_Modl t_Modl t_Modl_ok n_Modl hown hK.1 hP hD hS 0 rfl rfl 2 (by decide) (htb _ tw_417) (fun _ h9 => h9) rfl (by decide +kernel) rfl rfl (Nat.le_of_ble_eq_true rfl) d_Modl_add_73 (fun H locs hP hD hS => ?_)
          have hP : va_P (dC, dI) classes [(y0, .inr (4, [.int 0, .int (nI lm), .int (sz + 1), .int em, .int lt, .int sp, .int (nI np), .int fd, .int bg, .ref m_op, .ref m_nu, .ref m_gv, .ref m_sh, .ref m_he, .ref m_pu, .ref m_pc, .ref m_pl, .ref m_pb, .ref m_ps, .int pv, .int ev])), (m_op, .inl (cI, 100, .inl (upd ops sz.toNatClampNeg o0))), (m_nu, .inl (cI, 100, .inl (upd nums sz.toNatClampNeg n0)))] H := hP
          have hD : va_D A [(y0, .inr (4, [.int 0, .int (nI lm), .int (sz + 1), .int em, .int lt, .int sp, .int (nI np), .int fd, .int bg, .ref m_op, .ref m_nu, .ref m_gv, .ref m_sh, .ref m_he, .ref m_pu, .ref m_pc, .ref m_pl, .ref m_pb, .ref m_ps, .int pv, .int ev])), (m_op, .inl (cI, 100, .inl (upd ops sz.toNatClampNeg o0))), (m_nu, .inl (cI, 100, .inl (upd nums sz.toNatClampNeg n0)))] := hD
          refine lv_aload_n hx hb d_Modl_add_76 rfl (lv_at hl 0 rfl) ?_
          refine va_get (D := (dC, dI)) (ci := 4) (v := .int (sz + 1)) (C := R_Modl) (T := F_Modl) (N := 21) hx hb htb iw_Modl hown hK.1 hP 0 rfl rfl 2 (by decide) (htb _ tw_417) (fun _ h9 => h9) rfl d_Modl_add_77 ?_
          exact rt_i (v := sz + 1) ((upd ops sz.toNatClampNeg o0), (upd nums sz.toNatClampNeg n0), sz + 1, 0) hx hb hr hlocks (show (sz + 1) = (if ad_w o0 n0 bg sz = 0 then sz + 1 else 0) ∧ (upd ops sz.toNatClampNeg o0) = (if ad_w o0 n0 bg sz = 0 then upd ops sz.toNatClampNeg o0 else ops) ∧ (upd nums sz.toNatClampNeg n0) = (if ad_w o0 n0 bg sz = 0 then upd nums sz.toNatClampNeg n0 else nums) ∧ (sz + 1) = (if ad_w o0 n0 bg sz = 0 then sz + 1 else sz) ∧ (0 : Int32) = ad_w o0 n0 bg sz from (ad_yes (ad_0 c_3 c_6 (gu_z c_4 hz)))) (hP.sub (ws' := [(y0, .inr (4, [.int 0, .int (nI lm), .int (sz + 1), .int em, .int lt, .int sp, .int (nI np), .int fd, .int bg, .ref m_op, .ref m_nu, .ref m_gv, .ref m_sh, .ref m_he, .ref m_pu, .ref m_pc, .ref m_pl, .ref m_pb, .ref m_ps, .int pv, .int ev])), (m_op, .inl (cI, 100, .inl (upd ops sz.toNatClampNeg o0))), (m_nu, .inl (cI, 100, .inl (upd nums sz.toNatClampNeg n0)))]) [0, 1, 2] rfl) (hD.sub (ws' := [(y0, .inr (4, [.int 0, .int (nI lm), .int (sz + 1), .int em, .int lt, .int sp, .int (nI np), .int fd, .int bg, .ref m_op, .ref m_nu, .ref m_gv, .ref m_sh, .ref m_he, .ref m_pu, .ref m_pc, .ref m_pl, .ref m_pb, .ref m_ps, .int pv, .int ev])), (m_op, .inl (cI, 100, .inl (upd ops sz.toNatClampNeg o0))), (m_nu, .inl (cI, 100, .inl (upd nums sz.toNatClampNeg n0)))]) [0, 1, 2] (by decide) rfl) hS d_Modl_add_80
        · exact absurd (by decide) c_7
      · have c_6 : ¬ bg = 0 := c_6
        refine lv_iconst (v := 2) hx hb d_Modl_add_29 (by decide) ?_
        refine lv_goto (tgt := 34) hx hb d_Modl_add_30 (by decide) ?_
        refine va_put (D := (dC, dI)) (ci := 4) (v := .int 2) (ty := .int) (C := R_Modl) (T := F_Modl) (N := 21) hx hb htb iw_Modl t_Modl t_Modl_ok n_Modl hown hK.1 hP hD hS 0 rfl rfl 0 (by decide) (htb _ tw_415) (fun _ h9 => h9) rfl (by decide +kernel) rfl rfl (Nat.le_of_ble_eq_true rfl) d_Modl_add_34 (fun H locs hP hD hS => ?_)
        have hP : va_P (dC, dI) classes [(y0, .inr (4, [.int 2, .int (nI lm), .int sz, .int em, .int lt, .int sp, .int (nI np), .int fd, .int bg, .ref m_op, .ref m_nu, .ref m_gv, .ref m_sh, .ref m_he, .ref m_pu, .ref m_pc, .ref m_pl, .ref m_pb, .ref m_ps, .int pv, .int ev])), (m_op, .inl (cI, 100, .inl ops)), (m_nu, .inl (cI, 100, .inl nums))] H := hP
        have hD : va_D A [(y0, .inr (4, [.int 2, .int (nI lm), .int sz, .int em, .int lt, .int sp, .int (nI np), .int fd, .int bg, .ref m_op, .ref m_nu, .ref m_gv, .ref m_sh, .ref m_he, .ref m_pu, .ref m_pc, .ref m_pl, .ref m_pb, .ref m_ps, .int pv, .int ev])), (m_op, .inl (cI, 100, .inl ops)), (m_nu, .inl (cI, 100, .inl nums))] := hD
        refine lv_aload_n hx hb d_Modl_add_37 rfl (lv_at hl 0 rfl) ?_
        refine va_get (D := (dC, dI)) (ci := 4) (v := .int 2) (C := R_Modl) (T := F_Modl) (N := 21) hx hb htb iw_Modl hown hK.1 hP 0 rfl rfl 0 (by decide) (htb _ tw_415) (fun _ h9 => h9) rfl d_Modl_add_38 ?_
        refine lv_if_le (tgt := 46) hx hb d_Modl_add_41 (by decide) (fun c_8 => ?_) (fun c_8 => ?_)
        · exact absurd c_8 (by decide)
        · skip
          refine lv_iconst (v := 0) hx hb d_Modl_add_44 (by decide) ?_
          exact rt_i (v := 0) (ops, nums, sz, 2) hx hb hr hlocks (show (0 : Int32) = (if ad_w o0 n0 bg sz = 0 then sz + 1 else 0) ∧ ops = (if ad_w o0 n0 bg sz = 0 then upd ops sz.toNatClampNeg o0 else ops) ∧ nums = (if ad_w o0 n0 bg sz = 0 then upd nums sz.toNatClampNeg n0 else nums) ∧ sz = (if ad_w o0 n0 bg sz = 0 then sz + 1 else sz) ∧ (2 : Int32) = ad_w o0 n0 bg sz from (ad_no (ad_2b c_3 c_6) (by decide))) (hP.sub (ws' := [(y0, .inr (4, [.int 2, .int (nI lm), .int sz, .int em, .int lt, .int sp, .int (nI np), .int fd, .int bg, .ref m_op, .ref m_nu, .ref m_gv, .ref m_sh, .ref m_he, .ref m_pu, .ref m_pc, .ref m_pl, .ref m_pb, .ref m_ps, .int pv, .int ev])), (m_op, .inl (cI, 100, .inl ops)), (m_nu, .inl (cI, 100, .inl nums))]) [0, 1, 2] rfl) (hD.sub (ws' := [(y0, .inr (4, [.int 2, .int (nI lm), .int sz, .int em, .int lt, .int sp, .int (nI np), .int fd, .int bg, .ref m_op, .ref m_nu, .ref m_gv, .ref m_sh, .ref m_he, .ref m_pu, .ref m_pc, .ref m_pl, .ref m_pb, .ref m_ps, .int pv, .int ev])), (m_op, .inl (cI, 100, .inl ops)), (m_nu, .inl (cI, 100, .inl nums))]) [0, 1, 2] (by decide) rfl) hS d_Modl_add_45
  · have c_3 : (ii_w o0 n0) = 0 := c_3
    refine lv_iconst (v := 1) hx hb d_Modl_add_9 (by decide) ?_
    refine lv_goto (tgt := 34) hx hb d_Modl_add_10 (by decide) ?_
    refine va_put (D := (dC, dI)) (ci := 4) (v := .int 1) (ty := .int) (C := R_Modl) (T := F_Modl) (N := 21) hx hb htb iw_Modl t_Modl t_Modl_ok n_Modl hown hK.1 hP hD hS 0 rfl rfl 0 (by decide) (htb _ tw_415) (fun _ h9 => h9) rfl (by decide +kernel) rfl rfl (Nat.le_of_ble_eq_true rfl) d_Modl_add_34 (fun H locs hP hD hS => ?_)
    have hP : va_P (dC, dI) classes [(y0, .inr (4, [.int 1, .int (nI lm), .int sz, .int em, .int lt, .int sp, .int (nI np), .int fd, .int bg, .ref m_op, .ref m_nu, .ref m_gv, .ref m_sh, .ref m_he, .ref m_pu, .ref m_pc, .ref m_pl, .ref m_pb, .ref m_ps, .int pv, .int ev])), (m_op, .inl (cI, 100, .inl ops)), (m_nu, .inl (cI, 100, .inl nums))] H := hP
    have hD : va_D A [(y0, .inr (4, [.int 1, .int (nI lm), .int sz, .int em, .int lt, .int sp, .int (nI np), .int fd, .int bg, .ref m_op, .ref m_nu, .ref m_gv, .ref m_sh, .ref m_he, .ref m_pu, .ref m_pc, .ref m_pl, .ref m_pb, .ref m_ps, .int pv, .int ev])), (m_op, .inl (cI, 100, .inl ops)), (m_nu, .inl (cI, 100, .inl nums))] := hD
    refine lv_aload_n hx hb d_Modl_add_37 rfl (lv_at hl 0 rfl) ?_
    refine va_get (D := (dC, dI)) (ci := 4) (v := .int 1) (C := R_Modl) (T := F_Modl) (N := 21) hx hb htb iw_Modl hown hK.1 hP 0 rfl rfl 0 (by decide) (htb _ tw_415) (fun _ h9 => h9) rfl d_Modl_add_38 ?_
    refine lv_if_le (tgt := 46) hx hb d_Modl_add_41 (by decide) (fun c_9 => ?_) (fun c_9 => ?_)
    · exact absurd c_9 (by decide)
    · skip
      refine lv_iconst (v := 0) hx hb d_Modl_add_44 (by decide) ?_
      exact rt_i (v := 0) (ops, nums, sz, 1) hx hb hr hlocks (show (0 : Int32) = (if ad_w o0 n0 bg sz = 0 then sz + 1 else 0) ∧ ops = (if ad_w o0 n0 bg sz = 0 then upd ops sz.toNatClampNeg o0 else ops) ∧ nums = (if ad_w o0 n0 bg sz = 0 then upd nums sz.toNatClampNeg n0 else nums) ∧ sz = (if ad_w o0 n0 bg sz = 0 then sz + 1 else sz) ∧ (1 : Int32) = ad_w o0 n0 bg sz from (ad_no (ad_1 c_3) (by decide))) (hP.sub (ws' := [(y0, .inr (4, [.int 1, .int (nI lm), .int sz, .int em, .int lt, .int sp, .int (nI np), .int fd, .int bg, .ref m_op, .ref m_nu, .ref m_gv, .ref m_sh, .ref m_he, .ref m_pu, .ref m_pc, .ref m_pl, .ref m_pb, .ref m_ps, .int pv, .int ev])), (m_op, .inl (cI, 100, .inl ops)), (m_nu, .inl (cI, 100, .inl nums))]) [0, 1, 2] rfl) (hD.sub (ws' := [(y0, .inr (4, [.int 1, .int (nI lm), .int sz, .int em, .int lt, .int sp, .int (nI np), .int fd, .int bg, .ref m_op, .ref m_nu, .ref m_gv, .ref m_sh, .ref m_he, .ref m_pu, .ref m_pc, .ref m_pl, .ref m_pb, .ref m_ps, .int pv, .int ev])), (m_op, .inl (cI, 100, .inl ops)), (m_nu, .inl (cI, 100, .inl nums))]) [0, 1, 2] (by decide) rfl) hS d_Modl_add_45
