theorem tw_415 : (Cond.fieldLink R_Modl 1 "TwinGateModel" "thrown" "I") ∈ TB_w := List.mem_filter.mpr ⟨List.mem_of_getElem? (i := 415) (by decide +kernel), by decide +kernel⟩
theorem tw_489 : (Cond.constantLong R_Modl 48 (-2000000000)) ∈ TB_w := List.mem_filter.mpr ⟨List.mem_of_getElem? (i := 489) (by decide +kernel), by decide +kernel⟩
theorem tw_490 : (Cond.constantLong R_Modl 50 2000000000) ∈ TB_w := List.mem_filter.mpr ⟨List.mem_of_getElem? (i := 490) (by decide +kernel), by decide +kernel⟩
theorem tw_515 : (Cond.constantLong R_Modl 73 58659) ∈ TB_w := List.mem_filter.mpr ⟨List.mem_of_getElem? (i := 515) (by decide +kernel), by decide +kernel⟩
set_option maxRecDepth 20000 in
theorem tw_514 : (Cond.code y_Modl_times b_Modl_times 2 (some .long)) ∈ TB_w := List.mem_filter.mpr ⟨List.mem_of_getElem? (i := 514) rfl, by decide +kernel⟩
theorem tw_25 : (Cond.initialized R_Modl) ∈ TB_w := List.mem_filter.mpr ⟨List.mem_of_getElem? (i := 25) (by decide +kernel), by decide +kernel⟩
theorem tw_511 : (Cond.methodLink R_Modl 75 y_Modl_times) ∈ TB_w := List.mem_filter.mpr ⟨List.mem_of_getElem? (i := 511) (by decide +kernel), by decide +kernel⟩
theorem tw_513 : (Cond.instanceMethod y_Modl_times) ∈ TB_w := List.mem_filter.mpr ⟨List.mem_of_getElem? (i := 513) (by decide +kernel), by decide +kernel⟩
theorem tw_16 : (Cond.selects R_Modl y_Modl_times y_Modl_times) ∈ TB_w := List.mem_filter.mpr ⟨List.mem_of_getElem? (i := 16) (by decide +kernel), by decide +kernel⟩
set_option maxHeartbeats 4000000 in
set_option maxRecDepth 100000 in
theorem c_Modl_thrown (l : Launch) (dC : Nat → ClassId) (dI : Nat → Nat → Nat) (cI cL : ClassId) (hs0 : Nat) (y0 : Nat) (th : Int32) (lm : Nat) (sz : Int32) (em : Int32) (lt : Int32) (sp : Int32) (np : Nat) (fd : Int32) (bg : Int32) (m_op : Nat) (m_nu : Nat) (m_gv : Nat) (m_sh : Nat) (m_he : Nat) (m_pu : Nat) (m_pc : Nat) (m_pl : Nat) (m_pb : Nat) (m_ps : Nat) (pv : Int32) (ev : Int32)  : ct_i l y_Modl_thrown b_Modl_thrown 1 (some .int) ({ frames := 0, cells := 0, slots := 0, locals := 0 }) (dC, dI) cI cL [.ref y0] [(y0, .inr (4, [.int th, .int (nI lm), .int sz, .int em, .int lt, .int sp, .int (nI np), .int fd, .int bg, .ref m_op, .ref m_nu, .ref m_gv, .ref m_sh, .ref m_he, .ref m_pu, .ref m_pc, .ref m_pl, .ref m_pb, .ref m_ps, .int pv, .int ev]))] hs0 (fun (r : Int32) (u : Unit) => r = th) (fun u => [(y0, .inr (4, [.int th, .int (nI lm), .int sz, .int em, .int lt, .int sp, .int (nI np), .int fd, .int bg, .ref m_op, .ref m_nu, .ref m_gv, .ref m_sh, .ref m_he, .ref m_pu, .ref m_pc, .ref m_pl, .ref m_pb, .ref m_ps, .int pv, .int ev]))]) 0 0 := by
  refine st_w (Qc := fun A => va_Qi (fun (r : Int32) (u : Unit) => r = th) (fun (u : Unit) t => pos_w (dC, dI) A [(y0, .inr (4, [.int th, .int (nI lm), .int sz, .int em, .int lt, .int sp, .int (nI np), .int fd, .int bg, .ref m_op, .ref m_nu, .ref m_gv, .ref m_sh, .ref m_he, .ref m_pu, .ref m_pc, .ref m_pl, .ref m_pb, .ref m_ps, .int pv, .int ev]))] t) A) (by decide) (Nat.le_of_ble_eq_true rfl) ?_
  intro p e s m below meth c A ls hfx hK hA hP hD hS hl
  obtain ⟨hx, hb, hml, hown, htb, hr, hlocks, hin⟩ := hfx
  have hl : lv_has ls 1 [(0, .ref y0)] := hl
  refine lv_aload_n hx hb d_Modl_thrown_0 rfl (lv_at hl 0 rfl) ?_
  refine va_get (D := (dC, dI)) (ci := 4) (v := .int th) (C := R_Modl) (T := F_Modl) (N := 21) hx hb htb iw_Modl hown hK.1 hP 0 rfl rfl 0 (by decide) (htb _ tw_415) (fun _ h9 => h9) rfl d_Modl_thrown_1 ?_
  exact rt_i (v := th) () hx hb hr hlocks (show th = th from (by simp only [and_self])) (hP.sub (ws' := [(y0, .inr (4, [.int th, .int (nI lm), .int sz, .int em, .int lt, .int sp, .int (nI np), .int fd, .int bg, .ref m_op, .ref m_nu, .ref m_gv, .ref m_sh, .ref m_he, .ref m_pu, .ref m_pc, .ref m_pl, .ref m_pb, .ref m_ps, .int pv, .int ev]))]) [0] rfl) (hD.sub (ws' := [(y0, .inr (4, [.int th, .int (nI lm), .int sz, .int em, .int lt, .int sp, .int (nI np), .int fd, .int bg, .ref m_op, .ref m_nu, .ref m_gv, .ref m_sh, .ref m_he, .ref m_pu, .ref m_pc, .ref m_pl, .ref m_pb, .ref m_ps, .int pv, .int ev]))]) [0] (by decide) rfl) hS d_Modl_thrown_4

set_option maxHeartbeats 4000000 in
set_option maxRecDepth 100000 in
theorem c_Modl_fits (l : Launch) (dC : Nat → ClassId) (dI : Nat → Nat → Nat) (cI cL : ClassId) (hs0 : Nat) (v0 : Int64)  : ct_i l y_Modl_fits b_Modl_fits 2 (some .boolean) ({ frames := 0, cells := 0, slots := 0, locals := 0 }) (dC, dI) cI cL [.long v0] [] hs0 (fun (r : Int32) (u : Unit) => r = ft_w v0) (fun u => []) 0 0 := by
  refine st_w (Qc := fun A => va_Qi (fun (r : Int32) (u : Unit) => r = ft_w v0) (fun (u : Unit) t => pos_w (dC, dI) A [] t) A) (by decide) (Nat.le_of_ble_eq_true rfl) ?_
  intro p e s m below meth c A ls hfx hK hA hP hD hS hl
  obtain ⟨hx, hb, hml, hown, htb, hr, hlocks, hin⟩ := hfx
  have hl : lv_has ls 2 [(0, .long v0)] := hl
  refine lv_lload_n hx hb d_Modl_fits_0 rfl (lv_at hl 0 rfl) ?_
  refine lv_ldc2 (v := (-2000000000)) hx hb hown (htb _ tw_489) d_Modl_fits_1 ?_
  refine W.lcmp hx hb d_Modl_fits_4 ?_
  refine lv_if_lt (tgt := 20) hx hb d_Modl_fits_5 (by decide) (fun c_1 => ?_) (fun c_1 => ?_)
  · have c_1 : (lg_cmp v0 (-2000000000)) < 0 := c_1
    rw [lc_lt] at c_1
    refine lv_iconst (v := 0) hx hb d_Modl_fits_20 (by decide) ?_
    exact rt_z (v := 0) () hx hb hr hlocks (by decide) (show (0 : Int32) = ft_w v0 from (by simp only [ft_w, if_pos c_1, and_self])) (hP.sub (ws' := []) [] rfl) (hD.sub (ws' := []) [] (by decide) rfl) hS d_Modl_fits_21
  · have c_1 : ¬ (lg_cmp v0 (-2000000000)) < 0 := c_1
    rw [lc_lt] at c_1
    refine lv_lload_n hx hb d_Modl_fits_8 rfl (lv_at hl 0 rfl) ?_
    refine lv_ldc2 (v := 2000000000) hx hb hown (htb _ tw_490) d_Modl_fits_9 ?_
    refine W.lcmp hx hb d_Modl_fits_12 ?_
    refine lv_if_gt (tgt := 20) hx hb d_Modl_fits_13 (by decide) (fun c_2 => ?_) (fun c_2 => ?_)
    · have c_2 : 0 < (lg_cmp v0 2000000000) := c_2
      rw [lc_gt] at c_2
      refine lv_iconst (v := 0) hx hb d_Modl_fits_20 (by decide) ?_
      exact rt_z (v := 0) () hx hb hr hlocks (by decide) (show (0 : Int32) = ft_w v0 from (by simp only [ft_w, if_neg c_1, if_pos c_2, and_self])) (hP.sub (ws' := []) [] rfl) (hD.sub (ws' := []) [] (by decide) rfl) hS d_Modl_fits_21
    · have c_2 : ¬ 0 < (lg_cmp v0 2000000000) := c_2
      rw [lc_gt] at c_2
      refine lv_iconst (v := 1) hx hb d_Modl_fits_16 (by decide) ?_
      refine lv_goto (tgt := 21) hx hb d_Modl_fits_17 (by decide) ?_
      exact rt_z (v := 1) () hx hb hr hlocks (by decide) (show (1 : Int32) = ft_w v0 from (by simp only [ft_w, if_neg c_1, if_neg c_2, and_self])) (hP.sub (ws' := []) [] rfl) (hD.sub (ws' := []) [] (by decide) rfl) hS d_Modl_fits_21

set_option maxHeartbeats 4000000 in
set_option maxRecDepth 100000 in
theorem c_Modl_times0 (l : Launch) (dC : Nat → ClassId) (dI : Nat → Nat → Nat) (cI cL : ClassId) (hs0 : Nat) (y0 : Nat) (th : Int32) (lm : Nat) (sz : Int32) (em : Int32) (lt : Int32) (sp : Int32) (np : Nat) (fd : Int32) (bg : Int32) (m_op : Nat) (m_nu : Nat) (m_gv : Nat) (m_sh : Nat) (m_he : Nat) (m_pu : Nat) (m_pc : Nat) (m_pl : Nat) (m_pb : Nat) (m_ps : Nat) (pv : Int32) (ev : Int32)  : ct_l l y_Modl_times b_Modl_times 2 (some .long) ({ frames := 0, cells := 0, slots := 0, locals := 0 }) (dC, dI) cI cL [.ref y0, .int 0] [(y0, .inr (4, [.int th, .int (nI lm), .int sz, .int em, .int lt, .int sp, .int (nI np), .int fd, .int bg, .ref m_op, .ref m_nu, .ref m_gv, .ref m_sh, .ref m_he, .ref m_pu, .ref m_pc, .ref m_pl, .ref m_pb, .ref m_ps, .int pv, .int ev]))] hs0 (fun (r : Int64) (u : Unit) => r = 1) (fun u => [(y0, .inr (4, [.int th, .int (nI lm), .int sz, .int em, .int lt, .int sp, .int (nI np), .int fd, .int bg, .ref m_op, .ref m_nu, .ref m_gv, .ref m_sh, .ref m_he, .ref m_pu, .ref m_pc, .ref m_pl, .ref m_pb, .ref m_ps, .int pv, .int ev]))]) 0 0 := by
  refine st_w (Qc := fun A => va_Ql (fun (r : Int64) (u : Unit) => r = 1) (fun (u : Unit) t => pos_w (dC, dI) A [(y0, .inr (4, [.int th, .int (nI lm), .int sz, .int em, .int lt, .int sp, .int (nI np), .int fd, .int bg, .ref m_op, .ref m_nu, .ref m_gv, .ref m_sh, .ref m_he, .ref m_pu, .ref m_pc, .ref m_pl, .ref m_pb, .ref m_ps, .int pv, .int ev]))] t) A) (by decide) (Nat.le_of_ble_eq_true rfl) ?_
  intro p e s m below meth c A ls hfx hK hA hP hD hS hl
  obtain ⟨hx, hb, hml, hown, htb, hr, hlocks, hin⟩ := hfx
  have hl : lv_has ls 2 [(0, .ref y0), (1, .int 0)] := hl
  refine lv_iload_n hx hb d_Modl_times_0 rfl (lv_at hl 1 rfl) ?_
  refine lv_if_ne (tgt := 8) hx hb d_Modl_times_1 (by decide) (fun c_1 => ?_) (fun c_1 => ?_)
  · exact absurd (by decide) c_1
  · skip
    refine lv_lconst (v := 1) hx hb d_Modl_times_4 (by decide) ?_
    refine lv_goto (tgt := 11) hx hb d_Modl_times_5 (by decide) ?_
    exact rt_l (v := 1) () hx hb hr hlocks (show (1 : Int64) = 1 from (by simp only [and_self])) (hP.sub (ws' := [(y0, .inr (4, [.int th, .int (nI lm), .int sz, .int em, .int lt, .int sp, .int (nI np), .int fd, .int bg, .ref m_op, .ref m_nu, .ref m_gv, .ref m_sh, .ref m_he, .ref m_pu, .ref m_pc, .ref m_pl, .ref m_pb, .ref m_ps, .int pv, .int ev]))]) [0] rfl) (hD.sub (ws' := [(y0, .inr (4, [.int th, .int (nI lm), .int sz, .int em, .int lt, .int sp, .int (nI np), .int fd, .int bg, .ref m_op, .ref m_nu, .ref m_gv, .ref m_sh, .ref m_he, .ref m_pu, .ref m_pc, .ref m_pl, .ref m_pb, .ref m_ps, .int pv, .int ev]))]) [0] (by decide) rfl) hS d_Modl_times_11

set_option maxHeartbeats 4000000 in
set_option maxRecDepth 100000 in
theorem c_Modl_times1 (l : Launch) (dC : Nat → ClassId) (dI : Nat → Nat → Nat) (cI cL : ClassId) (hs0 : Nat) (y0 : Nat) (th : Int32) (lm : Nat) (sz : Int32) (em : Int32) (lt : Int32) (sp : Int32) (np : Nat) (fd : Int32) (bg : Int32) (m_op : Nat) (m_nu : Nat) (m_gv : Nat) (m_sh : Nat) (m_he : Nat) (m_pu : Nat) (m_pc : Nat) (m_pl : Nat) (m_pb : Nat) (m_ps : Nat) (pv : Int32) (ev : Int32)  : ct_l l y_Modl_times b_Modl_times 2 (some .long) ({ frames := 0, cells := 0, slots := 0, locals := 0 }) (dC, dI) cI cL [.ref y0, .int 1] [(y0, .inr (4, [.int th, .int (nI lm), .int sz, .int em, .int lt, .int sp, .int (nI np), .int fd, .int bg, .ref m_op, .ref m_nu, .ref m_gv, .ref m_sh, .ref m_he, .ref m_pu, .ref m_pc, .ref m_pl, .ref m_pb, .ref m_ps, .int pv, .int ev]))] hs0 (fun (r : Int64) (u : Unit) => r = 58659) (fun u => [(y0, .inr (4, [.int th, .int (nI lm), .int sz, .int em, .int lt, .int sp, .int (nI np), .int fd, .int bg, .ref m_op, .ref m_nu, .ref m_gv, .ref m_sh, .ref m_he, .ref m_pu, .ref m_pc, .ref m_pl, .ref m_pb, .ref m_ps, .int pv, .int ev]))]) 0 0 := by
  refine st_w (Qc := fun A => va_Ql (fun (r : Int64) (u : Unit) => r = 58659) (fun (u : Unit) t => pos_w (dC, dI) A [(y0, .inr (4, [.int th, .int (nI lm), .int sz, .int em, .int lt, .int sp, .int (nI np), .int fd, .int bg, .ref m_op, .ref m_nu, .ref m_gv, .ref m_sh, .ref m_he, .ref m_pu, .ref m_pc, .ref m_pl, .ref m_pb, .ref m_ps, .int pv, .int ev]))] t) A) (by decide) (Nat.le_of_ble_eq_true rfl) ?_
  intro p e s m below meth c A ls hfx hK hA hP hD hS hl
  obtain ⟨hx, hb, hml, hown, htb, hr, hlocks, hin⟩ := hfx
  have hl : lv_has ls 2 [(0, .ref y0), (1, .int 1)] := hl
  refine lv_iload_n hx hb d_Modl_times_0 rfl (lv_at hl 1 rfl) ?_
  refine lv_if_ne (tgt := 8) hx hb d_Modl_times_1 (by decide) (fun c_1 => ?_) (fun c_1 => ?_)
  · skip
    refine lv_ldc2 (v := 58659) hx hb hown (htb _ tw_515) d_Modl_times_8 ?_
    exact rt_l (v := 58659) () hx hb hr hlocks (show (58659 : Int64) = 58659 from (by simp only [and_self])) (hP.sub (ws' := [(y0, .inr (4, [.int th, .int (nI lm), .int sz, .int em, .int lt, .int sp, .int (nI np), .int fd, .int bg, .ref m_op, .ref m_nu, .ref m_gv, .ref m_sh, .ref m_he, .ref m_pu, .ref m_pc, .ref m_pl, .ref m_pb, .ref m_ps, .int pv, .int ev]))]) [0] rfl) (hD.sub (ws' := [(y0, .inr (4, [.int th, .int (nI lm), .int sz, .int em, .int lt, .int sp, .int (nI np), .int fd, .int bg, .ref m_op, .ref m_nu, .ref m_gv, .ref m_sh, .ref m_he, .ref m_pu, .ref m_pc, .ref m_pl, .ref m_pb, .ref m_ps, .int pv, .int ev]))]) [0] (by decide) rfl) hS d_Modl_times_11
  · exact absurd c_1 (by decide)

set_option maxHeartbeats 4000000 in
set_option maxRecDepth 100000 in
theorem c_Modl_may0 (l : Launch) (dC : Nat → ClassId) (dI : Nat → Nat → Nat) (cI cL : ClassId) (hs0 : Nat) (y0 : Nat) (th : Int32) (lm : Nat) (sz : Int32) (em : Int32) (lt : Int32) (sp : Int32) (np : Nat) (fd : Int32) (bg : Int32) (m_op : Nat) (m_nu : Nat) (m_gv : Nat) (m_sh : Nat) (m_he : Nat) (m_pu : Nat) (m_pc : Nat) (m_pl : Nat) (m_pb : Nat) (m_ps : Nat) (pv : Int32) (ev : Int32) (a0 : Int64)  : ct_i l y_Modl_may b_Modl_may 4 (some .boolean) ({ frames := 1, cells := 0, slots := 0, locals := 40 }) (dC, dI) cI cL [.ref y0, .int 0, .long a0] [(y0, .inr (4, [.int th, .int (nI lm), .int sz, .int em, .int lt, .int sp, .int (nI np), .int fd, .int bg, .ref m_op, .ref m_nu, .ref m_gv, .ref m_sh, .ref m_he, .ref m_pu, .ref m_pc, .ref m_pl, .ref m_pb, .ref m_ps, .int pv, .int ev]))] hs0 (fun (r : Int32) (u : Unit) => r = ma_w (-2000000000) 2000000000 a0) (fun u => [(y0, .inr (4, [.int th, .int (nI lm), .int sz, .int em, .int lt, .int sp, .int (nI np), .int fd, .int bg, .ref m_op, .ref m_nu, .ref m_gv, .ref m_sh, .ref m_he, .ref m_pu, .ref m_pc, .ref m_pl, .ref m_pb, .ref m_ps, .int pv, .int ev]))]) 0 0 := by
  refine st_w (Qc := fun A => va_Qi (fun (r : Int32) (u : Unit) => r = ma_w (-2000000000) 2000000000 a0) (fun (u : Unit) t => pos_w (dC, dI) A [(y0, .inr (4, [.int th, .int (nI lm), .int sz, .int em, .int lt, .int sp, .int (nI np), .int fd, .int bg, .ref m_op, .ref m_nu, .ref m_gv, .ref m_sh, .ref m_he, .ref m_pu, .ref m_pc, .ref m_pl, .ref m_pb, .ref m_ps, .int pv, .int ev]))] t) A) (by decide) (Nat.le_of_ble_eq_true rfl) ?_
  intro p e s m below meth c A ls hfx hK hA hP hD hS hl
  obtain ⟨hx, hb, hml, hown, htb, hr, hlocks, hin⟩ := hfx
  have hl : lv_has ls 4 [(0, .ref y0), (1, .int 0), (2, .long a0)] := hl
  refine lv_lload_n hx hb d_Modl_may_0 rfl (lv_at hl 2 rfl) ?_
  refine lv_ldc2 (v := (-2000000000)) hx hb hown (htb _ tw_489) d_Modl_may_1 ?_
  refine lv_aload_n hx hb d_Modl_may_4 rfl (lv_at hl 0 rfl) ?_
  refine lv_iload_n hx hb d_Modl_may_5 rfl (lv_at hl 1 rfl) ?_
  refine af_l (wr := []) (va_runV (As := [.int 0]) (rest := [.long (-2000000000), .long a0]) ⟨hx, hb, hml, hown, htb⟩ (c_Modl_times0 l dC dI cI cL s.heap.size y0 th lm sz em lt sp np fd bg m_op m_nu m_gv m_sh m_he m_pu m_pc m_pl m_pb m_ps pv ev ) ⟨callB_of 1 htb (gd_w tw_514) rfl rfl rfl (htb _ tw_25) (htb _ tw_511) (by decide +kernel) ⟨Nat.le_of_ble_eq_true rfl, Nat.le_of_ble_eq_true rfl⟩, htb _ tw_513, htb _ tw_16⟩ (pv_V hK (hP.sub (ws' := [(y0, .inr (4, [.int th, .int (nI lm), .int sz, .int em, .int lt, .int sp, .int (nI np), .int fd, .int bg, .ref m_op, .ref m_nu, .ref m_gv, .ref m_sh, .ref m_he, .ref m_pu, .ref m_pc, .ref m_pl, .ref m_pb, .ref m_ps, .int pv, .int ev]))]) [0] rfl) (hD.sub (ws' := [(y0, .inr (4, [.int th, .int (nI lm), .int sz, .int em, .int lt, .int sp, .int (nI np), .int fd, .int bg, .ref m_op, .ref m_nu, .ref m_gv, .ref m_sh, .ref m_he, .ref m_pu, .ref m_pc, .ref m_pl, .ref m_pb, .ref m_ps, .int pv, .int ev]))]) [0] (by decide) rfl) (ci := 4) (q0 := 0) rfl rfl) rfl rfl hl.1 rfl (lv_room (Nat.le_of_ble_eq_true rfl)) d_Modl_may_6 ⟨Nat.le_of_ble_eq_true rfl, Nat.le_of_ble_eq_true rfl⟩) hP hD hS hA [0] [] rfl rfl (by decide) (by decide) (fun r_1 u_2 H locs hw hP hD hS => ?_)
  try dsimp only at hw
  subst hw
  have hP : va_P (dC, dI) classes [(y0, .inr (4, [.int th, .int (nI lm), .int sz, .int em, .int lt, .int sp, .int (nI np), .int fd, .int bg, .ref m_op, .ref m_nu, .ref m_gv, .ref m_sh, .ref m_he, .ref m_pu, .ref m_pc, .ref m_pl, .ref m_pb, .ref m_ps, .int pv, .int ev]))] H := hP
  have hD : va_D A [(y0, .inr (4, [.int th, .int (nI lm), .int sz, .int em, .int lt, .int sp, .int (nI np), .int fd, .int bg, .ref m_op, .ref m_nu, .ref m_gv, .ref m_sh, .ref m_he, .ref m_pu, .ref m_pc, .ref m_pl, .ref m_pb, .ref m_ps, .int pv, .int ev]))] := hD
  refine lv_lmul hx hb d_Modl_may_9 ?_
  refine W.eq (g2 := F0 m 10 ls [.long (-2000000000), .long a0]) rfl ?_
  refine W.lcmp hx hb d_Modl_may_10 ?_
  refine lv_if_lt (tgt := 32) hx hb d_Modl_may_11 (by decide) (fun c_3 => ?_) (fun c_3 => ?_)
  · have c_3 : (lg_cmp a0 (-2000000000)) < 0 := c_3
    rw [lc_lt] at c_3
    refine lv_iconst (v := 0) hx hb d_Modl_may_32 (by decide) ?_
    exact rt_z (v := 0) () hx hb hr hlocks (by decide) (show (0 : Int32) = ma_w (-2000000000) 2000000000 a0 from (by simp only [ma_w, if_pos c_3, and_self])) (hP.sub (ws' := [(y0, .inr (4, [.int th, .int (nI lm), .int sz, .int em, .int lt, .int sp, .int (nI np), .int fd, .int bg, .ref m_op, .ref m_nu, .ref m_gv, .ref m_sh, .ref m_he, .ref m_pu, .ref m_pc, .ref m_pl, .ref m_pb, .ref m_ps, .int pv, .int ev]))]) [0] rfl) (hD.sub (ws' := [(y0, .inr (4, [.int th, .int (nI lm), .int sz, .int em, .int lt, .int sp, .int (nI np), .int fd, .int bg, .ref m_op, .ref m_nu, .ref m_gv, .ref m_sh, .ref m_he, .ref m_pu, .ref m_pc, .ref m_pl, .ref m_pb, .ref m_ps, .int pv, .int ev]))]) [0] (by decide) rfl) hS d_Modl_may_33
  · have c_3 : ¬ (lg_cmp a0 (-2000000000)) < 0 := c_3
    rw [lc_lt] at c_3
    refine lv_lload_n hx hb d_Modl_may_14 rfl (lv_at hl 2 rfl) ?_
    refine lv_ldc2 (v := 2000000000) hx hb hown (htb _ tw_490) d_Modl_may_15 ?_
    refine lv_aload_n hx hb d_Modl_may_18 rfl (lv_at hl 0 rfl) ?_
    refine lv_iload_n hx hb d_Modl_may_19 rfl (lv_at hl 1 rfl) ?_
    refine af_l (wr := []) (va_runV (As := [.int 0]) (rest := [.long 2000000000, .long a0]) ⟨hx, hb, hml, hown, htb⟩ (c_Modl_times0 l dC dI cI cL H.size y0 th lm sz em lt sp np fd bg m_op m_nu m_gv m_sh m_he m_pu m_pc m_pl m_pb m_ps pv ev ) ⟨callB_of 1 htb (gd_w tw_514) rfl rfl rfl (htb _ tw_25) (htb _ tw_511) (by decide +kernel) ⟨Nat.le_of_ble_eq_true rfl, Nat.le_of_ble_eq_true rfl⟩, htb _ tw_513, htb _ tw_16⟩ (pv_V hK (hP.sub (ws' := [(y0, .inr (4, [.int th, .int (nI lm), .int sz, .int em, .int lt, .int sp, .int (nI np), .int fd, .int bg, .ref m_op, .ref m_nu, .ref m_gv, .ref m_sh, .ref m_he, .ref m_pu, .ref m_pc, .ref m_pl, .ref m_pb, .ref m_ps, .int pv, .int ev]))]) [0] rfl) (hD.sub (ws' := [(y0, .inr (4, [.int th, .int (nI lm), .int sz, .int em, .int lt, .int sp, .int (nI np), .int fd, .int bg, .ref m_op, .ref m_nu, .ref m_gv, .ref m_sh, .ref m_he, .ref m_pu, .ref m_pc, .ref m_pl, .ref m_pb, .ref m_ps, .int pv, .int ev]))]) [0] (by decide) rfl) (ci := 4) (q0 := 0) rfl rfl) rfl rfl hl.1 rfl (lv_room (Nat.le_of_ble_eq_true rfl)) d_Modl_may_20 ⟨Nat.le_of_ble_eq_true rfl, Nat.le_of_ble_eq_true rfl⟩) hP hD hS hA [0] [] rfl rfl (by decide) (by decide) (fun r_4 u_5 H locs hw hP hD hS => ?_)
    try dsimp only at hw
    subst hw
    have hP : va_P (dC, dI) classes [(y0, .inr (4, [.int th, .int (nI lm), .int sz, .int em, .int lt, .int sp, .int (nI np), .int fd, .int bg, .ref m_op, .ref m_nu, .ref m_gv, .ref m_sh, .ref m_he, .ref m_pu, .ref m_pc, .ref m_pl, .ref m_pb, .ref m_ps, .int pv, .int ev]))] H := hP
    have hD : va_D A [(y0, .inr (4, [.int th, .int (nI lm), .int sz, .int em, .int lt, .int sp, .int (nI np), .int fd, .int bg, .ref m_op, .ref m_nu, .ref m_gv, .ref m_sh, .ref m_he, .ref m_pu, .ref m_pc, .ref m_pl, .ref m_pb, .ref m_ps, .int pv, .int ev]))] := hD
    refine lv_lmul hx hb d_Modl_may_23 ?_
    refine W.eq (g2 := F0 m 24 ls [.long 2000000000, .long a0]) rfl ?_
    refine W.lcmp hx hb d_Modl_may_24 ?_
    refine lv_if_gt (tgt := 32) hx hb d_Modl_may_25 (by decide) (fun c_6 => ?_) (fun c_6 => ?_)
    · have c_6 : 0 < (lg_cmp a0 2000000000) := c_6
      rw [lc_gt] at c_6
      refine lv_iconst (v := 0) hx hb d_Modl_may_32 (by decide) ?_
      exact rt_z (v := 0) () hx hb hr hlocks (by decide) (show (0 : Int32) = ma_w (-2000000000) 2000000000 a0 from (by simp only [ma_w, if_neg c_3, if_pos c_6, and_self])) (hP.sub (ws' := [(y0, .inr (4, [.int th, .int (nI lm), .int sz, .int em, .int lt, .int sp, .int (nI np), .int fd, .int bg, .ref m_op, .ref m_nu, .ref m_gv, .ref m_sh, .ref m_he, .ref m_pu, .ref m_pc, .ref m_pl, .ref m_pb, .ref m_ps, .int pv, .int ev]))]) [0] rfl) (hD.sub (ws' := [(y0, .inr (4, [.int th, .int (nI lm), .int sz, .int em, .int lt, .int sp, .int (nI np), .int fd, .int bg, .ref m_op, .ref m_nu, .ref m_gv, .ref m_sh, .ref m_he, .ref m_pu, .ref m_pc, .ref m_pl, .ref m_pb, .ref m_ps, .int pv, .int ev]))]) [0] (by decide) rfl) hS d_Modl_may_33
    · have c_6 : ¬ 0 < (lg_cmp a0 2000000000) := c_6
      rw [lc_gt] at c_6
      refine lv_iconst (v := 1) hx hb d_Modl_may_28 (by decide) ?_
      refine lv_goto (tgt := 33) hx hb d_Modl_may_29 (by decide) ?_
      exact rt_z (v := 1) () hx hb hr hlocks (by decide) (show (1 : Int32) = ma_w (-2000000000) 2000000000 a0 from (by simp only [ma_w, if_neg c_3, if_neg c_6, and_self])) (hP.sub (ws' := [(y0, .inr (4, [.int th, .int (nI lm), .int sz, .int em, .int lt, .int sp, .int (nI np), .int fd, .int bg, .ref m_op, .ref m_nu, .ref m_gv, .ref m_sh, .ref m_he, .ref m_pu, .ref m_pc, .ref m_pl, .ref m_pb, .ref m_ps, .int pv, .int ev]))]) [0] rfl) (hD.sub (ws' := [(y0, .inr (4, [.int th, .int (nI lm), .int sz, .int em, .int lt, .int sp, .int (nI np), .int fd, .int bg, .ref m_op, .ref m_nu, .ref m_gv, .ref m_sh, .ref m_he, .ref m_pu, .ref m_pc, .ref m_pl, .ref m_pb, .ref m_ps, .int pv, .int ev]))]) [0] (by decide) rfl) hS d_Modl_may_33

set_option maxHeartbeats 4000000 in
set_option maxRecDepth 100000 in
theorem c_Modl_may1 (l : Launch) (dC : Nat → ClassId) (dI : Nat → Nat → Nat) (cI cL : ClassId) (hs0 : Nat) (y0 : Nat) (th : Int32) (lm : Nat) (sz : Int32) (em : Int32) (lt : Int32) (sp : Int32) (np : Nat) (fd : Int32) (bg : Int32) (m_op : Nat) (m_nu : Nat) (m_gv : Nat) (m_sh : Nat) (m_he : Nat) (m_pu : Nat) (m_pc : Nat) (m_pl : Nat) (m_pb : Nat) (m_ps : Nat) (pv : Int32) (ev : Int32) (a0 : Int64)  : ct_i l y_Modl_may b_Modl_may 4 (some .boolean) ({ frames := 1, cells := 0, slots := 0, locals := 40 }) (dC, dI) cI cL [.ref y0, .int 1, .long a0] [(y0, .inr (4, [.int th, .int (nI lm), .int sz, .int em, .int lt, .int sp, .int (nI np), .int fd, .int bg, .ref m_op, .ref m_nu, .ref m_gv, .ref m_sh, .ref m_he, .ref m_pu, .ref m_pc, .ref m_pl, .ref m_pb, .ref m_ps, .int pv, .int ev]))] hs0 (fun (r : Int32) (u : Unit) => r = ma_w (-117318000000000) 117318000000000 a0) (fun u => [(y0, .inr (4, [.int th, .int (nI lm), .int sz, .int em, .int lt, .int sp, .int (nI np), .int fd, .int bg, .ref m_op, .ref m_nu, .ref m_gv, .ref m_sh, .ref m_he, .ref m_pu, .ref m_pc, .ref m_pl, .ref m_pb, .ref m_ps, .int pv, .int ev]))]) 0 0 := by
  refine st_w (Qc := fun A => va_Qi (fun (r : Int32) (u : Unit) => r = ma_w (-117318000000000) 117318000000000 a0) (fun (u : Unit) t => pos_w (dC, dI) A [(y0, .inr (4, [.int th, .int (nI lm), .int sz, .int em, .int lt, .int sp, .int (nI np), .int fd, .int bg, .ref m_op, .ref m_nu, .ref m_gv, .ref m_sh, .ref m_he, .ref m_pu, .ref m_pc, .ref m_pl, .ref m_pb, .ref m_ps, .int pv, .int ev]))] t) A) (by decide) (Nat.le_of_ble_eq_true rfl) ?_
  intro p e s m below meth c A ls hfx hK hA hP hD hS hl
  obtain ⟨hx, hb, hml, hown, htb, hr, hlocks, hin⟩ := hfx
  have hl : lv_has ls 4 [(0, .ref y0), (1, .int 1), (2, .long a0)] := hl
  refine lv_lload_n hx hb d_Modl_may_0 rfl (lv_at hl 2 rfl) ?_
  refine lv_ldc2 (v := (-2000000000)) hx hb hown (htb _ tw_489) d_Modl_may_1 ?_
  refine lv_aload_n hx hb d_Modl_may_4 rfl (lv_at hl 0 rfl) ?_
  refine lv_iload_n hx hb d_Modl_may_5 rfl (lv_at hl 1 rfl) ?_
  refine af_l (wr := []) (va_runV (As := [.int 1]) (rest := [.long (-2000000000), .long a0]) ⟨hx, hb, hml, hown, htb⟩ (c_Modl_times1 l dC dI cI cL s.heap.size y0 th lm sz em lt sp np fd bg m_op m_nu m_gv m_sh m_he m_pu m_pc m_pl m_pb m_ps pv ev ) ⟨callB_of 1 htb (gd_w tw_514) rfl rfl rfl (htb _ tw_25) (htb _ tw_511) (by decide +kernel) ⟨Nat.le_of_ble_eq_true rfl, Nat.le_of_ble_eq_true rfl⟩, htb _ tw_513, htb _ tw_16⟩ (pv_V hK (hP.sub (ws' := [(y0, .inr (4, [.int th, .int (nI lm), .int sz, .int em, .int lt, .int sp, .int (nI np), .int fd, .int bg, .ref m_op, .ref m_nu, .ref m_gv, .ref m_sh, .ref m_he, .ref m_pu, .ref m_pc, .ref m_pl, .ref m_pb, .ref m_ps, .int pv, .int ev]))]) [0] rfl) (hD.sub (ws' := [(y0, .inr (4, [.int th, .int (nI lm), .int sz, .int em, .int lt, .int sp, .int (nI np), .int fd, .int bg, .ref m_op, .ref m_nu, .ref m_gv, .ref m_sh, .ref m_he, .ref m_pu, .ref m_pc, .ref m_pl, .ref m_pb, .ref m_ps, .int pv, .int ev]))]) [0] (by decide) rfl) (ci := 4) (q0 := 0) rfl rfl) rfl rfl hl.1 rfl (lv_room (Nat.le_of_ble_eq_true rfl)) d_Modl_may_6 ⟨Nat.le_of_ble_eq_true rfl, Nat.le_of_ble_eq_true rfl⟩) hP hD hS hA [0] [] rfl rfl (by decide) (by decide) (fun r_1 u_2 H locs hw hP hD hS => ?_)
  try dsimp only at hw
  subst hw
  have hP : va_P (dC, dI) classes [(y0, .inr (4, [.int th, .int (nI lm), .int sz, .int em, .int lt, .int sp, .int (nI np), .int fd, .int bg, .ref m_op, .ref m_nu, .ref m_gv, .ref m_sh, .ref m_he, .ref m_pu, .ref m_pc, .ref m_pl, .ref m_pb, .ref m_ps, .int pv, .int ev]))] H := hP
  have hD : va_D A [(y0, .inr (4, [.int th, .int (nI lm), .int sz, .int em, .int lt, .int sp, .int (nI np), .int fd, .int bg, .ref m_op, .ref m_nu, .ref m_gv, .ref m_sh, .ref m_he, .ref m_pu, .ref m_pc, .ref m_pl, .ref m_pb, .ref m_ps, .int pv, .int ev]))] := hD
  refine lv_lmul hx hb d_Modl_may_9 ?_
  refine W.eq (g2 := F0 m 10 ls [.long (-117318000000000), .long a0]) rfl ?_
  refine W.lcmp hx hb d_Modl_may_10 ?_
  refine lv_if_lt (tgt := 32) hx hb d_Modl_may_11 (by decide) (fun c_3 => ?_) (fun c_3 => ?_)
  · have c_3 : (lg_cmp a0 (-117318000000000)) < 0 := c_3
    rw [lc_lt] at c_3
    refine lv_iconst (v := 0) hx hb d_Modl_may_32 (by decide) ?_
    exact rt_z (v := 0) () hx hb hr hlocks (by decide) (show (0 : Int32) = ma_w (-117318000000000) 117318000000000 a0 from (by simp only [ma_w, if_pos c_3, and_self])) (hP.sub (ws' := [(y0, .inr (4, [.int th, .int (nI lm), .int sz, .int em, .int lt, .int sp, .int (nI np), .int fd, .int bg, .ref m_op, .ref m_nu, .ref m_gv, .ref m_sh, .ref m_he, .ref m_pu, .ref m_pc, .ref m_pl, .ref m_pb, .ref m_ps, .int pv, .int ev]))]) [0] rfl) (hD.sub (ws' := [(y0, .inr (4, [.int th, .int (nI lm), .int sz, .int em, .int lt, .int sp, .int (nI np), .int fd, .int bg, .ref m_op, .ref m_nu, .ref m_gv, .ref m_sh, .ref m_he, .ref m_pu, .ref m_pc, .ref m_pl, .ref m_pb, .ref m_ps, .int pv, .int ev]))]) [0] (by decide) rfl) hS d_Modl_may_33
  · have c_3 : ¬ (lg_cmp a0 (-117318000000000)) < 0 := c_3
    rw [lc_lt] at c_3
    refine lv_lload_n hx hb d_Modl_may_14 rfl (lv_at hl 2 rfl) ?_
    refine lv_ldc2 (v := 2000000000) hx hb hown (htb _ tw_490) d_Modl_may_15 ?_
    refine lv_aload_n hx hb d_Modl_may_18 rfl (lv_at hl 0 rfl) ?_
    refine lv_iload_n hx hb d_Modl_may_19 rfl (lv_at hl 1 rfl) ?_
    refine af_l (wr := []) (va_runV (As := [.int 1]) (rest := [.long 2000000000, .long a0]) ⟨hx, hb, hml, hown, htb⟩ (c_Modl_times1 l dC dI cI cL H.size y0 th lm sz em lt sp np fd bg m_op m_nu m_gv m_sh m_he m_pu m_pc m_pl m_pb m_ps pv ev ) ⟨callB_of 1 htb (gd_w tw_514) rfl rfl rfl (htb _ tw_25) (htb _ tw_511) (by decide +kernel) ⟨Nat.le_of_ble_eq_true rfl, Nat.le_of_ble_eq_true rfl⟩, htb _ tw_513, htb _ tw_16⟩ (pv_V hK (hP.sub (ws' := [(y0, .inr (4, [.int th, .int (nI lm), .int sz, .int em, .int lt, .int sp, .int (nI np), .int fd, .int bg, .ref m_op, .ref m_nu, .ref m_gv, .ref m_sh, .ref m_he, .ref m_pu, .ref m_pc, .ref m_pl, .ref m_pb, .ref m_ps, .int pv, .int ev]))]) [0] rfl) (hD.sub (ws' := [(y0, .inr (4, [.int th, .int (nI lm), .int sz, .int em, .int lt, .int sp, .int (nI np), .int fd, .int bg, .ref m_op, .ref m_nu, .ref m_gv, .ref m_sh, .ref m_he, .ref m_pu, .ref m_pc, .ref m_pl, .ref m_pb, .ref m_ps, .int pv, .int ev]))]) [0] (by decide) rfl) (ci := 4) (q0 := 0) rfl rfl) rfl rfl hl.1 rfl (lv_room (Nat.le_of_ble_eq_true rfl)) d_Modl_may_20 ⟨Nat.le_of_ble_eq_true rfl, Nat.le_of_ble_eq_true rfl⟩) hP hD hS hA [0] [] rfl rfl (by decide) (by decide) (fun r_4 u_5 H locs hw hP hD hS => ?_)
    try dsimp only at hw
    subst hw
    have hP : va_P (dC, dI) classes [(y0, .inr (4, [.int th, .int (nI lm), .int sz, .int em, .int lt, .int sp, .int (nI np), .int fd, .int bg, .ref m_op, .ref m_nu, .ref m_gv, .ref m_sh, .ref m_he, .ref m_pu, .ref m_pc, .ref m_pl, .ref m_pb, .ref m_ps, .int pv, .int ev]))] H := hP
    have hD : va_D A [(y0, .inr (4, [.int th, .int (nI lm), .int sz, .int em, .int lt, .int sp, .int (nI np), .int fd, .int bg, .ref m_op, .ref m_nu, .ref m_gv, .ref m_sh, .ref m_he, .ref m_pu, .ref m_pc, .ref m_pl, .ref m_pb, .ref m_ps, .int pv, .int ev]))] := hD
    refine lv_lmul hx hb d_Modl_may_23 ?_
    refine W.eq (g2 := F0 m 24 ls [.long 117318000000000, .long a0]) rfl ?_
    refine W.lcmp hx hb d_Modl_may_24 ?_
    refine lv_if_gt (tgt := 32) hx hb d_Modl_may_25 (by decide) (fun c_6 => ?_) (fun c_6 => ?_)
    · have c_6 : 0 < (lg_cmp a0 117318000000000) := c_6
      rw [lc_gt] at c_6
      refine lv_iconst (v := 0) hx hb d_Modl_may_32 (by decide) ?_
      exact rt_z (v := 0) () hx hb hr hlocks (by decide) (show (0 : Int32) = ma_w (-117318000000000) 117318000000000 a0 from (by simp only [ma_w, if_neg c_3, if_pos c_6, and_self])) (hP.sub (ws' := [(y0, .inr (4, [.int th, .int (nI lm), .int sz, .int em, .int lt, .int sp, .int (nI np), .int fd, .int bg, .ref m_op, .ref m_nu, .ref m_gv, .ref m_sh, .ref m_he, .ref m_pu, .ref m_pc, .ref m_pl, .ref m_pb, .ref m_ps, .int pv, .int ev]))]) [0] rfl) (hD.sub (ws' := [(y0, .inr (4, [.int th, .int (nI lm), .int sz, .int em, .int lt, .int sp, .int (nI np), .int fd, .int bg, .ref m_op, .ref m_nu, .ref m_gv, .ref m_sh, .ref m_he, .ref m_pu, .ref m_pc, .ref m_pl, .ref m_pb, .ref m_ps, .int pv, .int ev]))]) [0] (by decide) rfl) hS d_Modl_may_33
    · have c_6 : ¬ 0 < (lg_cmp a0 117318000000000) := c_6
      rw [lc_gt] at c_6
      refine lv_iconst (v := 1) hx hb d_Modl_may_28 (by decide) ?_
      refine lv_goto (tgt := 33) hx hb d_Modl_may_29 (by decide) ?_
      exact rt_z (v := 1) () hx hb hr hlocks (by decide) (show (1 : Int32) = ma_w (-117318000000000) 117318000000000 a0 from (by simp only [ma_w, if_neg c_3, if_neg c_6, and_self])) (hP.sub (ws' := [(y0, .inr (4, [.int th, .int (nI lm), .int sz, .int em, .int lt, .int sp, .int (nI np), .int fd, .int bg, .ref m_op, .ref m_nu, .ref m_gv, .ref m_sh, .ref m_he, .ref m_pu, .ref m_pc, .ref m_pl, .ref m_pb, .ref m_ps, .int pv, .int ev]))]) [0] rfl) (hD.sub (ws' := [(y0, .inr (4, [.int th, .int (nI lm), .int sz, .int em, .int lt, .int sp, .int (nI np), .int fd, .int bg, .ref m_op, .ref m_nu, .ref m_gv, .ref m_sh, .ref m_he, .ref m_pu, .ref m_pc, .ref m_pl, .ref m_pb, .ref m_ps, .int pv, .int ev]))]) [0] (by decide) rfl) hS d_Modl_may_33
