set_option maxRecDepth 20000 in
theorem tw_288 : (Cond.code y_Gate_isInstruction b_Gate_isInstruction 2 (some .boolean)) ∈ TB_w := List.mem_filter.mpr ⟨List.mem_of_getElem? (i := 288) rfl, by decide +kernel⟩
theorem tw_286 : (Cond.methodLink R_Gate 73 y_Gate_isInstruction) ∈ TB_w := List.mem_filter.mpr ⟨List.mem_of_getElem? (i := 286) (by decide +kernel), by decide +kernel⟩
theorem tw_287 : (Cond.static y_Gate_isInstruction) ∈ TB_w := List.mem_filter.mpr ⟨List.mem_of_getElem? (i := 287) (by decide +kernel), by decide +kernel⟩
set_option maxRecDepth 20000 in
theorem tw_360 : (Cond.code y_Prog_isFull b_Prog_isFull 1 (some .boolean)) ∈ TB_w := List.mem_filter.mpr ⟨List.mem_of_getElem? (i := 360) rfl, by decide +kernel⟩
theorem tw_357 : (Cond.methodLink R_Gate 84 y_Prog_isFull) ∈ TB_w := List.mem_filter.mpr ⟨List.mem_of_getElem? (i := 357) (by decide +kernel), by decide +kernel⟩
theorem tw_358 : (Cond.instanceMethod y_Prog_isFull) ∈ TB_w := List.mem_filter.mpr ⟨List.mem_of_getElem? (i := 358) (by decide +kernel), by decide +kernel⟩
theorem tw_359 : (Cond.selects R_Prog y_Prog_isFull y_Prog_isFull) ∈ TB_w := List.mem_filter.mpr ⟨List.mem_of_getElem? (i := 359) (by decide +kernel), by decide +kernel⟩
set_option maxRecDepth 20000 in
theorem tw_380 : (Cond.code y_Prog_append b_Prog_append 3 none) ∈ TB_w := List.mem_filter.mpr ⟨List.mem_of_getElem? (i := 380) rfl, by decide +kernel⟩
theorem tw_377 : (Cond.methodLink R_Gate 93 y_Prog_append) ∈ TB_w := List.mem_filter.mpr ⟨List.mem_of_getElem? (i := 377) (by decide +kernel), by decide +kernel⟩
theorem tw_378 : (Cond.instanceMethod y_Prog_append) ∈ TB_w := List.mem_filter.mpr ⟨List.mem_of_getElem? (i := 378) (by decide +kernel), by decide +kernel⟩
theorem tw_379 : (Cond.selects R_Prog y_Prog_append y_Prog_append) ∈ TB_w := List.mem_filter.mpr ⟨List.mem_of_getElem? (i := 379) (by decide +kernel), by decide +kernel⟩
theorem tw_289 : (Cond.classLink R_Gate 77 "java/lang/IllegalArgumentException") ∈ TB_w := List.mem_filter.mpr ⟨List.mem_of_getElem? (i := 289) (by decide +kernel), by decide +kernel⟩
theorem tw_290 : (Cond.instantiable "java/lang/IllegalArgumentException" 6) ∈ TB_w := List.mem_filter.mpr ⟨List.mem_of_getElem? (i := 290) (by decide +kernel), by decide +kernel⟩
theorem tw_29 : (Cond.initialized "java/lang/IllegalArgumentException") ∈ TB_w := List.mem_filter.mpr ⟨List.mem_of_getElem? (i := 29) (by decide +kernel), by decide +kernel⟩
theorem tw_361 : (Cond.classLink R_Gate 88 "java/lang/IllegalStateException") ∈ TB_w := List.mem_filter.mpr ⟨List.mem_of_getElem? (i := 361) (by decide +kernel), by decide +kernel⟩
theorem tw_362 : (Cond.instantiable "java/lang/IllegalStateException" 6) ∈ TB_w := List.mem_filter.mpr ⟨List.mem_of_getElem? (i := 362) (by decide +kernel), by decide +kernel⟩
theorem tw_30 : (Cond.initialized "java/lang/IllegalStateException") ∈ TB_w := List.mem_filter.mpr ⟨List.mem_of_getElem? (i := 30) (by decide +kernel), by decide +kernel⟩
theorem tw_389 : (Cond.classLink R_Gate 136 "java/lang/IndexOutOfBoundsException") ∈ TB_w := List.mem_filter.mpr ⟨List.mem_of_getElem? (i := 389) (by decide +kernel), by decide +kernel⟩
theorem tw_390 : (Cond.instantiable "java/lang/IndexOutOfBoundsException" 6) ∈ TB_w := List.mem_filter.mpr ⟨List.mem_of_getElem? (i := 390) (by decide +kernel), by decide +kernel⟩
theorem tw_32 : (Cond.initialized "java/lang/IndexOutOfBoundsException") ∈ TB_w := List.mem_filter.mpr ⟨List.mem_of_getElem? (i := 32) (by decide +kernel), by decide +kernel⟩
set_option maxHeartbeats 4000000 in
set_option maxRecDepth 100000 in
theorem c_Gate_add0 (l : Launch) (dC : Nat → ClassId) (dI : Nat → Nat → Nat) (cI cL : ClassId) (hs0 : Nat) (x0 : Nat) (lm : Nat) (pg : Nat) (a_cp : Nat) (b_cp : Nat) (pn : Nat) (gv : Nat) (sh : Nat) (bg : Int32) (lt : Int32) (em : Int32) (sp : Int32) (fd : Int32) (oa : Nat) (na : Nat) (ops : Nat → Int32) (nums : Nat → Int32) (sz : Int32) (o0 : Int32) (n0 : Int32) (hi : ¬ ii_w o0 n0 = 0) (hb0 : bg = 0) (hg0 : gu_w sz = 0) (hs : vp_in sz 100) : ct_i l y_Gate_add b_Gate_add 3 (some .int) ({ frames := 3, cells := 0, slots := 0, locals := 120 }) (dC, dI) cI cL [.ref x0, .int o0, .int n0] [(x0, .inr (0, [.int (nI lm), .ref pg, .ref a_cp, .ref b_cp, .ref pn, .ref gv, .ref sh, .int bg, .int lt, .int em, .int sp, .int fd])), (pg, .inr (3, [.ref oa, .ref na, .int sz])), (oa, .inl (cI, 100, .inl ops)), (na, .inl (cI, 100, .inl nums))] hs0 (fun (r : Int32) (u : (Nat → Int32) × (Nat → Int32) × Int32) => r = sz + 1 ∧ u.1 = upd ops sz.toNatClampNeg o0 ∧ u.2.1 = upd nums sz.toNatClampNeg n0 ∧ u.2.2 = sz + 1) (fun u => [(x0, .inr (0, [.int (nI lm), .ref pg, .ref a_cp, .ref b_cp, .ref pn, .ref gv, .ref sh, .int bg, .int lt, .int em, .int sp, .int fd])), (pg, .inr (3, [.ref oa, .ref na, .int u.2.2])), (oa, .inl (cI, 100, .inl u.1)), (na, .inl (cI, 100, .inl u.2.1))]) 0 0 := by
  refine st_w (Qc := fun A => va_Qi (fun (r : Int32) (u : (Nat → Int32) × (Nat → Int32) × Int32) => r = sz + 1 ∧ u.1 = upd ops sz.toNatClampNeg o0 ∧ u.2.1 = upd nums sz.toNatClampNeg n0 ∧ u.2.2 = sz + 1) (fun (u : (Nat → Int32) × (Nat → Int32) × Int32) t => pos_w (dC, dI) A [(x0, .inr (0, [.int (nI lm), .ref pg, .ref a_cp, .ref b_cp, .ref pn, .ref gv, .ref sh, .int bg, .int lt, .int em, .int sp, .int fd])), (pg, .inr (3, [.ref oa, .ref na, .int u.2.2])), (oa, .inl (cI, 100, .inl u.1)), (na, .inl (cI, 100, .inl u.2.1))] t) A) (by decide) (Nat.le_of_ble_eq_true rfl) ?_
  intro p e s m below meth c A ls hfx hK hA hP hD hS hl
  obtain ⟨hx, hb, hml, hown, htb, hr, hlocks, hin⟩ := hfx
  have hl : lv_has ls 3 [(0, .ref x0), (1, .int o0), (2, .int n0)] := hl
  refine lv_iload_n hx hb d_Gate_add_0 rfl (lv_at hl 1 rfl) ?_
  refine lv_iload_n hx hb d_Gate_add_1 rfl (lv_at hl 2 rfl) ?_
  refine af_i (wr := [(x0, .inr (0, [.int (nI lm), .ref pg, .ref a_cp, .ref b_cp, .ref pn, .ref gv, .ref sh, .int bg, .int lt, .int em, .int sp, .int fd])), (pg, .inr (3, [.ref oa, .ref na, .int sz])), (oa, .inl (cI, 100, .inl ops)), (na, .inl (cI, 100, .inl nums))]) (va_runS (As := [.int o0, .int n0]) (rest := []) ⟨hx, hb, hml, hown, htb⟩ (c_Gate_isInstruction l dC dI cI cL s.heap.size o0 n0 ) ⟨callB_of 2 htb (gd_w tw_288) rfl rfl rfl (htb _ tw_20) (htb _ tw_286) (by decide +kernel) ⟨Nat.le_of_ble_eq_true rfl, Nat.le_of_ble_eq_true rfl⟩, htb _ tw_287⟩ (pv_S hK (hP.sub (ws' := []) [] rfl) (hD.sub (ws' := []) [] (by decide) rfl)) rfl rfl hl.1 rfl (lv_room (Nat.le_of_ble_eq_true rfl)) d_Gate_add_2 ⟨Nat.le_of_ble_eq_true rfl, Nat.le_of_ble_eq_true rfl⟩) hP hD hS hA [] [0, 1, 2, 3] rfl rfl (by decide) (by decide) (fun r_1 u_2 H locs hw hP hD hS => ?_)
  try dsimp only at hw
  subst hw
  have hP : va_P (dC, dI) classes [(x0, .inr (0, [.int (nI lm), .ref pg, .ref a_cp, .ref b_cp, .ref pn, .ref gv, .ref sh, .int bg, .int lt, .int em, .int sp, .int fd])), (pg, .inr (3, [.ref oa, .ref na, .int sz])), (oa, .inl (cI, 100, .inl ops)), (na, .inl (cI, 100, .inl nums))] H := hP
  have hD : va_D A [(x0, .inr (0, [.int (nI lm), .ref pg, .ref a_cp, .ref b_cp, .ref pn, .ref gv, .ref sh, .int bg, .int lt, .int em, .int sp, .int fd])), (pg, .inr (3, [.ref oa, .ref na, .int sz])), (oa, .inl (cI, 100, .inl ops)), (na, .inl (cI, 100, .inl nums))] := hD
  refine lv_if_ne (tgt := 18) hx hb d_Gate_add_5 (by decide) (fun c_3 => ?_) (fun c_3 => ?_)
  · skip
    refine lv_aload_n hx hb d_Gate_add_18 rfl (lv_at hl 0 rfl) ?_
    refine va_get (D := (dC, dI)) (ci := 0) (v := .int bg) (C := R_Gate) (T := F_Gate) (N := 12) hx hb htb iw_Gate hown hK.1 hP 0 rfl rfl 7 (by decide) (htb _ tw_125) (fun _ h9 => h9) rfl d_Gate_add_19 ?_
    refine lv_if_ne (tgt := 35) hx hb d_Gate_add_22 (by decide) (fun c_4 => ?_) (fun c_4 => ?_)
    · exact absurd (hb0) c_4
    · skip
      refine lv_aload_n hx hb d_Gate_add_25 rfl (lv_at hl 0 rfl) ?_
      refine va_get (D := (dC, dI)) (ci := 0) (v := .ref pg) (C := R_Gate) (T := F_Gate) (N := 12) hx hb htb iw_Gate hown hK.1 hP 0 rfl rfl 1 (by decide) (htb _ tw_119) (fun _ h9 => h9) rfl d_Gate_add_26 ?_
      refine af_i (wr := [(x0, .inr (0, [.int (nI lm), .ref pg, .ref a_cp, .ref b_cp, .ref pn, .ref gv, .ref sh, .int bg, .int lt, .int em, .int sp, .int fd]))]) (va_runV (As := []) (rest := []) ⟨hx, hb, hml, hown, htb⟩ (c_Prog_isFull l dC dI cI cL H.size pg oa na ops nums sz ) ⟨callB_of 0 htb (gd_w tw_360) rfl rfl rfl (htb _ tw_21) (htb _ tw_357) (by decide +kernel) ⟨Nat.le_of_ble_eq_true rfl, Nat.le_of_ble_eq_true rfl⟩, htb _ tw_358, htb _ tw_359⟩ (pv_V hK (hP.sub (ws' := [(pg, .inr (3, [.ref oa, .ref na, .int sz])), (oa, .inl (cI, 100, .inl ops)), (na, .inl (cI, 100, .inl nums))]) [1, 2, 3] rfl) (hD.sub (ws' := [(pg, .inr (3, [.ref oa, .ref na, .int sz])), (oa, .inl (cI, 100, .inl ops)), (na, .inl (cI, 100, .inl nums))]) [1, 2, 3] (by decide) rfl) (ci := 3) (q0 := 0) rfl rfl) rfl rfl hl.1 rfl (lv_room (Nat.le_of_ble_eq_true rfl)) d_Gate_add_29 ⟨Nat.le_of_ble_eq_true rfl, Nat.le_of_ble_eq_true rfl⟩) hP hD hS hA [1, 2, 3] [0] rfl rfl (by decide) (by decide) (fun r_5 u_6 H locs hw hP hD hS => ?_)
      try dsimp only at hw
      subst hw
      have hP : va_P (dC, dI) classes [(x0, .inr (0, [.int (nI lm), .ref pg, .ref a_cp, .ref b_cp, .ref pn, .ref gv, .ref sh, .int bg, .int lt, .int em, .int sp, .int fd])), (pg, .inr (3, [.ref oa, .ref na, .int sz])), (oa, .inl (cI, 100, .inl ops)), (na, .inl (cI, 100, .inl nums))] H := hP
      have hD : va_D A [(x0, .inr (0, [.int (nI lm), .ref pg, .ref a_cp, .ref b_cp, .ref pn, .ref gv, .ref sh, .int bg, .int lt, .int em, .int sp, .int fd])), (pg, .inr (3, [.ref oa, .ref na, .int sz])), (oa, .inl (cI, 100, .inl ops)), (na, .inl (cI, 100, .inl nums))] := hD
      refine lv_if_eq (tgt := 45) hx hb d_Gate_add_32 (by decide) (fun c_7 => ?_) (fun c_7 => ?_)
      · skip
        refine lv_aload_n hx hb d_Gate_add_45 rfl (lv_at hl 0 rfl) ?_
        refine va_get (D := (dC, dI)) (ci := 0) (v := .ref pg) (C := R_Gate) (T := F_Gate) (N := 12) hx hb htb iw_Gate hown hK.1 hP 0 rfl rfl 1 (by decide) (htb _ tw_119) (fun _ h9 => h9) rfl d_Gate_add_46 ?_
        refine lv_iload_n hx hb d_Gate_add_49 rfl (lv_at hl 1 rfl) ?_
        refine lv_iload_n hx hb d_Gate_add_50 rfl (lv_at hl 2 rfl) ?_
        refine af_v (wr := [(x0, .inr (0, [.int (nI lm), .ref pg, .ref a_cp, .ref b_cp, .ref pn, .ref gv, .ref sh, .int bg, .int lt, .int em, .int sp, .int fd]))]) (va_runV (As := [.int o0, .int n0]) (rest := []) ⟨hx, hb, hml, hown, htb⟩ (c_Prog_append l dC dI cI cL H.size pg oa na ops nums sz o0 n0 hs) ⟨callB_of 2 htb (gd_w tw_380) rfl rfl rfl (htb _ tw_21) (htb _ tw_377) (by decide +kernel) ⟨Nat.le_of_ble_eq_true rfl, Nat.le_of_ble_eq_true rfl⟩, htb _ tw_378, htb _ tw_379⟩ (pv_V hK (hP.sub (ws' := [(pg, .inr (3, [.ref oa, .ref na, .int sz])), (oa, .inl (cI, 100, .inl ops)), (na, .inl (cI, 100, .inl nums))]) [1, 2, 3] rfl) (hD.sub (ws' := [(pg, .inr (3, [.ref oa, .ref na, .int sz])), (oa, .inl (cI, 100, .inl ops)), (na, .inl (cI, 100, .inl nums))]) [1, 2, 3] (by decide) rfl) (ci := 3) (q0 := 0) rfl rfl) rfl rfl hl.1 rfl (lv_room (Nat.le_of_ble_eq_true rfl)) d_Gate_add_51 ⟨Nat.le_of_ble_eq_true rfl, Nat.le_of_ble_eq_true rfl⟩) hP hD hS hA [1, 2, 3] [0] rfl rfl (by decide) (by decide) (fun u_9 H locs hw hP hD hS => ?_)
        obtain ⟨z_10, z_11, z_12⟩ := u_9
        try dsimp only at hw
        obtain ⟨rfl, rfl, rfl⟩ := hw
        have hP : va_P (dC, dI) classes [(x0, .inr (0, [.int (nI lm), .ref pg, .ref a_cp, .ref b_cp, .ref pn, .ref gv, .ref sh, .int bg, .int lt, .int em, .int sp, .int fd])), (pg, .inr (3, [.ref oa, .ref na, .int (sz + 1)])), (oa, .inl (cI, 100, .inl (upd ops sz.toNatClampNeg o0))), (na, .inl (cI, 100, .inl (upd nums sz.toNatClampNeg n0)))] H := hP
        have hD : va_D A [(x0, .inr (0, [.int (nI lm), .ref pg, .ref a_cp, .ref b_cp, .ref pn, .ref gv, .ref sh, .int bg, .int lt, .int em, .int sp, .int fd])), (pg, .inr (3, [.ref oa, .ref na, .int (sz + 1)])), (oa, .inl (cI, 100, .inl (upd ops sz.toNatClampNeg o0))), (na, .inl (cI, 100, .inl (upd nums sz.toNatClampNeg n0)))] := hD
        refine lv_aload_n hx hb d_Gate_add_54 rfl (lv_at hl 0 rfl) ?_
        refine va_get (D := (dC, dI)) (ci := 0) (v := .ref pg) (C := R_Gate) (T := F_Gate) (N := 12) hx hb htb iw_Gate hown hK.1 hP 0 rfl rfl 1 (by decide) (htb _ tw_119) (fun _ h9 => h9) rfl d_Gate_add_55 ?_
        refine va_get (D := (dC, dI)) (ci := 3) (v := .int (sz + 1)) (C := R_Prog) (T := F_Prog) (N := 3) hx hb htb iw_Prog hown hK.1 hP 1 rfl rfl 2 (by decide) (htb _ tw_52) (fun _ h9 => h9) rfl d_Gate_add_58 ?_
        exact rt_i (v := sz + 1) (upd ops sz.toNatClampNeg o0, upd nums sz.toNatClampNeg n0, sz + 1) hx hb hr hlocks (show (sz + 1) = sz + 1 ∧ (upd ops sz.toNatClampNeg o0) = upd ops sz.toNatClampNeg o0 ∧ (upd nums sz.toNatClampNeg n0) = upd nums sz.toNatClampNeg n0 ∧ (sz + 1) = sz + 1 from (by simp only [and_self])) (hP.sub (ws' := [(x0, .inr (0, [.int (nI lm), .ref pg, .ref a_cp, .ref b_cp, .ref pn, .ref gv, .ref sh, .int bg, .int lt, .int em, .int sp, .int fd])), (pg, .inr (3, [.ref oa, .ref na, .int (sz + 1)])), (oa, .inl (cI, 100, .inl (upd ops sz.toNatClampNeg o0))), (na, .inl (cI, 100, .inl (upd nums sz.toNatClampNeg n0)))]) [0, 1, 2, 3] rfl) (hD.sub (ws' := [(x0, .inr (0, [.int (nI lm), .ref pg, .ref a_cp, .ref b_cp, .ref pn, .ref gv, .ref sh, .int bg, .int lt, .int em, .int sp, .int fd])), (pg, .inr (3, [.ref oa, .ref na, .int (sz + 1)])), (oa, .inl (cI, 100, .inl (upd ops sz.toNatClampNeg o0))), (na, .inl (cI, 100, .inl (upd nums sz.toNatClampNeg n0)))]) [0, 1, 2, 3] (by decide) rfl) hS d_Gate_add_61
      · exact absurd (hg0) c_7
  · exact absurd c_3 (hi)

set_option maxHeartbeats 4000000 in
set_option maxRecDepth 100000 in
theorem c_Gate_cell0 (l : Launch) (dC : Nat → ClassId) (dI : Nat → Nat → Nat) (cI cL : ClassId) (hs0 : Nat) (x0 : Nat) (lm : Nat) (pg : Nat) (a_cp : Nat) (b_cp : Nat) (pn : Nat) (gv : Nat) (sh : Nat) (bg : Int32) (lt : Int32) (em : Int32) (sp : Int32) (fd : Int32) (a_rw : Nat) (a_po : Nat) (a_rr : Nat → Int64) (a_pl : Int32) (b_rw : Nat) (b_po : Nat) (b_rr : Nat → Int64) (b_pl : Int32) (p1 : Int32) (p2 : Int32) (h1 : ¬ bl_w p1 2 = 0) (h2 : ¬ bl_w p2 18 = 0) : ct_l l y_Gate_cell b_Gate_cell 3 (some .long) ({ frames := 2, cells := 0, slots := 0, locals := 80 }) (dC, dI) cI cL [.ref x0, .int p1, .int p2] [(x0, .inr (0, [.int (nI lm), .ref pg, .ref a_cp, .ref b_cp, .ref pn, .ref gv, .ref sh, .int bg, .int lt, .int em, .int sp, .int fd])), (a_cp, .inr (1, [.long 1, .ref a_rw, .ref a_po, .int a_pl])), (a_rw, .inl (cL, 18, .inr (.inl a_rr))), (b_cp, .inr (1, [.long 58659, .ref b_rw, .ref b_po, .int b_pl])), (b_rw, .inl (cL, 18, .inr (.inl b_rr)))] hs0 (fun (r : Int64) (u : Unit) => r = (if p1 = 0 then a_rr p2.toNatClampNeg else b_rr p2.toNatClampNeg)) (fun u => [(x0, .inr (0, [.int (nI lm), .ref pg, .ref a_cp, .ref b_cp, .ref pn, .ref gv, .ref sh, .int bg, .int lt, .int em, .int sp, .int fd])), (a_cp, .inr (1, [.long 1, .ref a_rw, .ref a_po, .int a_pl])), (a_rw, .inl (cL, 18, .inr (.inl a_rr))), (b_cp, .inr (1, [.long 58659, .ref b_rw, .ref b_po, .int b_pl])), (b_rw, .inl (cL, 18, .inr (.inl b_rr)))]) 0 0 := by
  refine st_w (Qc := fun A => va_Ql (fun (r : Int64) (u : Unit) => r = (if p1 = 0 then a_rr p2.toNatClampNeg else b_rr p2.toNatClampNeg)) (fun (u : Unit) t => pos_w (dC, dI) A [(x0, .inr (0, [.int (nI lm), .ref pg, .ref a_cp, .ref b_cp, .ref pn, .ref gv, .ref sh, .int bg, .int lt, .int em, .int sp, .int fd])), (a_cp, .inr (1, [.long 1, .ref a_rw, .ref a_po, .int a_pl])), (a_rw, .inl (cL, 18, .inr (.inl a_rr))), (b_cp, .inr (1, [.long 58659, .ref b_rw, .ref b_po, .int b_pl])), (b_rw, .inl (cL, 18, .inr (.inl b_rr)))] t) A) (by decide) (Nat.le_of_ble_eq_true rfl) ?_
  intro p e s m below meth c A ls hfx hK hA hP hD hS hl
  obtain ⟨hx, hb, hml, hown, htb, hr, hlocks, hin⟩ := hfx
  have hl : lv_has ls 3 [(0, .ref x0), (1, .int p1), (2, .int p2)] := hl
  refine lv_iload_n hx hb d_Gate_cell_0 rfl (lv_at hl 1 rfl) ?_
  refine af_i (wr := [(x0, .inr (0, [.int (nI lm), .ref pg, .ref a_cp, .ref b_cp, .ref pn, .ref gv, .ref sh, .int bg, .int lt, .int em, .int sp, .int fd])), (a_cp, .inr (1, [.long 1, .ref a_rw, .ref a_po, .int a_pl])), (a_rw, .inl (cL, 18, .inr (.inl a_rr))), (b_cp, .inr (1, [.long 58659, .ref b_rw, .ref b_po, .int b_pl])), (b_rw, .inl (cL, 18, .inr (.inl b_rr)))]) (va_runS (As := [.int p1]) (rest := []) ⟨hx, hb, hml, hown, htb⟩ (c_Gate_isCopy l dC dI cI cL s.heap.size p1 ) ⟨callB_of 1 htb (gd_w tw_254) rfl rfl rfl (htb _ tw_20) (htb _ tw_252) (by decide +kernel) ⟨Nat.le_of_ble_eq_true rfl, Nat.le_of_ble_eq_true rfl⟩, htb _ tw_253⟩ (pv_S hK (hP.sub (ws' := []) [] rfl) (hD.sub (ws' := []) [] (by decide) rfl)) rfl rfl hl.1 rfl (lv_room (Nat.le_of_ble_eq_true rfl)) d_Gate_cell_1 ⟨Nat.le_of_ble_eq_true rfl, Nat.le_of_ble_eq_true rfl⟩) hP hD hS hA [] [0, 1, 2, 3, 4] rfl rfl (by decide) (by decide) (fun r_1 u_2 H locs hw hP hD hS => ?_)
  try dsimp only at hw
  subst hw
  have hP : va_P (dC, dI) classes [(x0, .inr (0, [.int (nI lm), .ref pg, .ref a_cp, .ref b_cp, .ref pn, .ref gv, .ref sh, .int bg, .int lt, .int em, .int sp, .int fd])), (a_cp, .inr (1, [.long 1, .ref a_rw, .ref a_po, .int a_pl])), (a_rw, .inl (cL, 18, .inr (.inl a_rr))), (b_cp, .inr (1, [.long 58659, .ref b_rw, .ref b_po, .int b_pl])), (b_rw, .inl (cL, 18, .inr (.inl b_rr)))] H := hP
  have hD : va_D A [(x0, .inr (0, [.int (nI lm), .ref pg, .ref a_cp, .ref b_cp, .ref pn, .ref gv, .ref sh, .int bg, .int lt, .int em, .int sp, .int fd])), (a_cp, .inr (1, [.long 1, .ref a_rw, .ref a_po, .int a_pl])), (a_rw, .inl (cL, 18, .inr (.inl a_rr))), (b_cp, .inr (1, [.long 58659, .ref b_rw, .ref b_po, .int b_pl])), (b_rw, .inl (cL, 18, .inr (.inl b_rr)))] := hD
  refine lv_if_eq (tgt := 14) hx hb d_Gate_cell_4 (by decide) (fun c_3 => ?_) (fun c_3 => ?_)
  · exact absurd c_3 (h1)
  · skip
    refine lv_iload_n hx hb d_Gate_cell_7 rfl (lv_at hl 2 rfl) ?_
    refine af_i (wr := [(x0, .inr (0, [.int (nI lm), .ref pg, .ref a_cp, .ref b_cp, .ref pn, .ref gv, .ref sh, .int bg, .int lt, .int em, .int sp, .int fd])), (a_cp, .inr (1, [.long 1, .ref a_rw, .ref a_po, .int a_pl])), (a_rw, .inl (cL, 18, .inr (.inl a_rr))), (b_cp, .inr (1, [.long 58659, .ref b_rw, .ref b_po, .int b_pl])), (b_rw, .inl (cL, 18, .inr (.inl b_rr)))]) (va_runS (As := [.int p2]) (rest := []) ⟨hx, hb, hml, hown, htb⟩ (c_Gate_isInRow l dC dI cI cL H.size p2 ) ⟨callB_of 1 htb (gd_w tw_257) rfl rfl rfl (htb _ tw_20) (htb _ tw_255) (by decide +kernel) ⟨Nat.le_of_ble_eq_true rfl, Nat.le_of_ble_eq_true rfl⟩, htb _ tw_256⟩ (pv_S hK (hP.sub (ws' := []) [] rfl) (hD.sub (ws' := []) [] (by decide) rfl)) rfl rfl hl.1 rfl (lv_room (Nat.le_of_ble_eq_true rfl)) d_Gate_cell_8 ⟨Nat.le_of_ble_eq_true rfl, Nat.le_of_ble_eq_true rfl⟩) hP hD hS hA [] [0, 1, 2, 3, 4] rfl rfl (by decide) (by decide) (fun r_4 u_5 H locs hw hP hD hS => ?_)
    try dsimp only at hw
    subst hw
    have hP : va_P (dC, dI) classes [(x0, .inr (0, [.int (nI lm), .ref pg, .ref a_cp, .ref b_cp, .ref pn, .ref gv, .ref sh, .int bg, .int lt, .int em, .int sp, .int fd])), (a_cp, .inr (1, [.long 1, .ref a_rw, .ref a_po, .int a_pl])), (a_rw, .inl (cL, 18, .inr (.inl a_rr))), (b_cp, .inr (1, [.long 58659, .ref b_rw, .ref b_po, .int b_pl])), (b_rw, .inl (cL, 18, .inr (.inl b_rr)))] H := hP
    have hD : va_D A [(x0, .inr (0, [.int (nI lm), .ref pg, .ref a_cp, .ref b_cp, .ref pn, .ref gv, .ref sh, .int bg, .int lt, .int em, .int sp, .int fd])), (a_cp, .inr (1, [.long 1, .ref a_rw, .ref a_po, .int a_pl])), (a_rw, .inl (cL, 18, .inr (.inl a_rr))), (b_cp, .inr (1, [.long 58659, .ref b_rw, .ref b_po, .int b_pl])), (b_rw, .inl (cL, 18, .inr (.inl b_rr)))] := hD
    refine lv_if_ne (tgt := 24) hx hb d_Gate_cell_11 (by decide) (fun c_6 => ?_) (fun c_6 => ?_)
    · skip
      refine lv_aload_n hx hb d_Gate_cell_24 rfl (lv_at hl 0 rfl) ?_
      refine lv_iload_n hx hb d_Gate_cell_25 rfl (lv_at hl 1 rfl) ?_
      by_cases c_7 : p1 = 0
      · skip
        refine af_r (wr := [(a_cp, .inr (1, [.long 1, .ref a_rw, .ref a_po, .int a_pl])), (a_rw, .inl (cL, 18, .inr (.inl a_rr))), (b_cp, .inr (1, [.long 58659, .ref b_rw, .ref b_po, .int b_pl])), (b_rw, .inl (cL, 18, .inr (.inl b_rr)))]) (va_runV (As := [.int p1]) (rest := []) ⟨hx, hb, hml, hown, htb⟩ (c_Gate_copyOf0 l dC dI cI cL H.size x0 lm pg a_cp b_cp pn gv sh bg lt em sp fd p1 c_7) ⟨callB_of 1 htb (gd_w tw_196) rfl rfl rfl (htb _ tw_20) (htb _ tw_193) (by decide +kernel) ⟨Nat.le_of_ble_eq_true rfl, Nat.le_of_ble_eq_true rfl⟩, htb _ tw_195, htb _ tw_3⟩ (pv_V hK (hP.sub (ws' := [(x0, .inr (0, [.int (nI lm), .ref pg, .ref a_cp, .ref b_cp, .ref pn, .ref gv, .ref sh, .int bg, .int lt, .int em, .int sp, .int fd]))]) [0] rfl) (hD.sub (ws' := [(x0, .inr (0, [.int (nI lm), .ref pg, .ref a_cp, .ref b_cp, .ref pn, .ref gv, .ref sh, .int bg, .int lt, .int em, .int sp, .int fd]))]) [0] (by decide) rfl) (ci := 0) (q0 := 0) rfl rfl) rfl rfl hl.1 rfl (lv_room (Nat.le_of_ble_eq_true rfl)) d_Gate_cell_26 ⟨Nat.le_of_ble_eq_true rfl, Nat.le_of_ble_eq_true rfl⟩) hP hD hS hA [0] [1, 2, 3, 4] rfl rfl (by decide) (by decide) (fun u_9 r_8 H locs hw hP hD hS => ?_)
        have hw : a_cp = r_8 := Eq.symm hw
        subst hw
        have hP : va_P (dC, dI) classes [(a_cp, .inr (1, [.long 1, .ref a_rw, .ref a_po, .int a_pl])), (a_rw, .inl (cL, 18, .inr (.inl a_rr))), (b_cp, .inr (1, [.long 58659, .ref b_rw, .ref b_po, .int b_pl])), (b_rw, .inl (cL, 18, .inr (.inl b_rr))), (x0, .inr (0, [.int (nI lm), .ref pg, .ref a_cp, .ref b_cp, .ref pn, .ref gv, .ref sh, .int bg, .int lt, .int em, .int sp, .int fd]))] H := hP
        have hD : va_D A [(a_cp, .inr (1, [.long 1, .ref a_rw, .ref a_po, .int a_pl])), (a_rw, .inl (cL, 18, .inr (.inl a_rr))), (b_cp, .inr (1, [.long 58659, .ref b_rw, .ref b_po, .int b_pl])), (b_rw, .inl (cL, 18, .inr (.inl b_rr))), (x0, .inr (0, [.int (nI lm), .ref pg, .ref a_cp, .ref b_cp, .ref pn, .ref gv, .ref sh, .int bg, .int lt, .int em, .int sp, .int fd]))] := hD
        refine va_get (D := (dC, dI)) (ci := 1) (v := .ref a_rw) (C := R_Copy) (T := F_Copy) (N := 4) hx hb htb iw_Copy hown hK.1 hP 0 rfl rfl 1 (by decide) (htb _ tw_70) (fun _ h9 => h9) rfl d_Gate_cell_29 ?_
        refine lv_iload_n hx hb d_Gate_cell_32 rfl (lv_at hl 2 rfl) ?_
        refine ld_l (v := a_rr p2.toNatClampNeg) (cA := cL) hx hb hK.1 hP 1 1 rfl rfl (bl_use (N := 18) (e := 18) (by decide) h2) rfl d_Gate_cell_33 ?_
        exact rt_l (v := a_rr p2.toNatClampNeg) () hx hb hr hlocks (show (a_rr p2.toNatClampNeg) = (if p1 = 0 then a_rr p2.toNatClampNeg else b_rr p2.toNatClampNeg) from (if_pos c_7).symm) (hP.sub (ws' := [(x0, .inr (0, [.int (nI lm), .ref pg, .ref a_cp, .ref b_cp, .ref pn, .ref gv, .ref sh, .int bg, .int lt, .int em, .int sp, .int fd])), (a_cp, .inr (1, [.long 1, .ref a_rw, .ref a_po, .int a_pl])), (a_rw, .inl (cL, 18, .inr (.inl a_rr))), (b_cp, .inr (1, [.long 58659, .ref b_rw, .ref b_po, .int b_pl])), (b_rw, .inl (cL, 18, .inr (.inl b_rr)))]) [4, 0, 1, 2, 3] rfl) (hD.sub (ws' := [(x0, .inr (0, [.int (nI lm), .ref pg, .ref a_cp, .ref b_cp, .ref pn, .ref gv, .ref sh, .int bg, .int lt, .int em, .int sp, .int fd])), (a_cp, .inr (1, [.long 1, .ref a_rw, .ref a_po, .int a_pl])), (a_rw, .inl (cL, 18, .inr (.inl a_rr))), (b_cp, .inr (1, [.long 58659, .ref b_rw, .ref b_po, .int b_pl])), (b_rw, .inl (cL, 18, .inr (.inl b_rr)))]) [4, 0, 1, 2, 3] (by decide) rfl) hS d_Gate_cell_34
      · skip
        refine af_r (wr := [(a_cp, .inr (1, [.long 1, .ref a_rw, .ref a_po, .int a_pl])), (a_rw, .inl (cL, 18, .inr (.inl a_rr))), (b_cp, .inr (1, [.long 58659, .ref b_rw, .ref b_po, .int b_pl])), (b_rw, .inl (cL, 18, .inr (.inl b_rr)))]) (va_runV (As := [.int p1]) (rest := []) ⟨hx, hb, hml, hown, htb⟩ (c_Gate_copyOf1 l dC dI cI cL H.size x0 lm pg a_cp b_cp pn gv sh bg lt em sp fd p1 c_7) ⟨callB_of 1 htb (gd_w tw_196) rfl rfl rfl (htb _ tw_20) (htb _ tw_193) (by decide +kernel) ⟨Nat.le_of_ble_eq_true rfl, Nat.le_of_ble_eq_true rfl⟩, htb _ tw_195, htb _ tw_3⟩ (pv_V hK (hP.sub (ws' := [(x0, .inr (0, [.int (nI lm), .ref pg, .ref a_cp, .ref b_cp, .ref pn, .ref gv, .ref sh, .int bg, .int lt, .int em, .int sp, .int fd]))]) [0] rfl) (hD.sub (ws' := [(x0, .inr (0, [.int (nI lm), .ref pg, .ref a_cp, .ref b_cp, .ref pn, .ref gv, .ref sh, .int bg, .int lt, .int em, .int sp, .int fd]))]) [0] (by decide) rfl) (ci := 0) (q0 := 0) rfl rfl) rfl rfl hl.1 rfl (lv_room (Nat.le_of_ble_eq_true rfl)) d_Gate_cell_26 ⟨Nat.le_of_ble_eq_true rfl, Nat.le_of_ble_eq_true rfl⟩) hP hD hS hA [0] [1, 2, 3, 4] rfl rfl (by decide) (by decide) (fun u_11 r_10 H locs hw hP hD hS => ?_)
        have hw : b_cp = r_10 := Eq.symm hw
        subst hw
        have hP : va_P (dC, dI) classes [(a_cp, .inr (1, [.long 1, .ref a_rw, .ref a_po, .int a_pl])), (a_rw, .inl (cL, 18, .inr (.inl a_rr))), (b_cp, .inr (1, [.long 58659, .ref b_rw, .ref b_po, .int b_pl])), (b_rw, .inl (cL, 18, .inr (.inl b_rr))), (x0, .inr (0, [.int (nI lm), .ref pg, .ref a_cp, .ref b_cp, .ref pn, .ref gv, .ref sh, .int bg, .int lt, .int em, .int sp, .int fd]))] H := hP
        have hD : va_D A [(a_cp, .inr (1, [.long 1, .ref a_rw, .ref a_po, .int a_pl])), (a_rw, .inl (cL, 18, .inr (.inl a_rr))), (b_cp, .inr (1, [.long 58659, .ref b_rw, .ref b_po, .int b_pl])), (b_rw, .inl (cL, 18, .inr (.inl b_rr))), (x0, .inr (0, [.int (nI lm), .ref pg, .ref a_cp, .ref b_cp, .ref pn, .ref gv, .ref sh, .int bg, .int lt, .int em, .int sp, .int fd]))] := hD
        refine va_get (D := (dC, dI)) (ci := 1) (v := .ref b_rw) (C := R_Copy) (T := F_Copy) (N := 4) hx hb htb iw_Copy hown hK.1 hP 2 rfl rfl 1 (by decide) (htb _ tw_70) (fun _ h9 => h9) rfl d_Gate_cell_29 ?_
        refine lv_iload_n hx hb d_Gate_cell_32 rfl (lv_at hl 2 rfl) ?_
        refine ld_l (v := b_rr p2.toNatClampNeg) (cA := cL) hx hb hK.1 hP 3 1 rfl rfl (bl_use (N := 18) (e := 18) (by decide) h2) rfl d_Gate_cell_33 ?_
        exact rt_l (v := b_rr p2.toNatClampNeg) () hx hb hr hlocks (show (b_rr p2.toNatClampNeg) = (if p1 = 0 then a_rr p2.toNatClampNeg else b_rr p2.toNatClampNeg) from (if_neg c_7).symm) (hP.sub (ws' := [(x0, .inr (0, [.int (nI lm), .ref pg, .ref a_cp, .ref b_cp, .ref pn, .ref gv, .ref sh, .int bg, .int lt, .int em, .int sp, .int fd])), (a_cp, .inr (1, [.long 1, .ref a_rw, .ref a_po, .int a_pl])), (a_rw, .inl (cL, 18, .inr (.inl a_rr))), (b_cp, .inr (1, [.long 58659, .ref b_rw, .ref b_po, .int b_pl])), (b_rw, .inl (cL, 18, .inr (.inl b_rr)))]) [4, 0, 1, 2, 3] rfl) (hD.sub (ws' := [(x0, .inr (0, [.int (nI lm), .ref pg, .ref a_cp, .ref b_cp, .ref pn, .ref gv, .ref sh, .int bg, .int lt, .int em, .int sp, .int fd])), (a_cp, .inr (1, [.long 1, .ref a_rw, .ref a_po, .int a_pl])), (a_rw, .inl (cL, 18, .inr (.inl a_rr))), (b_cp, .inr (1, [.long 58659, .ref b_rw, .ref b_po, .int b_pl])), (b_rw, .inl (cL, 18, .inr (.inl b_rr)))]) [4, 0, 1, 2, 3] (by decide) rfl) hS d_Gate_cell_34
    · exact absurd c_6 (h2)

set_option maxHeartbeats 4000000 in
set_option maxRecDepth 100000 in
theorem cp_Prog_isFull (l : Launch) (dC : Nat → ClassId) (dI : Nat → Nat → Nat) (cI cL : ClassId) (hs0 : Nat) (pg : Nat) (oa : Nat) (na : Nat) (ops : Nat → Int32) (nums : Nat → Int32) (sz : Int32) : Met l y_Prog_isFull (Cond.code y_Prog_isFull b_Prog_isFull 1 (some .boolean) :: TB_w) ({ frames := 0, cells := 0, slots := 0, locals := 0 }) (va_Pc [.ref pg] (pre_w (dC, dI) cI cL [(pg, .inr (3, [.ref oa, .ref na, .int sz])), (oa, .inl (cI, 100, .inl ops)), (na, .inl (cI, 100, .inl nums))] hs0)) (va_Qi (fun (r : Int32) (_ : Unit) => r = gu_w sz) (fun _ t => pos_w (dC, dI) (va_A [] hs0) [] t) (va_A [] hs0)) 0 0 (va_A [] hs0) := by
  refine st_p (post := fun (r : Int32) (_ : Unit) => r = gu_w sz) (by decide) (Nat.le_of_ble_eq_true rfl) ?_
  intro p e s m below meth c A ls hfx hK hP hS hl
  obtain ⟨hx, hb, hml, hown, htb, hr, hlocks, hin⟩ := hfx
  have hl : lv_has ls 1 [(0, .ref pg)] := hl
  refine lv_aload_n hx hb d_Prog_isFull_0 rfl (lv_at hl 0 rfl) ?_
  refine va_get (D := (dC, dI)) (ci := 3) (v := .int sz) (C := R_Prog) (T := F_Prog) (N := 3) hx hb htb iw_Prog hown hK.1 hP 0 rfl rfl 2 (by decide) (htb _ tw_51) (fun _ h9 => h9) rfl d_Prog_isFull_1 ?_
  refine lv_bipush (v := 100) hx hb d_Prog_isFull_4 (by decide) ?_
  refine lv_icmp_lt (tgt := 13) hx hb d_Prog_isFull_6 (by decide) (fun c_1 => ?_) (fun c_1 => ?_)
  · have c_1 : sz < 100 := c_1
    refine lv_iconst (v := 0) hx hb d_Prog_isFull_13 (by decide) ?_
    exact rt_z (v := 0) (out := fun _ => []) () hx hb hr hlocks (by decide) (show (0 : Int32) = gu_w sz from (by simp only [gu_w, if_pos c_1])) (fun k q h => by simp at h) ⟨fun i j p q h => by simp at h, fun k q h => by simp at h⟩ hS d_Prog_isFull_14
  · have c_1 : ¬ sz < 100 := c_1
    refine lv_iconst (v := 1) hx hb d_Prog_isFull_9 (by decide) ?_
    refine lv_goto (tgt := 14) hx hb d_Prog_isFull_10 (by decide) ?_
    exact rt_z (v := 1) (out := fun _ => []) () hx hb hr hlocks (by decide) (show (1 : Int32) = gu_w sz from (by simp only [gu_w, if_neg c_1])) (fun k q h => by simp at h) ⟨fun i j p q h => by simp at h, fun k q h => by simp at h⟩ hS d_Prog_isFull_14

set_option maxHeartbeats 4000000 in
set_option maxRecDepth 100000 in
theorem c_Gate_addTa (l : Launch) (hfl : l.stackTraces = false) (dC : Nat → ClassId) (dI : Nat → Nat → Nat) (cI cL : ClassId) (hs0 : Nat) (x0 : Nat) (lm : Nat) (pg : Nat) (a_cp : Nat) (b_cp : Nat) (pn : Nat) (gv : Nat) (sh : Nat) (bg : Int32) (lt : Int32) (em : Int32) (sp : Int32) (fd : Int32) (oa : Nat) (na : Nat) (ops : Nat → Int32) (nums : Nat → Int32) (sz : Int32) (o0 : Int32) (n0 : Int32) (hi : ii_w o0 n0 = 0) : mt_w l y_Gate_add b_Gate_add 3 (some .int) ({ frames := 6, cells := 1, slots := 6, locals := 240 }) (va_Pc [.ref x0, .int o0, .int n0] (pre_t (dC, dI) cI cL [(x0, .inr (0, [.int (nI lm), .ref pg, .ref a_cp, .ref b_cp, .ref pn, .ref gv, .ref sh, .int bg, .int lt, .int em, .int sp, .int fd])), (pg, .inr (3, [.ref oa, .ref na, .int sz])), (oa, .inl (cI, 100, .inl ops)), (na, .inl (cI, 100, .inl nums))] hs0)) "java/lang/IllegalArgumentException" := by
  refine st_t (by decide) (Nat.le_of_ble_eq_true rfl) ?_
  intro p e s m below meth c ls hfx hK hP0 hD0 hZ hM hne hl
  obtain ⟨hx, hb, hml, hown, htb, hr, hlocks, hin⟩ := hfx
  have hl : lv_has ls 3 [(0, .ref x0), (1, .int o0), (2, .int n0)] := hl
  have hA : ∀ q : Nat, s.heap.size ≤ q → (fun q : Nat => s.heap.size ≤ q) q := fun _ h => h
  have hS : va_S (fun q : Nat => s.heap.size ≤ q) s.heap s.heap [] := va_S.rf
  have hP : va_P (dC, dI) classes [] s.heap := fun k q h => by simp at h
  have hD : va_D (fun q : Nat => s.heap.size ≤ q) [] := ⟨fun i j p q h => by simp at h, fun k q h => by simp at h⟩
  refine lv_iload_n hx hb d_Gate_add_0 rfl (lv_at hl 1 rfl) ?_
  refine lv_iload_n hx hb d_Gate_add_1 rfl (lv_at hl 2 rfl) ?_
  refine af_i (wr := []) (va_runS (As := [.int o0, .int n0]) (rest := []) ⟨hx, hb, hml, hown, htb⟩ (c_Gate_isInstruction l dC dI cI cL s.heap.size o0 n0 ) ⟨callB_of 2 htb (gd_w tw_288) rfl rfl rfl (htb _ tw_20) (htb _ tw_286) (by decide +kernel) ⟨Nat.le_of_ble_eq_true rfl, Nat.le_of_ble_eq_true rfl⟩, htb _ tw_287⟩ (pv_S hK (hP.sub (ws' := []) [] rfl) (hD.sub (ws' := []) [] (by decide) rfl)) rfl rfl hl.1 rfl (lv_room (Nat.le_of_ble_eq_true rfl)) d_Gate_add_2 ⟨Nat.le_of_ble_eq_true rfl, Nat.le_of_ble_eq_true rfl⟩) hP hD hS hA [] [] rfl rfl (by decide) (by decide) (fun r_1 u_2 H locs hw hP hD hS => ?_)
  try dsimp only at hw
  subst hw
  have hP : va_P (dC, dI) classes [] H := hP
  have hD : va_D (fun q : Nat => s.heap.size ≤ q) [] := hD
  refine lv_if_ne (tgt := 18) hx hb d_Gate_add_5 (by decide) (fun c_3 => ?_) (fun c_3 => ?_)
  · exact absurd (hi) c_3
  · skip
    obtain ⟨mq, hmq⟩ := hM.1
    refine va_forget (fun q hq => hS.2.2 q hq) ?_
    exact tr_w (own := R_Gate) hx hb (by rw [hml]; exact hl.1.symm) hown hlocks hne hfl (htb _ tw_289) (htb _ tw_290) (htb _ tw_29) hmq (oa_in htb hZ oa_1) (by decide) (by decide) d_Gate_add_8 d_Gate_add_11 d_Gate_add_12 d_Gate_add_14 d_Gate_add_17 hS.1 (by decide) (by decide) (by decide) (by decide)

set_option maxHeartbeats 4000000 in
set_option maxRecDepth 100000 in
theorem c_Gate_addTb (l : Launch) (hfl : l.stackTraces = false) (dC : Nat → ClassId) (dI : Nat → Nat → Nat) (cI cL : ClassId) (hs0 : Nat) (x0 : Nat) (lm : Nat) (pg : Nat) (a_cp : Nat) (b_cp : Nat) (pn : Nat) (gv : Nat) (sh : Nat) (bg : Int32) (lt : Int32) (em : Int32) (sp : Int32) (fd : Int32) (oa : Nat) (na : Nat) (ops : Nat → Int32) (nums : Nat → Int32) (sz : Int32) (o0 : Int32) (n0 : Int32) (hi : ¬ ii_w o0 n0 = 0) (hb0 : ¬ bg = 0) : mt_w l y_Gate_add b_Gate_add 3 (some .int) ({ frames := 6, cells := 1, slots := 6, locals := 240 }) (va_Pc [.ref x0, .int o0, .int n0] (pre_t (dC, dI) cI cL [(x0, .inr (0, [.int (nI lm), .ref pg, .ref a_cp, .ref b_cp, .ref pn, .ref gv, .ref sh, .int bg, .int lt, .int em, .int sp, .int fd])), (pg, .inr (3, [.ref oa, .ref na, .int sz])), (oa, .inl (cI, 100, .inl ops)), (na, .inl (cI, 100, .inl nums))] hs0)) "java/lang/IllegalStateException" := by
  refine st_t (by decide) (Nat.le_of_ble_eq_true rfl) ?_
  intro p e s m below meth c ls hfx hK hP0 hD0 hZ hM hne hl
  obtain ⟨hx, hb, hml, hown, htb, hr, hlocks, hin⟩ := hfx
  have hl : lv_has ls 3 [(0, .ref x0), (1, .int o0), (2, .int n0)] := hl
  have hA : ∀ q : Nat, s.heap.size ≤ q → (fun q : Nat => s.heap.size ≤ q) q := fun _ h => h
  have hS : va_S (fun q : Nat => s.heap.size ≤ q) s.heap s.heap [] := va_S.rf
  have hP : va_P (dC, dI) classes [] s.heap := fun k q h => by simp at h
  have hD : va_D (fun q : Nat => s.heap.size ≤ q) [] := ⟨fun i j p q h => by simp at h, fun k q h => by simp at h⟩
  refine lv_iload_n hx hb d_Gate_add_0 rfl (lv_at hl 1 rfl) ?_
  refine lv_iload_n hx hb d_Gate_add_1 rfl (lv_at hl 2 rfl) ?_
  refine af_i (wr := []) (va_runS (As := [.int o0, .int n0]) (rest := []) ⟨hx, hb, hml, hown, htb⟩ (c_Gate_isInstruction l dC dI cI cL s.heap.size o0 n0 ) ⟨callB_of 2 htb (gd_w tw_288) rfl rfl rfl (htb _ tw_20) (htb _ tw_286) (by decide +kernel) ⟨Nat.le_of_ble_eq_true rfl, Nat.le_of_ble_eq_true rfl⟩, htb _ tw_287⟩ (pv_S hK (hP.sub (ws' := []) [] rfl) (hD.sub (ws' := []) [] (by decide) rfl)) rfl rfl hl.1 rfl (lv_room (Nat.le_of_ble_eq_true rfl)) d_Gate_add_2 ⟨Nat.le_of_ble_eq_true rfl, Nat.le_of_ble_eq_true rfl⟩) hP hD hS hA [] [] rfl rfl (by decide) (by decide) (fun r_1 u_2 H locs hw hP hD hS => ?_)
  try dsimp only at hw
  subst hw
  have hP : va_P (dC, dI) classes [] H := hP
  have hD : va_D (fun q : Nat => s.heap.size ≤ q) [] := hD
  refine lv_if_ne (tgt := 18) hx hb d_Gate_add_5 (by decide) (fun c_3 => ?_) (fun c_3 => ?_)
  · skip
    have hPe := hP
    have hDe := hD
    have hP : va_P (dC, dI) classes [(x0, .inr (0, [.int (nI lm), .ref pg, .ref a_cp, .ref b_cp, .ref pn, .ref gv, .ref sh, .int bg, .int lt, .int em, .int sp, .int fd])), (pg, .inr (3, [.ref oa, .ref na, .int sz])), (oa, .inl (cI, 100, .inl ops)), (na, .inl (cI, 100, .inl nums))] H := kp_0 hP0 hS
    refine lv_aload_n hx hb d_Gate_add_18 rfl (lv_at hl 0 rfl) ?_
    refine va_get (D := (dC, dI)) (ci := 0) (v := .int bg) (C := R_Gate) (T := F_Gate) (N := 12) hx hb htb iw_Gate hown hK.1 hP 0 rfl rfl 7 (by decide) (htb _ tw_125) (fun _ h9 => h9) rfl d_Gate_add_19 ?_
    refine lv_if_ne (tgt := 35) hx hb d_Gate_add_22 (by decide) (fun c_4 => ?_) (fun c_4 => ?_)
    · skip
      obtain ⟨mq, hmq⟩ := hM.2.1
      refine va_forget (fun q hq => hS.2.2 q hq) ?_
      exact tr_w (own := R_Gate) hx hb (by rw [hml]; exact hl.1.symm) hown hlocks hne hfl (htb _ tw_361) (htb _ tw_362) (htb _ tw_30) hmq (oa_in htb hZ oa_2) (by decide) (by decide) d_Gate_add_35 d_Gate_add_38 d_Gate_add_39 d_Gate_add_41 d_Gate_add_44 hS.1 (by decide) (by decide) (by decide) (by decide)
    · exact absurd c_4 (hb0)
  · exact absurd c_3 (hi)

set_option maxHeartbeats 4000000 in
set_option maxRecDepth 100000 in
theorem c_Gate_addTc (l : Launch) (hfl : l.stackTraces = false) (dC : Nat → ClassId) (dI : Nat → Nat → Nat) (cI cL : ClassId) (hs0 : Nat) (x0 : Nat) (lm : Nat) (pg : Nat) (a_cp : Nat) (b_cp : Nat) (pn : Nat) (gv : Nat) (sh : Nat) (bg : Int32) (lt : Int32) (em : Int32) (sp : Int32) (fd : Int32) (oa : Nat) (na : Nat) (ops : Nat → Int32) (nums : Nat → Int32) (sz : Int32) (o0 : Int32) (n0 : Int32) (hi : ¬ ii_w o0 n0 = 0) (hb0 : bg = 0) (hg0 : ¬ gu_w sz = 0) : mt_w l y_Gate_add b_Gate_add 3 (some .int) ({ frames := 6, cells := 1, slots := 6, locals := 240 }) (va_Pc [.ref x0, .int o0, .int n0] (pre_t (dC, dI) cI cL [(x0, .inr (0, [.int (nI lm), .ref pg, .ref a_cp, .ref b_cp, .ref pn, .ref gv, .ref sh, .int bg, .int lt, .int em, .int sp, .int fd])), (pg, .inr (3, [.ref oa, .ref na, .int sz])), (oa, .inl (cI, 100, .inl ops)), (na, .inl (cI, 100, .inl nums))] hs0)) "java/lang/IllegalStateException" := by
  refine st_t (by decide) (Nat.le_of_ble_eq_true rfl) ?_
  intro p e s m below meth c ls hfx hK hP0 hD0 hZ hM hne hl
  obtain ⟨hx, hb, hml, hown, htb, hr, hlocks, hin⟩ := hfx
  have hl : lv_has ls 3 [(0, .ref x0), (1, .int o0), (2, .int n0)] := hl
  have hA : ∀ q : Nat, s.heap.size ≤ q → (fun q : Nat => s.heap.size ≤ q) q := fun _ h => h
  have hS : va_S (fun q : Nat => s.heap.size ≤ q) s.heap s.heap [] := va_S.rf
  have hP : va_P (dC, dI) classes [] s.heap := fun k q h => by simp at h
  have hD : va_D (fun q : Nat => s.heap.size ≤ q) [] := ⟨fun i j p q h => by simp at h, fun k q h => by simp at h⟩
  refine lv_iload_n hx hb d_Gate_add_0 rfl (lv_at hl 1 rfl) ?_
  refine lv_iload_n hx hb d_Gate_add_1 rfl (lv_at hl 2 rfl) ?_
  refine af_i (wr := []) (va_runS (As := [.int o0, .int n0]) (rest := []) ⟨hx, hb, hml, hown, htb⟩ (c_Gate_isInstruction l dC dI cI cL s.heap.size o0 n0 ) ⟨callB_of 2 htb (gd_w tw_288) rfl rfl rfl (htb _ tw_20) (htb _ tw_286) (by decide +kernel) ⟨Nat.le_of_ble_eq_true rfl, Nat.le_of_ble_eq_true rfl⟩, htb _ tw_287⟩ (pv_S hK (hP.sub (ws' := []) [] rfl) (hD.sub (ws' := []) [] (by decide) rfl)) rfl rfl hl.1 rfl (lv_room (Nat.le_of_ble_eq_true rfl)) d_Gate_add_2 ⟨Nat.le_of_ble_eq_true rfl, Nat.le_of_ble_eq_true rfl⟩) hP hD hS hA [] [] rfl rfl (by decide) (by decide) (fun r_1 u_2 H locs hw hP hD hS => ?_)
  try dsimp only at hw
  subst hw
  have hP : va_P (dC, dI) classes [] H := hP
  have hD : va_D (fun q : Nat => s.heap.size ≤ q) [] := hD
  refine lv_if_ne (tgt := 18) hx hb d_Gate_add_5 (by decide) (fun c_3 => ?_) (fun c_3 => ?_)
  · skip
    have hPe := hP
    have hDe := hD
    have hP : va_P (dC, dI) classes [(x0, .inr (0, [.int (nI lm), .ref pg, .ref a_cp, .ref b_cp, .ref pn, .ref gv, .ref sh, .int bg, .int lt, .int em, .int sp, .int fd])), (pg, .inr (3, [.ref oa, .ref na, .int sz])), (oa, .inl (cI, 100, .inl ops)), (na, .inl (cI, 100, .inl nums))] H := kp_0 hP0 hS
    refine lv_aload_n hx hb d_Gate_add_18 rfl (lv_at hl 0 rfl) ?_
    refine va_get (D := (dC, dI)) (ci := 0) (v := .int bg) (C := R_Gate) (T := F_Gate) (N := 12) hx hb htb iw_Gate hown hK.1 hP 0 rfl rfl 7 (by decide) (htb _ tw_125) (fun _ h9 => h9) rfl d_Gate_add_19 ?_
    refine lv_if_ne (tgt := 35) hx hb d_Gate_add_22 (by decide) (fun c_4 => ?_) (fun c_4 => ?_)
    · exact absurd (hb0) c_4
    · skip
      refine lv_aload_n hx hb d_Gate_add_25 rfl (lv_at hl 0 rfl) ?_
      refine va_get (D := (dC, dI)) (ci := 0) (v := .ref pg) (C := R_Gate) (T := F_Gate) (N := 12) hx hb htb iw_Gate hown hK.1 hP 0 rfl rfl 1 (by decide) (htb _ tw_119) (fun _ h9 => h9) rfl d_Gate_add_26 ?_
      refine af_i (ws := []) (wc := []) (wr := []) (va_runV (As := []) (rest := []) ⟨hx, hb, hml, hown, htb⟩ (cp_Prog_isFull l dC dI cI cL H.size pg oa na ops nums sz) ⟨callB_of 0 htb (gd_w tw_360) rfl rfl rfl (htb _ tw_21) (htb _ tw_357) (by decide +kernel) ⟨Nat.le_of_ble_eq_true rfl, Nat.le_of_ble_eq_true rfl⟩, htb _ tw_358, htb _ tw_359⟩ (pv_V hK (hP.sub (ws' := [(pg, .inr (3, [.ref oa, .ref na, .int sz])), (oa, .inl (cI, 100, .inl ops)), (na, .inl (cI, 100, .inl nums))]) [1, 2, 3] rfl) (hD0.sub (ws' := [(pg, .inr (3, [.ref oa, .ref na, .int sz])), (oa, .inl (cI, 100, .inl ops)), (na, .inl (cI, 100, .inl nums))]) [1, 2, 3] (by decide) rfl) (ci := 3) (q0 := 0) rfl rfl) rfl rfl hl.1 rfl (lv_room (Nat.le_of_ble_eq_true rfl)) d_Gate_add_29 ⟨Nat.le_of_ble_eq_true rfl, Nat.le_of_ble_eq_true rfl⟩) hPe hDe hS hA [] [] rfl rfl (by decide) (by decide) (fun r_9 u_9 H locs hw hPe hDe hS => ?_)
      have hw : r_9 = gu_w sz := hw
      subst hw
      refine lv_if_eq (tgt := 45) hx hb d_Gate_add_32 (by decide) (fun c_5 => ?_) (fun c_5 => ?_)
      · exact absurd c_5 (hg0)
      · skip
        obtain ⟨mq, hmq⟩ := hM.2.1
        refine va_forget (fun q hq => hS.2.2 q hq) ?_
        exact tr_w (own := R_Gate) hx hb (by rw [hml]; exact hl.1.symm) hown hlocks hne hfl (htb _ tw_361) (htb _ tw_362) (htb _ tw_30) hmq (oa_in htb hZ oa_2) (by decide) (by decide) d_Gate_add_35 d_Gate_add_38 d_Gate_add_39 d_Gate_add_41 d_Gate_add_44 hS.1 (by decide) (by decide) (by decide) (by decide)
  · exact absurd c_3 (hi)

set_option maxHeartbeats 4000000 in
set_option maxRecDepth 100000 in
theorem c_Gate_cellTa (l : Launch) (hfl : l.stackTraces = false) (dC : Nat → ClassId) (dI : Nat → Nat → Nat) (cI cL : ClassId) (hs0 : Nat) (x0 : Nat) (lm : Nat) (pg : Nat) (a_cp : Nat) (b_cp : Nat) (pn : Nat) (gv : Nat) (sh : Nat) (bg : Int32) (lt : Int32) (em : Int32) (sp : Int32) (fd : Int32) (a_rw : Nat) (a_po : Nat) (a_rr : Nat → Int64) (a_pl : Int32) (b_rw : Nat) (b_po : Nat) (b_rr : Nat → Int64) (b_pl : Int32) (p1 : Int32) (p2 : Int32) (h1 : bl_w p1 2 = 0) : mt_w l y_Gate_cell b_Gate_cell 3 (some .long) ({ frames := 6, cells := 1, slots := 6, locals := 240 }) (va_Pc [.ref x0, .int p1, .int p2] (pre_t (dC, dI) cI cL [(x0, .inr (0, [.int (nI lm), .ref pg, .ref a_cp, .ref b_cp, .ref pn, .ref gv, .ref sh, .int bg, .int lt, .int em, .int sp, .int fd])), (a_cp, .inr (1, [.long 1, .ref a_rw, .ref a_po, .int a_pl])), (a_rw, .inl (cL, 18, .inr (.inl a_rr))), (b_cp, .inr (1, [.long 58659, .ref b_rw, .ref b_po, .int b_pl])), (b_rw, .inl (cL, 18, .inr (.inl b_rr)))] hs0)) "java/lang/IndexOutOfBoundsException" := by
  refine st_t (by decide) (Nat.le_of_ble_eq_true rfl) ?_
  intro p e s m below meth c ls hfx hK hP0 hD0 hZ hM hne hl
  obtain ⟨hx, hb, hml, hown, htb, hr, hlocks, hin⟩ := hfx
  have hl : lv_has ls 3 [(0, .ref x0), (1, .int p1), (2, .int p2)] := hl
  have hA : ∀ q : Nat, s.heap.size ≤ q → (fun q : Nat => s.heap.size ≤ q) q := fun _ h => h
  have hS : va_S (fun q : Nat => s.heap.size ≤ q) s.heap s.heap [] := va_S.rf
  have hP : va_P (dC, dI) classes [] s.heap := fun k q h => by simp at h
  have hD : va_D (fun q : Nat => s.heap.size ≤ q) [] := ⟨fun i j p q h => by simp at h, fun k q h => by simp at h⟩
  refine lv_iload_n hx hb d_Gate_cell_0 rfl (lv_at hl 1 rfl) ?_
  refine af_i (wr := []) (va_runS (As := [.int p1]) (rest := []) ⟨hx, hb, hml, hown, htb⟩ (c_Gate_isCopy l dC dI cI cL s.heap.size p1 ) ⟨callB_of 1 htb (gd_w tw_254) rfl rfl rfl (htb _ tw_20) (htb _ tw_252) (by decide +kernel) ⟨Nat.le_of_ble_eq_true rfl, Nat.le_of_ble_eq_true rfl⟩, htb _ tw_253⟩ (pv_S hK (hP.sub (ws' := []) [] rfl) (hD.sub (ws' := []) [] (by decide) rfl)) rfl rfl hl.1 rfl (lv_room (Nat.le_of_ble_eq_true rfl)) d_Gate_cell_1 ⟨Nat.le_of_ble_eq_true rfl, Nat.le_of_ble_eq_true rfl⟩) hP hD hS hA [] [] rfl rfl (by decide) (by decide) (fun r_1 u_2 H locs hw hP hD hS => ?_)
  try dsimp only at hw
  subst hw
  have hP : va_P (dC, dI) classes [] H := hP
  have hD : va_D (fun q : Nat => s.heap.size ≤ q) [] := hD
  refine lv_if_eq (tgt := 14) hx hb d_Gate_cell_4 (by decide) (fun c_3 => ?_) (fun c_3 => ?_)
  · skip
    obtain ⟨mq, hmq⟩ := hM.2.2
    refine va_forget (fun q hq => hS.2.2 q hq) ?_
    exact tr_w (own := R_Gate) hx hb (by rw [hml]; exact hl.1.symm) hown hlocks hne hfl (htb _ tw_389) (htb _ tw_390) (htb _ tw_32) hmq (oa_in htb hZ oa_3) (by decide) (by decide) d_Gate_cell_14 d_Gate_cell_17 d_Gate_cell_18 d_Gate_cell_20 d_Gate_cell_23 hS.1 (by decide) (by decide) (by decide) (by decide)
  · exact absurd (h1) c_3

set_option maxHeartbeats 4000000 in
set_option maxRecDepth 100000 in
theorem c_Gate_cellTb (l : Launch) (hfl : l.stackTraces = false) (dC : Nat → ClassId) (dI : Nat → Nat → Nat) (cI cL : ClassId) (hs0 : Nat) (x0 : Nat) (lm : Nat) (pg : Nat) (a_cp : Nat) (b_cp : Nat) (pn : Nat) (gv : Nat) (sh : Nat) (bg : Int32) (lt : Int32) (em : Int32) (sp : Int32) (fd : Int32) (a_rw : Nat) (a_po : Nat) (a_rr : Nat → Int64) (a_pl : Int32) (b_rw : Nat) (b_po : Nat) (b_rr : Nat → Int64) (b_pl : Int32) (p1 : Int32) (p2 : Int32) (h1 : ¬ bl_w p1 2 = 0) (h2 : bl_w p2 18 = 0) : mt_w l y_Gate_cell b_Gate_cell 3 (some .long) ({ frames := 6, cells := 1, slots := 6, locals := 240 }) (va_Pc [.ref x0, .int p1, .int p2] (pre_t (dC, dI) cI cL [(x0, .inr (0, [.int (nI lm), .ref pg, .ref a_cp, .ref b_cp, .ref pn, .ref gv, .ref sh, .int bg, .int lt, .int em, .int sp, .int fd])), (a_cp, .inr (1, [.long 1, .ref a_rw, .ref a_po, .int a_pl])), (a_rw, .inl (cL, 18, .inr (.inl a_rr))), (b_cp, .inr (1, [.long 58659, .ref b_rw, .ref b_po, .int b_pl])), (b_rw, .inl (cL, 18, .inr (.inl b_rr)))] hs0)) "java/lang/IndexOutOfBoundsException" := by
  refine st_t (by decide) (Nat.le_of_ble_eq_true rfl) ?_
  intro p e s m below meth c ls hfx hK hP0 hD0 hZ hM hne hl
  obtain ⟨hx, hb, hml, hown, htb, hr, hlocks, hin⟩ := hfx
  have hl : lv_has ls 3 [(0, .ref x0), (1, .int p1), (2, .int p2)] := hl
  have hA : ∀ q : Nat, s.heap.size ≤ q → (fun q : Nat => s.heap.size ≤ q) q := fun _ h => h
  have hS : va_S (fun q : Nat => s.heap.size ≤ q) s.heap s.heap [] := va_S.rf
  have hP : va_P (dC, dI) classes [] s.heap := fun k q h => by simp at h
  have hD : va_D (fun q : Nat => s.heap.size ≤ q) [] := ⟨fun i j p q h => by simp at h, fun k q h => by simp at h⟩
  refine lv_iload_n hx hb d_Gate_cell_0 rfl (lv_at hl 1 rfl) ?_
  refine af_i (wr := []) (va_runS (As := [.int p1]) (rest := []) ⟨hx, hb, hml, hown, htb⟩ (c_Gate_isCopy l dC dI cI cL s.heap.size p1 ) ⟨callB_of 1 htb (gd_w tw_254) rfl rfl rfl (htb _ tw_20) (htb _ tw_252) (by decide +kernel) ⟨Nat.le_of_ble_eq_true rfl, Nat.le_of_ble_eq_true rfl⟩, htb _ tw_253⟩ (pv_S hK (hP.sub (ws' := []) [] rfl) (hD.sub (ws' := []) [] (by decide) rfl)) rfl rfl hl.1 rfl (lv_room (Nat.le_of_ble_eq_true rfl)) d_Gate_cell_1 ⟨Nat.le_of_ble_eq_true rfl, Nat.le_of_ble_eq_true rfl⟩) hP hD hS hA [] [] rfl rfl (by decide) (by decide) (fun r_1 u_2 H locs hw hP hD hS => ?_)
  try dsimp only at hw
  subst hw
  have hP : va_P (dC, dI) classes [] H := hP
  have hD : va_D (fun q : Nat => s.heap.size ≤ q) [] := hD
  refine lv_if_eq (tgt := 14) hx hb d_Gate_cell_4 (by decide) (fun c_3 => ?_) (fun c_3 => ?_)
  · exact absurd c_3 (h1)
  · skip
    refine lv_iload_n hx hb d_Gate_cell_7 rfl (lv_at hl 2 rfl) ?_
    refine af_i (wr := []) (va_runS (As := [.int p2]) (rest := []) ⟨hx, hb, hml, hown, htb⟩ (c_Gate_isInRow l dC dI cI cL H.size p2 ) ⟨callB_of 1 htb (gd_w tw_257) rfl rfl rfl (htb _ tw_20) (htb _ tw_255) (by decide +kernel) ⟨Nat.le_of_ble_eq_true rfl, Nat.le_of_ble_eq_true rfl⟩, htb _ tw_256⟩ (pv_S hK (hP.sub (ws' := []) [] rfl) (hD.sub (ws' := []) [] (by decide) rfl)) rfl rfl hl.1 rfl (lv_room (Nat.le_of_ble_eq_true rfl)) d_Gate_cell_8 ⟨Nat.le_of_ble_eq_true rfl, Nat.le_of_ble_eq_true rfl⟩) hP hD hS hA [] [] rfl rfl (by decide) (by decide) (fun r_4 u_5 H locs hw hP hD hS => ?_)
    try dsimp only at hw
    subst hw
    have hP : va_P (dC, dI) classes [] H := hP
    have hD : va_D (fun q : Nat => s.heap.size ≤ q) [] := hD
    refine lv_if_ne (tgt := 24) hx hb d_Gate_cell_11 (by decide) (fun c_6 => ?_) (fun c_6 => ?_)
    · exact absurd (h2) c_6
    · skip
      obtain ⟨mq, hmq⟩ := hM.2.2
      refine va_forget (fun q hq => hS.2.2 q hq) ?_
      exact tr_w (own := R_Gate) hx hb (by rw [hml]; exact hl.1.symm) hown hlocks hne hfl (htb _ tw_389) (htb _ tw_390) (htb _ tw_32) hmq (oa_in htb hZ oa_3) (by decide) (by decide) d_Gate_cell_14 d_Gate_cell_17 d_Gate_cell_18 d_Gate_cell_20 d_Gate_cell_23 hS.1 (by decide) (by decide) (by decide) (by decide)
