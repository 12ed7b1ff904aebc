theorem tw_164 : (Cond.code y_Gate_isBelow b_Gate_isBelow 2 (some .boolean)) ∈ TB_w := List.mem_filter.mpr ⟨List.mem_of_getElem? (i := 164) rfl, by decide +kernel⟩
theorem tw_20 : (Cond.initialized R_Gate) ∈ TB_w := List.mem_filter.mpr ⟨List.mem_of_getElem? (i := 20) (by decide +kernel), by decide +kernel⟩
theorem tw_162 : (Cond.methodLink R_Gate 129 y_Gate_isBelow) ∈ TB_w := List.mem_filter.mpr ⟨List.mem_of_getElem? (i := 162) (by decide +kernel), by decide +kernel⟩
theorem tw_163 : (Cond.static y_Gate_isBelow) ∈ TB_w := List.mem_filter.mpr ⟨List.mem_of_getElem? (i := 163) (by decide +kernel), by decide +kernel⟩
theorem tw_168 : (Cond.constant R_Gate 150 (-2000000000)) ∈ TB_w := List.mem_filter.mpr ⟨List.mem_of_getElem? (i := 168) (by decide +kernel), by decide +kernel⟩
theorem tw_169 : (Cond.constant R_Gate 151 2000000000) ∈ TB_w := List.mem_filter.mpr ⟨List.mem_of_getElem? (i := 169) (by decide +kernel), by decide +kernel⟩
theorem tw_167 : (Cond.code y_Gate_isWithinBound b_Gate_isWithinBound 1 (some .boolean)) ∈ TB_w := List.mem_filter.mpr ⟨List.mem_of_getElem? (i := 167) rfl, by decide +kernel⟩
theorem tw_165 : (Cond.methodLink R_Gate 104 y_Gate_isWithinBound) ∈ TB_w := List.mem_filter.mpr ⟨List.mem_of_getElem? (i := 165) (by decide +kernel), by decide +kernel⟩
theorem tw_166 : (Cond.static y_Gate_isWithinBound) ∈ TB_w := List.mem_filter.mpr ⟨List.mem_of_getElem? (i := 166) (by decide +kernel), by decide +kernel⟩
theorem tw_161 : (Cond.code y_Gate_isPort b_Gate_isPort 1 (some .boolean)) ∈ TB_w := List.mem_filter.mpr ⟨List.mem_of_getElem? (i := 161) rfl, by decide +kernel⟩
theorem tw_159 : (Cond.methodLink R_Gate 100 y_Gate_isPort) ∈ TB_w := List.mem_filter.mpr ⟨List.mem_of_getElem? (i := 159) (by decide +kernel), by decide +kernel⟩
theorem tw_160 : (Cond.static y_Gate_isPort) ∈ TB_w := List.mem_filter.mpr ⟨List.mem_of_getElem? (i := 160) (by decide +kernel), by decide +kernel⟩
set_option maxHeartbeats 4000000 in
set_option maxRecDepth 100000 in
theorem c_Gate_isBelow (l : Launch) (dC : Nat → ClassId) (dI : Nat → Nat → Nat) (cI cL : ClassId) (hs0 : Nat) (x0 : Int32) (e0 : Int32)  : ct_i l y_Gate_isBelow b_Gate_isBelow 2 (some .boolean) ({ frames := 0, cells := 0, slots := 0, locals := 0 }) (dC, dI) cI cL [.int x0, .int e0] [] hs0 (fun (r : Int32) (u : Unit) => r = bl_w x0 e0) (fun u => []) 0 0 := by
  refine st_w (Qc := fun A => va_Qi (fun (r : Int32) (u : Unit) => r = bl_w x0 e0) (fun (u : Unit) t => pos_w (dC, dI) A [] t) A) (by decide) (Nat.le_of_ble_eq_true rfl) ?_
  intro p e s m below meth c A ls hfx hK hA hP hD hS hl
  obtain ⟨hx, hb, hml, hown, htb, hr, hlocks, hin⟩ := hfx
  have hl : lv_has ls 2 [(0, .int x0), (1, .int e0)] := hl
  refine lv_iload_n hx hb d_Gate_isBelow_0 rfl (lv_at hl 0 rfl) ?_
  refine lv_if_lt (tgt := 13) hx hb d_Gate_isBelow_1 (by decide) (fun c_1 => ?_) (fun c_1 => ?_)
  · have c_1 : x0 < 0 := c_1
    refine lv_iconst (v := 0) hx hb d_Gate_isBelow_13 (by decide) ?_
    exact rt_z (v := 0) () hx hb hr hlocks (by decide) (show (0 : Int32) = bl_w x0 e0 from (by simp only [bl_w, if_pos c_1, and_self])) (hP.sub (ws' := []) [] rfl) (hD.sub (ws' := []) [] (by decide) rfl) hS d_Gate_isBelow_14
  · have c_1 : ¬ x0 < 0 := c_1
    refine lv_iload_n hx hb d_Gate_isBelow_4 rfl (lv_at hl 0 rfl) ?_
    refine lv_iload_n hx hb d_Gate_isBelow_5 rfl (lv_at hl 1 rfl) ?_
    refine lv_icmp_ge (tgt := 13) hx hb d_Gate_isBelow_6 (by decide) (fun c_2 => ?_) (fun c_2 => ?_)
    · have c_2 : e0 ≤ x0 := c_2
      refine lv_iconst (v := 0) hx hb d_Gate_isBelow_13 (by decide) ?_
      exact rt_z (v := 0) () hx hb hr hlocks (by decide) (show (0 : Int32) = bl_w x0 e0 from (by simp only [bl_w, if_neg c_1, if_pos c_2, and_self])) (hP.sub (ws' := []) [] rfl) (hD.sub (ws' := []) [] (by decide) rfl) hS d_Gate_isBelow_14
    · have c_2 : ¬ e0 ≤ x0 := c_2
      refine lv_iconst (v := 1) hx hb d_Gate_isBelow_9 (by decide) ?_
      refine lv_goto (tgt := 14) hx hb d_Gate_isBelow_10 (by decide) ?_
      exact rt_z (v := 1) () hx hb hr hlocks (by decide) (show (1 : Int32) = bl_w x0 e0 from (by simp only [bl_w, if_neg c_1, if_neg c_2, and_self])) (hP.sub (ws' := []) [] rfl) (hD.sub (ws' := []) [] (by decide) rfl) hS d_Gate_isBelow_14

set_option maxHeartbeats 4000000 in
set_option maxRecDepth 100000 in
theorem c_Gate_isPort (l : Launch) (dC : Nat → ClassId) (dI : Nat → Nat → Nat) (cI cL : ClassId) (hs0 : Nat) (x0 : Int32)  : ct_i l y_Gate_isPort b_Gate_isPort 1 (some .boolean) ({ frames := 1, cells := 0, slots := 0, locals := 40 }) (dC, dI) cI cL [.int x0] [] hs0 (fun (r : Int32) (u : Unit) => r = bl_w x0 4) (fun u => []) 0 0 := by
  refine st_w (Qc := fun A => va_Qi (fun (r : Int32) (u : Unit) => r = bl_w x0 4) (fun (u : Unit) t => pos_w (dC, dI) A [] t) A) (by decide) (Nat.le_of_ble_eq_true rfl) ?_
  intro p e s m below meth c A ls hfx hK hA hP hD hS hl
  obtain ⟨hx, hb, hml, hown, htb, hr, hlocks, hin⟩ := hfx
  have hl : lv_has ls 1 [(0, .int x0)] := hl
  refine lv_iload_n hx hb d_Gate_isPort_0 rfl (lv_at hl 0 rfl) ?_
  refine lv_iconst (v := 4) hx hb d_Gate_isPort_1 (by decide) ?_
  refine af_i (wr := []) (va_runS (As := [.int x0, .int 4]) (rest := []) ⟨hx, hb, hml, hown, htb⟩ (c_Gate_isBelow l dC dI cI cL s.heap.size x0 4 ) ⟨callB_of 2 htb (gd_w tw_164) rfl rfl rfl (htb _ tw_20) (htb _ tw_162) (by decide +kernel) ⟨Nat.le_of_ble_eq_true rfl, Nat.le_of_ble_eq_true rfl⟩, htb _ tw_163⟩ (pv_S hK (hP.sub (ws' := []) [] rfl) (hD.sub (ws' := []) [] (by decide) rfl)) rfl rfl hl.1 rfl (lv_room (Nat.le_of_ble_eq_true rfl)) d_Gate_isPort_2 ⟨Nat.le_of_ble_eq_true rfl, Nat.le_of_ble_eq_true rfl⟩) hP hD hS hA [] [] rfl rfl (by decide) (by decide) (fun r_1 u_2 H locs hw hP hD hS => ?_)
  try dsimp only at hw
  subst hw
  have hP : va_P (dC, dI) classes [] H := hP
  have hD : va_D A [] := hD
  exact rt_z (v := bl_w x0 4) () hx hb hr hlocks (by first | decide | exact bl_01 _ _ | exact wb_01 _) (show (bl_w x0 4) = bl_w x0 4 from (by simp only [and_self])) (hP.sub (ws' := []) [] rfl) (hD.sub (ws' := []) [] (by decide) rfl) hS d_Gate_isPort_5

set_option maxHeartbeats 4000000 in
set_option maxRecDepth 100000 in
theorem c_Gate_isCopy (l : Launch) (dC : Nat → ClassId) (dI : Nat → Nat → Nat) (cI cL : ClassId) (hs0 : Nat) (x0 : Int32)  : ct_i l y_Gate_isCopy b_Gate_isCopy 1 (some .boolean) ({ frames := 1, cells := 0, slots := 0, locals := 40 }) (dC, dI) cI cL [.int x0] [] hs0 (fun (r : Int32) (u : Unit) => r = bl_w x0 2) (fun u => []) 0 0 := by
  refine st_w (Qc := fun A => va_Qi (fun (r : Int32) (u : Unit) => r = bl_w x0 2) (fun (u : Unit) t => pos_w (dC, dI) A [] t) A) (by decide) (Nat.le_of_ble_eq_true rfl) ?_
  intro p e s m below meth c A ls hfx hK hA hP hD hS hl
  obtain ⟨hx, hb, hml, hown, htb, hr, hlocks, hin⟩ := hfx
  have hl : lv_has ls 1 [(0, .int x0)] := hl
  refine lv_iload_n hx hb d_Gate_isCopy_0 rfl (lv_at hl 0 rfl) ?_
  refine lv_iconst (v := 2) hx hb d_Gate_isCopy_1 (by decide) ?_
  refine af_i (wr := []) (va_runS (As := [.int x0, .int 2]) (rest := []) ⟨hx, hb, hml, hown, htb⟩ (c_Gate_isBelow l dC dI cI cL s.heap.size x0 2 ) ⟨callB_of 2 htb (gd_w tw_164) rfl rfl rfl (htb _ tw_20) (htb _ tw_162) (by decide +kernel) ⟨Nat.le_of_ble_eq_true rfl, Nat.le_of_ble_eq_true rfl⟩, htb _ tw_163⟩ (pv_S hK (hP.sub (ws' := []) [] rfl) (hD.sub (ws' := []) [] (by decide) rfl)) rfl rfl hl.1 rfl (lv_room (Nat.le_of_ble_eq_true rfl)) d_Gate_isCopy_2 ⟨Nat.le_of_ble_eq_true rfl, Nat.le_of_ble_eq_true rfl⟩) hP hD hS hA [] [] rfl rfl (by decide) (by decide) (fun r_1 u_2 H locs hw hP hD hS => ?_)
  try dsimp only at hw
  subst hw
  have hP : va_P (dC, dI) classes [] H := hP
  have hD : va_D A [] := hD
  exact rt_z (v := bl_w x0 2) () hx hb hr hlocks (by first | decide | exact bl_01 _ _ | exact wb_01 _) (show (bl_w x0 2) = bl_w x0 2 from (by simp only [and_self])) (hP.sub (ws' := []) [] rfl) (hD.sub (ws' := []) [] (by decide) rfl) hS d_Gate_isCopy_5

set_option maxHeartbeats 4000000 in
set_option maxRecDepth 100000 in
theorem c_Gate_isInRow (l : Launch) (dC : Nat → ClassId) (dI : Nat → Nat → Nat) (cI cL : ClassId) (hs0 : Nat) (x0 : Int32)  : ct_i l y_Gate_isInRow b_Gate_isInRow 1 (some .boolean) ({ frames := 1, cells := 0, slots := 0, locals := 40 }) (dC, dI) cI cL [.int x0] [] hs0 (fun (r : Int32) (u : Unit) => r = bl_w x0 18) (fun u => []) 0 0 := by
  refine st_w (Qc := fun A => va_Qi (fun (r : Int32) (u : Unit) => r = bl_w x0 18) (fun (u : Unit) t => pos_w (dC, dI) A [] t) A) (by decide) (Nat.le_of_ble_eq_true rfl) ?_
  intro p e s m below meth c A ls hfx hK hA hP hD hS hl
  obtain ⟨hx, hb, hml, hown, htb, hr, hlocks, hin⟩ := hfx
  have hl : lv_has ls 1 [(0, .int x0)] := hl
  refine lv_iload_n hx hb d_Gate_isInRow_0 rfl (lv_at hl 0 rfl) ?_
  refine lv_bipush (v := 18) hx hb d_Gate_isInRow_1 (by decide) ?_
  refine af_i (wr := []) (va_runS (As := [.int x0, .int 18]) (rest := []) ⟨hx, hb, hml, hown, htb⟩ (c_Gate_isBelow l dC dI cI cL s.heap.size x0 18 ) ⟨callB_of 2 htb (gd_w tw_164) rfl rfl rfl (htb _ tw_20) (htb _ tw_162) (by decide +kernel) ⟨Nat.le_of_ble_eq_true rfl, Nat.le_of_ble_eq_true rfl⟩, htb _ tw_163⟩ (pv_S hK (hP.sub (ws' := []) [] rfl) (hD.sub (ws' := []) [] (by decide) rfl)) rfl rfl hl.1 rfl (lv_room (Nat.le_of_ble_eq_true rfl)) d_Gate_isInRow_3 ⟨Nat.le_of_ble_eq_true rfl, Nat.le_of_ble_eq_true rfl⟩) hP hD hS hA [] [] rfl rfl (by decide) (by decide) (fun r_1 u_2 H locs hw hP hD hS => ?_)
  try dsimp only at hw
  subst hw
  have hP : va_P (dC, dI) classes [] H := hP
  have hD : va_D A [] := hD
  exact rt_z (v := bl_w x0 18) () hx hb hr hlocks (by first | decide | exact bl_01 _ _ | exact wb_01 _) (show (bl_w x0 18) = bl_w x0 18 from (by simp only [and_self])) (hP.sub (ws' := []) [] rfl) (hD.sub (ws' := []) [] (by decide) rfl) hS d_Gate_isInRow_6

set_option maxHeartbeats 4000000 in
set_option maxRecDepth 100000 in
theorem c_Gate_isWithinBound (l : Launch) (dC : Nat → ClassId) (dI : Nat → Nat → Nat) (cI cL : ClassId) (hs0 : Nat) (x0 : Int32)  : ct_i l y_Gate_isWithinBound b_Gate_isWithinBound 1 (some .boolean) ({ frames := 0, cells := 0, slots := 0, locals := 0 }) (dC, dI) cI cL [.int x0] [] hs0 (fun (r : Int32) (u : Unit) => r = wb_w x0) (fun u => []) 0 0 := by
  refine st_w (Qc := fun A => va_Qi (fun (r : Int32) (u : Unit) => r = wb_w x0) (fun (u : Unit) t => pos_w (dC, dI) A [] t) A) (by decide) (Nat.le_of_ble_eq_true rfl) ?_
  intro p e s m below meth c A ls hfx hK hA hP hD hS hl
  obtain ⟨hx, hb, hml, hown, htb, hr, hlocks, hin⟩ := hfx
  have hl : lv_has ls 1 [(0, .int x0)] := hl
  refine lv_iload_n hx hb d_Gate_isWithinBound_0 rfl (lv_at hl 0 rfl) ?_
  refine lv_ldc (v := (-2000000000)) hx hb hown (htb _ tw_168) d_Gate_isWithinBound_1 ?_
  refine lv_icmp_lt (tgt := 16) hx hb d_Gate_isWithinBound_3 (by decide) (fun c_1 => ?_) (fun c_1 => ?_)
  · have c_1 : x0 < (-2000000000) := c_1
    refine lv_iconst (v := 0) hx hb d_Gate_isWithinBound_16 (by decide) ?_
    exact rt_z (v := 0) () hx hb hr hlocks (by decide) (show (0 : Int32) = wb_w x0 from (by simp only [wb_w, if_pos c_1, and_self])) (hP.sub (ws' := []) [] rfl) (hD.sub (ws' := []) [] (by decide) rfl) hS d_Gate_isWithinBound_17
  · have c_1 : ¬ x0 < (-2000000000) := c_1
    refine lv_iload_n hx hb d_Gate_isWithinBound_6 rfl (lv_at hl 0 rfl) ?_
    refine lv_ldc (v := 2000000000) hx hb hown (htb _ tw_169) d_Gate_isWithinBound_7 ?_
    refine lv_icmp_gt (tgt := 16) hx hb d_Gate_isWithinBound_9 (by decide) (fun c_2 => ?_) (fun c_2 => ?_)
    · have c_2 : 2000000000 < x0 := c_2
      refine lv_iconst (v := 0) hx hb d_Gate_isWithinBound_16 (by decide) ?_
      exact rt_z (v := 0) () hx hb hr hlocks (by decide) (show (0 : Int32) = wb_w x0 from (by simp only [wb_w, if_neg c_1, if_pos c_2, and_self])) (hP.sub (ws' := []) [] rfl) (hD.sub (ws' := []) [] (by decide) rfl) hS d_Gate_isWithinBound_17
    · have c_2 : ¬ 2000000000 < x0 := c_2
      refine lv_iconst (v := 1) hx hb d_Gate_isWithinBound_12 (by decide) ?_
      refine lv_goto (tgt := 17) hx hb d_Gate_isWithinBound_13 (by decide) ?_
      exact rt_z (v := 1) () hx hb hr hlocks (by decide) (show (1 : Int32) = wb_w x0 from (by simp only [wb_w, if_neg c_1, if_neg c_2, and_self])) (hP.sub (ws' := []) [] rfl) (hD.sub (ws' := []) [] (by decide) rfl) hS d_Gate_isWithinBound_17

set_option maxHeartbeats 4000000 in
set_option maxRecDepth 100000 in
theorem c_Gate_isInstruction (l : Launch) (dC : Nat → ClassId) (dI : Nat → Nat → Nat) (cI cL : ClassId) (hs0 : Nat) (o0 : Int32) (n0 : Int32)  : ct_i l y_Gate_isInstruction b_Gate_isInstruction 2 (some .boolean) ({ frames := 2, cells := 0, slots := 0, locals := 80 }) (dC, dI) cI cL [.int o0, .int n0] [] hs0 (fun (r : Int32) (u : Unit) => r = ii_w o0 n0) (fun u => []) 0 0 := by
  refine st_w (Qc := fun A => va_Qi (fun (r : Int32) (u : Unit) => r = ii_w o0 n0) (fun (u : Unit) t => pos_w (dC, dI) A [] t) A) (by decide) (Nat.le_of_ble_eq_true rfl) ?_
  intro p e s m below meth c A ls hfx hK hA hP hD hS hl
  obtain ⟨hx, hb, hml, hown, htb, hr, hlocks, hin⟩ := hfx
  have hl : lv_has ls 2 [(0, .int o0), (1, .int n0)] := hl
  refine lv_iload_n hx hb d_Gate_isInstruction_0 rfl (lv_at hl 0 rfl) ?_
  by_cases c_1 : o0 = 0
  · refine lv_tableIn (tgt := 80) hx hb d_Gate_isInstruction_1 (by rw [c_1]; decide) (by rw [c_1]; decide) (by rw [c_1]; rfl) (by decide) ?_
    refine lv_iload_n hx hb d_Gate_isInstruction_80 rfl (lv_at hl 1 rfl) ?_
    refine af_i (wr := []) (va_runS (As := [.int n0]) (rest := []) ⟨hx, hb, hml, hown, htb⟩ (c_Gate_isWithinBound l dC dI cI cL s.heap.size n0 ) ⟨callB_of 1 htb (gd_w tw_167) rfl rfl rfl (htb _ tw_20) (htb _ tw_165) (by decide +kernel) ⟨Nat.le_of_ble_eq_true rfl, Nat.le_of_ble_eq_true rfl⟩, htb _ tw_166⟩ (pv_S hK (hP.sub (ws' := []) [] rfl) (hD.sub (ws' := []) [] (by decide) rfl)) rfl rfl hl.1 rfl (lv_room (Nat.le_of_ble_eq_true rfl)) d_Gate_isInstruction_81 ⟨Nat.le_of_ble_eq_true rfl, Nat.le_of_ble_eq_true rfl⟩) hP hD hS hA [] [] rfl rfl (by decide) (by decide) (fun r_2 u_3 H locs hw hP hD hS => ?_)
    try dsimp only at hw
    subst hw
    have hP : va_P (dC, dI) classes [] H := hP
    have hD : va_D A [] := hD
    exact rt_z (v := wb_w n0) () hx hb hr hlocks (by first | decide | exact bl_01 _ _ | exact wb_01 _) (show (wb_w n0) = ii_w o0 n0 from (by simp only [ii_w, if_pos c_1, and_self])) (hP.sub (ws' := []) [] rfl) (hD.sub (ws' := []) [] (by decide) rfl) hS d_Gate_isInstruction_84
  by_cases c_4 : o0 = 1
  · refine lv_tableIn (tgt := 85) hx hb d_Gate_isInstruction_1 (by rw [c_4]; decide) (by rw [c_4]; decide) (by rw [c_4]; rfl) (by decide) ?_
    refine lv_iload_n hx hb d_Gate_isInstruction_85 rfl (lv_at hl 1 rfl) ?_
    refine lv_bipush (v := 16) hx hb d_Gate_isInstruction_86 (by decide) ?_
    refine af_i (wr := []) (va_runS (As := [.int n0, .int 16]) (rest := []) ⟨hx, hb, hml, hown, htb⟩ (c_Gate_isBelow l dC dI cI cL s.heap.size n0 16 ) ⟨callB_of 2 htb (gd_w tw_164) rfl rfl rfl (htb _ tw_20) (htb _ tw_162) (by decide +kernel) ⟨Nat.le_of_ble_eq_true rfl, Nat.le_of_ble_eq_true rfl⟩, htb _ tw_163⟩ (pv_S hK (hP.sub (ws' := []) [] rfl) (hD.sub (ws' := []) [] (by decide) rfl)) rfl rfl hl.1 rfl (lv_room (Nat.le_of_ble_eq_true rfl)) d_Gate_isInstruction_88 ⟨Nat.le_of_ble_eq_true rfl, Nat.le_of_ble_eq_true rfl⟩) hP hD hS hA [] [] rfl rfl (by decide) (by decide) (fun r_5 u_6 H locs hw hP hD hS => ?_)
    try dsimp only at hw
    subst hw
    have hP : va_P (dC, dI) classes [] H := hP
    have hD : va_D A [] := hD
    exact rt_z (v := bl_w n0 16) () hx hb hr hlocks (by first | decide | exact bl_01 _ _ | exact wb_01 _) (show (bl_w n0 16) = ii_w o0 n0 from (by simp only [ii_w, if_neg c_1, if_pos c_4, and_self])) (hP.sub (ws' := []) [] rfl) (hD.sub (ws' := []) [] (by decide) rfl) hS d_Gate_isInstruction_91
  by_cases c_7 : o0 = 2
  · refine lv_tableIn (tgt := 85) hx hb d_Gate_isInstruction_1 (by rw [c_7]; decide) (by rw [c_7]; decide) (by rw [c_7]; rfl) (by decide) ?_
    refine lv_iload_n hx hb d_Gate_isInstruction_85 rfl (lv_at hl 1 rfl) ?_
    refine lv_bipush (v := 16) hx hb d_Gate_isInstruction_86 (by decide) ?_
    refine af_i (wr := []) (va_runS (As := [.int n0, .int 16]) (rest := []) ⟨hx, hb, hml, hown, htb⟩ (c_Gate_isBelow l dC dI cI cL s.heap.size n0 16 ) ⟨callB_of 2 htb (gd_w tw_164) rfl rfl rfl (htb _ tw_20) (htb _ tw_162) (by decide +kernel) ⟨Nat.le_of_ble_eq_true rfl, Nat.le_of_ble_eq_true rfl⟩, htb _ tw_163⟩ (pv_S hK (hP.sub (ws' := []) [] rfl) (hD.sub (ws' := []) [] (by decide) rfl)) rfl rfl hl.1 rfl (lv_room (Nat.le_of_ble_eq_true rfl)) d_Gate_isInstruction_88 ⟨Nat.le_of_ble_eq_true rfl, Nat.le_of_ble_eq_true rfl⟩) hP hD hS hA [] [] rfl rfl (by decide) (by decide) (fun r_8 u_9 H locs hw hP hD hS => ?_)
    try dsimp only at hw
    subst hw
    have hP : va_P (dC, dI) classes [] H := hP
    have hD : va_D A [] := hD
    exact rt_z (v := bl_w n0 16) () hx hb hr hlocks (by first | decide | exact bl_01 _ _ | exact wb_01 _) (show (bl_w n0 16) = ii_w o0 n0 from (by simp only [ii_w, if_neg c_1, if_neg c_4, if_pos c_7, and_self])) (hP.sub (ws' := []) [] rfl) (hD.sub (ws' := []) [] (by decide) rfl) hS d_Gate_isInstruction_91
  by_cases c_10 : o0 = 3
  · refine lv_tableIn (tgt := 104) hx hb d_Gate_isInstruction_1 (by rw [c_10]; decide) (by rw [c_10]; decide) (by rw [c_10]; rfl) (by decide) ?_
    refine lv_iconst (v := 1) hx hb d_Gate_isInstruction_104 (by decide) ?_
    exact rt_z (v := 1) () hx hb hr hlocks (by first | decide | exact bl_01 _ _ | exact wb_01 _) (show (1 : Int32) = ii_w o0 n0 from (by simp only [ii_w, if_neg c_1, if_neg c_4, if_neg c_7, if_pos c_10, and_self])) (hP.sub (ws' := []) [] rfl) (hD.sub (ws' := []) [] (by decide) rfl) hS d_Gate_isInstruction_105
  by_cases c_11 : o0 = 4
  · refine lv_tableIn (tgt := 104) hx hb d_Gate_isInstruction_1 (by rw [c_11]; decide) (by rw [c_11]; decide) (by rw [c_11]; rfl) (by decide) ?_
    refine lv_iconst (v := 1) hx hb d_Gate_isInstruction_104 (by decide) ?_
    exact rt_z (v := 1) () hx hb hr hlocks (by first | decide | exact bl_01 _ _ | exact wb_01 _) (show (1 : Int32) = ii_w o0 n0 from (by simp only [ii_w, if_neg c_1, if_neg c_4, if_neg c_7, if_neg c_10, if_pos c_11, and_self])) (hP.sub (ws' := []) [] rfl) (hD.sub (ws' := []) [] (by decide) rfl) hS d_Gate_isInstruction_105
  by_cases c_12 : o0 = 5
  · refine lv_tableIn (tgt := 104) hx hb d_Gate_isInstruction_1 (by rw [c_12]; decide) (by rw [c_12]; decide) (by rw [c_12]; rfl) (by decide) ?_
    refine lv_iconst (v := 1) hx hb d_Gate_isInstruction_104 (by decide) ?_
    exact rt_z (v := 1) () hx hb hr hlocks (by first | decide | exact bl_01 _ _ | exact wb_01 _) (show (1 : Int32) = ii_w o0 n0 from (by simp only [ii_w, if_neg c_1, if_neg c_4, if_neg c_7, if_neg c_10, if_neg c_11, if_pos c_12, and_self])) (hP.sub (ws' := []) [] rfl) (hD.sub (ws' := []) [] (by decide) rfl) hS d_Gate_isInstruction_105
  by_cases c_13 : o0 = 6
  · refine lv_tableIn (tgt := 104) hx hb d_Gate_isInstruction_1 (by rw [c_13]; decide) (by rw [c_13]; decide) (by rw [c_13]; rfl) (by decide) ?_
    refine lv_iconst (v := 1) hx hb d_Gate_isInstruction_104 (by decide) ?_
    exact rt_z (v := 1) () hx hb hr hlocks (by first | decide | exact bl_01 _ _ | exact wb_01 _) (show (1 : Int32) = ii_w o0 n0 from (by simp only [ii_w, if_neg c_1, if_neg c_4, if_neg c_7, if_neg c_10, if_neg c_11, if_neg c_12, if_pos c_13, and_self])) (hP.sub (ws' := []) [] rfl) (hD.sub (ws' := []) [] (by decide) rfl) hS d_Gate_isInstruction_105
  by_cases c_14 : o0 = 7
  · refine lv_tableIn (tgt := 104) hx hb d_Gate_isInstruction_1 (by rw [c_14]; decide) (by rw [c_14]; decide) (by rw [c_14]; rfl) (by decide) ?_
    refine lv_iconst (v := 1) hx hb d_Gate_isInstruction_104 (by decide) ?_
    exact rt_z (v := 1) () hx hb hr hlocks (by first | decide | exact bl_01 _ _ | exact wb_01 _) (show (1 : Int32) = ii_w o0 n0 from (by simp only [ii_w, if_neg c_1, if_neg c_4, if_neg c_7, if_neg c_10, if_neg c_11, if_neg c_12, if_neg c_13, if_pos c_14, and_self])) (hP.sub (ws' := []) [] rfl) (hD.sub (ws' := []) [] (by decide) rfl) hS d_Gate_isInstruction_105
  by_cases c_15 : o0 = 8
  · refine lv_tableIn (tgt := 104) hx hb d_Gate_isInstruction_1 (by rw [c_15]; decide) (by rw [c_15]; decide) (by rw [c_15]; rfl) (by decide) ?_
    refine lv_iconst (v := 1) hx hb d_Gate_isInstruction_104 (by decide) ?_
    exact rt_z (v := 1) () hx hb hr hlocks (by first | decide | exact bl_01 _ _ | exact wb_01 _) (show (1 : Int32) = ii_w o0 n0 from (by simp only [ii_w, if_neg c_1, if_neg c_4, if_neg c_7, if_neg c_10, if_neg c_11, if_neg c_12, if_neg c_13, if_neg c_14, if_pos c_15, and_self])) (hP.sub (ws' := []) [] rfl) (hD.sub (ws' := []) [] (by decide) rfl) hS d_Gate_isInstruction_105
  by_cases c_16 : o0 = 9
  · refine lv_tableIn (tgt := 104) hx hb d_Gate_isInstruction_1 (by rw [c_16]; decide) (by rw [c_16]; decide) (by rw [c_16]; rfl) (by decide) ?_
    refine lv_iconst (v := 1) hx hb d_Gate_isInstruction_104 (by decide) ?_
    exact rt_z (v := 1) () hx hb hr hlocks (by first | decide | exact bl_01 _ _ | exact wb_01 _) (show (1 : Int32) = ii_w o0 n0 from (by simp only [ii_w, if_neg c_1, if_neg c_4, if_neg c_7, if_neg c_10, if_neg c_11, if_neg c_12, if_neg c_13, if_neg c_14, if_neg c_15, if_pos c_16, and_self])) (hP.sub (ws' := []) [] rfl) (hD.sub (ws' := []) [] (by decide) rfl) hS d_Gate_isInstruction_105
  by_cases c_17 : o0 = 10
  · refine lv_tableIn (tgt := 92) hx hb d_Gate_isInstruction_1 (by rw [c_17]; decide) (by rw [c_17]; decide) (by rw [c_17]; rfl) (by decide) ?_
    refine lv_iload_n hx hb d_Gate_isInstruction_92 rfl (lv_at hl 1 rfl) ?_
    refine lv_bipush (v := 100) hx hb d_Gate_isInstruction_93 (by decide) ?_
    refine af_i (wr := []) (va_runS (As := [.int n0, .int 100]) (rest := []) ⟨hx, hb, hml, hown, htb⟩ (c_Gate_isBelow l dC dI cI cL s.heap.size n0 100 ) ⟨callB_of 2 htb (gd_w tw_164) rfl rfl rfl (htb _ tw_20) (htb _ tw_162) (by decide +kernel) ⟨Nat.le_of_ble_eq_true rfl, Nat.le_of_ble_eq_true rfl⟩, htb _ tw_163⟩ (pv_S hK (hP.sub (ws' := []) [] rfl) (hD.sub (ws' := []) [] (by decide) rfl)) rfl rfl hl.1 rfl (lv_room (Nat.le_of_ble_eq_true rfl)) d_Gate_isInstruction_95 ⟨Nat.le_of_ble_eq_true rfl, Nat.le_of_ble_eq_true rfl⟩) hP hD hS hA [] [] rfl rfl (by decide) (by decide) (fun r_18 u_19 H locs hw hP hD hS => ?_)
    try dsimp only at hw
    subst hw
    have hP : va_P (dC, dI) classes [] H := hP
    have hD : va_D A [] := hD
    exact rt_z (v := bl_w n0 100) () hx hb hr hlocks (by first | decide | exact bl_01 _ _ | exact wb_01 _) (show (bl_w n0 100) = ii_w o0 n0 from (by simp only [ii_w, if_neg c_1, if_neg c_4, if_neg c_7, if_neg c_10, if_neg c_11, if_neg c_12, if_neg c_13, if_neg c_14, if_neg c_15, if_neg c_16, if_pos c_17, and_self])) (hP.sub (ws' := []) [] rfl) (hD.sub (ws' := []) [] (by decide) rfl) hS d_Gate_isInstruction_98
  by_cases c_20 : o0 = 11
  · refine lv_tableIn (tgt := 92) hx hb d_Gate_isInstruction_1 (by rw [c_20]; decide) (by rw [c_20]; decide) (by rw [c_20]; rfl) (by decide) ?_
    refine lv_iload_n hx hb d_Gate_isInstruction_92 rfl (lv_at hl 1 rfl) ?_
    refine lv_bipush (v := 100) hx hb d_Gate_isInstruction_93 (by decide) ?_
    refine af_i (wr := []) (va_runS (As := [.int n0, .int 100]) (rest := []) ⟨hx, hb, hml, hown, htb⟩ (c_Gate_isBelow l dC dI cI cL s.heap.size n0 100 ) ⟨callB_of 2 htb (gd_w tw_164) rfl rfl rfl (htb _ tw_20) (htb _ tw_162) (by decide +kernel) ⟨Nat.le_of_ble_eq_true rfl, Nat.le_of_ble_eq_true rfl⟩, htb _ tw_163⟩ (pv_S hK (hP.sub (ws' := []) [] rfl) (hD.sub (ws' := []) [] (by decide) rfl)) rfl rfl hl.1 rfl (lv_room (Nat.le_of_ble_eq_true rfl)) d_Gate_isInstruction_95 ⟨Nat.le_of_ble_eq_true rfl, Nat.le_of_ble_eq_true rfl⟩) hP hD hS hA [] [] rfl rfl (by decide) (by decide) (fun r_21 u_22 H locs hw hP hD hS => ?_)
    try dsimp only at hw
    subst hw
    have hP : va_P (dC, dI) classes [] H := hP
    have hD : va_D A [] := hD
    exact rt_z (v := bl_w n0 100) () hx hb hr hlocks (by first | decide | exact bl_01 _ _ | exact wb_01 _) (show (bl_w n0 100) = ii_w o0 n0 from (by simp only [ii_w, if_neg c_1, if_neg c_4, if_neg c_7, if_neg c_10, if_neg c_11, if_neg c_12, if_neg c_13, if_neg c_14, if_neg c_15, if_neg c_16, if_neg c_17, if_pos c_20, and_self])) (hP.sub (ws' := []) [] rfl) (hD.sub (ws' := []) [] (by decide) rfl) hS d_Gate_isInstruction_98
  by_cases c_23 : o0 = 12
  · refine lv_tableIn (tgt := 99) hx hb d_Gate_isInstruction_1 (by rw [c_23]; decide) (by rw [c_23]; decide) (by rw [c_23]; rfl) (by decide) ?_
    refine lv_iload_n hx hb d_Gate_isInstruction_99 rfl (lv_at hl 1 rfl) ?_
    refine af_i (wr := []) (va_runS (As := [.int n0]) (rest := []) ⟨hx, hb, hml, hown, htb⟩ (c_Gate_isPort l dC dI cI cL s.heap.size n0 ) ⟨callB_of 1 htb (gd_w tw_161) rfl rfl rfl (htb _ tw_20) (htb _ tw_159) (by decide +kernel) ⟨Nat.le_of_ble_eq_true rfl, Nat.le_of_ble_eq_true rfl⟩, htb _ tw_160⟩ (pv_S hK (hP.sub (ws' := []) [] rfl) (hD.sub (ws' := []) [] (by decide) rfl)) rfl rfl hl.1 rfl (lv_room (Nat.le_of_ble_eq_true rfl)) d_Gate_isInstruction_100 ⟨Nat.le_of_ble_eq_true rfl, Nat.le_of_ble_eq_true rfl⟩) hP hD hS hA [] [] rfl rfl (by decide) (by decide) (fun r_24 u_25 H locs hw hP hD hS => ?_)
    try dsimp only at hw
    subst hw
    have hP : va_P (dC, dI) classes [] H := hP
    have hD : va_D A [] := hD
    exact rt_z (v := bl_w n0 4) () hx hb hr hlocks (by first | decide | exact bl_01 _ _ | exact wb_01 _) (show (bl_w n0 4) = ii_w o0 n0 from (by simp only [ii_w, if_neg c_1, if_neg c_4, if_neg c_7, if_neg c_10, if_neg c_11, if_neg c_12, if_neg c_13, if_neg c_14, if_neg c_15, if_neg c_16, if_neg c_17, if_neg c_20, if_pos c_23, and_self])) (hP.sub (ws' := []) [] rfl) (hD.sub (ws' := []) [] (by decide) rfl) hS d_Gate_isInstruction_103
  by_cases c_26 : o0 = 13
  · refine lv_tableIn (tgt := 99) hx hb d_Gate_isInstruction_1 (by rw [c_26]; decide) (by rw [c_26]; decide) (by rw [c_26]; rfl) (by decide) ?_
    refine lv_iload_n hx hb d_Gate_isInstruction_99 rfl (lv_at hl 1 rfl) ?_
    refine af_i (wr := []) (va_runS (As := [.int n0]) (rest := []) ⟨hx, hb, hml, hown, htb⟩ (c_Gate_isPort l dC dI cI cL s.heap.size n0 ) ⟨callB_of 1 htb (gd_w tw_161) rfl rfl rfl (htb _ tw_20) (htb _ tw_159) (by decide +kernel) ⟨Nat.le_of_ble_eq_true rfl, Nat.le_of_ble_eq_true rfl⟩, htb _ tw_160⟩ (pv_S hK (hP.sub (ws' := []) [] rfl) (hD.sub (ws' := []) [] (by decide) rfl)) rfl rfl hl.1 rfl (lv_room (Nat.le_of_ble_eq_true rfl)) d_Gate_isInstruction_100 ⟨Nat.le_of_ble_eq_true rfl, Nat.le_of_ble_eq_true rfl⟩) hP hD hS hA [] [] rfl rfl (by decide) (by decide) (fun r_27 u_28 H locs hw hP hD hS => ?_)
    try dsimp only at hw
    subst hw
    have hP : va_P (dC, dI) classes [] H := hP
    have hD : va_D A [] := hD
    exact rt_z (v := bl_w n0 4) () hx hb hr hlocks (by first | decide | exact bl_01 _ _ | exact wb_01 _) (show (bl_w n0 4) = ii_w o0 n0 from (by simp only [ii_w, if_neg c_1, if_neg c_4, if_neg c_7, if_neg c_10, if_neg c_11, if_neg c_12, if_neg c_13, if_neg c_14, if_neg c_15, if_neg c_16, if_neg c_17, if_neg c_20, if_neg c_23, if_pos c_26, and_self])) (hP.sub (ws' := []) [] rfl) (hD.sub (ws' := []) [] (by decide) rfl) hS d_Gate_isInstruction_103
  by_cases c_29 : o0 = 14
  · refine lv_tableIn (tgt := 104) hx hb d_Gate_isInstruction_1 (by rw [c_29]; decide) (by rw [c_29]; decide) (by rw [c_29]; rfl) (by decide) ?_
    refine lv_iconst (v := 1) hx hb d_Gate_isInstruction_104 (by decide) ?_
    exact rt_z (v := 1) () hx hb hr hlocks (by first | decide | exact bl_01 _ _ | exact wb_01 _) (show (1 : Int32) = ii_w o0 n0 from (by simp only [ii_w, if_neg c_1, if_neg c_4, if_neg c_7, if_neg c_10, if_neg c_11, if_neg c_12, if_neg c_13, if_neg c_14, if_neg c_15, if_neg c_16, if_neg c_17, if_neg c_20, if_neg c_23, if_neg c_26, if_pos c_29, and_self])) (hP.sub (ws' := []) [] rfl) (hD.sub (ws' := []) [] (by decide) rfl) hS d_Gate_isInstruction_105
  by_cases c_30 : o0 = 15
  · refine lv_tableIn (tgt := 104) hx hb d_Gate_isInstruction_1 (by rw [c_30]; decide) (by rw [c_30]; decide) (by rw [c_30]; rfl) (by decide) ?_
    refine lv_iconst (v := 1) hx hb d_Gate_isInstruction_104 (by decide) ?_
    exact rt_z (v := 1) () hx hb hr hlocks (by first | decide | exact bl_01 _ _ | exact wb_01 _) (show (1 : Int32) = ii_w o0 n0 from (by simp only [ii_w, if_neg c_1, if_neg c_4, if_neg c_7, if_neg c_10, if_neg c_11, if_neg c_12, if_neg c_13, if_neg c_14, if_neg c_15, if_neg c_16, if_neg c_17, if_neg c_20, if_neg c_23, if_neg c_26, if_neg c_29, if_pos c_30, and_self])) (hP.sub (ws' := []) [] rfl) (hD.sub (ws' := []) [] (by decide) rfl) hS d_Gate_isInstruction_105
  refine lv_tableE (tgt := 106) hx hb d_Gate_isInstruction_1 (by decide) (fun j hj he => by have q_0 := lv_neT c_1 (a := 0) (by decide); have q_1 := lv_neT c_4 (a := 1) (by decide); have q_2 := lv_neT c_7 (a := 2) (by decide); have q_3 := lv_neT c_10 (a := 3) (by decide); have q_4 := lv_neT c_11 (a := 4) (by decide); have q_5 := lv_neT c_12 (a := 5) (by decide); have q_6 := lv_neT c_13 (a := 6) (by decide); have q_7 := lv_neT c_14 (a := 7) (by decide); have q_8 := lv_neT c_15 (a := 8) (by decide); have q_9 := lv_neT c_16 (a := 9) (by decide); have q_10 := lv_neT c_17 (a := 10) (by decide); have q_11 := lv_neT c_20 (a := 11) (by decide); have q_12 := lv_neT c_23 (a := 12) (by decide); have q_13 := lv_neT c_26 (a := 13) (by decide); have q_14 := lv_neT c_29 (a := 14) (by decide); have q_15 := lv_neT c_30 (a := 15) (by decide); rcases (show j = 0 ∨ j = 1 ∨ j = 2 ∨ j = 3 ∨ j = 4 ∨ j = 5 ∨ j = 6 ∨ j = 7 ∨ j = 8 ∨ j = 9 ∨ j = 10 ∨ j = 11 ∨ j = 12 ∨ j = 13 ∨ j = 14 ∨ j = 15 by omega) with rfl | rfl | rfl | rfl | rfl | rfl | rfl | rfl | rfl | rfl | rfl | rfl | rfl | rfl | rfl | rfl <;> first | rfl | (exfalso; omega)) ?_
  refine lv_iconst (v := 0) hx hb d_Gate_isInstruction_106 (by decide) ?_
  exact rt_z (v := 0) () hx hb hr hlocks (by first | decide | exact bl_01 _ _ | exact wb_01 _) (show (0 : Int32) = ii_w o0 n0 from (by simp only [ii_w, if_neg c_1, if_neg c_4, if_neg c_7, if_neg c_10, if_neg c_11, if_neg c_12, if_neg c_13, if_neg c_14, if_neg c_15, if_neg c_16, if_neg c_17, if_neg c_20, if_neg c_23, if_neg c_26, if_neg c_29, if_neg c_30, and_self])) (hP.sub (ws' := []) [] rfl) (hD.sub (ws' := []) [] (by decide) rfl) hS d_Gate_isInstruction_107
