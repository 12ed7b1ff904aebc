
theorem lwt_0 : (Cond.methodLinkNest R_Gate 9 y_Prog_init "TwinGate") ∈ lw_tbl := List.mem_of_getElem? (i := 43) (by decide +kernel)
theorem lwt_1 : (Cond.methodLinkNest R_Gate 32 y_Plan_init "TwinGate") ∈ lw_tbl := List.mem_of_getElem? (i := 87) (by decide +kernel)
theorem lwt_2 : (Cond.methodLinkNest R_Copy 37 y_Gate_isBelow "TwinGate") ∈ lw_tbl := List.mem_of_getElem? (i := 201) (by decide +kernel)
theorem lwt_3 : (Cond.laysStatic "java/lang/Throwable" "UNASSIGNED_STACK" "[Ljava/lang/StackTraceElement;") ∈ lw_tbl := List.mem_of_getElem? (i := 316) (by decide +kernel)
theorem lwt_4 : (Cond.laysStatic "java/lang/Throwable" "SUPPRESSED_SENTINEL" "Ljava/util/List;") ∈ lw_tbl := List.mem_of_getElem? (i := 318) (by decide +kernel)
theorem lwt_5 : (Cond.initialized "java/lang/Throwable") ∈ lw_tbl := List.mem_of_getElem? (i := 26) (by decide +kernel)
theorem gn_6 : (Cond.isRef (.static "java/lang/Throwable" "UNASSIGNED_STACK" "[Ljava/lang/StackTraceElement;")) ∈ flatC (Jvm.Cond.and given_1 narrow_1) := by decide +kernel
theorem gn_7 : (Cond.isRef (.static "java/lang/Throwable" "SUPPRESSED_SENTINEL" "Ljava/util/List;")) ∈ flatC (Jvm.Cond.and given_1 narrow_1) := by decide +kernel
theorem lwt_8 : (Cond.declares (lg_s "java/lang/RuntimeException")) ∈ lw_tbl := List.mem_of_getElem? (i := 293) (by decide +kernel)
theorem lwt_9 : (Cond.declares (lg_s "java/lang/Exception")) ∈ lw_tbl := List.mem_of_getElem? (i := 295) (by decide +kernel)
theorem lwt_10 : (Cond.declares (lg_s "java/lang/Throwable")) ∈ lw_tbl := List.mem_of_getElem? (i := 297) (by decide +kernel)
theorem lwt_11 : (Cond.castable "java/lang/IllegalArgumentException" "java/lang/IllegalArgumentException") ∈ lw_tbl := List.mem_of_getElem? (i := 291) (by decide +kernel)
theorem lwt_12 : (Cond.castable "java/lang/IllegalStateException" "java/lang/IllegalStateException") ∈ lw_tbl := List.mem_of_getElem? (i := 363) (by decide +kernel)
theorem lwt_13 : (Cond.castable "java/lang/IndexOutOfBoundsException" "java/lang/IndexOutOfBoundsException") ∈ lw_tbl := List.mem_of_getElem? (i := 391) (by decide +kernel)
theorem lwt_14 : (Cond.stringRef "TwinGate" 79 "no such instruction") ∈ lw_tbl := List.mem_of_getElem? (i := 330) (by decide +kernel)
theorem gn_15 : (Cond.exactly (.string "TwinGate" 79) "java/lang/String") ∈ flatC (Jvm.Cond.and given_1 narrow_1) := by decide +kernel
theorem lwt_16 : (Cond.stringRef "TwinGate" 90 "no instruction can be added any more") ∈ lw_tbl := List.mem_of_getElem? (i := 370) (by decide +kernel)
theorem gn_17 : (Cond.exactly (.string "TwinGate" 90) "java/lang/String") ∈ flatC (Jvm.Cond.and given_1 narrow_1) := by decide +kernel
theorem lwt_18 : (Cond.stringRef "TwinGate" 138 "no such cell") ∈ lw_tbl := List.mem_of_getElem? (i := 398) (by decide +kernel)
theorem gn_19 : (Cond.exactly (.string "TwinGate" 138) "java/lang/String") ∈ flatC (Jvm.Cond.and given_1 narrow_1) := by decide +kernel
theorem gn_20 : (Cond.not (.castable "java/lang/IllegalStateException" "java/lang/IllegalArgumentException")) ∈ flatC (Jvm.Cond.and given_1 narrow_1) := by decide +kernel
set_option maxHeartbeats 4000000 in
set_option maxRecDepth 100000 in
theorem law_env {p : Program} {s : State} {m : MethodId} {meth : Method} {c : Code} {b L : Nat} {xs : Nat → Int32} (hL : L ≤ 2561) (C0 : lw_At p s m meth c b L xs) : ∃ (dC : Nat → ClassId) (dI : Nat → Nat → Nat) (cI cL : ClassId), fx_l p s m meth c (fun q : Nat => s.heap.size ≤ q) b L xs dC dI cI cL := by
  obtain ⟨hx, hb, hr, hml, hown, hts, hX, hbl, hlocks, hgv⟩ := C0
  have htb : ∀ w ∈ TB_w, w.before #[Value.ref b] s = true := fun w hw => hts w (List.mem_filter.mp hw).1
  have hs := flat_of_before _ hgv
  obtain ⟨c0, i0, k0⟩ := u_known (C := R_Gate) (T := F_Gate) (N := 12) (n := 12) htb iw_Gate (htb _ tw_34)
  obtain ⟨c1, i1, k1⟩ := u_known (C := R_Copy) (T := F_Copy) (N := 4) (n := 4) htb iw_Copy (htb _ tw_63)
  obtain ⟨c2, i2, k2⟩ := u_known (C := R_Plan) (T := F_Plan) (N := 5) (n := 5) htb iw_Plan (htb _ tw_86)
  obtain ⟨c3, i3, k3⟩ := u_known (C := R_Prog) (T := F_Prog) (N := 3) (n := 3) htb iw_Prog (htb _ tw_42)
  obtain ⟨c4, i4, k4⟩ := u_known (C := R_Modl) (T := F_Modl) (N := 21) (n := 21) htb iw_Modl (htb _ tw_410)
  obtain ⟨cI, kI, pI, a1, a2, a3⟩ := Cond.arrayClass_spec (htb _ tw_61)
  obtain ⟨cL, kL, pL, b1, b2, b3⟩ := Cond.arrayClass_spec (htb _ tw_83)
  have hK : va_K (fun k => if k = 0 then c0 else if k = 1 then c1 else if k = 2 then c2 else if k = 3 then c3 else c4, fun k => if k = 0 then i0 else if k = 1 then i1 else if k = 2 then i2 else if k = 3 then i3 else i4) classes [(cI, .int), (cL, .long)] s := by
    refine ⟨?_, ?_⟩
    · intro k q hq
      match k, hq with
      | 0, hq => cases hq; exact k0
      | 1, hq => cases hq; exact k1
      | 2, hq => cases hq; exact k2
      | 3, hq => cases hq; exact k3
      | 4, hq => cases hq; exact k4
      | k + 5, hq => simp [classes] at hq
    · intro k q hq
      match k, hq with
      | 0, hq => cases hq; exact ⟨fun n z => ⟨fun k h => (by cases h), kI, a2, pI, a3⟩, a1⟩
      | 1, hq => cases hq; exact ⟨fun n z => ⟨fun k h => (by cases h), kL, b2, pL, b3⟩, b1⟩
      | k + 2, hq => simp at hq
  have hNw : nw_all s := List.forall_mem_cons.mpr ⟨va_Nw.of rfl (hts _ lwt_0), List.forall_mem_cons.mpr ⟨va_Nw.of rfl (hts _ lwt_1), List.forall_mem_cons.mpr ⟨va_Nw.of rfl (hts _ lwt_2), fun _ h => absurd h List.not_mem_nil⟩⟩⟩
  have hZ : zs_w s := ⟨va_Zqof (hts _ lwt_3) (hts _ lwt_5) (hs _ gn_6) (fun _ _ h => h), va_Zqof (hts _ lwt_4) (hts _ lwt_5) (hs _ gn_7) (fun _ _ h => h), ls_to (hts _ lwt_3) (fun _ _ => rfl) (Vm.Alike.refl s.vm), ls_to (hts _ lwt_4) (fun _ _ => rfl) (Vm.Alike.refl s.vm), List.forall_mem_cons.mpr ⟨va_Nw.of rfl (hts _ lwt_8), List.forall_mem_cons.mpr ⟨va_Nw.of rfl (hts _ lwt_9), List.forall_mem_cons.mpr ⟨va_Nw.of rfl (hts _ lwt_10), fun _ h => absurd h List.not_mem_nil⟩⟩⟩, List.forall_mem_cons.mpr ⟨va_Nw.of rfl (hts _ lwt_11), List.forall_mem_cons.mpr ⟨va_Nw.of rfl (hts _ lwt_12), List.forall_mem_cons.mpr ⟨va_Nw.of rfl (hts _ lwt_13), fun _ h => absurd h List.not_mem_nil⟩⟩⟩⟩
  obtain ⟨s0, _, _, _, t0, _⟩ := Cond.exactly_spec (hs _ gn_15)
  obtain ⟨s1, _, _, _, t1, _⟩ := Cond.exactly_spec (hs _ gn_17)
  obtain ⟨s2, _, _, _, t2, _⟩ := Cond.exactly_spec (hs _ gn_19)
  have hM : ms_w s := ⟨⟨s0, vk_R.of (hts _ lwt_14) t0⟩, ⟨s1, vk_R.of (hts _ lwt_16) t1⟩, ⟨s2, vk_R.of (hts _ lwt_18) t2⟩⟩
  have hN : nc_w s := fun c1 c2 h1 h2 => by
    have h := hs _ gn_20
    simpa [Cond.before, Cond.holds, Cond.value, h1, h2] using h
  exact ⟨_, _, cI, cL, hx, hb, hml, hown, htb, hr, hlocks, ⟨hK, hNw⟩, hZ, hM, hN, hX, hbl, fun _ h => h, fun _ h => h, hL⟩
set_option maxHeartbeats 4000000 in
set_option maxRecDepth 100000 in
theorem whole_start {p : Program} {e : Env} {s : State} {m : MethodId} {below : List Frame} {meth : Method} {c : Code} (l : Launch) (hfl : l.stackTraces = false) {b L : Nat} {xs : Nat → Int32} (hL : L ≤ 2561) (C0 : lw_At p s m meth c b L xs) : W p l e room_1 s m #[Value.ref b] below meth c s.heap [] 0 0 (lw_Z below #[Value.ref b] s) (entryFrame m ([Value.ref b] : List Value).toArray 8) := by
  obtain ⟨dC, dI, cI, cL, hF⟩ := law_env hL C0
  have hl := lv_entry ([.ref b]) (n := 8) (Nat.le_of_ble_eq_true rfl)
  rw [lg_entry_eq]
  exact law_from hfl hF hl
