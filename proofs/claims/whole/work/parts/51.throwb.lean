def ms_w (U : State) : Prop := (∃ a, vk_R R_Gate 79 "no such instruction" a U) ∧ (∃ a, vk_R R_Gate 90 "no instruction can be added any more" a U) ∧ ∃ a, vk_R R_Gate 138 "no such cell" a U
theorem ms_warm {s U : State} (hW : s.WarmedH U.vm) (h : ms_w s) : ms_w U := by
  obtain ⟨⟨a, ha⟩, ⟨b, hb⟩, ⟨c, hc⟩⟩ := h
  exact ⟨⟨a, ha.warm hW⟩, ⟨b, hb.warm hW⟩, ⟨c, hc.warm hW⟩⟩
theorem ms_call {U : State} {g : JFrame} {mk : MethodId} {a : Array Value} (h : ms_w U) : ms_w (U.calling g mk a) := by
  obtain ⟨⟨a1, ha⟩, ⟨b1, hb⟩, ⟨c1, hc⟩⟩ := h
  exact ⟨⟨a1, vk_R.same rfl ha⟩, ⟨b1, vk_R.same rfl hb⟩, ⟨c1, vk_R.same rfl hc⟩⟩
theorem zs_call {U : State} {g : JFrame} {mk : MethodId} {a : Array Value} (h : zs_w U) : zs_w (U.calling g mk a) := zs_to h (fun _ _ => rfl) (Vm.Alike.refl U.vm)
/-- the statics, seen from a start s and a heap H that keeps s's cells -/
theorem zs_at {s U : State} {H : Heap} (h : zs_w s) (hH : ∀ q : Nat, q < s.heap.size → H[q]? = s.heap[q]?) (hU : U.heap = H) (hW : s.WarmedH U.vm) : zs_w U := zs_to h (fun q hq => by rw [hU]; exact hH q hq) hW.alike
def pre_t (D : va_G) (cI cL : ClassId) (ws : va_W) (sz : Nat) (U : State) : Prop := pre_w D cI cL ws sz U ∧ zs_w U ∧ ms_w U
theorem pre_tblind {D : va_G} {cI cL : ClassId} {av : List Value} {ws : va_W} {sz : Nat} : FrameBlind (va_Pc av (pre_t D cI cL ws sz)) := fun a U g mk q => by
  obtain ⟨q0, q1, q2, q3⟩ := q
  exact ⟨q0, (pre_blind a U g mk ⟨q0, q1⟩).2, zs_call q2, ms_call q3⟩
theorem pv_T {D : va_G} {cI cL : ClassId} {s : State} {H : Heap} {A : Nat → Prop} {wc : va_W} {b q0 ci : Nat} {q : vw_C} {fs As : List Value} (hK : kn_w D cI cL s) (hZ : zs_w s) (hM : ms_w s) (hH : ∀ q : Nat, q < s.heap.size → H[q]? = s.heap[q]?) (hP : va_P D classes wc H) (hD : va_D A wc) (hc : classes[ci]? = some q) (he : wc[q0]? = some (b, .inr (ci, fs))) : PreV s H q.1 b (va_Pc (.ref b :: As) (pre_t D cI cL wc H.size)) As :=
  ⟨pre_tblind, va_recv hK.1 hP hc he, fun U hU hW => ⟨rfl, ⟨by rw [hU], by rw [hU]; exact hP, kn_warm hW hK, hD.weaken (fun _ _ _ _ => trivial)⟩, zs_at hZ hH hU hW, ms_warm hW hM⟩⟩
theorem kp_0 {D : va_G} {W0 : va_W} {s : State} {H : Heap} {locs : List Loc} (hP0 : va_P D classes W0 s.heap) (hS : va_S (fun q : Nat => s.heap.size ≤ q) s.heap H locs) : va_P D classes W0 H :=
  hP0.kept (fun k q hk => hS.2.1 q.1 (hP0 k q hk).lt (Nat.not_le.mpr (hP0 k q hk).lt))
section THD
variable {l : Launch}
theorem st_t {y : MethodName} {rm : Room} {av : List Value} {W0 : va_W} {sz : Nat} {cc : ByteArray} {maxL : Nat} {ret : Option FieldType} {D : va_G} {cI cL : ClassId} {X : String} (hy : plainName y.cls = true) (hlen : (lg_sl av).length ≤ maxL)
    (body : ∀ (p : Program) (e : Env) (s : State) (m : MethodId) (below : List Frame) (meth : Method) (c : Code) (ls : Array Slot), fx_w p m meth c cc maxL ret s av.toArray y → kn_w D cI cL s → va_P D classes W0 s.heap → va_D (fun _ => True) W0 → zs_w s → ms_w s → c.exceptionTable.toList = [] → lv_has ls maxL (lv_args 0 av) →
      W p l e rm s m av.toArray below meth c s.heap [] 0 0 (fun t => ∃ o, t.status = .running ∧ Ended t below o ∧ qt_w X av.toArray s o t) (F0 m 0 ls [])) : mt_w l y cc maxL ret rm (va_Pc av (pre_t D cI cL W0 sz)) X := by
  refine MetFree.of_bodyS (code := cc) (maxLocals := maxL) (ret := ret) hy ?_ ?_
  · intro args s m h hn
    obtain ⟨meth, c, h1, h2, h3, h4, h5, h6, -, -⟩ := Cond.code_spec hn (atoms_spec (ws := Cond.code y cc maxL ret :: TB_w) h _ List.mem_cons_self)
    exact ⟨meth, c, h1, h2, h3, h4, h5, h6⟩
  · intro p e s m args below meth c s₁ B hml hv _
    obtain ⟨rfl, ⟨hsz, hP, hK, hD0⟩, hZ, hM⟩ := hv
    have hts := atoms_spec (ws := Cond.code y cc maxL ret :: TB_w) B.pre
    have hl := lv_entry av (n := maxL) hlen
    have hne : c.exceptionTable.toList = [] := by
      have h0 := B.noHandlers (hts _ List.mem_cons_self)
      have h1 : c.exceptionTable.size = 0 := by simpa [Array.isEmpty] using h0
      exact List.eq_nil_of_length_eq_zero (by simpa using h1)
    have hh0 : s₁.heap = s.heap := by rw [B.state]; rfl
    have K := body p e s m below meth c _ ⟨B.exec, B.bytes, hml, findClass_of_methodNamed B.named, fun w hw => hts w (List.mem_cons_of_mem _ hw), B.returns, B.notSynchronized, (name_of_methodNamed B.named B.method).1⟩ hK hP hD0 hZ hM hne hl
    rw [← lg_entry_eq] at K
    obtain ⟨t, a1, o, b1, b2, b3⟩ := K s₁ hh0 (Stand.of_body B)
    exact ⟨t, o, a1, b1, b2, b3⟩
theorem st_p {y : MethodName} {rm : Room} {av : List Value} {W0 : va_W} {sz : Nat} {post : Int32 → Unit → Prop} {cc : ByteArray} {maxL : Nat} {ret : Option FieldType} {D : va_G} {cI cL : ClassId} (hy : plainName y.cls = true) (hlen : (lg_sl av).length ≤ maxL)
    (body : ∀ (p : Program) (e : Env) (s : State) (m : MethodId) (below : List Frame) (meth : Method) (c : Code) (A : Nat → Prop) (ls : Array Slot), fx_w p m meth c cc maxL ret s av.toArray y → kn_w D cI cL s → va_P D classes W0 s.heap → va_S A s.heap s.heap [] → lv_has ls maxL (lv_args 0 av) →
      W p l e rm s m av.toArray below meth c s.heap [] 0 0 (MQ below (va_Qi post (fun _ t => pos_w D A [] t) A) av.toArray s 0 0 A) (F0 m 0 ls [])) : Met l y (Cond.code y cc maxL ret :: TB_w) rm (va_Pc av (pre_w D cI cL W0 sz)) (va_Qi post (fun _ t => pos_w D (va_A [] sz) [] t) (va_A [] sz)) 0 0 (va_A [] sz) := by
  refine Met.ofW (cc := cc) (maxL := maxL) (ret := ret) hy rfl ?_
  intro p e s m args below meth c s₁ B hml hv
  obtain ⟨rfl, hsz, hP, hK, hD0⟩ := hv
  have hts := atoms_spec (ws := Cond.code y cc maxL ret :: TB_w) B.pre
  subst hsz
  have hl := lv_entry av (n := maxL) hlen
  rw [lg_entry_eq]
  exact body p e s m below meth c (va_A [] s.heap.size) _ ⟨B.exec, B.bytes, hml, findClass_of_methodNamed B.named, fun w hw => hts w (List.mem_cons_of_mem _ hw), B.returns, B.notSynchronized, (name_of_methodNamed B.named B.method).1⟩ hK hP va_S.rf hl
end THD
section THE
variable {p : Program} {l : Launch} {e : Env} {R : Room} {s : State} {m : MethodId} {args : Array Value} {below : List Frame} {meth : Method} {c : Code} {H : Heap}
theorem tr_w {cc : ByteArray} {own cls tx : String} {names : List String} {ia ib ic mq pc : Nat} {ls : Array Slot} (hx : p.tables.exec = Jvm.exec) (hb : c.code = cc) (hml : c.maxLocals = ls.size) (hown : s.vm.findClass own = some m.cls) (hlocks : meth.locks = false) (hno : c.exceptionTable.toList = []) (hfl : l.stackTraces = false)
    (hcl : (Cond.classLink own ia cls).before args s = true) (hins : (Cond.instantiable cls 6).before args s = true) (hini : (Cond.initialized cls).before args s = true) (hZ : vk_R own ib tx mq s) (hat : ∀ a ∈ Bundle.ownAtoms own ic cls names, a.before args s = true) (hfit : Bundle.fit cls = true) (hnames : ∀ n ∈ names, Bundle.fit n = true)
    (d0 : decode cc pc = .ok (.new ia, 3)) (d3 : decode cc (pc + 3) = .ok (.dup, 1)) (d4 : decode cc (pc + 4) = .ok (.ldc ib, 2)) (d6 : decode cc (pc + 6) = .ok (.invokespecial ic, 3)) (d9 : decode cc (pc + 9) = .ok (.athrow, 1)) (hsz : s.heap.size ≤ H.size)
    (hRf : names.length + 3 < R.frames) (hRl : 1 + (13 * (names.length + 1) + 42) ≤ R.locals) (hRc : 0 + 1 ≤ R.cells) (hRs : 0 + 6 ≤ R.slots) :
    W p l e R s m args below meth c H [] 0 0 (fun t => ∃ o, t.status = .running ∧ Ended t below o ∧ qt_w cls args s o t) (F0 m pc ls []) := by
  refine W.newc hx hb hown hcl hins hini rfl d0 hRc hRs (fun cC kC h1 h2 h3 h4 => ?_)
  refine W.eq (g2 := F0 m (pc + 3) ls [.ref H.size]) rfl ?_
  refine lv_dup hx hb d3 rfl ?_
  refine va_ldcS hx hb hown hZ d4 ?_
  intro T hT X
  have htr : e.platform.stackTraces = false := by rw [X.admits.platform]; exact hfl
  have hcell : T.heap[H.size]? = some (freshCell cC kC) := by rw [hT]; simp [freshCell]
  obtain ⟨U, st, hrun, hend, hW, hsame, ce, hce, hO⟩ := X.ctorThrowS hx htr (own := own) (cls := cls) (names := names) (ic := ic) hown hfit hnames hat (fun x h => by cases h) (a := H.size) (cX := cC) (kX := kC) h1 h2 hcell hsz (msg := .ref mq) rfl
    (g := F0 m (pc + 6) ls [.ref mq, .ref H.size, .ref H.size]) rfl hml.symm rfl rfl (rest := []) rfl (by rw [hb]; exact d6) (by rw [hb]; exact d9) (fun x hx => by rw [hno] at hx; cases hx) hRf (by show 2 * 0 + 1 + _ ≤ _; omega) hlocks
  exact ⟨U, st, .threw H.size, hrun, hend, H.size, ce, rfl, hsz, hW, by simpa using hsame, hce, hO.vm, hO.cls⟩
end THE
def sw_l : List Cond := [.isRef (.static Bundle.tN "UNASSIGNED_STACK" Bundle.steD), .isRef (.static Bundle.tN "SUPPRESSED_SENTINEL" Bundle.listD), .laysStatic Bundle.tN "UNASSIGNED_STACK" Bundle.steD, .laysStatic Bundle.tN "SUPPRESSED_SENTINEL" Bundle.listD] ++ dc_l.map Cond.declares ++ ca_l.map (fun x => Cond.castable x x)
theorem zs_all {args : Array Value} {s : State} (hZ : zs_w s) : ∀ w ∈ sw_l, w.before args s = true := by
  obtain ⟨h1, h2, h3, h4, h5, h6⟩ := hZ
  intro w hw
  rcases List.mem_append.mp hw with hw | hw
  · rcases List.mem_append.mp hw with hw | hw
    · rcases List.mem_cons.mp hw with rfl | hw
      · exact zs_is h1
      · rcases List.mem_cons.mp hw with rfl | hw
        · exact zs_is h2
        · rcases List.mem_cons.mp hw with rfl | hw
          · exact ls_to h3 (fun _ _ => rfl) (Vm.Alike.refl s.vm)
          · rcases List.mem_cons.mp hw with rfl | hw
            · exact ls_to h4 (fun _ _ => rfl) (Vm.Alike.refl s.vm)
            · cases hw
    · obtain ⟨x, hx, rfl⟩ := List.mem_map.mp hw
      exact va_Nw.use rfl (h5 x hx)
  · obtain ⟨x, hx, rfl⟩ := List.mem_map.mp hw
    exact va_Nw.use rfl (h6 x hx)
theorem oa_in {args : Array Value} {s : State} (htb : ∀ w ∈ TB_w, w.before args s = true) (hZ : zs_w s) {L : List Cond} (h : L.all (fun w => decide (w ∈ lw_tbl) && goodWord w || decide (w ∈ sw_l)) = true) : ∀ a ∈ L, a.before args s = true := by
  intro a ha
  have h1 := List.all_eq_true.mp h a ha
  simp only [Bool.or_eq_true, Bool.and_eq_true, decide_eq_true_eq] at h1
  rcases h1 with ⟨h2, h3⟩ | h2
  · exact htb _ (List.mem_filter.mpr ⟨h2, h3⟩)
  · exact zs_all hZ _ h2
set_option maxRecDepth 20000 in
theorem oa_1 : (Bundle.ownAtoms R_Gate 81 "java/lang/IllegalArgumentException" ["java/lang/RuntimeException", "java/lang/Exception"]).all (fun w => decide (w ∈ lw_tbl) && goodWord w || decide (w ∈ sw_l)) = true := by decide +kernel
set_option maxRecDepth 20000 in
theorem oa_2 : (Bundle.ownAtoms R_Gate 92 "java/lang/IllegalStateException" ["java/lang/RuntimeException", "java/lang/Exception"]).all (fun w => decide (w ∈ lw_tbl) && goodWord w || decide (w ∈ sw_l)) = true := by decide +kernel
set_option maxRecDepth 20000 in
theorem oa_3 : (Bundle.ownAtoms R_Gate 140 "java/lang/IndexOutOfBoundsException" ["java/lang/RuntimeException", "java/lang/Exception"]).all (fun w => decide (w ∈ lw_tbl) && goodWord w || decide (w ∈ sw_l)) = true := by decide +kernel
