/-! a throw out of the class, and its catch in the law's own helper -/
def lg_s (X : String) : MethodName := ⟨X, "<init>", "(Ljava/lang/String;)V"⟩
def dc_l : List MethodName := [lg_s "java/lang/RuntimeException", lg_s "java/lang/Exception", lg_s "java/lang/Throwable"]
def ca_l : List String := ["java/lang/IllegalArgumentException", "java/lang/IllegalStateException", "java/lang/IndexOutOfBoundsException"]
def zs_w (U : State) : Prop := va_Zq Bundle.tN "UNASSIGNED_STACK" Bundle.steD (fun _ => False) U U.heap ∧ va_Zq Bundle.tN "SUPPRESSED_SENTINEL" Bundle.listD (fun _ => False) U U.heap ∧
  (Cond.laysStatic Bundle.tN "UNASSIGNED_STACK" Bundle.steD).before #[] U = true ∧ (Cond.laysStatic Bundle.tN "SUPPRESSED_SENTINEL" Bundle.listD).before #[] U = true ∧ (∀ x ∈ dc_l, va_Nw (.declares x) U) ∧ ∀ x ∈ ca_l, va_Nw (.castable x x) U
theorem ls_to {args args' : Array Value} {s U : State} {C n d : String} (h : (Cond.laysStatic C n d).before args s = true) (hH : ∀ q : Nat, q < s.heap.size → U.heap[q]? = s.heap[q]?) (hvm : s.vm.Alike U.vm) : (Cond.laysStatic C n d).before args' U = true := by
  obtain ⟨c, k, i, f, a, cell, hc, hi, hst, ha, hcell, hs, hcls, hlt, hty⟩ := Cond.laysStatic_spec h
  obtain ⟨k', hi', hek⟩ := State.fieldFound?_setVm hvm hi
  exact Cond.laysStatic_of (s := U) (by rw [hvm.findClass]; exact hc) hi' hst (by rw [hek]; exact ha) (by rw [hH a (Array.getElem?_eq_some_iff.mp hcell).1]; exact hcell) hs hcls hlt (by rw [hek]; exact hty)
theorem zs_to {s U : State} (h : zs_w s) (hH : ∀ q : Nat, q < s.heap.size → U.heap[q]? = s.heap[q]?) (hvm : s.vm.Alike U.vm) : zs_w U := by
  obtain ⟨h1, h2, h3, h4, h5, h6⟩ := h
  refine ⟨va_Zq.moved hvm (h1.kept (fun a ha _ => hH a ha)), va_Zq.moved hvm (h2.kept (fun a ha _ => hH a ha)), ls_to h3 hH hvm, ls_to h4 hH hvm, fun x hx => ?_, fun x hx => ?_⟩
  · exact va_tabs rfl (rfl : (s.setVm U.vm).vm = U.vm) (by rw [Cond.declares_setVm hvm]; exact h5 x hx)
  · exact va_tabs rfl (rfl : (s.setVm U.vm).vm = U.vm) (by rw [Cond.castable_setVm hvm]; exact h6 x hx)
theorem zs_is {args : Array Value} {U : State} {C n d : String} (h : va_Zq C n d (fun _ => False) U U.heap) : (Cond.isRef (.static C n d)).before args U = true := by
  rcases h with ⟨cf, kf, fi, f, a, cell, h1, h2, h3, h4, h5, h6, h7, h8⟩ | ⟨t, cf, kf, fi, f, a, cell, h1, h2, h3, h4, h5, h6, h7, h8⟩
  · simp [Cond.before, Cond.holds, Cond.value, Term.eval, State.fieldNamed?, h1, h2, h4, h5, h6, h7, Value.isRef]
  · simp [Cond.before, Cond.holds, Cond.value, Term.eval, State.fieldNamed?, h1, h2, h4, h5, h6, h7, Value.isRef]
theorem hp_same {s u : State} {k n : Nat} (h : s.sameButNew u [] k n) : ∀ q : Nat, q < s.heap.size → u.heap[q]? = s.heap[q]? := by
  intro q hq
  obtain ⟨c', h1, h2, h3, h4⟩ := h.2.2.2.2.2 q _ (Array.getElem?_eq_getElem hq)
  rw [h1, Array.getElem?_eq_getElem hq]
  have e : c'.slots = s.heap[q].slots := by
    apply Array.ext_getElem?
    intro i
    exact h4 i (by simp)
  rw [h2, e]
section THA
variable {E : CtlPost} {e : Env} {d : Bool} {acts : List Action} {u : State} {f : JFrame} {a : Addr} {Q : Handler → Pre}
theorem ct_go {x : ExceptionTableEntry} {t : List ExceptionTableEntry} {cT : ClassId} {cell : Cell} {b : Bool} (hx : covers x f.pc = true) (h0 : x.catchType ≠ 0) (hl : u.vm.ClassLinks e.platform f.method.cls x.catchType cT)
    (hcell : u.heap[a]? = some cell) (hobj : ∀ k, cell.vm ≠ .statics k) (hk : ∃ k, (u.vm.noted f.method.cls x.catchType (.cls cT)).classes[cell.cls]? = some k) (hc : ∃ k, (u.vm.noted f.method.cls x.catchType (.cls cT)).classes[cT]? = some k)
    (hsz : (u.vm.noted f.method.cls x.catchType (.cls cT)).classes.size ≤ u.vm.classes.size) (hfit : (u.vm.noted f.method.cls x.catchType (.cls cT)).assignable cell.cls cT = b) :
    wp (findHandler.go f a (x :: t)) Q E e d acts u ↔ (if b = true then Q (.found x.handlerPc) d acts (u.setVm (u.vm.noted f.method.cls x.catchType (.cls cT))) else wp (findHandler.go f a t) Q E e d acts (u.setVm (u.vm.noted f.method.cls x.catchType (.cls cT)))) := by
  simp only [covers] at hx
  obtain ⟨ha, ht⟩ := (resolveClass_links e.toSetting hl).op (op := VmOp.resolveClass f.method.cls x.catchType) rfl
  cases b <;> simp [findHandler.go, hx, h0, ha, ht, hsz, hcell, hobj, hk, hc, hfit, VmOp.dirties, VmOp.acts]
end THA

/-- what the search finds, and the tables that it leaves -/
def fd_w (e : Env) (u : State) (f : JFrame) (a : Addr) (h : Handler) (vm' : Vm) : Prop := ∀ (Q : Handler → Pre) (E : CtlPost) (d : Bool) (acts : List Action), wp (findHandler f a) Q E e d acts u ↔ Q h d acts (u.setVm vm')
theorem sc_1 {e : Env} {u : State} {a : Addr} {f : JFrame} {r : List Frame} {pc : Nat} {vm' : Vm} (hfind : fd_w e u f a (.found pc) vm') :
    (stepThrowing e u a (.java f :: r)).Is ((u.setVm vm').setFrames (.java { f with pc := pc, stack := [.ref a] } :: r)) [] := by
  simp only [stepThrowing, searchFrame, vmDo]
  generalize hr : Sem.go _ e false [] u = res
  obtain ⟨as, rfl, ha⟩ := Sem.eq_ok_of hr (a := Handler.found pc) (s' := u.setVm vm') (acts' := []) (by simp [hfind _ _ _ _])
  exact ⟨rfl, ha⟩
theorem sc_2 {tb : Tables} {e : Env} {s target : State} {g : JFrame} {c : Code} {below : List Frame} {a : Addr} {vm' : Vm} (h : At s g.method c below) {pc : Nat} (hfind : fd_w e ((s.setTop g).pushFrame (.throwing a)) g a (.found pc) vm')
    (hrest : Steps tb e below ((s.setVm vm').setTop { g with pc := pc, stack := [.ref a] }) target) :
    Steps tb e below ((s.setTop g).pushFrame (.throwing a)) target := by
  obtain ⟨hgo, hw⟩ := h.throwing a
  refine Steps.head hgo hw ?_
  rw [stepThread_throwing (frames_entered h.top _), (sc_1 (u := (s.setTop g).pushFrame (.throwing a)) hfind).1]
  obtain ⟨g₀, hg⟩ := Option.isSome_iff_exists.mp h.top
  obtain ⟨r, hr⟩ := State.topJava?_eq_some.mp hg
  have hr2 : (s.setVm vm').frames = .java g₀ :: r := hr
  rw [State.setTop_of_frames _ hr2] at hrest
  rw [State.pushFrame, State.setTop_of_frames _ hr, State.setFrames_setFrames, hr]
  rw [show ∀ X : List Frame, (s.setFrames X).setVm vm' = (s.setVm vm').setFrames X from fun _ => rfl, State.setFrames_setFrames]
  exact hrest
section THB
variable {p : Program} {l : Launch} {e : Env} {R : Room} {s : State} {m : MethodId} {args : Array Value} {below : List Frame} {meth : Method} {c : Code} {T : State} {locs : List Loc} {cells slots : Nat}
/-- the first entry takes it -/
theorem fd_1 (X : Stand p l e R s m args below meth c T locs cells slots) {own C1 : String} (hown : s.vm.findClass own = some m.cls) {x1 : ExceptionTableEntry} {tl : List ExceptionTableEntry} (htab : c.exceptionTable.toList = x1 :: tl)
    (hl1 : (Cond.classLink own x1.catchType C1).before args s = true) {g : JFrame} (hg : g.method = m) (hc1 : covers x1 g.pc = true) (h01 : x1.catchType ≠ 0) {a : Addr} {cell : Cell} (hcell : T.heap[a]? = some cell) (hvm : cell.vm = .none)
    {cE : ClassId} (hE : s.vm.findClass C1 = some cE) (hcE : cell.cls = cE) (hasg : s.vm.assignable cE cE = true) :
    ∃ vm', s.WarmedH vm' ∧ Stand p l e R s m args below meth c (T.setVm vm') locs cells slots ∧ fd_w e ((T.setTop g).pushFrame (.throwing a)) g a (.found x1.handlerPc) vm' := by
  subst hg
  have hpl : e.platform.magicAccessors = ({} : Platform).magicAccessors := by rw [X.admits.platform]
  obtain ⟨c1, hc1', hcl⟩ := Cond.classLink_spec hown hl1 e.platform hpl
  cases hE.symm.trans hc1'
  obtain ⟨dk, _, _, kt, hd, _, _, _, _, hkt, _, hopen⟩ := hcl.here
  have hcl₀ := X.warmed.classLinks hcl
  have hW' : s.WarmedH (T.vm.noted g.method.cls x1.catchType (.cls cE)) := X.warmed.noted hd hopen (State.rightAt_cls hcl)
  obtain ⟨kt', hkt', -⟩ := hW'.alike.2.2 _ _ hkt
  have hu : ((T.setTop g).pushFrame (.throwing a)).vm = T.vm := throwing_vm T g a
  have huh : ((T.setTop g).pushFrame (.throwing a)).heap = T.heap := throwing_heap T g a
  refine ⟨_, hW', X.noted hW', fun Q E d acts => ?_⟩
  rw [W.findHandler_eq (meth := meth) (code := c) (by rw [hu]; exact X.method') X.code, htab]
  rw [ct_go (cT := cE) (cell := cell) (b := true) hc1 h01 (by rw [hu]; exact hcl₀) (by rw [huh]; exact hcell) (by rw [hvm]; intro k hk; cases hk) (by rw [hu, hcE]; exact ⟨kt', hkt'⟩) (by rw [hu]; exact ⟨kt', hkt'⟩) (by rw [hu]; no_record) (by rw [hu, hcE, hW'.alike.assignable]; exact hasg)]
  rw [if_pos rfl, hu]
/-- the first entry lets it pass, the second takes it -/
theorem fd_2 (X : Stand p l e R s m args below meth c T locs cells slots) {own C1 C2 : String} (hown : s.vm.findClass own = some m.cls) {x1 x2 : ExceptionTableEntry} {tl : List ExceptionTableEntry} (htab : c.exceptionTable.toList = x1 :: x2 :: tl)
    (hl1 : (Cond.classLink own x1.catchType C1).before args s = true) (hl2 : (Cond.classLink own x2.catchType C2).before args s = true) {g : JFrame} (hg : g.method = m) (hc1 : covers x1 g.pc = true) (h01 : x1.catchType ≠ 0) (hc2 : covers x2 g.pc = true) (h02 : x2.catchType ≠ 0) {a : Addr} {cell : Cell} (hcell : T.heap[a]? = some cell) (hvm : cell.vm = .none)
    {c1 cE : ClassId} (h1 : s.vm.findClass C1 = some c1) (hE : s.vm.findClass C2 = some cE) (hcE : cell.cls = cE) (hno : s.vm.assignable cE c1 = false) (hasg : s.vm.assignable cE cE = true) :
    ∃ vm', s.WarmedH vm' ∧ Stand p l e R s m args below meth c (T.setVm vm') locs cells slots ∧ fd_w e ((T.setTop g).pushFrame (.throwing a)) g a (.found x2.handlerPc) vm' := by
  subst hg
  have hpl : e.platform.magicAccessors = ({} : Platform).magicAccessors := by rw [X.admits.platform]
  obtain ⟨c1', hc1', hcl1⟩ := Cond.classLink_spec hown hl1 e.platform hpl
  cases h1.symm.trans hc1'
  obtain ⟨cE', hcE', hcl2⟩ := Cond.classLink_spec hown hl2 e.platform hpl
  cases hE.symm.trans hcE'
  obtain ⟨dk, _, _, kt, hd, _, _, _, _, hkt, _, hopen⟩ := hcl1.here
  obtain ⟨dk2, _, _, ke, hd2, _, _, _, _, hke, _, hopen2⟩ := hcl2.here
  have hcl₀ := X.warmed.classLinks hcl1
  have hW1 : s.WarmedH (T.vm.noted g.method.cls x1.catchType (.cls c1)) := X.warmed.noted hd hopen (State.rightAt_cls hcl1)
  have hcl₂ := hW1.classLinks hcl2
  have hW2 : s.WarmedH ((T.vm.noted g.method.cls x1.catchType (.cls c1)).noted g.method.cls x2.catchType (.cls cE)) := hW1.noted hd2 hopen2 (State.rightAt_cls hcl2)
  obtain ⟨kt1, hkt1, -⟩ := hW1.alike.2.2 _ _ hkt
  obtain ⟨ke1, hke1, -⟩ := hW1.alike.2.2 _ _ hke
  obtain ⟨ke2, hke2, -⟩ := hW2.alike.2.2 _ _ hke
  have hu : ((T.setTop g).pushFrame (.throwing a)).vm = T.vm := throwing_vm T g a
  have huh : ((T.setTop g).pushFrame (.throwing a)).heap = T.heap := throwing_heap T g a
  refine ⟨_, hW2, X.noted hW2, fun Q E d acts => ?_⟩
  rw [W.findHandler_eq (meth := meth) (code := c) (by rw [hu]; exact X.method') X.code, htab]
  rw [ct_go (cT := c1) (cell := cell) (b := false) hc1 h01 (by rw [hu]; exact hcl₀) (by rw [huh]; exact hcell) (by rw [hvm]; intro k hk; cases hk) (by rw [hu, hcE]; exact ⟨ke1, hke1⟩) (by rw [hu]; exact ⟨kt1, hkt1⟩) (by rw [hu]; no_record) (by rw [hu, hcE, hW1.alike.assignable]; exact hno)]
  rw [if_neg (by decide), hu]
  rw [ct_go (u := ((T.setTop g).pushFrame (.throwing a)).setVm (T.vm.noted g.method.cls x1.catchType (.cls c1))) (cT := cE) (cell := cell) (b := true) hc2 h02 hcl₂ (by show ((T.setTop g).pushFrame (.throwing a)).heap[a]? = _; rw [huh]; exact hcell) (by rw [hvm]; intro k hk; cases hk) (by rw [hcE]; exact ⟨ke2, hke2⟩) ⟨ke2, hke2⟩ (by show ((T.vm.noted g.method.cls x1.catchType (.cls c1)).noted g.method.cls x2.catchType (.cls cE)).classes.size ≤ _; no_record) (by show ((T.vm.noted g.method.cls x1.catchType (.cls c1)).noted g.method.cls x2.catchType (.cls cE)).assignable cell.cls cE = true; rw [hcE, hW2.alike.assignable]; exact hasg)]
  rw [if_pos rfl]
  rfl
end THB
/-- a contract of a method that throws: a new exception of the class X, of six slots; nothing old is written -/
def qt_w (X : String) : Array Value → State → Outcome → State → Prop := fun _ st o t => ∃ (x : Addr) (ce : Cell), o = .threw x ∧ st.heap.size ≤ x ∧ st.WarmedH t.vm ∧ st.sameButNew ({ t with vm := st.vm } : State) [] 1 6 ∧ t.heap[x]? = some ce ∧ ce.vm = .none ∧ st.vm.findClass X = some ce.cls
abbrev mt_w (l : Launch) (y : MethodName) (cc : ByteArray) (maxL : Nat) (ret : Option FieldType) (rm : Room) (Pc : Array Value → State → Prop) (X : String) : Prop := MetFree l y (headSpec (Cond.code y cc maxL ret :: TB_w) rm) Pc (fun _ _ _ _ _ => True) (qt_w X)
section THC
variable {p : Program} {l : Launch} {e : Env} {R : Room} {s : State} {m : MethodId} {args : Array Value} {below : List Frame} {meth : Method} {c : Code} {H : Heap} {locs : List Loc} {cells slots : Nat} {Q : State → Prop}
/-- a call of it, and the catch: 'hfd' says what the search finds -/
theorem cl_T {cc bytes : ByteArray} {nL maxL index n : Nat} {own C X : String} {y : MethodName} {ret : Option FieldType} {rm : Room} {Pc : Array Value → State → Prop} {b : Addr} {As rest : List Value} {pc hpc : Nat} {ls : Array Slot} {st0 : List Value}
    (S : CallFix p m c cc nL s args TB_w own) (hM : mt_w l y bytes maxL ret rm Pc X) (cw : CallW R s args own C index y bytes maxL ret (Cond.code y bytes maxL ret :: TB_w) rm 1 6 n) (hp : PreV s H C b Pc As)
    (hn : As.length = n) (hsize : ls.size = nL) (hstack : st0 = As.reverse ++ .ref b :: rest) (hW : (rest.map fun v => v.category).sum ≤ 8) (hdg : decode cc pc = .ok (.invokevirtual index, 3)) (hf : cells + 1 ≤ R.cells ∧ slots + 6 ≤ R.slots)
    (hfd : ∀ (T' : State) (locs' : List Loc) (k' n' : Nat) (x : Addr) (ce : Cell), Stand p l e R s m args below meth c T' locs' k' n' → T'.heap[x]? = some ce → ce.vm = .none → s.vm.findClass X = some ce.cls → ∃ vm', s.WarmedH vm' ∧ Stand p l e R s m args below meth c (T'.setVm vm') locs' k' n' ∧ fd_w e ((T'.setTop (F0 m pc ls rest)).pushFrame (.throwing x)) (F0 m pc ls rest) x (.found hpc) vm')
    (kk : ∀ (x : Nat) (H1 : Heap), H.size ≤ H1.size → (∀ q : Nat, q < H.size → H1[q]? = H[q]?) → W p l e R s m args below meth c H1 locs (cells + 1) (slots + 6) Q (F0 m hpc ls [.ref x])) : W p l e R s m args below meth c H locs cells slots Q (F0 m pc ls st0) := by
  intro T hT X0
  obtain ⟨⟨hrc, hrs, hfr, hlo, hws, hcw, hcode, hini, hy, hlen, hl⟩, hinst, hsel⟩ := cw
  obtain ⟨hx, hb, hml, ho, hts⟩ := S
  obtain ⟨hbl, ⟨cellB, hcB, hoB, hclB⟩, hPc⟩ := hp
  obtain ⟨mk, methM, hnamed, hmethM, hstM, habM⟩ := Cond.instanceMethod_spec hinst
  obtain ⟨methM', cM, hmethM', hcM, -, hlM, -, -, -, hsigM⟩ := Cond.code_spec hnamed hcode
  cases hmethM.symm.trans hmethM'
  obtain ⟨c2, r2, m2, q1, q2, q3, q4, kP, hkP, hkPi⟩ := Cond.selects_spec hsel
  cases hclB.symm.trans q1
  cases (State.methodFound?_of_named hnamed hy).symm.trans q2
  cases hnamed.symm.trans q3
  have hselP : selectMethod e.platform s.vm cellB.cls mk = .method mk := by rw [Launch.admits_selectMethod X0.admits]; exact q4
  obtain ⟨vm₁, X₁, hstep₁⟩ := X0.invokevirtual hx ho hl hnamed hmethM hstM hkP hkPi hy (a := b) (cell := cellB) (by rw [hT]; exact hcB)
    (fun z h => by rw [h] at hoB; cases hoB) hselP hmethM habM hkP hkPi (g := F0 m pc ls st0) rfl (argsL := As) (rest := rest) (hn.trans (hlen _ hsigM)) hstack (by rw [hb]; exact hdg)
  have hn1 : (T.setVm vm₁).methodNamed? y = some mk := X₁.named hnamed
  obtain ⟨kY, hkY, -⟩ := className_of_methodNamed hn1
  have hinitY : kY.init = .initialized := Cond.initialized_spec (findClass_of_methodNamed hn1) hkY (word_at (a' := (Value.ref b :: As).toArray) X₁.warmed (Or.inl (by first | rfl | simp [Cond.onTables, Cond.keeps, Cond.steady])) hini)
  have hAt : At (T.setVm vm₁) (F0 m pc ls rest).method c below := X₁.here
  have happ : (headSpec (Cond.code y bytes maxL ret :: TB_w) rm).appliesLoose y e.platform ((T.setVm vm₁).calling (F0 m pc ls rest) mk (Value.ref b :: As).toArray) = true :=
    Spec.appliesLoose_calling (g := F0 m pc ls rest) hAt (by rw [hb]; exact hdg) hn1 hkY hinitY
      (X₁.room_calling (g := F0 m pc ls rest) (R' := rm) (hsize.trans hml.symm) (show (T.setVm vm₁).vm.method? mk = some methM by rw [X₁.warmed.alike.method?]; exact hmethM) hcM hfr (by rw [hlM]; show 2 * 0 + (rest.map fun v => v.category).sum + (maxL + 11) + rm.locals ≤ _; omega) (by rw [hrc]; exact hf.1) (by rw [hrs]; exact hf.2)) (atoms_intro fun w hw => hws w hw _ _ X₁.warmed)
  obtain ⟨mid, hmid⟩ := hAt.above
  have hfr2 : ((T.setVm vm₁).setTop (F0 m pc ls rest)).frames = (.java (F0 m pc ls rest) :: mid) ++ below := by rw [State.frames_setTop' _ hAt.top, hmid]; rfl
  obtain ⟨o, s₂, hsteps, -, hend, hq⟩ := Steps.callFree hM p X₁.admits X₁.cas X₁.clock (acts := []) hfr2 happ (hbl _ _ _ _ (hPc (T.setVm vm₁) hT X₁.warmed)) trivial
  obtain ⟨x, ce, rfl, hx0, hW₂, hsame, hce, hvm, hcl⟩ := hq
  rw [State.frames_setTop' _ hAt.top, X₁.tail] at hend
  obtain ⟨T', X', hWT, hsameT, rfl⟩ := X₁.outOfThrown (g := F0 m pc ls rest) (mk := mk) (a := (Value.ref b :: As).toArray) rfl hend hW₂ hsame
  have hh' : ((T'.setTop (F0 m pc ls rest)).pushFrame (.throwing x)).heap = T'.heap := throwing_heap T' _ x
  rw [hh'] at hce
  have hclS : s.vm.findClass X = some ce.cls := by rw [← X₁.warmed.alike.findClass]; exact hcl
  obtain ⟨vm', hWv, Xv, hfind⟩ := hfd T' _ _ _ x ce X' hce hvm hclS
  have hsz : H.size ≤ T'.heap.size := by rw [← hT]; exact hsameT.2.1
  obtain ⟨t, a1, b1⟩ := kk x T'.heap hsz (fun q hq => by rw [← hT]; exact hp_same hsameT q (show q < T.heap.size by rw [hT]; exact hq)) (T'.setVm vm') rfl (by simpa using Xv)
  exact ⟨t, hstep₁ _ fun acts => by rw [doInvoke_state]; exact hsteps.trans (sc_2 (g := F0 m pc ls rest) X'.here hfind a1), b1⟩
end THC
