/-! the law's helpers: methods with an exception table -/
def nc_w (U : State) : Prop := ∀ c1 c2 : ClassId, U.vm.findClass "java/lang/IllegalArgumentException" = some c1 → U.vm.findClass "java/lang/IllegalStateException" = some c2 → U.vm.assignable c2 c1 = false
theorem nc_to {s U : State} (h : nc_w s) (hvm : s.vm.Alike U.vm) : nc_w U := fun c1 c2 h1 h2 => by
  rw [hvm.assignable]
  exact h c1 c2 (by rw [← hvm.findClass]; exact h1) (by rw [← hvm.findClass]; exact h2)
def pre_h (D : va_G) (cI cL : ClassId) (ws : va_W) (sz : Nat) (U : State) : Prop := pre_t D cI cL ws sz U ∧ nc_w U
theorem pre_hblind {D : va_G} {cI cL : ClassId} {av : List Value} {ws : va_W} {sz : Nat} : FrameBlind (va_Pc av (pre_h D cI cL ws sz)) := fun a U g mk q => by
  obtain ⟨q0, q1, q2⟩ := q
  exact ⟨q0, (pre_tblind a U g mk ⟨q0, q1⟩).2, nc_to q2 (Vm.Alike.refl U.vm)⟩
theorem pv_H {D : va_G} {cI cL : ClassId} {s : State} {H : Heap} {A : Nat → Prop} {wc : va_W} {As : List Value} (hK : kn_w D cI cL s) (hZ : zs_w s) (hM : ms_w s) (hN : nc_w s) (hH : ∀ q : Nat, q < s.heap.size → H[q]? = s.heap[q]?) (hP : va_P D classes wc H) (hD : va_D A wc) : PreS s H (va_Pc As (pre_h D cI cL wc H.size)) As :=
  ⟨pre_hblind, fun U hU hW => ⟨rfl, ⟨⟨by rw [hU], by rw [hU]; exact hP, kn_warm hW hK, hD.weaken (fun _ _ _ _ => trivial)⟩, zs_at hZ hH hU hW, ms_warm hW hM⟩, nc_to hN hW.alike⟩⟩
section LWA
variable {l : Launch}
theorem st_h {y : MethodName} {rm : Room} {av : List Value} {W0 : va_W} {sz : Nat} {Qc : (Nat → Prop) → Array Value → State → Outcome → State → Prop} {mc ms : Nat} {cc : ByteArray} {maxL : Nat} {ret : Option FieldType} {hh : List (Nat × Nat × Nat × Nat)} {D : va_G} {cI cL : ClassId} (hy : plainName y.cls = true) (hlen : (lg_sl av).length ≤ maxL)
    (body : ∀ (p : Program) (e : Env) (s : State) (m : MethodId) (below : List Frame) (meth : Method) (c : Code) (A : Nat → Prop) (ls : Array Slot), fx_w p m meth c cc maxL ret s av.toArray y → kn_w D cI cL s → (∀ q : Nat, s.heap.size ≤ q → A q) → va_P D classes W0 s.heap → va_D A W0 → va_S A s.heap s.heap [] → zs_w s → ms_w s → nc_w s → c.exceptionTable.toList = tableOf hh → lv_has ls maxL (lv_args 0 av) →
      W p l e rm s m av.toArray below meth c s.heap [] 0 0 (MQ below (Qc A) av.toArray s mc ms A) (F0 m 0 ls [])) : Met l y (Cond.codeWith y cc maxL ret hh :: TB_w) rm (va_Pc av (pre_h D cI cL W0 sz)) (Qc (va_A W0 sz)) mc ms (va_A W0 sz) := by
  refine va_MetW (cc := cc) (maxL := maxL) (ret := ret) (hh := hh) hy rfl ?_
  intro p e s m args below meth c s₁ B hml hv
  obtain ⟨rfl, ⟨⟨hsz, hP, hK, hD0⟩, hZ, hM⟩, hN⟩ := hv
  have hts := atoms_spec (ws := Cond.codeWith y cc maxL ret hh :: TB_w) B.pre
  subst hsz
  have hD := hD0.self (sz := s.heap.size)
  have hl := lv_entry av (n := maxL) hlen
  obtain ⟨m9, meth9, c9, hn9, g1, g2, -, -, g5, -⟩ := Cond.codeWith_spec (hts _ List.mem_cons_self)
  cases B.named.symm.trans hn9
  cases B.method.symm.trans g1
  cases (Stand.of_body B).code.symm.trans g2
  have htab : c.exceptionTable.toList = tableOf hh := by rw [← g5, table_eq]
  rw [lg_entry_eq]
  exact body p e s m below meth c (va_A W0 s.heap.size) _ ⟨B.exec, B.bytes, hml, findClass_of_methodNamed B.named, fun w hw => hts w (List.mem_cons_of_mem _ hw), B.returns, B.notSynchronized, (name_of_methodNamed B.named B.method).1⟩ hK (fun q h => Or.inr h) hP hD va_S.rf hZ hM hN htab hl
end LWA
section LWB
variable {p : Program} {l : Launch} {e : Env} {R : Room} {s : State} {m : MethodId} {args : Array Value} {below : List Frame} {meth : Method} {c : Code} {H : Heap} {locs : List Loc} {cells slots : Nat}
variable {y : MethodName} {bytes cc : ByteArray} {maxL nL mc ms n index : Nat} {ret : Option FieldType} {hh : List (Nat × Nat × Nat × Nat)} {ws' : List Cond} {rm : Room} {Pc : Array Value → State → Prop} {Qc : Array Value → State → Outcome → State → Prop} {free : Addr → Prop} {own : String} {As rest : List Value} {g : JFrame}
theorem run_SW (S : CallFix p m c cc nL s args TB_w own) (hM : Met l y (Cond.codeWith y bytes maxL ret hh :: TB_w) rm Pc Qc mc ms free) (hcode : Cond.codeWith y bytes maxL ret hh ∈ TB_w) (hrc : rm.cells = mc) (hrs : rm.slots = ms) (hR : rm.frames + 1 ≤ R.frames ∧ 8 + (maxL + 11) + rm.locals ≤ R.locals) (hini : (Cond.initialized y.cls).before args s = true) (hl : (Cond.methodLink own index y).before args s = true) (hstat : (Cond.static y).before args s = true)
    (hd : y.cls ≠ "java/lang/invoke/MethodHandle" ∧ y.cls ≠ "java/lang/invoke/VarHandle" ∧ (parseMethodDescriptor y.desc).map (fun d => d.parameters.length) = some n) (hp : PreS s H Pc As)
    (hg : g.method = m) (hn : As.length = n) (hsize : g.locals.size = nL) (hstack : g.stack = As.reverse ++ rest) (hW : 2 * g.monitorRoom + (rest.map fun v => v.category).sum ≤ 8) (hdg : decode cc g.pc = .ok (.invokestatic index, 3)) (hf : cells + mc ≤ R.cells ∧ slots + ms ≤ R.slots) :
    va_Run p l e R s m args below meth c H locs cells slots mc ms g rest (Qc As.toArray) free := by
  obtain ⟨hx, hb, hml, ho, hts⟩ := S
  have hG : GoodIn TB_w (Cond.codeWith y bytes maxL ret hh :: TB_w) := gd_w hcode
  have hK : Back l R p e below s args y 3 8 (PreOf R mc ms Pc) (PostOf Qc mc ms free) := va_backW (hh := hh) (bytes := bytes) (maxL := maxL) (ret := ret) hM hp.1 hrc hrs hR.1 hR.2 (pay_in hts hG) List.mem_cons_self (fun a' U hW => word_at hW (Or.inl (by first | rfl | simp [Cond.onTables, Cond.keeps, Cond.steady])) hini)
  obtain ⟨mk, methM, cM, hnamed, hmethM, -, -, -, -, -, -, hsigM⟩ := Cond.codeWith_spec (hts _ hcode)
  have hstatic : methM.isStatic = true := Cond.static_spec hnamed hmethM hstat
  obtain ⟨kP, hkP, -⟩ := className_of_methodNamed hnamed
  have hinitP : kP.init = .initialized := Cond.initialized_spec (findClass_of_methodNamed hnamed) hkP hini
  have hlen : As.length = methM.sig.parameters.length := by
    have h2 := hd.2.2
    rw [hsigM] at h2
    exact hn.trans (Option.some.inj h2).symm
  intro T hT X
  obtain ⟨vm₁, X₁, hstep₁⟩ := X.invokestatic hx ho hl hnamed hmethM hstatic hkP hinitP ⟨hd.1, hd.2.1⟩ (g := g) hg (argsL := As) (rest := rest) hlen hstack (by rw [hb]; exact hdg)
  obtain ⟨v, ⟨U', l2, c2, s2⟩, X', ⟨g', mk', t, L, e1, e2, hq, h1, hL, h2, h3⟩, hsteps⟩ := hK m meth c ⟨T.setVm vm₁, locs, cells, slots⟩ { g with stack := rest } (.invokestatic index) mk As.toArray X₁ hg (hsize.trans hml.symm) (by rw [hb]; exact hdg) hW (X₁.named hnamed) ⟨hf.1, hf.2, hp.2 (T.setVm vm₁) hT X₁.warmed⟩
  dsimp only [Pt.U, Pt.locs, Pt.cells, Pt.slots] at X' e1 e2 h1 h2 h3 hsteps
  subst h1; subst h2; subst h3
  exact ⟨v, (T.setVm vm₁).calling g' mk' As.toArray, t, U', L, hT, X', hL, e1, e2, hq, fun target h => hstep₁ _ fun acts => by rw [doInvoke_state]; exact hsteps.trans h⟩
end LWB
theorem ca_self {s : State} {X : String} (hZ : zs_w s) (hx : X ∈ ca_l) {cE : ClassId} (h : s.vm.findClass X = some cE) : s.vm.assignable cE cE = true := by
  obtain ⟨c3, c4, hc3, hc4, hasg⟩ := Cond.castable_spec (hZ.2.2.2.2.2 X hx)
  cases h.symm.trans hc3
  cases h.symm.trans hc4
  exact hasg
theorem vs_k {A : Nat → Prop} {H0 H H1 : Heap} {locs : List Loc} (hS : va_S A H0 H locs) (hz : H.size ≤ H1.size) (hk : ∀ q : Nat, q < H.size → H1[q]? = H[q]?) : va_S A H0 H1 locs :=
  ⟨Nat.le_trans hS.1 hz, fun q h1 h2 => by rw [hk q (Nat.lt_of_lt_of_le h1 hS.1)]; exact hS.2.1 q h1 h2, hS.2.2⟩
theorem vp_k {D : va_G} {ws : va_W} {H H1 : Heap} (hP : va_P D classes ws H) (hk : ∀ q : Nat, q < H.size → H1[q]? = H[q]?) : va_P D classes ws H1 := hP.kept (fun k q h => hk q.1 (hP k q h).lt)
