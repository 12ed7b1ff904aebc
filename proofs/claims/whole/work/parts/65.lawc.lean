/-! rows for the law's own body -/
theorem mt_post {l : Launch} {y : MethodName} {ws : List Cond} {rm : Room} {Pc : Array Value → State → Prop} {Qc Qd : Array Value → State → Outcome → State → Prop} {mc ms : Nat} {free : Addr → Prop} (h : Met l y ws rm Pc Qc mc ms free) (hq : ∀ (a : Array Value) (st : State) (o : Outcome) (t : State), Qc a st o t → Qd a st o t) : Met l y ws rm Pc Qd mc ms free := by
  intro p e ha hc hk s m args below hf happ hP hK
  obtain ⟨n, o, h1, h2, h3, hq1, hL⟩ := h p e ha hc hk s m args below hf happ hP hK
  exact ⟨n, o, h1, h2, h3, hq _ _ _ _ hq1, hL⟩
theorem qi_post {S : Type} {post post2 : Int32 → S → Prop} {B : S → State → Prop} {A : Nat → Prop} {a : Array Value} {st t : State} {o : Outcome} (hp : ∀ (r : Int32) (u : S), post r u → post2 r u) (h : va_Qi post B A a st o t) : va_Qi post2 B A a st o t := by
  obtain ⟨⟨r, u, h1, h2, h3⟩, h4⟩ := h
  exact ⟨⟨r, u, h1, hp r u h2, h3⟩, h4⟩
theorem hh_z : hh_w (fun _ => 0) (fun _ => 0) = fun _ => 0 := funext fun j => by
  show (if j < 18 then (0 : Int64) else 0) = 0
  split <;> rfl
theorem pp_z : pp_w (fun _ => 0) (fun _ => 0) = fun _ => 0 := funext fun j => by
  show (if j < 4 then (0 : Int64) else 0) = 0
  split <;> rfl
theorem nI_i5 (k : Nat) : nI k + Int32.ofInt 5 = nI (k + 5) := by
  rw [show Int32.ofInt 5 = nI 5 from by decide +kernel]
  exact nI_add k 5
theorem rm_c {n : Nat} (h : n ≤ 1056) : n ≤ room_1.cells := h
theorem rm_s {n : Nat} (h : n ≤ 8796) : n ≤ room_1.slots := h
theorem la_eq {a x : Int32} {oo : Nat → Int64} (h : a = 0) : (if a = 0 then vp_updL oo 0 x.toInt64 else oo) 0 = (if a = 0 then x else 0).toInt64 := by
  rw [if_pos h, if_pos h]
  exact pk_uLs
theorem lb_eq {c l : Int32} {ra rb oo : Nat → Int64} (h : tc_w c l = 0) : (if tc_w c l = 0 then vp_updL oo 0 (if c = 0 then ra l.toNatClampNeg else rb l.toNatClampNeg) else oo) 0 = ce_w c l ra rb := by
  unfold ce_w
  rw [if_pos h, if_pos h]
  exact pk_uLs
def s0_w (L : Nat) (xs : Nat → Int32) : Int32 := if nI L ≤ 0 then 0 else xs 0
def pre_x (b L : Nat) (xs : Nat → Int32) (sz : Nat) (U : State) : Prop := U.heap.size = sz ∧ va_X b L xs U U.heap ∧ b < U.heap.size
theorem pre_xblind {av : List Value} {b L : Nat} {xs : Nat → Int32} {sz : Nat} : FrameBlind (va_Pc av (pre_x b L xs sz)) := fun a U g mk q => by
  obtain ⟨q0, q1, q2, q3⟩ := q
  exact ⟨q0, q1, va_X.moved (u := U) (U := U.calling g mk a) (Vm.Alike.refl U.vm) q2, q3⟩
theorem pv_X {s : State} {H : Heap} {b L : Nat} {xs : Nat → Int32} {As : List Value} (hX : va_X b L xs s H) (hb : b < H.size) : PreS s H (va_Pc As (pre_x b L xs H.size)) As :=
  ⟨pre_xblind, fun U hU hW => ⟨rfl, by rw [hU], by rw [hU]; exact va_X.moved hW.alike hX, by rw [hU]; exact hb⟩⟩
section LWC
variable {p : Program} {l : Launch} {e : Env} {R : Room} {s : State} {m : MethodId} {args : Array Value} {below : List Frame} {meth : Method} {c : Code} {H : Heap} {locs : List Loc} {cells slots : Nat} {Q : State → Prop}
variable {cc : ByteArray} {pc : Nat} {ls : Array Slot} {rest : List Value} {A : Nat → Prop} {H0 : Heap}
theorem sl_d (hexec : p.tables.exec = Jvm.exec) (hb : c.code = cc) {b L k : Nat} {xs : Nat → Int32} (hX : va_X b L xs s H0) (hbl : b < H0.size) (hbA : ¬ A b) (hS : va_S A H0 H locs) (hk : k < L) (hL : L ≤ 2561) (hdg : decode cc pc = .ok (.iaload, 1))
    (kk : W p l e R s m args below meth c H locs cells slots Q (F0 m (pc + 1) ls (.int (xs k) :: rest))) : W p l e R s m args below meth c H locs cells slots Q (F0 m pc ls (.int (nI k) :: .ref b :: rest)) := by
  refine va_sld hexec hb hX hbl hbA hS (vp_in_nI hk (by omega)) hdg ?_
  rw [nI_clamp (by omega)]
  exact kk
end LWC
set_option maxHeartbeats 4000000 in
set_option maxRecDepth 100000 in
theorem c_Law_cell0 (l : Launch) (dC : Nat → ClassId) (dI : Nat → Nat → Nat) (hs0 : Nat) (b L : Nat) (xs : Nat → Int32) : Met l y_Law_cell0 (Cond.code y_Law_cell0 b_Law_cell0 2 (some .int) :: TB_w) ({ frames := 0, cells := 0, slots := 0, locals := 0 }) (va_Pc [.ref b, .int 0] (pre_x b L xs hs0)) (va_Qi (fun (r : Int32) (_ : Unit) => r = s0_w L xs) (fun _ t => pos_w (dC, dI) (va_A [] hs0) [] t) (va_A [] hs0)) 0 0 (va_A [] hs0) := by
  refine Met.ofW (cc := b_Law_cell0) (maxL := 2) (ret := some .int) (by decide) rfl ?_
  intro p e s m args below meth c s₁ B hml hv
  obtain ⟨rfl, hsz, hX, hbl⟩ := hv
  subst hsz
  have hl := lv_entry [.ref b, .int 0] (n := 2) (Nat.le_of_ble_eq_true rfl)
  rw [lg_entry_eq]
  generalize (lg_sl ([.ref b, .int 0]) ++ List.replicate (2 - (lg_sl ([.ref b, .int 0])).length) Slot.unset).toArray = ls at hl ⊢
  have hl : lv_has ls 2 [(0, .ref b), (1, .int 0)] := hl
  have hx := B.exec
  have hb := B.bytes
  have hr := B.returns
  have hlocks := B.notSynchronized
  have hS : va_S (va_A [] s.heap.size) s.heap s.heap [] := va_S.rf
  have hbA : ¬ va_A [] s.heap.size b := fun h => h.elim (fun ⟨k, e, h⟩ => by simp at h) (fun h => absurd hbl (Nat.not_lt.mpr h))
  have hP : va_P (dC, dI) classes [] s.heap := fun k q h => by simp at h
  have hD : va_D (va_A [] s.heap.size) [] := ⟨fun i j p q h => by simp at h, fun k q h => by simp at h⟩
  refine lv_iload_n hx hb d_Law_cell0_0 rfl (lv_at hl 1 rfl) ?_
  refine lv_aload_n hx hb d_Law_cell0_1 rfl (lv_at hl 0 rfl) ?_
  refine va_slen hx hb hX hbl hbA hS d_Law_cell0_2 ?_
  refine lv_icmp_ge (tgt := 12) hx hb d_Law_cell0_3 (by decide) (fun c1 => ?_) (fun c1 => ?_)
  · refine lv_iconst (v := 0) hx hb d_Law_cell0_12 (by decide) ?_
    exact rt_i (v := 0) (out := fun _ => []) () hx hb hr hlocks (show (0 : Int32) = s0_w L xs from (if_pos c1).symm) hP hD hS d_Law_cell0_13
  · refine lv_aload_n hx hb d_Law_cell0_6 rfl (lv_at hl 0 rfl) ?_
    refine lv_iload_n hx hb d_Law_cell0_7 rfl (lv_at hl 1 rfl) ?_
    refine va_sld hx hb hX hbl hbA hS (fun h => h.elim (fun h => absurd h (by decide)) (fun h => c1 (by
      have e9 : L = 0 := Nat.le_zero.mp h
      subst e9
      decide))) d_Law_cell0_8 ?_
    refine lv_goto (tgt := 13) hx hb d_Law_cell0_9 (by decide) ?_
    exact rt_i (v := xs 0) (out := fun _ => []) () hx hb hr hlocks (show xs 0 = s0_w L xs from (if_neg c1).symm) hP hD hS d_Law_cell0_13
