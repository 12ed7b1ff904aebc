-- ===== PART A: goes FIRST, ahead of the names: the tables' words, and 'selects' of the private methods out of them =====
/-- a private method of a class that the tables say can be made, by its rows of tables_1 -/
def lw_okq (q : MethodName × Nat) : Prop := (q.1.cls ≠ "java/lang/invoke/MethodHandle" ∧ q.1.cls ≠ "java/lang/invoke/VarHandle") ∧ Cond.instantiable q.1.cls q.2 ∈ tables_1 ∧ Cond.privateMethod q.1 ∈ tables_1 ∧ Cond.instanceMethod q.1 ∈ tables_1
theorem lw_p0 : lw_okq (⟨"TwinGate", "runBothCopies", "()I"⟩, 12) := ⟨⟨by decide +kernel, by decide +kernel⟩, List.mem_of_getElem? (i := 15) (by decide +kernel), List.mem_of_getElem? (i := 156) (by decide +kernel), List.mem_of_getElem? (i := 157) (by decide +kernel)⟩
theorem lw_p1 : lw_okq (⟨"TwinGate", "runToItsEnd", "(LTwinGate$Copy;)I"⟩, 12) := ⟨⟨by decide +kernel, by decide +kernel⟩, List.mem_of_getElem? (i := 15) (by decide +kernel), List.mem_of_getElem? (i := 160) (by decide +kernel), List.mem_of_getElem? (i := 161) (by decide +kernel)⟩
theorem lw_p2 : lw_okq (⟨"TwinGate", "doFlipsAhead", "()V"⟩, 12) := ⟨⟨by decide +kernel, by decide +kernel⟩, List.mem_of_getElem? (i := 15) (by decide +kernel), List.mem_of_getElem? (i := 171) (by decide +kernel), List.mem_of_getElem? (i := 172) (by decide +kernel)⟩
theorem lw_p3 : lw_okq (⟨"TwinGate", "copyOf", "(I)LTwinGate$Copy;"⟩, 12) := ⟨⟨by decide +kernel, by decide +kernel⟩, List.mem_of_getElem? (i := 15) (by decide +kernel), List.mem_of_getElem? (i := 175) (by decide +kernel), List.mem_of_getElem? (i := 176) (by decide +kernel)⟩
theorem lw_p4 : lw_okq (⟨"TwinGate$Copy", "trapBeyondBound", "()I"⟩, 4) := ⟨⟨by decide +kernel, by decide +kernel⟩, List.mem_of_getElem? (i := 44) (by decide +kernel), List.mem_of_getElem? (i := 184) (by decide +kernel), List.mem_of_getElem? (i := 185) (by decide +kernel)⟩
theorem lw_p5 : lw_okq (⟨"TwinGate$Copy", "multiply", "()I"⟩, 4) := ⟨⟨by decide +kernel, by decide +kernel⟩, List.mem_of_getElem? (i := 44) (by decide +kernel), List.mem_of_getElem? (i := 189) (by decide +kernel), List.mem_of_getElem? (i := 190) (by decide +kernel)⟩
theorem lw_p6 : lw_okq (⟨"TwinGate$Copy", "isMultiple", "(J)Z"⟩, 4) := ⟨⟨by decide +kernel, by decide +kernel⟩, List.mem_of_getElem? (i := 44) (by decide +kernel), List.mem_of_getElem? (i := 198) (by decide +kernel), List.mem_of_getElem? (i := 199) (by decide +kernel)⟩
theorem lw_p7 : lw_okq (⟨"TwinGate$Copy", "part", "(J)J"⟩, 4) := ⟨⟨by decide +kernel, by decide +kernel⟩, List.mem_of_getElem? (i := 44) (by decide +kernel), List.mem_of_getElem? (i := 202) (by decide +kernel), List.mem_of_getElem? (i := 203) (by decide +kernel)⟩
theorem lw_p8 : lw_okq (⟨"TwinGate$Copy", "lookUp", "()I"⟩, 4) := ⟨⟨by decide +kernel, by decide +kernel⟩, List.mem_of_getElem? (i := 44) (by decide +kernel), List.mem_of_getElem? (i := 206) (by decide +kernel), List.mem_of_getElem? (i := 207) (by decide +kernel)⟩
theorem lw_p9 : lw_okq (⟨"TwinGate$Copy", "move", "(II)V"⟩, 4) := ⟨⟨by decide +kernel, by decide +kernel⟩, List.mem_of_getElem? (i := 44) (by decide +kernel), List.mem_of_getElem? (i := 211) (by decide +kernel), List.mem_of_getElem? (i := 212) (by decide +kernel)⟩
theorem lw_p10 : lw_okq (⟨"TwinGate", "copiesAgree", "()Z"⟩, 12) := ⟨⟨by decide +kernel, by decide +kernel⟩, List.mem_of_getElem? (i := 15) (by decide +kernel), List.mem_of_getElem? (i := 215) (by decide +kernel), List.mem_of_getElem? (i := 216) (by decide +kernel)⟩
theorem lw_p11 : lw_okq (⟨"TwinGate", "emit", "()V"⟩, 12) := ⟨⟨by decide +kernel, by decide +kernel⟩, List.mem_of_getElem? (i := 15) (by decide +kernel), List.mem_of_getElem? (i := 226) (by decide +kernel), List.mem_of_getElem? (i := 227) (by decide +kernel)⟩
theorem lw_p12 : lw_okq (⟨"java/lang/Throwable", "fillInStackTrace", "(I)Ljava/lang/Throwable;"⟩, 6) := ⟨⟨by decide +kernel, by decide +kernel⟩, List.mem_of_getElem? (i := 309) (by decide +kernel), List.mem_of_getElem? (i := 307) (by decide +kernel), List.mem_of_getElem? (i := 308) (by decide +kernel)⟩
theorem lw_p13 : lw_okq (⟨"TwinGateModel", "copy", "(I)I"⟩, 21) := ⟨⟨by decide +kernel, by decide +kernel⟩, List.mem_of_getElem? (i := 391) (by decide +kernel), List.mem_of_getElem? (i := 481) (by decide +kernel), List.mem_of_getElem? (i := 482) (by decide +kernel)⟩
theorem lw_p14 : lw_okq (⟨"TwinGateModel", "flipAll", "(I)V"⟩, 21) := ⟨⟨by decide +kernel, by decide +kernel⟩, List.mem_of_getElem? (i := 391) (by decide +kernel), List.mem_of_getElem? (i := 485) (by decide +kernel), List.mem_of_getElem? (i := 486) (by decide +kernel)⟩
theorem lw_p15 : lw_okq (⟨"TwinGateModel", "does", "(III)Z"⟩, 21) := ⟨⟨by decide +kernel, by decide +kernel⟩, List.mem_of_getElem? (i := 391) (by decide +kernel), List.mem_of_getElem? (i := 489) (by decide +kernel), List.mem_of_getElem? (i := 490) (by decide +kernel)⟩
def lw_privs_1 : List (MethodName × Nat) := [(⟨"TwinGate", "runBothCopies", "()I"⟩, 12), (⟨"TwinGate", "runToItsEnd", "(LTwinGate$Copy;)I"⟩, 12), (⟨"TwinGate", "doFlipsAhead", "()V"⟩, 12), (⟨"TwinGate", "copyOf", "(I)LTwinGate$Copy;"⟩, 12), (⟨"TwinGate$Copy", "trapBeyondBound", "()I"⟩, 4), (⟨"TwinGate$Copy", "multiply", "()I"⟩, 4), (⟨"TwinGate$Copy", "isMultiple", "(J)Z"⟩, 4), (⟨"TwinGate$Copy", "part", "(J)J"⟩, 4), (⟨"TwinGate$Copy", "lookUp", "()I"⟩, 4), (⟨"TwinGate$Copy", "move", "(II)V"⟩, 4), (⟨"TwinGate", "copiesAgree", "()Z"⟩, 12), (⟨"TwinGate", "emit", "()V"⟩, 12), (⟨"java/lang/Throwable", "fillInStackTrace", "(I)Ljava/lang/Throwable;"⟩, 6), (⟨"TwinGateModel", "copy", "(I)I"⟩, 21), (⟨"TwinGateModel", "flipAll", "(I)V"⟩, 21), (⟨"TwinGateModel", "does", "(III)Z"⟩, 21)]
theorem lw_r1 : ∀ q ∈ lw_privs_1, lw_okq q := List.forall_mem_cons.mpr ⟨lw_p0, List.forall_mem_cons.mpr ⟨lw_p1, List.forall_mem_cons.mpr ⟨lw_p2, List.forall_mem_cons.mpr ⟨lw_p3, List.forall_mem_cons.mpr ⟨lw_p4, List.forall_mem_cons.mpr ⟨lw_p5, List.forall_mem_cons.mpr ⟨lw_p6, List.forall_mem_cons.mpr ⟨lw_p7, List.forall_mem_cons.mpr ⟨lw_p8, List.forall_mem_cons.mpr ⟨lw_p9, List.forall_mem_cons.mpr ⟨lw_p10, List.forall_mem_cons.mpr ⟨lw_p11, List.forall_mem_cons.mpr ⟨lw_p12, List.forall_mem_cons.mpr ⟨lw_p13, List.forall_mem_cons.mpr ⟨lw_p14, List.forall_mem_cons.mpr ⟨lw_p15, fun _ h => absurd h List.not_mem_nil⟩⟩⟩⟩⟩⟩⟩⟩⟩⟩⟩⟩⟩⟩⟩⟩
theorem lw_p16 : lw_okq (⟨"TwinGateModel", "times", "(I)J"⟩, 21) := ⟨⟨by decide +kernel, by decide +kernel⟩, List.mem_of_getElem? (i := 391) (by decide +kernel), List.mem_of_getElem? (i := 493) (by decide +kernel), List.mem_of_getElem? (i := 494) (by decide +kernel)⟩
theorem lw_p17 : lw_okq (⟨"TwinGateModel", "may", "(IJ)Z"⟩, 21) := ⟨⟨by decide +kernel, by decide +kernel⟩, List.mem_of_getElem? (i := 391) (by decide +kernel), List.mem_of_getElem? (i := 501) (by decide +kernel), List.mem_of_getElem? (i := 502) (by decide +kernel)⟩
theorem lw_p18 : lw_okq (⟨"TwinGateModel", "agree", "()Z"⟩, 21) := ⟨⟨by decide +kernel, by decide +kernel⟩, List.mem_of_getElem? (i := 391) (by decide +kernel), List.mem_of_getElem? (i := 505) (by decide +kernel), List.mem_of_getElem? (i := 506) (by decide +kernel)⟩
def lw_privs_2 : List (MethodName × Nat) := [(⟨"TwinGateModel", "times", "(I)J"⟩, 21), (⟨"TwinGateModel", "may", "(IJ)Z"⟩, 21), (⟨"TwinGateModel", "agree", "()Z"⟩, 21)]
theorem lw_r2 : ∀ q ∈ lw_privs_2, lw_okq q := List.forall_mem_cons.mpr ⟨lw_p16, List.forall_mem_cons.mpr ⟨lw_p17, List.forall_mem_cons.mpr ⟨lw_p18, fun _ h => absurd h List.not_mem_nil⟩⟩⟩
def lw_privs : List (MethodName × Nat) := lw_privs_1 ++ (lw_privs_2)
def lw_tbl : List Cond := k2_sels lw_privs ++ tables_1
theorem lw_privs_ok : ∀ q ∈ lw_privs, lw_okq q := by
  show ∀ q ∈ lw_privs_1 ++ (lw_privs_2), lw_okq q
  exact List.forall_mem_append.mpr ⟨lw_r1, lw_r2⟩
def TB_w : List Cond := lw_tbl.filter goodWord
theorem tb_good : GoodIn lw_tbl TB_w := fun w h => ⟨(List.mem_filter.mp h).1, good_of_word (List.mem_filter.mp h).2⟩
def R_Gate : String := "TwinGate"
def F_Gate : u_T := fun k => match k with
  | 0 => ("TwinGate", "limit", "I", true)
  | 1 => ("TwinGate", "program", "LTwinGate$Program;", true)
  | 2 => ("TwinGate", "first", "LTwinGate$Copy;", true)
  | 3 => ("TwinGate", "second", "LTwinGate$Copy;", true)
  | 4 => ("TwinGate", "plan", "LTwinGate$FlipPlan;", true)
  | 5 => ("TwinGate", "given", "[I", true)
  | 6 => ("TwinGate", "shown", "[I", true)
  | 7 => ("TwinGate", "begun", "Z", false)
  | 8 => ("TwinGate", "latchedBy", "I", false)
  | 9 => ("TwinGate", "emittedCycles", "I", false)
  | 10 => ("TwinGate", "steps", "I", false)
  | _ => ("TwinGate", "flipsDone", "I", false)
def t_Gate : Nat → FieldType := fun k => match k with
  | 0 => .int
  | 1 => (.object "TwinGate$Program")
  | 2 => (.object "TwinGate$Copy")
  | 3 => (.object "TwinGate$Copy")
  | 4 => (.object "TwinGate$FlipPlan")
  | 5 => (.array .int)
  | 6 => (.array .int)
  | 7 => .boolean
  | 8 => .int
  | 9 => .int
  | 10 => .int
  | _ => .int
abbrev w_Gate : List Cond := u_ws R_Gate F_Gate 12
theorem n_Gate : ∀ a, a < 12 → ∀ b, b < 12 → a ≠ b → (F_Gate a).2.1 ≠ (F_Gate b).2.1 := by decide +kernel
theorem t_Gate_ok : ∀ k, k < 12 → parseFieldDescriptor (F_Gate k).2.2.1 = some (t_Gate k) := by decide +kernel
theorem iw_Gate : ∀ w ∈ w_Gate, w ∈ TB_w := fun w h => List.mem_filter.mpr ((show ∀ w ∈ w_Gate, w ∈ lw_tbl ∧ goodWord w = true by decide +kernel) w h)
def R_Copy : String := "TwinGate$Copy"
def F_Copy : u_T := fun k => match k with
  | 0 => ("TwinGate$Copy", "factor", "J", true)
  | 1 => ("TwinGate$Copy", "row", "[J", true)
  | 2 => ("TwinGate$Copy", "ports", "[J", true)
  | _ => ("TwinGate$Copy", "place", "I", false)
def t_Copy : Nat → FieldType := fun k => match k with
  | 0 => .long
  | 1 => (.array .long)
  | 2 => (.array .long)
  | _ => .int
abbrev w_Copy : List Cond := u_ws R_Copy F_Copy 4
theorem n_Copy : ∀ a, a < 4 → ∀ b, b < 4 → a ≠ b → (F_Copy a).2.1 ≠ (F_Copy b).2.1 := by decide +kernel
theorem t_Copy_ok : ∀ k, k < 4 → parseFieldDescriptor (F_Copy k).2.2.1 = some (t_Copy k) := by decide +kernel
theorem iw_Copy : ∀ w ∈ w_Copy, w ∈ TB_w := fun w h => List.mem_filter.mpr ((show ∀ w ∈ w_Copy, w ∈ lw_tbl ∧ goodWord w = true by decide +kernel) w h)
def R_Plan : String := "TwinGate$FlipPlan"
def F_Plan : u_T := fun k => match k with
  | 0 => ("TwinGate$FlipPlan", "copies", "[I", true)
  | 1 => ("TwinGate$FlipPlan", "cells", "[I", true)
  | 2 => ("TwinGate$FlipPlan", "bits", "[I", true)
  | 3 => ("TwinGate$FlipPlan", "steps", "[I", true)
  | _ => ("TwinGate$FlipPlan", "size", "I", false)
def t_Plan : Nat → FieldType := fun k => match k with
  | 0 => (.array .int)
  | 1 => (.array .int)
  | 2 => (.array .int)
  | 3 => (.array .int)
  | _ => .int
abbrev w_Plan : List Cond := u_ws R_Plan F_Plan 5
theorem n_Plan : ∀ a, a < 5 → ∀ b, b < 5 → a ≠ b → (F_Plan a).2.1 ≠ (F_Plan b).2.1 := by decide +kernel
theorem t_Plan_ok : ∀ k, k < 5 → parseFieldDescriptor (F_Plan k).2.2.1 = some (t_Plan k) := by decide +kernel
theorem iw_Plan : ∀ w ∈ w_Plan, w ∈ TB_w := fun w h => List.mem_filter.mpr ((show ∀ w ∈ w_Plan, w ∈ lw_tbl ∧ goodWord w = true by decide +kernel) w h)
def R_Prog : String := "TwinGate$Program"
def F_Prog : u_T := fun k => match k with
  | 0 => ("TwinGate$Program", "ops", "[I", true)
  | 1 => ("TwinGate$Program", "numbers", "[I", true)
  | _ => ("TwinGate$Program", "size", "I", false)
def t_Prog : Nat → FieldType := fun k => match k with
  | 0 => (.array .int)
  | 1 => (.array .int)
  | _ => .int
abbrev w_Prog : List Cond := u_ws R_Prog F_Prog 3
theorem n_Prog : ∀ a, a < 3 → ∀ b, b < 3 → a ≠ b → (F_Prog a).2.1 ≠ (F_Prog b).2.1 := by decide +kernel
theorem t_Prog_ok : ∀ k, k < 3 → parseFieldDescriptor (F_Prog k).2.2.1 = some (t_Prog k) := by decide +kernel
theorem iw_Prog : ∀ w ∈ w_Prog, w ∈ TB_w := fun w h => List.mem_filter.mpr ((show ∀ w ∈ w_Prog, w ∈ lw_tbl ∧ goodWord w = true by decide +kernel) w h)
def R_Modl : String := "TwinGateModel"
def F_Modl : u_T := fun k => match k with
  | 0 => ("TwinGateModel", "thrown", "I", false)
  | 1 => ("TwinGateModel", "limit", "I", true)
  | 2 => ("TwinGateModel", "many", "I", false)
  | 3 => ("TwinGateModel", "emitted", "I", false)
  | 4 => ("TwinGateModel", "latched", "I", false)
  | 5 => ("TwinGateModel", "steps", "I", false)
  | 6 => ("TwinGateModel", "planned", "I", false)
  | 7 => ("TwinGateModel", "flipped", "I", false)
  | 8 => ("TwinGateModel", "begun", "Z", false)
  | 9 => ("TwinGateModel", "ops", "[I", true)
  | 10 => ("TwinGateModel", "numbers", "[I", true)
  | 11 => ("TwinGateModel", "given", "[I", true)
  | 12 => ("TwinGateModel", "shown", "[I", true)
  | 13 => ("TwinGateModel", "held", "[J", true)
  | 14 => ("TwinGateModel", "put", "[J", true)
  | 15 => ("TwinGateModel", "plCopy", "[I", true)
  | 16 => ("TwinGateModel", "plCell", "[I", true)
  | 17 => ("TwinGateModel", "plBit", "[I", true)
  | 18 => ("TwinGateModel", "plStep", "[I", true)
  | 19 => ("TwinGateModel", "place", "I", false)
  | _ => ("TwinGateModel", "ended", "Z", false)
def t_Modl : Nat → FieldType := fun k => match k with
  | 0 => .int
  | 1 => .int
  | 2 => .int
  | 3 => .int
  | 4 => .int
  | 5 => .int
  | 6 => .int
  | 7 => .int
  | 8 => .boolean
  | 9 => (.array .int)
  | 10 => (.array .int)
  | 11 => (.array .int)
  | 12 => (.array .int)
  | 13 => (.array .long)
  | 14 => (.array .long)
  | 15 => (.array .int)
  | 16 => (.array .int)
  | 17 => (.array .int)
  | 18 => (.array .int)
  | 19 => .int
  | _ => .boolean
abbrev w_Modl : List Cond := u_ws R_Modl F_Modl 21
theorem n_Modl : ∀ a, a < 21 → ∀ b, b < 21 → a ≠ b → (F_Modl a).2.1 ≠ (F_Modl b).2.1 := by decide +kernel
theorem t_Modl_ok : ∀ k, k < 21 → parseFieldDescriptor (F_Modl k).2.2.1 = some (t_Modl k) := by decide +kernel
theorem iw_Modl : ∀ w ∈ w_Modl, w ∈ TB_w := fun w h => List.mem_filter.mpr ((show ∀ w ∈ w_Modl, w ∈ lw_tbl ∧ goodWord w = true by decide +kernel) w h)
def R_Arrs : String := "java/util/Arrays"
def R_law : String := "TwinGateLaw"
abbrev b_Gate_init : ByteArray := prog_1_method_1_code
def y_Gate_init : MethodName := ⟨R_Gate, "<init>", "(I)V"⟩
abbrev b_Gate_add : ByteArray := prog_1_method_2_code
def y_Gate_add : MethodName := ⟨R_Gate, "add", "(II)I"⟩
abbrev b_Gate_give : ByteArray := prog_1_method_3_code
def y_Gate_give : MethodName := ⟨R_Gate, "give", "(II)Z"⟩
abbrev b_Gate_cycle : ByteArray := prog_1_method_4_code
def y_Gate_cycle : MethodName := ⟨R_Gate, "cycle", "()I"⟩
abbrev b_Gate_flip : ByteArray := prog_1_method_5_code
def y_Gate_flip : MethodName := ⟨R_Gate, "flip", "(IIII)Z"⟩
abbrev b_Gate_output : ByteArray := prog_1_method_6_code
def y_Gate_output : MethodName := ⟨R_Gate, "output", "(I)I"⟩
abbrev b_Gate_cell : ByteArray := prog_1_method_7_code
def y_Gate_cell : MethodName := ⟨R_Gate, "cell", "(II)J"⟩
abbrev b_Gate_count : ByteArray := prog_1_method_8_code
def y_Gate_count : MethodName := ⟨R_Gate, "count", "(I)I"⟩
abbrev b_Gate_isBelow : ByteArray := prog_1_method_9_code
def y_Gate_isBelow : MethodName := ⟨R_Gate, "isBelow", "(II)Z"⟩
abbrev b_Gate_isPort : ByteArray := prog_1_method_10_code
def y_Gate_isPort : MethodName := ⟨R_Gate, "isPort", "(I)Z"⟩
abbrev b_Gate_isCopy : ByteArray := prog_1_method_11_code
def y_Gate_isCopy : MethodName := ⟨R_Gate, "isCopy", "(I)Z"⟩
abbrev b_Gate_isInRow : ByteArray := prog_1_method_12_code
def y_Gate_isInRow : MethodName := ⟨R_Gate, "isInRow", "(I)Z"⟩
abbrev b_Gate_isWithinBound : ByteArray := prog_1_method_13_code
def y_Gate_isWithinBound : MethodName := ⟨R_Gate, "isWithinBound", "(I)Z"⟩
abbrev b_Gate_isInstruction : ByteArray := prog_1_method_14_code
def y_Gate_isInstruction : MethodName := ⟨R_Gate, "isInstruction", "(II)Z"⟩
abbrev b_Gate_copyOf : ByteArray := prog_1_method_15_code
def y_Gate_copyOf : MethodName := ⟨R_Gate, "copyOf", "(I)LTwinGate$Copy;"⟩
abbrev b_Gate_runBothCopies : ByteArray := prog_1_method_16_code
def y_Gate_runBothCopies : MethodName := ⟨R_Gate, "runBothCopies", "()I"⟩
abbrev b_Gate_runToItsEnd : ByteArray := prog_1_method_17_code
def y_Gate_runToItsEnd : MethodName := ⟨R_Gate, "runToItsEnd", "(LTwinGate$Copy;)I"⟩
abbrev b_Gate_doFlipsAhead : ByteArray := prog_1_method_18_code
def y_Gate_doFlipsAhead : MethodName := ⟨R_Gate, "doFlipsAhead", "()V"⟩
abbrev b_Gate_copiesAgree : ByteArray := prog_1_method_19_code
def y_Gate_copiesAgree : MethodName := ⟨R_Gate, "copiesAgree", "()Z"⟩
abbrev b_Gate_emit : ByteArray := prog_1_method_20_code
def y_Gate_emit : MethodName := ⟨R_Gate, "emit", "()V"⟩
abbrev b_Modl_thrown : ByteArray := prog_6_method_1_code
def y_Modl_thrown : MethodName := ⟨R_Modl, "thrown", "()I"⟩
abbrev b_Modl_init : ByteArray := prog_6_method_2_code
def y_Modl_init : MethodName := ⟨R_Modl, "<init>", "(I)V"⟩
abbrev b_Modl_fits : ByteArray := prog_6_method_3_code
def y_Modl_fits : MethodName := ⟨R_Modl, "fits", "(J)Z"⟩
abbrev b_Modl_isGood : ByteArray := prog_6_method_4_code
def y_Modl_isGood : MethodName := ⟨R_Modl, "isGood", "(II)Z"⟩
abbrev b_Modl_add : ByteArray := prog_6_method_5_code
def y_Modl_add : MethodName := ⟨R_Modl, "add", "(II)I"⟩
abbrev b_Modl_give : ByteArray := prog_6_method_6_code
def y_Modl_give : MethodName := ⟨R_Modl, "give", "(II)Z"⟩
abbrev b_Modl_flipAll : ByteArray := prog_6_method_7_code
def y_Modl_flipAll : MethodName := ⟨R_Modl, "flipAll", "(I)V"⟩
abbrev b_Modl_times : ByteArray := prog_6_method_8_code
def y_Modl_times : MethodName := ⟨R_Modl, "times", "(I)J"⟩
abbrev b_Modl_may : ByteArray := prog_6_method_9_code
def y_Modl_may : MethodName := ⟨R_Modl, "may", "(IJ)Z"⟩
abbrev b_Modl_does : ByteArray := prog_6_method_10_code
def y_Modl_does : MethodName := ⟨R_Modl, "does", "(III)Z"⟩
abbrev b_Modl_copy : ByteArray := prog_6_method_11_code
def y_Modl_copy : MethodName := ⟨R_Modl, "copy", "(I)I"⟩
abbrev b_Modl_agree : ByteArray := prog_6_method_12_code
def y_Modl_agree : MethodName := ⟨R_Modl, "agree", "()Z"⟩
abbrev b_Modl_cycle : ByteArray := prog_6_method_13_code
def y_Modl_cycle : MethodName := ⟨R_Modl, "cycle", "()I"⟩
abbrev b_Modl_flip : ByteArray := prog_6_method_14_code
def y_Modl_flip : MethodName := ⟨R_Modl, "flip", "(IIII)Z"⟩
abbrev b_Modl_output : ByteArray := prog_6_method_15_code
def y_Modl_output : MethodName := ⟨R_Modl, "output", "(I)I"⟩
abbrev b_Modl_cell : ByteArray := prog_6_method_16_code
def y_Modl_cell : MethodName := ⟨R_Modl, "cell", "(II)J"⟩
abbrev b_Modl_count : ByteArray := prog_6_method_17_code
def y_Modl_count : MethodName := ⟨R_Modl, "count", "(I)I"⟩
abbrev b_Copy_init : ByteArray := prog_2_method_1_code
def y_Copy_init : MethodName := ⟨R_Copy, "<init>", "(J)V"⟩
abbrev b_Copy_begin : ByteArray := prog_2_method_2_code
def y_Copy_begin : MethodName := ⟨R_Copy, "begin", "()V"⟩
abbrev b_Copy_doStep : ByteArray := prog_2_method_3_code
def y_Copy_doStep : MethodName := ⟨R_Copy, "doStep", "(LTwinGate$Program;[I)I"⟩
abbrev b_Copy_move : ByteArray := prog_2_method_4_code
def y_Copy_move : MethodName := ⟨R_Copy, "move", "(II)V"⟩
abbrev b_Copy_multiply : ByteArray := prog_2_method_5_code
def y_Copy_multiply : MethodName := ⟨R_Copy, "multiply", "()I"⟩
abbrev b_Copy_lookUp : ByteArray := prog_2_method_6_code
def y_Copy_lookUp : MethodName := ⟨R_Copy, "lookUp", "()I"⟩
abbrev b_Copy_trapBeyondBound : ByteArray := prog_2_method_7_code
def y_Copy_trapBeyondBound : MethodName := ⟨R_Copy, "trapBeyondBound", "()I"⟩
abbrev b_Copy_isMultiple : ByteArray := prog_2_method_8_code
def y_Copy_isMultiple : MethodName := ⟨R_Copy, "isMultiple", "(J)Z"⟩
abbrev b_Copy_part : ByteArray := prog_2_method_9_code
def y_Copy_part : MethodName := ⟨R_Copy, "part", "(J)J"⟩
abbrev b_Copy_isProductBeyond64Bits : ByteArray := prog_2_method_10_code
def y_Copy_isProductBeyond64Bits : MethodName := ⟨R_Copy, "isProductBeyond64Bits", "(JJ)Z"⟩
abbrev b_Plan_init : ByteArray := prog_3_method_1_code
def y_Plan_init : MethodName := ⟨R_Plan, "<init>", "()V"⟩
abbrev b_Plan_isFull : ByteArray := prog_3_method_2_code
def y_Plan_isFull : MethodName := ⟨R_Plan, "isFull", "()Z"⟩
abbrev b_Plan_append : ByteArray := prog_3_method_3_code
def y_Plan_append : MethodName := ⟨R_Plan, "append", "(IIII)V"⟩
abbrev b_Plan_forgetAll : ByteArray := prog_3_method_4_code
def y_Plan_forgetAll : MethodName := ⟨R_Plan, "forgetAll", "()V"⟩
abbrev b_Prog_init : ByteArray := prog_4_method_1_code
def y_Prog_init : MethodName := ⟨R_Prog, "<init>", "()V"⟩
abbrev b_Prog_isFull : ByteArray := prog_4_method_2_code
def y_Prog_isFull : MethodName := ⟨R_Prog, "isFull", "()Z"⟩
abbrev b_Prog_append : ByteArray := prog_4_method_3_code
def y_Prog_append : MethodName := ⟨R_Prog, "append", "(II)V"⟩
abbrev b_Law_cell0 : ByteArray := method_2_code
def y_Law_cell0 : MethodName := ⟨R_law, "cell", "([II)I"⟩
abbrev b_Law_add : ByteArray := method_3_code
def y_Law_add : MethodName := ⟨R_law, "add", "(LTwinGate;II[J)I"⟩
abbrev b_Law_cell1 : ByteArray := method_4_code
def y_Law_cell1 : MethodName := ⟨R_law, "cell", "(LTwinGate;II[J)I"⟩
abbrev b_Law_law : ByteArray := code
def y_Law_law : MethodName := ⟨R_law, "law", "([I)Z"⟩
abbrev b_Arrs_fill_i : ByteArray := prog_15_method_103_code
def y_Arrs_fill_i : MethodName := ⟨R_Arrs, "fill", "([II)V"⟩
abbrev b_Arrs_fill_l : ByteArray := prog_15_method_101_code
def y_Arrs_fill_l : MethodName := ⟨R_Arrs, "fill", "([JJ)V"⟩
abbrev classes : List vw_C := [(R_Gate, F_Gate, 12), (R_Copy, F_Copy, 4), (R_Plan, F_Plan, 5), (R_Prog, F_Prog, 3), (R_Modl, F_Modl, 21)]
def nst_w : List (String × Nat × MethodName × String) := [(R_Gate, 9, y_Prog_init, "TwinGate"), (R_Gate, 32, y_Plan_init, "TwinGate"), (R_Copy, 37, y_Gate_isBelow, "TwinGate")]
theorem nt_0 : ((R_Gate, 9, y_Prog_init, "TwinGate") : String × Nat × MethodName × String) ∈ nst_w := List.mem_of_getElem? (i := 0) rfl
theorem nt_1 : ((R_Gate, 32, y_Plan_init, "TwinGate") : String × Nat × MethodName × String) ∈ nst_w := List.mem_of_getElem? (i := 1) rfl
theorem nt_2 : ((R_Copy, 37, y_Gate_isBelow, "TwinGate") : String × Nat × MethodName × String) ∈ nst_w := List.mem_of_getElem? (i := 2) rfl
