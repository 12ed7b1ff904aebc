section
-- ===== PART A: goes FIRST, ahead of the names: the tables' words, and 'selects' of the private methods out of them =====
/-- a private method of a class that the tables say can be made, by its rows of tables_1 -/
def lw_okq (q : MethodName × Nat) : Prop := (q.1.cls ≠ "java/lang/invoke/MethodHandle" ∧ q.1.cls ≠ "java/lang/invoke/VarHandle") ∧ Cond.instantiable q.1.cls q.2 ∈ tables_1 ∧ Cond.privateMethod q.1 ∈ tables_1 ∧ Cond.instanceMethod q.1 ∈ tables_1
theorem lw_p0 : lw_okq (⟨"TwinGate", "runBothCopies", "()I"⟩, 12) := ⟨⟨by decide +kernel, by decide +kernel⟩, List.mem_of_getElem? (i := 15) (by decide +kernel), List.mem_of_getElem? (i := 156) (by decide +kernel), List.mem_of_getElem? (i := 157) (by decide +kernel)⟩
theorem lw_p1 : lw_okq (⟨"TwinGate", "runToItsEnd", "(LTwinGate$Copy;)I"⟩, 12) := ⟨⟨by decide +kernel, by decide +kernel⟩, List.mem_of_getElem? (i := 15) (by decide +kernel), List.mem_of_getElem? (i := 160) (by decide +kernel), List.mem_of_getElem? (i := 161) (by decide +kernel)⟩
theorem lw_p2 : lw_okq (⟨"TwinGate", "doFlipsAhead", "()V"⟩, 12) := ⟨⟨by decide +kernel, by decide +kernel⟩, List.mem_of_getElem? (i := 15) (by decide +kernel), List.mem_of_getElem? (i := 171) (by decide +kernel), List.mem_of_getElem? (i := 172) (by decide +kernel)⟩
theorem lw_p3 : lw_okq (⟨"TwinGate", "copyOf", "(I)LTwinGate$Copy;"⟩, 12) := ⟨⟨by decide +kernel, by decide +kernel⟩, List.mem_of_getElem? (i := 15) (by decide +kernel), List.mem_of_getElem? (i := 175) (by decide +kernel), List.mem_of_getElem? (i := 176) (by decide +kernel)⟩
theorem lw_p4 : lw_okq (⟨"TwinGate$Copy", "trapBeyondBound", "()I"⟩, 4) := ⟨⟨by decide +kernel, by decide +kernel⟩, List.mem_of_getElem? (i := 44) (by decide +kernel), List.mem_of_getElem? (i := 184) (by decide +kernel), List.mem_of_getElem? (i := 185) (by decide +kernel)⟩
theorem lw_p5 : lw_okq (⟨"TwinGate$Copy", "multiply", "()I"⟩, 4) := ⟨⟨by decide +kernel, by decide +kernel⟩, List.mem_of_getElem? (i := 44) (by decide +kernel), List.mem_of_getElem? (i := 189) (by decide +kernel), List.mem_of_getElem? (i := 190) (by decide +kernel)⟩
theorem lw_p6 : lw_okq (⟨"TwinGate$Copy", "isMultiple", "(J)Z"⟩, 4) := ⟨⟨by decide +kernel, by decide +kernel⟩, List.mem_of_getElem? (i := 44) (by decide +kernel), List.mem_of_getElem? (i := 198) (by decide +kernel), List.mem_of_getElem? (i := 199) (by decide +kernel)⟩
theorem lw_p7 : lw_okq (⟨"TwinGate$Copy", "part", "(J)J"⟩, 4) := ⟨⟨by decide +kernel, by decide +kernel⟩, List.mem_of_getElem? (i := 44) (by decide +kernel), List.mem_of_getElem? (i := 202) (by decide +kernel), List.mem_of_getElem? (i := 203) (by decide +kernel)⟩
theorem lw_p8 : lw_okq (⟨"TwinGate$Copy", "lookUp", "()I"⟩, 4) := ⟨⟨by decide +kernel, by decide +kernel⟩, List.mem_of_getElem? (i := 44) (by decide +kernel), List.mem_of_getElem? (i := 206) (by decide +kernel), List.mem_of_getElem? (i := 207) (by decide +kernel)⟩
theorem lw_p9 : lw_okq (⟨"TwinGate$Copy", "move", "(II)V"⟩, 4) := ⟨⟨by decide +kernel, by decide +kernel⟩, List.mem_of_getElem? (i := 44) (by decide +kernel), List.mem_of_getElem? (i := 211) (by decide +kernel), List.mem_of_getElem? (i := 212) (by decide +kernel)⟩
theorem lw_p10 : lw_okq (⟨"TwinGate", "copiesAgree", "()Z"⟩, 12) := ⟨⟨by decide +kernel, by decide +kernel⟩, List.mem_of_getElem? (i := 15) (by decide +kernel), List.mem_of_getElem? (i := 215) (by decide +kernel), List.mem_of_getElem? (i := 216) (by decide +kernel)⟩
theorem lw_p11 : lw_okq (⟨"TwinGate", "emit", "()V"⟩, 12) := ⟨⟨by decide +kernel, by decide +kernel⟩, List.mem_of_getElem? (i := 15) (by decide +kernel), List.mem_of_getElem? (i := 226) (by decide +kernel), List.mem_of_getElem? (i := 227) (by decide +kernel)⟩
theorem lw_p12 : lw_okq (⟨"java/lang/Throwable", "fillInStackTrace", "(I)Ljava/lang/Throwable;"⟩, 6) := ⟨⟨by decide +kernel, by decide +kernel⟩, List.mem_of_getElem? (i := 309) (by decide +kernel), List.mem_of_getElem? (i := 307) (by decide +kernel), List.mem_of_getElem? (i := 308) (by decide +kernel)⟩
theorem lw_p13 : lw_okq (⟨"TwinGateModel", "copy", "(I)I"⟩, 21) := ⟨⟨by decide +kernel, by decide +kernel⟩, List.mem_of_getElem? (i := 391) (by decide +kernel), List.mem_of_getElem? (i := 481) (by decide +kernel), List.mem_of_getElem? (i := 482) (by decide +kernel)⟩
theorem lw_p14 : lw_okq (⟨"TwinGateModel", "flipAll", "(I)V"⟩, 21) := ⟨⟨by decide +kernel, by decide +kernel⟩, List.mem_of_getElem? (i := 391) (by decide +kernel), List.mem_of_getElem? (i := 485) (by decide +kernel), List.mem_of_getElem? (i := 486) (by decide +kernel)⟩
theorem lw_p15 : lw_okq (⟨"TwinGateModel", "does", "(III)Z"⟩, 21) := ⟨⟨by decide +kernel, by decide +kernel⟩, List.mem_of_getElem? (i := 391) (by decide +kernel), List.mem_of_getElem? (i := 489) (by decide +kernel), List.mem_of_getElem? (i := 490) (by decide +kernel)⟩
def lw_privs_1 : List (MethodName × Nat) := [(⟨"TwinGate", "runBothCopies", "()I"⟩, 12), (⟨"TwinGate", "runToItsEnd", "(LTwinGate$Copy;)I"⟩, 12), (⟨"TwinGate", "doFlipsAhead", "()V"⟩, 12), (⟨"TwinGate", "copyOf", "(I)LTwinGate$Copy;"⟩, 12), (⟨"TwinGate$Copy", "trapBeyondBound", "()I"⟩, 4), (⟨"TwinGate$Copy", "multiply", "()I"⟩, 4), (⟨"TwinGate$Copy", "isMultiple", "(J)Z"⟩, 4), (⟨"TwinGate$Copy", "part", "(J)J"⟩, 4), (⟨"TwinGate$Copy", "lookUp", "()I"⟩, 4), (⟨"TwinGate$Copy", "move", "(II)V"⟩, 4), (⟨"TwinGate", "copiesAgree", "()Z"⟩, 12), (⟨"TwinGate", "emit", "()V"⟩, 12), (⟨"java/lang/Throwable", "fillInStackTrace", "(I)Ljava/lang/Throwable;"⟩, 6), (⟨"TwinGateModel", "copy", "(I)I"⟩, 21), (⟨"TwinGateModel", "flipAll", "(I)V"⟩, 21), (⟨"TwinGateModel", "does", "(III)Z"⟩, 21)]
theorem lw_r1 : ∀ q ∈ lw_privs_1, lw_okq q := List.forall_mem_cons.mpr ⟨lw_p0, List.forall_mem_cons.mpr ⟨lw_p1, List.forall_mem_cons.mpr ⟨lw_p2, List.forall_mem_cons.mpr ⟨lw_p3, List.forall_mem_cons.mpr ⟨lw_p4, List.forall_mem_cons.mpr ⟨lw_p5, List.forall_mem_cons.mpr ⟨lw_p6, List.forall_mem_cons.mpr ⟨lw_p7, List.forall_mem_cons.mpr ⟨lw_p8, List.forall_mem_cons.mpr ⟨lw_p9, List.forall_mem_cons.mpr ⟨lw_p10, List.forall_mem_cons.mpr ⟨lw_p11, List.forall_mem_cons.mpr ⟨lw_p12, List.forall_mem_cons.mpr ⟨lw_p13, List.forall_mem_cons.mpr ⟨lw_p14, List.forall_mem_cons.mpr ⟨lw_p15, fun _ h => absurd h List.not_mem_nil⟩⟩⟩⟩⟩⟩⟩⟩⟩⟩⟩⟩⟩⟩⟩⟩
theorem lw_p16 : lw_okq (⟨"TwinGateModel", "times", "(I)J"⟩, 21) := ⟨⟨by decide +kernel, by decide +kernel⟩, List.mem_of_getElem? (i := 391) (by decide +kernel), List.mem_of_getElem? (i := 493) (by decide +kernel), List.mem_of_getElem? (i := 494) (by decide +kernel)⟩
theorem lw_p17 : lw_okq (⟨"TwinGateModel", "may", "(IJ)Z"⟩, 21) := ⟨⟨by decide +kernel, by decide +kernel⟩, List.mem_of_getElem? (i := 391) (by decide +kernel), List.mem_of_getElem? (i := 501) (by decide +kernel), List.mem_of_getElem? (i := 502) (by decide +kernel)⟩
theorem lw_p18 : lw_okq (⟨"TwinGateModel", "agree", "()Z"⟩, 21) := ⟨⟨by decide +kernel, by decide +kernel⟩, List.mem_of_getElem? (i := 391) (by decide +kernel), List.mem_of_getElem? (i := 505) (by decide +kernel), List.mem_of_getElem? (i := 506) (by decide +kernel)⟩
def lw_privs_2 : List (MethodName × Nat) := [(⟨"TwinGateModel", "times", "(I)J"⟩, 21), (⟨"TwinGateModel", "may", "(IJ)Z"⟩, 21), (⟨"TwinGateModel", "agree", "()Z"⟩, 21)]
theorem lw_r2 : ∀ q ∈ lw_privs_2, lw_okq q := List.forall_mem_cons.mpr ⟨lw_p16, List.forall_mem_cons.mpr ⟨lw_p17, List.forall_mem_cons.mpr ⟨lw_p18, fun _ h => absurd h List.not_mem_nil⟩⟩⟩
def lw_privs : List (MethodName × Nat) := lw_privs_1 ++ (lw_privs_2)
def lw_tbl : List Cond := k2_sels lw_privs ++ tables_1
theorem lw_privs_ok : ∀ q ∈ lw_privs, lw_okq q := by
  show ∀ q ∈ lw_privs_1 ++ (lw_privs_2), lw_okq q
  exact List.forall_mem_append.mpr ⟨lw_r1, lw_r2⟩
def TB_w : List Cond := lw_tbl.filter goodWord
theorem tb_good : GoodIn lw_tbl TB_w := fun w h => ⟨(List.mem_filter.mp h).1, good_of_word (List.mem_filter.mp h).2⟩
def R_Gate : String := "TwinGate"
def F_Gate : u_T := fun k => match k with
  | 0 => ("TwinGate", "limit", "I", true)
  | 1 => ("TwinGate", "program", "LTwinGate$Program;", true)
  | 2 => ("TwinGate", "first", "LTwinGate$Copy;", true)
  | 3 => ("TwinGate", "second", "LTwinGate$Copy;", true)
  | 4 => ("TwinGate", "plan", "LTwinGate$FlipPlan;", true)
  | 5 => ("TwinGate", "given", "[I", true)
  | 6 => ("TwinGate", "shown", "[I", true)
  | 7 => ("TwinGate", "begun", "Z", false)
  | 8 => ("TwinGate", "latchedBy", "I", false)
  | 9 => ("TwinGate", "emittedCycles", "I", false)
  | 10 => ("TwinGate", "steps", "I", false)
  | _ => ("TwinGate", "flipsDone", "I", false)
def t_Gate : Nat → FieldType := fun k => match k with
  | 0 => .int
  | 1 => (.object "TwinGate$Program")
  | 2 => (.object "TwinGate$Copy")
  | 3 => (.object "TwinGate$Copy")
  | 4 => (.object "TwinGate$FlipPlan")
  | 5 => (.array .int)
  | 6 => (.array .int)
  | 7 => .boolean
  | 8 => .int
  | 9 => .int
  | 10 => .int
  | _ => .int
abbrev w_Gate : List Cond := u_ws R_Gate F_Gate 12
theorem n_Gate : ∀ a, a < 12 → ∀ b, b < 12 → a ≠ b → (F_Gate a).2.1 ≠ (F_Gate b).2.1 := by decide +kernel
theorem t_Gate_ok : ∀ k, k < 12 → parseFieldDescriptor (F_Gate k).2.2.1 = some (t_Gate k) := by decide +kernel
theorem iw_Gate : ∀ w ∈ w_Gate, w ∈ TB_w := fun w h => List.mem_filter.mpr ((show ∀ w ∈ w_Gate, w ∈ lw_tbl ∧ goodWord w = true by decide +kernel) w h)
def R_Copy : String := "TwinGate$Copy"
def F_Copy : u_T := fun k => match k with
  | 0 => ("TwinGate$Copy", "factor", "J", true)
  | 1 => ("TwinGate$Copy", "row", "[J", true)
  | 2 => ("TwinGate$Copy", "ports", "[J", true)
  | _ => ("TwinGate$Copy", "place", "I", false)
def t_Copy : Nat → FieldType := fun k => match k with
  | 0 => .long
  | 1 => (.array .long)
  | 2 => (.array .long)
  | _ => .int
abbrev w_Copy : List Cond := u_ws R_Copy F_Copy 4
theorem n_Copy : ∀ a, a < 4 → ∀ b, b < 4 → a ≠ b → (F_Copy a).2.1 ≠ (F_Copy b).2.1 := by decide +kernel
theorem t_Copy_ok : ∀ k, k < 4 → parseFieldDescriptor (F_Copy k).2.2.1 = some (t_Copy k) := by decide +kernel
theorem iw_Copy : ∀ w ∈ w_Copy, w ∈ TB_w := fun w h => List.mem_filter.mpr ((show ∀ w ∈ w_Copy, w ∈ lw_tbl ∧ goodWord w = true by decide +kernel) w h)
def R_Plan : String := "TwinGate$FlipPlan"
def F_Plan : u_T := fun k => match k with
  | 0 => ("TwinGate$FlipPlan", "copies", "[I", true)
  | 1 => ("TwinGate$FlipPlan", "cells", "[I", true)
  | 2 => ("TwinGate$FlipPlan", "bits", "[I", true)
  | 3 => ("TwinGate$FlipPlan", "steps", "[I", true)
  | _ => ("TwinGate$FlipPlan", "size", "I", false)
def t_Plan : Nat → FieldType := fun k => match k with
  | 0 => (.array .int)
  | 1 => (.array .int)
  | 2 => (.array .int)
  | 3 => (.array .int)
  | _ => .int
abbrev w_Plan : List Cond := u_ws R_Plan F_Plan 5
theorem n_Plan : ∀ a, a < 5 → ∀ b, b < 5 → a ≠ b → (F_Plan a).2.1 ≠ (F_Plan b).2.1 := by decide +kernel
theorem t_Plan_ok : ∀ k, k < 5 → parseFieldDescriptor (F_Plan k).2.2.1 = some (t_Plan k) := by decide +kernel
theorem iw_Plan : ∀ w ∈ w_Plan, w ∈ TB_w := fun w h => List.mem_filter.mpr ((show ∀ w ∈ w_Plan, w ∈ lw_tbl ∧ goodWord w = true by decide +kernel) w h)
def R_Prog : String := "TwinGate$Program"
def F_Prog : u_T := fun k => match k with
  | 0 => ("TwinGate$Program", "ops", "[I", true)
  | 1 => ("TwinGate$Program", "numbers", "[I", true)
  | _ => ("TwinGate$Program", "size", "I", false)
def t_Prog : Nat → FieldType := fun k => match k with
  | 0 => (.array .int)
  | 1 => (.array .int)
  | _ => .int
abbrev w_Prog : List Cond := u_ws R_Prog F_Prog 3
theorem n_Prog : ∀ a, a < 3 → ∀ b, b < 3 → a ≠ b → (F_Prog a).2.1 ≠ (F_Prog b).2.1 := by decide +kernel
theorem t_Prog_ok : ∀ k, k < 3 → parseFieldDescriptor (F_Prog k).2.2.1 = some (t_Prog k) := by decide +kernel
theorem iw_Prog : ∀ w ∈ w_Prog, w ∈ TB_w := fun w h => List.mem_filter.mpr ((show ∀ w ∈ w_Prog, w ∈ lw_tbl ∧ goodWord w = true by decide +kernel) w h)
def R_Modl : String := "TwinGateModel"
def F_Modl : u_T := fun k => match k with
  | 0 => ("TwinGateModel", "thrown", "I", false)
  | 1 => ("TwinGateModel", "limit", "I", true)
  | 2 => ("TwinGateModel", "many", "I", false)
  | 3 => ("TwinGateModel", "emitted", "I", false)
  | 4 => ("TwinGateModel", "latched", "I", false)
  | 5 => ("TwinGateModel", "steps", "I", false)
  | 6 => ("TwinGateModel", "planned", "I", false)
  | 7 => ("TwinGateModel", "flipped", "I", false)
  | 8 => ("TwinGateModel", "begun", "Z", false)
  | 9 => ("TwinGateModel", "ops", "[I", true)
  | 10 => ("TwinGateModel", "numbers", "[I", true)
  | 11 => ("TwinGateModel", "given", "[I", true)
  | 12 => ("TwinGateModel", "shown", "[I", true)
  | 13 => ("TwinGateModel", "held", "[J", true)
  | 14 => ("TwinGateModel", "put", "[J", true)
  | 15 => ("TwinGateModel", "plCopy", "[I", true)
  | 16 => ("TwinGateModel", "plCell", "[I", true)
  | 17 => ("TwinGateModel", "plBit", "[I", true)
  | 18 => ("TwinGateModel", "plStep", "[I", true)
  | 19 => ("TwinGateModel", "place", "I", false)
  | _ => ("TwinGateModel", "ended", "Z", false)
def t_Modl : Nat → FieldType := fun k => match k with
  | 0 => .int
  | 1 => .int
  | 2 => .int
  | 3 => .int
  | 4 => .int
  | 5 => .int
  | 6 => .int
  | 7 => .int
  | 8 => .boolean
  | 9 => (.array .int)
  | 10 => (.array .int)
  | 11 => (.array .int)
  | 12 => (.array .int)
  | 13 => (.array .long)
  | 14 => (.array .long)
  | 15 => (.array .int)
  | 16 => (.array .int)
  | 17 => (.array .int)
  | 18 => (.array .int)
  | 19 => .int
  | _ => .boolean
abbrev w_Modl : List Cond := u_ws R_Modl F_Modl 21
theorem n_Modl : ∀ a, a < 21 → ∀ b, b < 21 → a ≠ b → (F_Modl a).2.1 ≠ (F_Modl b).2.1 := by decide +kernel
theorem t_Modl_ok : ∀ k, k < 21 → parseFieldDescriptor (F_Modl k).2.2.1 = some (t_Modl k) := by decide +kernel
theorem iw_Modl : ∀ w ∈ w_Modl, w ∈ TB_w := fun w h => List.mem_filter.mpr ((show ∀ w ∈ w_Modl, w ∈ lw_tbl ∧ goodWord w = true by decide +kernel) w h)
def R_Arrs : String := "java/util/Arrays"
def R_law : String := "TwinGateLaw"
abbrev b_Gate_init : ByteArray := prog_1_method_1_code
def y_Gate_init : MethodName := ⟨R_Gate, "<init>", "(I)V"⟩
abbrev b_Gate_add : ByteArray := prog_1_method_2_code
def y_Gate_add : MethodName := ⟨R_Gate, "add", "(II)I"⟩
abbrev b_Gate_give : ByteArray := prog_1_method_3_code
def y_Gate_give : MethodName := ⟨R_Gate, "give", "(II)Z"⟩
abbrev b_Gate_cycle : ByteArray := prog_1_method_4_code
def y_Gate_cycle : MethodName := ⟨R_Gate, "cycle", "()I"⟩
abbrev b_Gate_flip : ByteArray := prog_1_method_5_code
def y_Gate_flip : MethodName := ⟨R_Gate, "flip", "(IIII)Z"⟩
abbrev b_Gate_output : ByteArray := prog_1_method_6_code
def y_Gate_output : MethodName := ⟨R_Gate, "output", "(I)I"⟩
abbrev b_Gate_cell : ByteArray := prog_1_method_7_code
def y_Gate_cell : MethodName := ⟨R_Gate, "cell", "(II)J"⟩
abbrev b_Gate_count : ByteArray := prog_1_method_8_code
def y_Gate_count : MethodName := ⟨R_Gate, "count", "(I)I"⟩
abbrev b_Gate_isBelow : ByteArray := prog_1_method_9_code
def y_Gate_isBelow : MethodName := ⟨R_Gate, "isBelow", "(II)Z"⟩
abbrev b_Gate_isPort : ByteArray := prog_1_method_10_code
def y_Gate_isPort : MethodName := ⟨R_Gate, "isPort", "(I)Z"⟩
abbrev b_Gate_isCopy : ByteArray := prog_1_method_11_code
def y_Gate_isCopy : MethodName := ⟨R_Gate, "isCopy", "(I)Z"⟩
abbrev b_Gate_isInRow : ByteArray := prog_1_method_12_code
def y_Gate_isInRow : MethodName := ⟨R_Gate, "isInRow", "(I)Z"⟩
abbrev b_Gate_isWithinBound : ByteArray := prog_1_method_13_code
def y_Gate_isWithinBound : MethodName := ⟨R_Gate, "isWithinBound", "(I)Z"⟩
abbrev b_Gate_isInstruction : ByteArray := prog_1_method_14_code
def y_Gate_isInstruction : MethodName := ⟨R_Gate, "isInstruction", "(II)Z"⟩
abbrev b_Gate_copyOf : ByteArray := prog_1_method_15_code
def y_Gate_copyOf : MethodName := ⟨R_Gate, "copyOf", "(I)LTwinGate$Copy;"⟩
abbrev b_Gate_runBothCopies : ByteArray := prog_1_method_16_code
def y_Gate_runBothCopies : MethodName := ⟨R_Gate, "runBothCopies", "()I"⟩
abbrev b_Gate_runToItsEnd : ByteArray := prog_1_method_17_code
def y_Gate_runToItsEnd : MethodName := ⟨R_Gate, "runToItsEnd", "(LTwinGate$Copy;)I"⟩
abbrev b_Gate_doFlipsAhead : ByteArray := prog_1_method_18_code
def y_Gate_doFlipsAhead : MethodName := ⟨R_Gate, "doFlipsAhead", "()V"⟩
abbrev b_Gate_copiesAgree : ByteArray := prog_1_method_19_code
def y_Gate_copiesAgree : MethodName := ⟨R_Gate, "copiesAgree", "()Z"⟩
abbrev b_Gate_emit : ByteArray := prog_1_method_20_code
def y_Gate_emit : MethodName := ⟨R_Gate, "emit", "()V"⟩
abbrev b_Modl_thrown : ByteArray := prog_6_method_1_code
def y_Modl_thrown : MethodName := ⟨R_Modl, "thrown", "()I"⟩
abbrev b_Modl_init : ByteArray := prog_6_method_2_code
def y_Modl_init : MethodName := ⟨R_Modl, "<init>", "(I)V"⟩
abbrev b_Modl_fits : ByteArray := prog_6_method_3_code
def y_Modl_fits : MethodName := ⟨R_Modl, "fits", "(J)Z"⟩
abbrev b_Modl_isGood : ByteArray := prog_6_method_4_code
def y_Modl_isGood : MethodName := ⟨R_Modl, "isGood", "(II)Z"⟩
abbrev b_Modl_add : ByteArray := prog_6_method_5_code
def y_Modl_add : MethodName := ⟨R_Modl, "add", "(II)I"⟩
abbrev b_Modl_give : ByteArray := prog_6_method_6_code
def y_Modl_give : MethodName := ⟨R_Modl, "give", "(II)Z"⟩
abbrev b_Modl_flipAll : ByteArray := prog_6_method_7_code
def y_Modl_flipAll : MethodName := ⟨R_Modl, "flipAll", "(I)V"⟩
abbrev b_Modl_times : ByteArray := prog_6_method_8_code
def y_Modl_times : MethodName := ⟨R_Modl, "times", "(I)J"⟩
abbrev b_Modl_may : ByteArray := prog_6_method_9_code
def y_Modl_may : MethodName := ⟨R_Modl, "may", "(IJ)Z"⟩
abbrev b_Modl_does : ByteArray := prog_6_method_10_code
def y_Modl_does : MethodName := ⟨R_Modl, "does", "(III)Z"⟩
abbrev b_Modl_copy : ByteArray := prog_6_method_11_code
def y_Modl_copy : MethodName := ⟨R_Modl, "copy", "(I)I"⟩
abbrev b_Modl_agree : ByteArray := prog_6_method_12_code
def y_Modl_agree : MethodName := ⟨R_Modl, "agree", "()Z"⟩
abbrev b_Modl_cycle : ByteArray := prog_6_method_13_code
def y_Modl_cycle : MethodName := ⟨R_Modl, "cycle", "()I"⟩
abbrev b_Modl_flip : ByteArray := prog_6_method_14_code
def y_Modl_flip : MethodName := ⟨R_Modl, "flip", "(IIII)Z"⟩
abbrev b_Modl_output : ByteArray := prog_6_method_15_code
def y_Modl_output : MethodName := ⟨R_Modl, "output", "(I)I"⟩
abbrev b_Modl_cell : ByteArray := prog_6_method_16_code
def y_Modl_cell : MethodName := ⟨R_Modl, "cell", "(II)J"⟩
abbrev b_Modl_count : ByteArray := prog_6_method_17_code
def y_Modl_count : MethodName := ⟨R_Modl, "count", "(I)I"⟩
abbrev b_Copy_init : ByteArray := prog_2_method_1_code
def y_Copy_init : MethodName := ⟨R_Copy, "<init>", "(J)V"⟩
abbrev b_Copy_begin : ByteArray := prog_2_method_2_code
def y_Copy_begin : MethodName := ⟨R_Copy, "begin", "()V"⟩
abbrev b_Copy_doStep : ByteArray := prog_2_method_3_code
def y_Copy_doStep : MethodName := ⟨R_Copy, "doStep", "(LTwinGate$Program;[I)I"⟩
abbrev b_Copy_move : ByteArray := prog_2_method_4_code
def y_Copy_move : MethodName := ⟨R_Copy, "move", "(II)V"⟩
abbrev b_Copy_multiply : ByteArray := prog_2_method_5_code
def y_Copy_multiply : MethodName := ⟨R_Copy, "multiply", "()I"⟩
abbrev b_Copy_lookUp : ByteArray := prog_2_method_6_code
def y_Copy_lookUp : MethodName := ⟨R_Copy, "lookUp", "()I"⟩
abbrev b_Copy_trapBeyondBound : ByteArray := prog_2_method_7_code
def y_Copy_trapBeyondBound : MethodName := ⟨R_Copy, "trapBeyondBound", "()I"⟩
abbrev b_Copy_isMultiple : ByteArray := prog_2_method_8_code
def y_Copy_isMultiple : MethodName := ⟨R_Copy, "isMultiple", "(J)Z"⟩
abbrev b_Copy_part : ByteArray := prog_2_method_9_code
def y_Copy_part : MethodName := ⟨R_Copy, "part", "(J)J"⟩
abbrev b_Copy_isProductBeyond64Bits : ByteArray := prog_2_method_10_code
def y_Copy_isProductBeyond64Bits : MethodName := ⟨R_Copy, "isProductBeyond64Bits", "(JJ)Z"⟩
abbrev b_Plan_init : ByteArray := prog_3_method_1_code
def y_Plan_init : MethodName := ⟨R_Plan, "<init>", "()V"⟩
abbrev b_Plan_isFull : ByteArray := prog_3_method_2_code
def y_Plan_isFull : MethodName := ⟨R_Plan, "isFull", "()Z"⟩
abbrev b_Plan_append : ByteArray := prog_3_method_3_code
def y_Plan_append : MethodName := ⟨R_Plan, "append", "(IIII)V"⟩
abbrev b_Plan_forgetAll : ByteArray := prog_3_method_4_code
def y_Plan_forgetAll : MethodName := ⟨R_Plan, "forgetAll", "()V"⟩
abbrev b_Prog_init : ByteArray := prog_4_method_1_code
def y_Prog_init : MethodName := ⟨R_Prog, "<init>", "()V"⟩
abbrev b_Prog_isFull : ByteArray := prog_4_method_2_code
def y_Prog_isFull : MethodName := ⟨R_Prog, "isFull", "()Z"⟩
abbrev b_Prog_append : ByteArray := prog_4_method_3_code
def y_Prog_append : MethodName := ⟨R_Prog, "append", "(II)V"⟩
abbrev b_Law_cell0 : ByteArray := method_2_code
def y_Law_cell0 : MethodName := ⟨R_law, "cell", "([II)I"⟩
abbrev b_Law_add : ByteArray := method_3_code
def y_Law_add : MethodName := ⟨R_law, "add", "(LTwinGate;II[J)I"⟩
abbrev b_Law_cell1 : ByteArray := method_4_code
def y_Law_cell1 : MethodName := ⟨R_law, "cell", "(LTwinGate;II[J)I"⟩
abbrev b_Law_law : ByteArray := code
def y_Law_law : MethodName := ⟨R_law, "law", "([I)Z"⟩
abbrev b_Arrs_fill_i : ByteArray := prog_15_method_103_code
def y_Arrs_fill_i : MethodName := ⟨R_Arrs, "fill", "([II)V"⟩
abbrev b_Arrs_fill_l : ByteArray := prog_15_method_101_code
def y_Arrs_fill_l : MethodName := ⟨R_Arrs, "fill", "([JJ)V"⟩
abbrev classes : List vw_C := [(R_Gate, F_Gate, 12), (R_Copy, F_Copy, 4), (R_Plan, F_Plan, 5), (R_Prog, F_Prog, 3), (R_Modl, F_Modl, 21)]
def nst_w : List (String × Nat × MethodName × String) := [(R_Gate, 9, y_Prog_init, "TwinGate"), (R_Gate, 32, y_Plan_init, "TwinGate"), (R_Copy, 37, y_Gate_isBelow, "TwinGate")]
theorem nt_0 : ((R_Gate, 9, y_Prog_init, "TwinGate") : String × Nat × MethodName × String) ∈ nst_w := List.mem_of_getElem? (i := 0) rfl
theorem nt_1 : ((R_Gate, 32, y_Plan_init, "TwinGate") : String × Nat × MethodName × String) ∈ nst_w := List.mem_of_getElem? (i := 1) rfl
theorem nt_2 : ((R_Copy, 37, y_Gate_isBelow, "TwinGate") : String × Nat × MethodName × String) ∈ nst_w := List.mem_of_getElem? (i := 2) rfl
end
section
/-! own rows over the kit: one precondition, one postcondition, one row to begin a method, one to end it, one behind a call -/
def nw_all (U : State) : Prop := ∀ q ∈ nst_w, va_Nw (.methodLinkNest q.1 q.2.1 q.2.2.1 q.2.2.2) U
theorem nw_warm {s U : State} (hW : s.WarmedH U.vm) (h : nw_all s) : nw_all U := fun q hq => va_Nw.warmM hW (h q hq)
theorem nw_call {U : State} {g : JFrame} {mk : MethodId} {a : Array Value} (h : nw_all U) : nw_all (U.calling g mk a) := fun q hq => va_Nw.same rfl rfl (h q hq)
def kn_w (D : va_G) (cI cL : ClassId) (U : State) : Prop := va_K D classes [(cI, .int), (cL, .long)] U ∧ nw_all U
theorem kn_warm {D : va_G} {cI cL : ClassId} {s U : State} (hW : s.WarmedH U.vm) (h : kn_w D cI cL s) : kn_w D cI cL U := ⟨va_K.moved hW.alike h.1, nw_warm hW h.2⟩
def pre_w (D : va_G) (cI cL : ClassId) (ws : va_W) (sz : Nat) (U : State) : Prop := U.heap.size = sz ∧ va_P D classes ws U.heap ∧ kn_w D cI cL U ∧ va_D (fun _ => True) ws
def pos_w (D : va_G) (A : Nat → Prop) (ws' : va_W) (t : State) : Prop := va_P D classes ws' t.heap ∧ va_D A ws'
theorem pre_blind {D : va_G} {cI cL : ClassId} {av : List Value} {ws : va_W} {sz : Nat} : FrameBlind (va_Pc av (pre_w D cI cL ws sz)) := fun a U g mk q => by
  obtain ⟨q0, q1, qP, qK, qD⟩ := q
  exact ⟨q0, q1, qP, ⟨va_K.moved (u := U) (U := U.calling g mk a) (Vm.Alike.refl U.vm) qK.1, nw_call qK.2⟩, qD⟩
theorem pv_V {D : va_G} {cI cL : ClassId} {s : State} {H : Heap} {A : Nat → Prop} {wc : va_W} {b q0 ci : Nat} {q : vw_C} {fs As : List Value} (hK : kn_w D cI cL s) (hP : va_P D classes wc H) (hD : va_D A wc) (hc : classes[ci]? = some q) (he : wc[q0]? = some (b, .inr (ci, fs))) : PreV s H q.1 b (va_Pc (.ref b :: As) (pre_w D cI cL wc H.size)) As :=
  ⟨pre_blind, va_recv hK.1 hP hc he, fun U hU hW => ⟨rfl, by rw [hU], by rw [hU]; exact hP, kn_warm hW hK, hD.weaken (fun _ _ _ _ => trivial)⟩⟩
theorem pv_S {D : va_G} {cI cL : ClassId} {s : State} {H : Heap} {A : Nat → Prop} {wc : va_W} {As : List Value} (hK : kn_w D cI cL s) (hP : va_P D classes wc H) (hD : va_D A wc) : PreS s H (va_Pc As (pre_w D cI cL wc H.size)) As :=
  ⟨pre_blind, fun U hU hW => ⟨rfl, by rw [hU], by rw [hU]; exact hP, kn_warm hW hK, hD.weaken (fun _ _ _ _ => trivial)⟩⟩
/-- contracts: answers int (boolean), long, nothing -/
abbrev ct_i (l : Launch) (y : MethodName) (cc : ByteArray) (maxL : Nat) (ret : Option FieldType) (rm : Room) (D : va_G) (cI cL : ClassId) (av : List Value) (ws : va_W) (sz : Nat) {S : Type} (post : Int32 → S → Prop) (out : S → va_W) (mc ms : Nat) : Prop :=
  Met l y (Cond.code y cc maxL ret :: TB_w) rm (va_Pc av (pre_w D cI cL ws sz)) (va_Qi post (fun u t => pos_w D (va_A ws sz) (out u) t) (va_A ws sz)) mc ms (va_A ws sz)
abbrev ct_l (l : Launch) (y : MethodName) (cc : ByteArray) (maxL : Nat) (ret : Option FieldType) (rm : Room) (D : va_G) (cI cL : ClassId) (av : List Value) (ws : va_W) (sz : Nat) {S : Type} (post : Int64 → S → Prop) (out : S → va_W) (mc ms : Nat) : Prop :=
  Met l y (Cond.code y cc maxL ret :: TB_w) rm (va_Pc av (pre_w D cI cL ws sz)) (va_Ql post (fun u t => pos_w D (va_A ws sz) (out u) t) (va_A ws sz)) mc ms (va_A ws sz)
abbrev ct_v (l : Launch) (y : MethodName) (cc : ByteArray) (maxL : Nat) (ret : Option FieldType) (rm : Room) (D : va_G) (cI cL : ClassId) (av : List Value) (ws : va_W) (sz : Nat) {S : Type} (post : S → Prop) (out : S → va_W) (mc ms : Nat) : Prop :=
  Met l y (Cond.code y cc maxL ret :: TB_w) rm (va_Pc av (pre_w D cI cL ws sz)) (va_Qv post (fun u t => pos_w D (va_A ws sz) (out u) t) (va_A ws sz)) mc ms (va_A ws sz)
abbrev ct_r (l : Launch) (y : MethodName) (cc : ByteArray) (maxL : Nat) (ret : Option FieldType) (rm : Room) (D : va_G) (cI cL : ClassId) (av : List Value) (ws : va_W) (sz : Nat) {S : Type} (post : S → Nat → Prop) (out : S → va_W) (mc ms : Nat) : Prop :=
  Met l y (Cond.code y cc maxL ret :: TB_w) rm (va_Pc av (pre_w D cI cL ws sz)) (va_Qr (fun _ => True) (fun u a t => post u a ∧ pos_w D (va_A ws sz) (out u) t) (va_A ws sz)) mc ms (va_A ws sz)
/-- what a walk has at hand from its method's entry on -/
def fx_w (p : Program) (m : MethodId) (meth : Method) (c : Code) (cc : ByteArray) (maxL : Nat) (ret : Option FieldType) (s : State) (args : Array Value) (y : MethodName) : Prop :=
  p.tables.exec = Jvm.exec ∧ c.code = cc ∧ c.maxLocals = maxL ∧ s.vm.findClass y.cls = some m.cls ∧ (∀ w ∈ TB_w, w.before args s = true) ∧ meth.sig.returnType = ret ∧ meth.locks = false ∧ meth.name = y.name
section OWNA
variable {l : Launch}
theorem st_w {y : MethodName} {rm : Room} {av : List Value} {W0 : va_W} {sz : Nat} {Qc : (Nat → Prop) → Array Value → State → Outcome → State → Prop} {mc ms : Nat} {cc : ByteArray} {maxL : Nat} {ret : Option FieldType} {D : va_G} {cI cL : ClassId} (hy : plainName y.cls = true) (hlen : (lg_sl av).length ≤ maxL)
    (body : ∀ (p : Program) (e : Env) (s : State) (m : MethodId) (below : List Frame) (meth : Method) (c : Code) (A : Nat → Prop) (ls : Array Slot), fx_w p m meth c cc maxL ret s av.toArray y → kn_w D cI cL s → (∀ q : Nat, s.heap.size ≤ q → A q) → va_P D classes W0 s.heap → va_D A W0 → va_S A s.heap s.heap [] → lv_has ls maxL (lv_args 0 av) →
      W p l e rm s m av.toArray below meth c s.heap [] 0 0 (MQ below (Qc A) av.toArray s mc ms A) (F0 m 0 ls [])) : Met l y (Cond.code y cc maxL ret :: TB_w) rm (va_Pc av (pre_w D cI cL W0 sz)) (Qc (va_A W0 sz)) mc ms (va_A W0 sz) := by
  refine Met.ofW (cc := cc) (maxL := maxL) (ret := ret) hy rfl ?_
  intro p e s m args below meth c s₁ B hml hv
  obtain ⟨rfl, hsz, hP, hK, hD0⟩ := hv
  have hts := atoms_spec (ws := Cond.code y cc maxL ret :: TB_w) B.pre
  subst hsz
  have hD := hD0.self (sz := s.heap.size)
  have hl := lv_entry av (n := maxL) hlen
  rw [lg_entry_eq]
  exact body p e s m below meth c (va_A W0 s.heap.size) _ ⟨B.exec, B.bytes, hml, findClass_of_methodNamed B.named, fun w hw => hts w (List.mem_cons_of_mem _ hw), B.returns, B.notSynchronized, (name_of_methodNamed B.named B.method).1⟩ hK (fun q h => Or.inr h) hP hD va_S.rf hl
end OWNA
section OWNB
variable {p : Program} {l : Launch} {e : Env} {R : Room} {s : State} {m : MethodId} {args : Array Value} {below : List Frame} {meth : Method} {c : Code} {H : Heap} {locs : List Loc} {cells slots : Nat} {Q : State → Prop}
variable {pc : Nat} {ls : Array Slot} {rest st0 : List Value} {a : Array Value} {A : Nat → Prop} {mc ms : Nat} {D : va_G} {cc : ByteArray}
theorem af_i {S : Type} {post : Int32 → S → Prop} {out : S → va_W} {ws wc wr : va_W} (hr : va_Run p l e R s m args below meth c H locs cells slots mc ms (F0 m pc ls st0) rest (va_Qi post (fun u t => pos_w D (va_A wc H.size) (out u) t) (va_A wc H.size) a) (va_A wc H.size))
    (hP : va_P D classes ws H) (hD : va_D A ws) (hS : va_S A s.heap H locs) (hA : ∀ q : Nat, s.heap.size ≤ q → A q) (isC isR : List Nat) (hC : isC.map (fun i => ws[i]?) = wc.map some) (hR : isR.map (fun i => ws[i]?) = wr.map some) (hn : va_nd isR = true) (hdis : ∀ i ∈ isR, i ∉ isC)
    (kk : ∀ (r : Int32) (u : S) (H1 : Heap) (locs1 : List Loc), post r u → va_P D classes (wr ++ out u) H1 → va_D A (wr ++ out u) → va_S A s.heap H1 locs1 → W p l e R s m args below meth c H1 locs1 (cells + mc) (slots + ms) Q (F0 m (pc + 3) ls (.int r :: rest))) : W p l e R s m args below meth c H locs cells slots Q (F0 m pc ls st0) := by
  have hFc := va_free (wc := wc) hD hS hA isC hC
  refine va_calli hr hS (fun q _ h => hFc q h) hFc (fun r u t H1 locs1 ht hvm hw hB hz1 hk1 hS1 => ?_)
  obtain ⟨hP1, hD1⟩ := hB
  rw [ht] at hP1
  obtain ⟨hP2, hD2⟩ := va_join (wr := wr) (w1 := out u) hP hD isC isR hC hR hn hdis hk1 hFc hP1 hD1
  exact kk r u H1 locs1 hw hP2 hD2 hS1
theorem af_l {S : Type} {post : Int64 → S → Prop} {out : S → va_W} {ws wc wr : va_W} (hr : va_Run p l e R s m args below meth c H locs cells slots mc ms (F0 m pc ls st0) rest (va_Ql post (fun u t => pos_w D (va_A wc H.size) (out u) t) (va_A wc H.size) a) (va_A wc H.size))
    (hP : va_P D classes ws H) (hD : va_D A ws) (hS : va_S A s.heap H locs) (hA : ∀ q : Nat, s.heap.size ≤ q → A q) (isC isR : List Nat) (hC : isC.map (fun i => ws[i]?) = wc.map some) (hR : isR.map (fun i => ws[i]?) = wr.map some) (hn : va_nd isR = true) (hdis : ∀ i ∈ isR, i ∉ isC)
    (kk : ∀ (r : Int64) (u : S) (H1 : Heap) (locs1 : List Loc), post r u → va_P D classes (wr ++ out u) H1 → va_D A (wr ++ out u) → va_S A s.heap H1 locs1 → W p l e R s m args below meth c H1 locs1 (cells + mc) (slots + ms) Q (F0 m (pc + 3) ls (.long r :: rest))) : W p l e R s m args below meth c H locs cells slots Q (F0 m pc ls st0) := by
  have hFc := va_free (wc := wc) hD hS hA isC hC
  refine va_calll hr hS (fun q _ h => hFc q h) hFc (fun r u t H1 locs1 ht hvm hw hB hz1 hk1 hS1 => ?_)
  obtain ⟨hP1, hD1⟩ := hB
  rw [ht] at hP1
  obtain ⟨hP2, hD2⟩ := va_join (wr := wr) (w1 := out u) hP hD isC isR hC hR hn hdis hk1 hFc hP1 hD1
  exact kk r u H1 locs1 hw hP2 hD2 hS1
theorem af_v {S : Type} {post : S → Prop} {out : S → va_W} {ws wc wr : va_W} (hr : va_Run p l e R s m args below meth c H locs cells slots mc ms (F0 m pc ls st0) rest (va_Qv post (fun u t => pos_w D (va_A wc H.size) (out u) t) (va_A wc H.size) a) (va_A wc H.size))
    (hP : va_P D classes ws H) (hD : va_D A ws) (hS : va_S A s.heap H locs) (hA : ∀ q : Nat, s.heap.size ≤ q → A q) (isC isR : List Nat) (hC : isC.map (fun i => ws[i]?) = wc.map some) (hR : isR.map (fun i => ws[i]?) = wr.map some) (hn : va_nd isR = true) (hdis : ∀ i ∈ isR, i ∉ isC)
    (kk : ∀ (u : S) (H1 : Heap) (locs1 : List Loc), post u → va_P D classes (wr ++ out u) H1 → va_D A (wr ++ out u) → va_S A s.heap H1 locs1 → W p l e R s m args below meth c H1 locs1 (cells + mc) (slots + ms) Q (F0 m (pc + 3) ls rest)) : W p l e R s m args below meth c H locs cells slots Q (F0 m pc ls st0) := by
  have hFc := va_free (wc := wc) hD hS hA isC hC
  refine va_callv hr hS (fun q _ h => hFc q h) hFc (fun u t H1 locs1 ht hvm hw hB hz1 hk1 hS1 => ?_)
  obtain ⟨hP1, hD1⟩ := hB
  rw [ht] at hP1
  obtain ⟨hP2, hD2⟩ := va_join (wr := wr) (w1 := out u) hP hD isC isR hC hR hn hdis hk1 hFc hP1 hD1
  exact kk u H1 locs1 hw hP2 hD2 hS1
theorem af_r {S : Type} {post : S → Nat → Prop} {out : S → va_W} {ws wc wr : va_W} (hr : va_Run p l e R s m args below meth c H locs cells slots mc ms (F0 m pc ls st0) rest (va_Qr (fun _ => True) (fun u x t => post u x ∧ pos_w D (va_A wc H.size) (out u) t) (va_A wc H.size) a) (va_A wc H.size))
    (hP : va_P D classes ws H) (hD : va_D A ws) (hS : va_S A s.heap H locs) (hA : ∀ q : Nat, s.heap.size ≤ q → A q) (isC isR : List Nat) (hC : isC.map (fun i => ws[i]?) = wc.map some) (hR : isR.map (fun i => ws[i]?) = wr.map some) (hn : va_nd isR = true) (hdis : ∀ i ∈ isR, i ∉ isC)
    (kk : ∀ (u : S) (x : Nat) (H1 : Heap) (locs1 : List Loc), post u x → va_P D classes (wr ++ out u) H1 → va_D A (wr ++ out u) → va_S A s.heap H1 locs1 → W p l e R s m args below meth c H1 locs1 (cells + mc) (slots + ms) Q (F0 m (pc + 3) ls (.ref x :: rest))) : W p l e R s m args below meth c H locs cells slots Q (F0 m pc ls st0) := by
  have hFc := va_free (wc := wc) hD hS hA isC hC
  refine va_callr hr hS (fun q _ h => hFc q h) hFc (fun u x t H1 locs1 ht hvm hw hB hz1 hk1 hS1 => ?_)
  obtain ⟨hx, hP1, hD1⟩ := hB
  rw [ht] at hP1
  obtain ⟨hP2, hD2⟩ := va_join (wr := wr) (w1 := out u) hP hD isC isR hC hR hn hdis hk1 hFc hP1 hD1
  exact kk u x H1 locs1 hx hP2 hD2 hS1
theorem rt_i {S : Type} {post : Int32 → S → Prop} {out : S → va_W} {v : Int32} (u : S) (hx : p.tables.exec = Jvm.exec) (hb : c.code = cc) (hr : meth.sig.returnType = some .int) (hlocks : meth.locks = false) (hpost : post v u) (hP : va_P D classes (out u) H) (hD : va_D A (out u)) (hS : va_S A s.heap H locs) (hdg : decode cc pc = .ok (.ireturn, 1)) :
    W p l e R s m args below meth c H locs mc ms (MQ below (va_Qi post (fun u t => pos_w D A (out u) t) A) args s mc ms A) (F0 m pc ls [.int v]) :=
  W.iret hx hb hr (fun t ht _ => ⟨⟨v, u, rfl, hpost, by rw [ht]; exact hP, hD⟩, hS.F ht⟩) hS.2.2 hdg hlocks
theorem rt_z {S : Type} {post : Int32 → S → Prop} {out : S → va_W} {v : Int32} (u : S) (hx : p.tables.exec = Jvm.exec) (hb : c.code = cc) (hr : meth.sig.returnType = some .boolean) (hlocks : meth.locks = false) (hv : v = 0 ∨ v = 1) (hpost : post v u) (hP : va_P D classes (out u) H) (hD : va_D A (out u)) (hS : va_S A s.heap H locs) (hdg : decode cc pc = .ok (.ireturn, 1)) :
    W p l e R s m args below meth c H locs mc ms (MQ below (va_Qi post (fun u t => pos_w D A (out u) t) A) args s mc ms A) (F0 m pc ls [.int v]) :=
  W.zret hx hb hr (by rcases hv with rfl | rfl <;> rfl) (fun t ht _ => ⟨⟨v, u, rfl, hpost, by rw [ht]; exact hP, hD⟩, hS.F ht⟩) hS.2.2 hdg hlocks
theorem rt_l {S : Type} {post : Int64 → S → Prop} {out : S → va_W} {v : Int64} (u : S) (hx : p.tables.exec = Jvm.exec) (hb : c.code = cc) (hr : meth.sig.returnType = some .long) (hlocks : meth.locks = false) (hpost : post v u) (hP : va_P D classes (out u) H) (hD : va_D A (out u)) (hS : va_S A s.heap H locs) (hdg : decode cc pc = .ok (.lreturn, 1)) :
    W p l e R s m args below meth c H locs mc ms (MQ below (va_Ql post (fun u t => pos_w D A (out u) t) A) args s mc ms A) (F0 m pc ls [.long v]) :=
  W.lret hx hb hr (fun t ht _ => ⟨⟨v, u, rfl, hpost, by rw [ht]; exact hP, hD⟩, hS.F ht⟩) hS.2.2 hdg hlocks
theorem rt_v {S : Type} {post : S → Prop} {out : S → va_W} (u : S) (hx : p.tables.exec = Jvm.exec) (hb : c.code = cc) (hr : meth.sig.returnType = none) (hlocks : meth.locks = false) (hpost : post u) (hP : va_P D classes (out u) H) (hD : va_D A (out u)) (hS : va_S A s.heap H locs) (hdg : decode cc pc = .ok (.return_, 1)) :
    W p l e R s m args below meth c H locs mc ms (MQ below (va_Qv post (fun u t => pos_w D A (out u) t) A) args s mc ms A) (F0 m pc ls []) :=
  W.vret hx hb hr (fun t ht _ => ⟨⟨u, rfl, hpost, by rw [ht]; exact hP, hD⟩, hS.F ht⟩) hS.2.2 hdg hlocks
theorem rt_r {S : Type} {post : S → Nat → Prop} {out : S → va_W} {x : Nat} {rt : FieldType} (u : S) (hx : p.tables.exec = Jvm.exec) (hb : c.code = cc) (hr : meth.sig.returnType = some rt) (hrt : (∃ n, rt = .object n) ∨ ∃ t, rt = .array t) (hlocks : meth.locks = false) (hpost : post u x) (hP : va_P D classes (out u) H) (hD : va_D A (out u)) (hS : va_S A s.heap H locs) (hdg : decode cc pc = .ok (.areturn, 1)) :
    W p l e R s m args below meth c H locs mc ms (MQ below (va_Qr (fun _ => True) (fun u x t => post u x ∧ pos_w D A (out u) t) A) args s mc ms A) (F0 m pc ls [.ref x]) :=
  W.aret hx hb hr hrt (Or.inr ⟨x, rfl⟩) (fun t ht _ => ⟨⟨u, x, rfl, trivial, hpost, by rw [ht]; exact hP, hD⟩, hS.F ht⟩) hS.2.2 hdg hlocks
end OWNB
/-- longs: the answer of lcmp against 0 -/
theorem lc_eq (x y : Int64) : lg_cmp x y = 0 ↔ x = y := by
  unfold lg_cmp
  by_cases h1 : y < x
  · simp only [if_pos h1]
    exact ⟨fun h => absurd h (by decide), fun h => by subst h; exact absurd h1 Int64.lt_irrefl⟩
  · by_cases h2 : x = y
    · simp [h2]
    · simp [h1, h2]
theorem lc_lt (x y : Int64) : lg_cmp x y < 0 ↔ x < y := by
  unfold lg_cmp
  by_cases h1 : y < x
  · simp only [if_pos h1]
    exact ⟨fun h => absurd h (by decide), fun h => absurd h1 (Int64.not_lt.mpr (Int64.le_of_lt h))⟩
  · by_cases h2 : x = y
    · subst h2
      simp
    · simp only [if_neg h1, if_neg h2]
      exact ⟨fun _ => Int64.lt_of_le_of_ne (Int64.not_lt.mp h1) h2, fun _ => by decide⟩
theorem lc_gt (x y : Int64) : 0 < lg_cmp x y ↔ y < x := by
  unfold lg_cmp
  by_cases h1 : y < x
  · simp only [if_pos h1]
    exact ⟨fun _ => h1, fun _ => by decide⟩
  · by_cases h2 : x = y
    · subst h2
      simp
    · simp only [if_neg h1, if_neg h2]
      exact ⟨fun h => absurd h (by decide), fun h => absurd h h1⟩
theorem lc_le (x y : Int64) : lg_cmp x y ≤ 0 ↔ ¬ y < x := by
  rw [← lc_gt x y]
  exact ⟨fun h => Int32.not_lt.mpr h, fun h => Int32.not_lt.mp h⟩
theorem lc_ge (x y : Int64) : 0 ≤ lg_cmp x y ↔ ¬ x < y := by
  rw [← lc_lt x y]
  exact ⟨fun h => Int32.not_lt.mpr h, fun h => Int32.not_lt.mp h⟩
theorem gd_w {c : Cond} (h : c ∈ TB_w) : GoodIn TB_w (c :: TB_w) := fun w hw => by
  rcases List.mem_cons.mp hw with rfl | hw
  · exact ⟨h, (tb_good _ h).2⟩
  · exact ⟨hw, (tb_good _ hw).2⟩
theorem ka_i {D : va_G} {cI cL cA : ClassId} {s : State} (h : va_K D classes ([(cI, .int), (cL, .long)] ++ [(cA, .int)]) s) : cI = cA := Option.some.inj (((h.2 0 _ rfl).2 : s.vm.findClass _ = some cI).symm.trans ((h.2 2 _ rfl).2 : s.vm.findClass _ = some cA))
theorem ka_l {D : va_G} {cI cL cA : ClassId} {s : State} (h : va_K D classes ([(cI, .int), (cL, .long)] ++ [(cA, .long)]) s) : cL = cA := Option.some.inj (((h.2 1 _ rfl).2 : s.vm.findClass _ = some cL).symm.trans ((h.2 2 _ rfl).2 : s.vm.findClass _ = some cA))
section OWNC
variable {p : Program} {l : Launch} {e : Env} {R : Room} {s : State} {m : MethodId} {args : Array Value} {below : List Frame} {meth : Method} {c : Code} {H : Heap} {locs : List Loc} {cells slots : Nat} {Q : State → Prop}
variable {cc : ByteArray} {pc : Nat} {ls : Array Slot} {rest : List Value} {D : va_G} {cl : List vw_C} {A : Nat → Prop} {a : Nat} {tys : List (ClassId × FieldType)} {ws : va_W} {H0 : Heap}
theorem ld_i (hexec : p.tables.exec = Jvm.exec) (hb : c.code = cc) (hK : va_K D cl tys s) (hP : va_P D cl ws H) (q0 t0 : Nat) {cA : ClassId} {n : Nat} {f : Nat → Int32} (ha : ws[q0]? = some (a, .inl (cA, n, .inl f))) (ht : tys[t0]? = some (cA, .int)) {i v : Int32} (hin : vp_in i n) (hv : f i.toNatClampNeg = v) (hdg : decode cc pc = .ok (.iaload, 1))
    (kk : W p l e R s m args below meth c H locs cells slots Q (F0 m (pc + 1) ls (.int v :: rest))) : W p l e R s m args below meth c H locs cells slots Q (F0 m pc ls (.int i :: .ref a :: rest)) := by
  subst hv
  exact va_iald hexec hb hK hP q0 t0 ha ht hin hdg kk
theorem ld_l (hexec : p.tables.exec = Jvm.exec) (hb : c.code = cc) (hK : va_K D cl tys s) (hP : va_P D cl ws H) (q0 t0 : Nat) {cA : ClassId} {n : Nat} {f : Nat → Int64} (ha : ws[q0]? = some (a, .inl (cA, n, .inr (.inl f)))) (ht : tys[t0]? = some (cA, .long)) {i : Int32} {v : Int64} (hin : vp_in i n) (hv : f i.toNatClampNeg = v) (hdg : decode cc pc = .ok (.laload, 1))
    (kk : W p l e R s m args below meth c H locs cells slots Q (F0 m (pc + 1) ls (.long v :: rest))) : W p l e R s m args below meth c H locs cells slots Q (F0 m pc ls (.int i :: .ref a :: rest)) := by
  subst hv
  exact va_lald hexec hb hK hP q0 t0 ha ht hin hdg kk
theorem sd_i (hexec : p.tables.exec = Jvm.exec) (hb : c.code = cc) (hK : va_K D cl tys s) (hP : va_P D cl ws H) (hD : va_D A ws) (hS : va_S A H0 H locs) (q0 t0 : Nat) {cA : ClassId} {n : Nat} {f g : Nat → Int32} (ha : ws[q0]? = some (a, .inl (cA, n, .inl f))) (ht : tys[t0]? = some (cA, .int)) {i : Int32} {x : Int32} (hin : vp_in i n) (hg : upd f i.toNatClampNeg x = g) (hdg : decode cc pc = .ok (.iastore, 1))
    (kk : ∀ (H1 : Heap) (locs1 : List Loc), va_P D cl (ws.set q0 (a, .inl (cA, n, .inl g))) H1 → va_D A (ws.set q0 (a, .inl (cA, n, .inl g))) → va_S A H0 H1 locs1 → W p l e R s m args below meth c H1 locs1 cells slots Q (F0 m (pc + 1) ls rest)) : W p l e R s m args below meth c H locs cells slots Q (F0 m pc ls (.int x :: .int i :: .ref a :: rest)) := by
  subst hg
  exact va_iast hexec hb hK hP hD hS q0 t0 ha ht hin hdg kk
theorem sd_l (hexec : p.tables.exec = Jvm.exec) (hb : c.code = cc) (hK : va_K D cl tys s) (hP : va_P D cl ws H) (hD : va_D A ws) (hS : va_S A H0 H locs) (q0 t0 : Nat) {cA : ClassId} {n : Nat} {f g : Nat → Int64} (ha : ws[q0]? = some (a, .inl (cA, n, .inr (.inl f)))) (ht : tys[t0]? = some (cA, .long)) {i : Int32} {x : Int64} (hin : vp_in i n) (hg : vp_updL f i.toNatClampNeg x = g) (hdg : decode cc pc = .ok (.lastore, 1))
    (kk : ∀ (H1 : Heap) (locs1 : List Loc), va_P D cl (ws.set q0 (a, .inl (cA, n, .inr (.inl g)))) H1 → va_D A (ws.set q0 (a, .inl (cA, n, .inr (.inl g)))) → va_S A H0 H1 locs1 → W p l e R s m args below meth c H1 locs1 cells slots Q (F0 m (pc + 1) ls rest)) : W p l e R s m args below meth c H locs cells slots Q (F0 m pc ls (.long x :: .int i :: .ref a :: rest)) := by
  subst hg
  exact va_last hexec hb hK hP hD hS q0 t0 ha ht hin hdg kk
end OWNC
end
