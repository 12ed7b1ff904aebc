section
-- ===== PART A: goes FIRST, ahead of the names: the tables' words, and 'selects' of the private methods out of them =====
/-- a private method of a class that the tables say can be made, by its rows of tables_1 -/
def lw_okq (q : MethodName × Nat) : Prop := (q.1.cls ≠ "java/lang/invoke/MethodHandle" ∧ q.1.cls ≠ "java/lang/invoke/VarHandle") ∧ Cond.instantiable q.1.cls q.2 ∈ tables_1 ∧ Cond.privateMethod q.1 ∈ tables_1 ∧ Cond.instanceMethod q.1 ∈ tables_1
theorem lw_p0 : lw_okq (⟨"TwinGate", "runBothCopies", "()I"⟩, 12) := ⟨⟨by decide +kernel, by decide +kernel⟩, List.mem_of_getElem? (i := 15) (by decide +kernel), List.mem_of_getElem? (i := 156) (by decide +kernel), List.mem_of_getElem? (i := 157) (by decide +kernel)⟩
theorem lw_p1 : lw_okq (⟨"TwinGate", "runToItsEnd", "(LTwinGate$Copy;)I"⟩, 12) := ⟨⟨by decide +kernel, by decide +kernel⟩, List.mem_of_getElem? (i := 15) (by decide +kernel), List.mem_of_getElem? (i := 160) (by decide +kernel), List.mem_of_getElem? (i := 161) (by decide +kernel)⟩
theorem lw_p2 : lw_okq (⟨"TwinGate", "doFlipsAhead", "()V"⟩, 12) := ⟨⟨by decide +kernel, by decide +kernel⟩, List.mem_of_getElem? (i := 15) (by decide +kernel), List.mem_of_getElem? (i := 171) (by decide +kernel), List.mem_of_getElem? (i := 172) (by decide +kernel)⟩
theorem lw_p3 : lw_okq (⟨"TwinGate", "copyOf", "(I)LTwinGate$Copy;"⟩, 12) := ⟨⟨by decide +kernel, by decide +kernel⟩, List.mem_of_getElem? (i := 15) (by decide +kernel), List.mem_of_getElem? (i := 175) (by decide +kernel), List.mem_of_getElem? (i := 176) (by decide +kernel)⟩
theorem lw_p4 : lw_okq (⟨"TwinGate$Copy", "trapBeyondBound", "()I"⟩, 4) := ⟨⟨by decide +kernel, by decide +kernel⟩, List.mem_of_getElem? (i := 44) (by decide +kernel), List.mem_of_getElem? (i := 184) (by decide +kernel), List.mem_of_getElem? (i := 185) (by decide +kernel)⟩
theorem lw_p5 : lw_okq (⟨"TwinGate$Copy", "multiply", "()I"⟩, 4) := ⟨⟨by decide +kernel, by decide +kernel⟩, List.mem_of_getElem? (i := 44) (by decide +kernel), List.mem_of_getElem? (i := 189) (by decide +kernel), List.mem_of_getElem? (i := 190) (by decide +kernel)⟩
theorem lw_p6 : lw_okq (⟨"TwinGate$Copy", "isMultiple", "(J)Z"⟩, 4) := ⟨⟨by decide +kernel, by decide +kernel⟩, List.mem_of_getElem? (i := 44) (by decide +kernel), List.mem_of_getElem? (i := 198) (by decide +kernel), List.mem_of_getElem? (i := 199) (by decide +kernel)⟩
theorem lw_p7 : lw_okq (⟨"TwinGate$Copy", "part", "(J)J"⟩, 4) := ⟨⟨by decide +kernel, by decide +kernel⟩, List.mem_of_getElem? (i := 44) (by decide +kernel), List.mem_of_getElem? (i := 202) (by decide +kernel), List.mem_of_getElem? (i := 203) (by decide +kernel)⟩
theorem lw_p8 : lw_okq (⟨"TwinGate$Copy", "lookUp", "()I"⟩, 4) := ⟨⟨by decide +kernel, by decide +kernel⟩, List.mem_of_getElem? (i := 44) (by decide +kernel), List.mem_of_getElem? (i := 206) (by decide +kernel), List.mem_of_getElem? (i := 207) (by decide +kernel)⟩
theorem lw_p9 : lw_okq (⟨"TwinGate$Copy", "move", "(II)V"⟩, 4) := ⟨⟨by decide +kernel, by decide +kernel⟩, List.mem_of_getElem? (i := 44) (by decide +kernel), List.mem_of_getElem? (i := 211) (by decide +kernel), List.mem_of_getElem? (i := 212) (by decide +kernel)⟩
theorem lw_p10 : lw_okq (⟨"TwinGate", "copiesAgree", "()Z"⟩, 12) := ⟨⟨by decide +kernel, by decide +kernel⟩, List.mem_of_getElem? (i := 15) (by decide +kernel), List.mem_of_getElem? (i := 215) (by decide +kernel), List.mem_of_getElem? (i := 216) (by decide +kernel)⟩
theorem lw_p11 : lw_okq (⟨"TwinGate", "emit", "()V"⟩, 12) := ⟨⟨by decide +kernel, by decide +kernel⟩, List.mem_of_getElem? (i := 15) (by decide +kernel), List.mem_of_getElem? (i := 226) (by decide +kernel), List.mem_of_getElem? (i := 227) (by decide +kernel)⟩
theorem lw_p12 : lw_okq (⟨"java/lang/Throwable", "fillInStackTrace", "(I)Ljava/lang/Throwable;"⟩, 6) := ⟨⟨by decide +kernel, by decide +kernel⟩, List.mem_of_getElem? (i := 309) (by decide +kernel), List.mem_of_getElem? (i := 307) (by decide +kernel), List.mem_of_getElem? (i := 308) (by decide +kernel)⟩
theorem lw_p13 : lw_okq (⟨"TwinGateModel", "copy", "(I)I"⟩, 21) := ⟨⟨by decide +kernel, by decide +kernel⟩, List.mem_of_getElem? (i := 391) (by decide +kernel), List.mem_of_getElem? (i := 481) (by decide +kernel), List.mem_of_getElem? (i := 482) (by decide +kernel)⟩
theorem lw_p14 : lw_okq (⟨"TwinGateModel", "flipAll", "(I)V"⟩, 21) := ⟨⟨by decide +kernel, by decide +kernel⟩, List.mem_of_getElem? (i := 391) (by decide +kernel), List.mem_of_getElem? (i := 485) (by decide +kernel), List.mem_of_getElem? (i := 486) (by decide +kernel)⟩
theorem lw_p15 : lw_okq (⟨"TwinGateModel", "does", "(III)Z"⟩, 21) := ⟨⟨by decide +kernel, by decide +kernel⟩, List.mem_of_getElem? (i := 391) (by decide +kernel), List.mem_of_getElem? (i := 489) (by decide +kernel), List.mem_of_getElem? (i := 490) (by decide +kernel)⟩
def lw_privs_1 : List (MethodName × Nat) := [(⟨"TwinGate", "runBothCopies", "()I"⟩, 12), (⟨"TwinGate", "runToItsEnd", "(LTwinGate$Copy;)I"⟩, 12), (⟨"TwinGate", "doFlipsAhead", "()V"⟩, 12), (⟨"TwinGate", "copyOf", "(I)LTwinGate$Copy;"⟩, 12), (⟨"TwinGate$Copy", "trapBeyondBound", "()I"⟩, 4), (⟨"TwinGate$Copy", "multiply", "()I"⟩, 4), (⟨"TwinGate$Copy", "isMultiple", "(J)Z"⟩, 4), (⟨"TwinGate$Copy", "part", "(J)J"⟩, 4), (⟨"TwinGate$Copy", "lookUp", "()I"⟩, 4), (⟨"TwinGate$Copy", "move", "(II)V"⟩, 4), (⟨"TwinGate", "copiesAgree", "()Z"⟩, 12), (⟨"TwinGate", "emit", "()V"⟩, 12), (⟨"java/lang/Throwable", "fillInStackTrace", "(I)Ljava/lang/Throwable;"⟩, 6), (⟨"TwinGateModel", "copy", "(I)I"⟩, 21), (⟨"TwinGateModel", "flipAll", "(I)V"⟩, 21), (⟨"TwinGateModel", "does", "(III)Z"⟩, 21)]
theorem lw_r1 : ∀ q ∈ lw_privs_1, lw_okq q := List.forall_mem_cons.mpr ⟨lw_p0, List.forall_mem_cons.mpr ⟨lw_p1, List.forall_mem_cons.mpr ⟨lw_p2, List.forall_mem_cons.mpr ⟨lw_p3, List.forall_mem_cons.mpr ⟨lw_p4, List.forall_mem_cons.mpr ⟨lw_p5, List.forall_mem_cons.mpr ⟨lw_p6, List.forall_mem_cons.mpr ⟨lw_p7, List.forall_mem_cons.mpr ⟨lw_p8, List.forall_mem_cons.mpr ⟨lw_p9, List.forall_mem_cons.mpr ⟨lw_p10, List.forall_mem_cons.mpr ⟨lw_p11, List.forall_mem_cons.mpr ⟨lw_p12, List.forall_mem_cons.mpr ⟨lw_p13, List.forall_mem_cons.mpr ⟨lw_p14, List.forall_mem_cons.mpr ⟨lw_p15, fun _ h => absurd h List.not_mem_nil⟩⟩⟩⟩⟩⟩⟩⟩⟩⟩⟩⟩⟩⟩⟩⟩
theorem lw_p16 : lw_okq (⟨"TwinGateModel", "times", "(I)J"⟩, 21) := ⟨⟨by decide +kernel, by decide +kernel⟩, List.mem_of_getElem? (i := 391) (by decide +kernel), List.mem_of_getElem? (i := 493) (by decide +kernel), List.mem_of_getElem? (i := 494) (by decide +kernel)⟩
theorem lw_p17 : lw_okq (⟨"TwinGateModel", "may", "(IJ)Z"⟩, 21) := ⟨⟨by decide +kernel, by decide +kernel⟩, List.mem_of_getElem? (i := 391) (by decide +kernel), List.mem_of_getElem? (i := 501) (by decide +kernel), List.mem_of_getElem? (i := 502) (by decide +kernel)⟩
theorem lw_p18 : lw_okq (⟨"TwinGateModel", "agree", "()Z"⟩, 21) := ⟨⟨by decide +kernel, by decide +kernel⟩, List.mem_of_getElem? (i := 391) (by decide +kernel), List.mem_of_getElem? (i := 505) (by decide +kernel), List.mem_of_getElem? (i := 506) (by decide +kernel)⟩
def lw_privs_2 : List (MethodName × Nat) := [(⟨"TwinGateModel", "times", "(I)J"⟩, 21), (⟨"TwinGateModel", "may", "(IJ)Z"⟩, 21), (⟨"TwinGateModel", "agree", "()Z"⟩, 21)]
theorem lw_r2 : ∀ q ∈ lw_privs_2, lw_okq q := List.forall_mem_cons.mpr ⟨lw_p16, List.forall_mem_cons.mpr ⟨lw_p17, List.forall_mem_cons.mpr ⟨lw_p18, fun _ h => absurd h List.not_mem_nil⟩⟩⟩
def lw_privs : List (MethodName × Nat) := lw_privs_1 ++ (lw_privs_2)
def lw_tbl : List Cond := k2_sels lw_privs ++ tables_1
theorem lw_privs_ok : ∀ q ∈ lw_privs, lw_okq q := by
  show ∀ q ∈ lw_privs_1 ++ (lw_privs_2), lw_okq q
  exact List.forall_mem_append.mpr ⟨lw_r1, lw_r2⟩
def TB_w : List Cond := lw_tbl.filter goodWord
theorem tb_good : GoodIn lw_tbl TB_w := fun w h => ⟨(List.mem_filter.mp h).1, good_of_word (List.mem_filter.mp h).2⟩
def R_Gate : String := "TwinGate"
def F_Gate : u_T := fun k => match k with
  | 0 => ("TwinGate", "limit", "I", true)
  | 1 => ("TwinGate", "program", "LTwinGate$Program;", true)
  | 2 => ("TwinGate", "first", "LTwinGate$Copy;", true)
  | 3 => ("TwinGate", "second", "LTwinGate$Copy;", true)
  | 4 => ("TwinGate", "plan", "LTwinGate$FlipPlan;", true)
  | 5 => ("TwinGate", "given", "[I", true)
  | 6 => ("TwinGate", "shown", "[I", true)
  | 7 => ("TwinGate", "begun", "Z", false)
  | 8 => ("TwinGate", "latchedBy", "I", false)
  | 9 => ("TwinGate", "emittedCycles", "I", false)
  | 10 => ("TwinGate", "steps", "I", false)
  | _ => ("TwinGate", "flipsDone", "I", false)
def t_Gate : Nat → FieldType := fun k => match k with
  | 0 => .int
  | 1 => (.object "TwinGate$Program")
  | 2 => (.object "TwinGate$Copy")
  | 3 => (.object "TwinGate$Copy")
  | 4 => (.object "TwinGate$FlipPlan")
  | 5 => (.array .int)
  | 6 => (.array .int)
  | 7 => .boolean
  | 8 => .int
  | 9 => .int
  | 10 => .int
  | _ => .int
abbrev w_Gate : List Cond := u_ws R_Gate F_Gate 12
theorem n_Gate : ∀ a, a < 12 → ∀ b, b < 12 → a ≠ b → (F_Gate a).2.1 ≠ (F_Gate b).2.1 := by decide +kernel
theorem t_Gate_ok : ∀ k, k < 12 → parseFieldDescriptor (F_Gate k).2.2.1 = some (t_Gate k) := by decide +kernel
theorem iw_Gate : ∀ w ∈ w_Gate, w ∈ TB_w := fun w h => List.mem_filter.mpr ((show ∀ w ∈ w_Gate, w ∈ lw_tbl ∧ goodWord w = true by decide +kernel) w h)
def R_Copy : String := "TwinGate$Copy"
def F_Copy : u_T := fun k => match k with
  | 0 => ("TwinGate$Copy", "factor", "J", true)
  | 1 => ("TwinGate$Copy", "row", "[J", true)
  | 2 => ("TwinGate$Copy", "ports", "[J", true)
  | _ => ("TwinGate$Copy", "place", "I", false)
def t_Copy : Nat → FieldType := fun k => match k with
  | 0 => .long
  | 1 => (.array .long)
  | 2 => (.array .long)
  | _ => .int
abbrev w_Copy : List Cond := u_ws R_Copy F_Copy 4
theorem n_Copy : ∀ a, a < 4 → ∀ b, b < 4 → a ≠ b → (F_Copy a).2.1 ≠ (F_Copy b).2.1 := by decide +kernel
theorem t_Copy_ok : ∀ k, k < 4 → parseFieldDescriptor (F_Copy k).2.2.1 = some (t_Copy k) := by decide +kernel
theorem iw_Copy : ∀ w ∈ w_Copy, w ∈ TB_w := fun w h => List.mem_filter.mpr ((show ∀ w ∈ w_Copy, w ∈ lw_tbl ∧ goodWord w = true by decide +kernel) w h)
def R_Plan : String := "TwinGate$FlipPlan"
def F_Plan : u_T := fun k => match k with
  | 0 => ("TwinGate$FlipPlan", "copies", "[I", true)
  | 1 => ("TwinGate$FlipPlan", "cells", "[I", true)
  | 2 => ("TwinGate$FlipPlan", "bits", "[I", true)
  | 3 => ("TwinGate$FlipPlan", "steps", "[I", true)
  | _ => ("TwinGate$FlipPlan", "size", "I", false)
def t_Plan : Nat → FieldType := fun k => match k with
  | 0 => (.array .int)
  | 1 => (.array .int)
  | 2 => (.array .int)
  | 3 => (.array .int)
  | _ => .int
abbrev w_Plan : List Cond := u_ws R_Plan F_Plan 5
theorem n_Plan : ∀ a, a < 5 → ∀ b, b < 5 → a ≠ b → (F_Plan a).2.1 ≠ (F_Plan b).2.1 := by decide +kernel
theorem t_Plan_ok : ∀ k, k < 5 → parseFieldDescriptor (F_Plan k).2.2.1 = some (t_Plan k) := by decide +kernel
theorem iw_Plan : ∀ w ∈ w_Plan, w ∈ TB_w := fun w h => List.mem_filter.mpr ((show ∀ w ∈ w_Plan, w ∈ lw_tbl ∧ goodWord w = true by decide +kernel) w h)
def R_Prog : String := "TwinGate$Program"
def F_Prog : u_T := fun k => match k with
  | 0 => ("TwinGate$Program", "ops", "[I", true)
  | 1 => ("TwinGate$Program", "numbers", "[I", true)
  | _ => ("TwinGate$Program", "size", "I", false)
def t_Prog : Nat → FieldType := fun k => match k with
  | 0 => (.array .int)
  | 1 => (.array .int)
  | _ => .int
abbrev w_Prog : List Cond := u_ws R_Prog F_Prog 3
theorem n_Prog : ∀ a, a < 3 → ∀ b, b < 3 → a ≠ b → (F_Prog a).2.1 ≠ (F_Prog b).2.1 := by decide +kernel
theorem t_Prog_ok : ∀ k, k < 3 → parseFieldDescriptor (F_Prog k).2.2.1 = some (t_Prog k) := by decide +kernel
theorem iw_Prog : ∀ w ∈ w_Prog, w ∈ TB_w := fun w h => List.mem_filter.mpr ((show ∀ w ∈ w_Prog, w ∈ lw_tbl ∧ goodWord w = true by decide +kernel) w h)
def R_Modl : String := "TwinGateModel"
def F_Modl : u_T := fun k => match k with
  | 0 => ("TwinGateModel", "thrown", "I", false)
  | 1 => ("TwinGateModel", "limit", "I", true)
  | 2 => ("TwinGateModel", "many", "I", false)
  | 3 => ("TwinGateModel", "emitted", "I", false)
  | 4 => ("TwinGateModel", "latched", "I", false)
  | 5 => ("TwinGateModel", "steps", "I", false)
  | 6 => ("TwinGateModel", "planned", "I", false)
  | 7 => ("TwinGateModel", "flipped", "I", false)
  | 8 => ("TwinGateModel", "begun", "Z", false)
  | 9 => ("TwinGateModel", "ops", "[I", true)
  | 10 => ("TwinGateModel", "numbers", "[I", true)
  | 11 => ("TwinGateModel", "given", "[I", true)
  | 12 => ("TwinGateModel", "shown", "[I", true)
  | 13 => ("TwinGateModel", "held", "[J", true)
  | 14 => ("TwinGateModel", "put", "[J", true)
  | 15 => ("TwinGateModel", "plCopy", "[I", true)
  | 16 => ("TwinGateModel", "plCell", "[I", true)
  | 17 => ("TwinGateModel", "plBit", "[I", true)
  | 18 => ("TwinGateModel", "plStep", "[I", true)
  | 19 => ("TwinGateModel", "place", "I", false)
  | _ => ("TwinGateModel", "ended", "Z", false)
def t_Modl : Nat → FieldType := fun k => match k with
  | 0 => .int
  | 1 => .int
  | 2 => .int
  | 3 => .int
  | 4 => .int
  | 5 => .int
  | 6 => .int
  | 7 => .int
  | 8 => .boolean
  | 9 => (.array .int)
  | 10 => (.array .int)
  | 11 => (.array .int)
  | 12 => (.array .int)
  | 13 => (.array .long)
  | 14 => (.array .long)
  | 15 => (.array .int)
  | 16 => (.array .int)
  | 17 => (.array .int)
  | 18 => (.array .int)
  | 19 => .int
  | _ => .boolean
abbrev w_Modl : List Cond := u_ws R_Modl F_Modl 21
theorem n_Modl : ∀ a, a < 21 → ∀ b, b < 21 → a ≠ b → (F_Modl a).2.1 ≠ (F_Modl b).2.1 := by decide +kernel
theorem t_Modl_ok : ∀ k, k < 21 → parseFieldDescriptor (F_Modl k).2.2.1 = some (t_Modl k) := by decide +kernel
theorem iw_Modl : ∀ w ∈ w_Modl, w ∈ TB_w := fun w h => List.mem_filter.mpr ((show ∀ w ∈ w_Modl, w ∈ lw_tbl ∧ goodWord w = true by decide +kernel) w h)
def R_Arrs : String := "java/util/Arrays"
def R_law : String := "TwinGateLaw"
abbrev b_Gate_init : ByteArray := prog_1_method_1_code
def y_Gate_init : MethodName := ⟨R_Gate, "<init>", "(I)V"⟩
abbrev b_Gate_add : ByteArray := prog_1_method_2_code
def y_Gate_add : MethodName := ⟨R_Gate, "add", "(II)I"⟩
abbrev b_Gate_give : ByteArray := prog_1_method_3_code
def y_Gate_give : MethodName := ⟨R_Gate, "give", "(II)Z"⟩
abbrev b_Gate_cycle : ByteArray := prog_1_method_4_code
def y_Gate_cycle : MethodName := ⟨R_Gate, "cycle", "()I"⟩
abbrev b_Gate_flip : ByteArray := prog_1_method_5_code
def y_Gate_flip : MethodName := ⟨R_Gate, "flip", "(IIII)Z"⟩
abbrev b_Gate_output : ByteArray := prog_1_method_6_code
def y_Gate_output : MethodName := ⟨R_Gate, "output", "(I)I"⟩
abbrev b_Gate_cell : ByteArray := prog_1_method_7_code
def y_Gate_cell : MethodName := ⟨R_Gate, "cell", "(II)J"⟩
abbrev b_Gate_count : ByteArray := prog_1_method_8_code
def y_Gate_count : MethodName := ⟨R_Gate, "count", "(I)I"⟩
abbrev b_Gate_isBelow : ByteArray := prog_1_method_9_code
def y_Gate_isBelow : MethodName := ⟨R_Gate, "isBelow", "(II)Z"⟩
abbrev b_Gate_isPort : ByteArray := prog_1_method_10_code
def y_Gate_isPort : MethodName := ⟨R_Gate, "isPort", "(I)Z"⟩
abbrev b_Gate_isCopy : ByteArray := prog_1_method_11_code
def y_Gate_isCopy : MethodName := ⟨R_Gate, "isCopy", "(I)Z"⟩
abbrev b_Gate_isInRow : ByteArray := prog_1_method_12_code
def y_Gate_isInRow : MethodName := ⟨R_Gate, "isInRow", "(I)Z"⟩
abbrev b_Gate_isWithinBound : ByteArray := prog_1_method_13_code
def y_Gate_isWithinBound : MethodName := ⟨R_Gate, "isWithinBound", "(I)Z"⟩
abbrev b_Gate_isInstruction : ByteArray := prog_1_method_14_code
def y_Gate_isInstruction : MethodName := ⟨R_Gate, "isInstruction", "(II)Z"⟩
abbrev b_Gate_copyOf : ByteArray := prog_1_method_15_code
def y_Gate_copyOf : MethodName := ⟨R_Gate, "copyOf", "(I)LTwinGate$Copy;"⟩
abbrev b_Gate_runBothCopies : ByteArray := prog_1_method_16_code
def y_Gate_runBothCopies : MethodName := ⟨R_Gate, "runBothCopies", "()I"⟩
abbrev b_Gate_runToItsEnd : ByteArray := prog_1_method_17_code
def y_Gate_runToItsEnd : MethodName := ⟨R_Gate, "runToItsEnd", "(LTwinGate$Copy;)I"⟩
abbrev b_Gate_doFlipsAhead : ByteArray := prog_1_method_18_code
def y_Gate_doFlipsAhead : MethodName := ⟨R_Gate, "doFlipsAhead", "()V"⟩
abbrev b_Gate_copiesAgree : ByteArray := prog_1_method_19_code
def y_Gate_copiesAgree : MethodName := ⟨R_Gate, "copiesAgree", "()Z"⟩
abbrev b_Gate_emit : ByteArray := prog_1_method_20_code
def y_Gate_emit : MethodName := ⟨R_Gate, "emit", "()V"⟩
abbrev b_Modl_thrown : ByteArray := prog_6_method_1_code
def y_Modl_thrown : MethodName := ⟨R_Modl, "thrown", "()I"⟩
abbrev b_Modl_init : ByteArray := prog_6_method_2_code
def y_Modl_init : MethodName := ⟨R_Modl, "<init>", "(I)V"⟩
abbrev b_Modl_fits : ByteArray := prog_6_method_3_code
def y_Modl_fits : MethodName := ⟨R_Modl, "fits", "(J)Z"⟩
abbrev b_Modl_isGood : ByteArray := prog_6_method_4_code
def y_Modl_isGood : MethodName := ⟨R_Modl, "isGood", "(II)Z"⟩
abbrev b_Modl_add : ByteArray := prog_6_method_5_code
def y_Modl_add : MethodName := ⟨R_Modl, "add", "(II)I"⟩
abbrev b_Modl_give : ByteArray := prog_6_method_6_code
def y_Modl_give : MethodName := ⟨R_Modl, "give", "(II)Z"⟩
abbrev b_Modl_flipAll : ByteArray := prog_6_method_7_code
def y_Modl_flipAll : MethodName := ⟨R_Modl, "flipAll", "(I)V"⟩
abbrev b_Modl_times : ByteArray := prog_6_method_8_code
def y_Modl_times : MethodName := ⟨R_Modl, "times", "(I)J"⟩
abbrev b_Modl_may : ByteArray := prog_6_method_9_code
def y_Modl_may : MethodName := ⟨R_Modl, "may", "(IJ)Z"⟩
abbrev b_Modl_does : ByteArray := prog_6_method_10_code
def y_Modl_does : MethodName := ⟨R_Modl, "does", "(III)Z"⟩
abbrev b_Modl_copy : ByteArray := prog_6_method_11_code
def y_Modl_copy : MethodName := ⟨R_Modl, "copy", "(I)I"⟩
abbrev b_Modl_agree : ByteArray := prog_6_method_12_code
def y_Modl_agree : MethodName := ⟨R_Modl, "agree", "()Z"⟩
abbrev b_Modl_cycle : ByteArray := prog_6_method_13_code
def y_Modl_cycle : MethodName := ⟨R_Modl, "cycle", "()I"⟩
abbrev b_Modl_flip : ByteArray := prog_6_method_14_code
def y_Modl_flip : MethodName := ⟨R_Modl, "flip", "(IIII)Z"⟩
abbrev b_Modl_output : ByteArray := prog_6_method_15_code
def y_Modl_output : MethodName := ⟨R_Modl, "output", "(I)I"⟩
abbrev b_Modl_cell : ByteArray := prog_6_method_16_code
def y_Modl_cell : MethodName := ⟨R_Modl, "cell", "(II)J"⟩
abbrev b_Modl_count : ByteArray := prog_6_method_17_code
def y_Modl_count : MethodName := ⟨R_Modl, "count", "(I)I"⟩
abbrev b_Copy_init : ByteArray := prog_2_method_1_code
def y_Copy_init : MethodName := ⟨R_Copy, "<init>", "(J)V"⟩
abbrev b_Copy_begin : ByteArray := prog_2_method_2_code
def y_Copy_begin : MethodName := ⟨R_Copy, "begin", "()V"⟩
abbrev b_Copy_doStep : ByteArray := prog_2_method_3_code
def y_Copy_doStep : MethodName := ⟨R_Copy, "doStep", "(LTwinGate$Program;[I)I"⟩
abbrev b_Copy_move : ByteArray := prog_2_method_4_code
def y_Copy_move : MethodName := ⟨R_Copy, "move", "(II)V"⟩
abbrev b_Copy_multiply : ByteArray := prog_2_method_5_code
def y_Copy_multiply : MethodName := ⟨R_Copy, "multiply", "()I"⟩
abbrev b_Copy_lookUp : ByteArray := prog_2_method_6_code
def y_Copy_lookUp : MethodName := ⟨R_Copy, "lookUp", "()I"⟩
abbrev b_Copy_trapBeyondBound : ByteArray := prog_2_method_7_code
def y_Copy_trapBeyondBound : MethodName := ⟨R_Copy, "trapBeyondBound", "()I"⟩
abbrev b_Copy_isMultiple : ByteArray := prog_2_method_8_code
def y_Copy_isMultiple : MethodName := ⟨R_Copy, "isMultiple", "(J)Z"⟩
abbrev b_Copy_part : ByteArray := prog_2_method_9_code
def y_Copy_part : MethodName := ⟨R_Copy, "part", "(J)J"⟩
abbrev b_Copy_isProductBeyond64Bits : ByteArray := prog_2_method_10_code
def y_Copy_isProductBeyond64Bits : MethodName := ⟨R_Copy, "isProductBeyond64Bits", "(JJ)Z"⟩
abbrev b_Plan_init : ByteArray := prog_3_method_1_code
def y_Plan_init : MethodName := ⟨R_Plan, "<init>", "()V"⟩
abbrev b_Plan_isFull : ByteArray := prog_3_method_2_code
def y_Plan_isFull : MethodName := ⟨R_Plan, "isFull", "()Z"⟩
abbrev b_Plan_append : ByteArray := prog_3_method_3_code
def y_Plan_append : MethodName := ⟨R_Plan, "append", "(IIII)V"⟩
abbrev b_Plan_forgetAll : ByteArray := prog_3_method_4_code
def y_Plan_forgetAll : MethodName := ⟨R_Plan, "forgetAll", "()V"⟩
abbrev b_Prog_init : ByteArray := prog_4_method_1_code
def y_Prog_init : MethodName := ⟨R_Prog, "<init>", "()V"⟩
abbrev b_Prog_isFull : ByteArray := prog_4_method_2_code
def y_Prog_isFull : MethodName := ⟨R_Prog, "isFull", "()Z"⟩
abbrev b_Prog_append : ByteArray := prog_4_method_3_code
def y_Prog_append : MethodName := ⟨R_Prog, "append", "(II)V"⟩
abbrev b_Law_cell0 : ByteArray := method_2_code
def y_Law_cell0 : MethodName := ⟨R_law, "cell", "([II)I"⟩
abbrev b_Law_add : ByteArray := method_3_code
def y_Law_add : MethodName := ⟨R_law, "add", "(LTwinGate;II[J)I"⟩
abbrev b_Law_cell1 : ByteArray := method_4_code
def y_Law_cell1 : MethodName := ⟨R_law, "cell", "(LTwinGate;II[J)I"⟩
abbrev b_Law_law : ByteArray := code
def y_Law_law : MethodName := ⟨R_law, "law", "([I)Z"⟩
abbrev b_Arrs_fill_i : ByteArray := prog_15_method_103_code
def y_Arrs_fill_i : MethodName := ⟨R_Arrs, "fill", "([II)V"⟩
abbrev b_Arrs_fill_l : ByteArray := prog_15_method_101_code
def y_Arrs_fill_l : MethodName := ⟨R_Arrs, "fill", "([JJ)V"⟩
abbrev classes : List vw_C := [(R_Gate, F_Gate, 12), (R_Copy, F_Copy, 4), (R_Plan, F_Plan, 5), (R_Prog, F_Prog, 3), (R_Modl, F_Modl, 21)]
def nst_w : List (String × Nat × MethodName × String) := [(R_Gate, 9, y_Prog_init, "TwinGate"), (R_Gate, 32, y_Plan_init, "TwinGate"), (R_Copy, 37, y_Gate_isBelow, "TwinGate")]
theorem nt_0 : ((R_Gate, 9, y_Prog_init, "TwinGate") : String × Nat × MethodName × String) ∈ nst_w := List.mem_of_getElem? (i := 0) rfl
theorem nt_1 : ((R_Gate, 32, y_Plan_init, "TwinGate") : String × Nat × MethodName × String) ∈ nst_w := List.mem_of_getElem? (i := 1) rfl
theorem nt_2 : ((R_Copy, 37, y_Gate_isBelow, "TwinGate") : String × Nat × MethodName × String) ∈ nst_w := List.mem_of_getElem? (i := 2) rfl
end
section
/-! own rows over the kit: one precondition, one postcondition, one row to begin a method, one to end it, one behind a call -/
def nw_all (U : State) : Prop := ∀ q ∈ nst_w, va_Nw (.methodLinkNest q.1 q.2.1 q.2.2.1 q.2.2.2) U
theorem nw_warm {s U : State} (hW : s.WarmedH U.vm) (h : nw_all s) : nw_all U := fun q hq => va_Nw.warmM hW (h q hq)
theorem nw_call {U : State} {g : JFrame} {mk : MethodId} {a : Array Value} (h : nw_all U) : nw_all (U.calling g mk a) := fun q hq => va_Nw.same rfl rfl (h q hq)
def kn_w (D : va_G) (cI cL : ClassId) (U : State) : Prop := va_K D classes [(cI, .int), (cL, .long)] U ∧ nw_all U
theorem kn_warm {D : va_G} {cI cL : ClassId} {s U : State} (hW : s.WarmedH U.vm) (h : kn_w D cI cL s) : kn_w D cI cL U := ⟨va_K.moved hW.alike h.1, nw_warm hW h.2⟩
def pre_w (D : va_G) (cI cL : ClassId) (ws : va_W) (sz : Nat) (U : State) : Prop := U.heap.size = sz ∧ va_P D classes ws U.heap ∧ kn_w D cI cL U ∧ va_D (fun _ => True) ws
def pos_w (D : va_G) (A : Nat → Prop) (ws' : va_W) (t : State) : Prop := va_P D classes ws' t.heap ∧ va_D A ws'
theorem pre_blind {D : va_G} {cI cL : ClassId} {av : List Value} {ws : va_W} {sz : Nat} : FrameBlind (va_Pc av (pre_w D cI cL ws sz)) := fun a U g mk q => by
  obtain ⟨q0, q1, qP, qK, qD⟩ := q
  exact ⟨q0, q1, qP, ⟨va_K.moved (u := U) (U := U.calling g mk a) (Vm.Alike.refl U.vm) qK.1, nw_call qK.2⟩, qD⟩
theorem pv_V {D : va_G} {cI cL : ClassId} {s : State} {H : Heap} {A : Nat → Prop} {wc : va_W} {b q0 ci : Nat} {q : vw_C} {fs As : List Value} (hK : kn_w D cI cL s) (hP : va_P D classes wc H) (hD : va_D A wc) (hc : classes[ci]? = some q) (he : wc[q0]? = some (b, .inr (ci, fs))) : PreV s H q.1 b (va_Pc (.ref b :: As) (pre_w D cI cL wc H.size)) As :=
  ⟨pre_blind, va_recv hK.1 hP hc he, fun U hU hW => ⟨rfl, by rw [hU], by rw [hU]; exact hP, kn_warm hW hK, hD.weaken (fun _ _ _ _ => trivial)⟩⟩
theorem pv_S {D : va_G} {cI cL : ClassId} {s : State} {H : Heap} {A : Nat → Prop} {wc : va_W} {As : List Value} (hK : kn_w D cI cL s) (hP : va_P D classes wc H) (hD : va_D A wc) : PreS s H (va_Pc As (pre_w D cI cL wc H.size)) As :=
  ⟨pre_blind, fun U hU hW => ⟨rfl, by rw [hU], by rw [hU]; exact hP, kn_warm hW hK, hD.weaken (fun _ _ _ _ => trivial)⟩⟩
/-- contracts: answers int (boolean), long, nothing -/
abbrev ct_i (l : Launch) (y : MethodName) (cc : ByteArray) (maxL : Nat) (ret : Option FieldType) (rm : Room) (D : va_G) (cI cL : ClassId) (av : List Value) (ws : va_W) (sz : Nat) {S : Type} (post : Int32 → S → Prop) (out : S → va_W) (mc ms : Nat) : Prop :=
  Met l y (Cond.code y cc maxL ret :: TB_w) rm (va_Pc av (pre_w D cI cL ws sz)) (va_Qi post (fun u t => pos_w D (va_A ws sz) (out u) t) (va_A ws sz)) mc ms (va_A ws sz)
abbrev ct_l (l : Launch) (y : MethodName) (cc : ByteArray) (maxL : Nat) (ret : Option FieldType) (rm : Room) (D : va_G) (cI cL : ClassId) (av : List Value) (ws : va_W) (sz : Nat) {S : Type} (post : Int64 → S → Prop) (out : S → va_W) (mc ms : Nat) : Prop :=
  Met l y (Cond.code y cc maxL ret :: TB_w) rm (va_Pc av (pre_w D cI cL ws sz)) (va_Ql post (fun u t => pos_w D (va_A ws sz) (out u) t) (va_A ws sz)) mc ms (va_A ws sz)
abbrev ct_v (l : Launch) (y : MethodName) (cc : ByteArray) (maxL : Nat) (ret : Option FieldType) (rm : Room) (D : va_G) (cI cL : ClassId) (av : List Value) (ws : va_W) (sz : Nat) {S : Type} (post : S → Prop) (out : S → va_W) (mc ms : Nat) : Prop :=
  Met l y (Cond.code y cc maxL ret :: TB_w) rm (va_Pc av (pre_w D cI cL ws sz)) (va_Qv post (fun u t => pos_w D (va_A ws sz) (out u) t) (va_A ws sz)) mc ms (va_A ws sz)
abbrev ct_r (l : Launch) (y : MethodName) (cc : ByteArray) (maxL : Nat) (ret : Option FieldType) (rm : Room) (D : va_G) (cI cL : ClassId) (av : List Value) (ws : va_W) (sz : Nat) {S : Type} (post : S → Nat → Prop) (out : S → va_W) (mc ms : Nat) : Prop :=
  Met l y (Cond.code y cc maxL ret :: TB_w) rm (va_Pc av (pre_w D cI cL ws sz)) (va_Qr (fun _ => True) (fun u a t => post u a ∧ pos_w D (va_A ws sz) (out u) t) (va_A ws sz)) mc ms (va_A ws sz)
/-- what a walk has at hand from its method's entry on -/
def fx_w (p : Program) (m : MethodId) (meth : Method) (c : Code) (cc : ByteArray) (maxL : Nat) (ret : Option FieldType) (s : State) (args : Array Value) (y : MethodName) : Prop :=
  p.tables.exec = Jvm.exec ∧ c.code = cc ∧ c.maxLocals = maxL ∧ s.vm.findClass y.cls = some m.cls ∧ (∀ w ∈ TB_w, w.before args s = true) ∧ meth.sig.returnType = ret ∧ meth.locks = false ∧ meth.name = y.name
section OWNA
variable {l : Launch}
theorem st_w {y : MethodName} {rm : Room} {av : List Value} {W0 : va_W} {sz : Nat} {Qc : (Nat → Prop) → Array Value → State → Outcome → State → Prop} {mc ms : Nat} {cc : ByteArray} {maxL : Nat} {ret : Option FieldType} {D : va_G} {cI cL : ClassId} (hy : plainName y.cls = true) (hlen : (lg_sl av).length ≤ maxL)
    (body : ∀ (p : Program) (e : Env) (s : State) (m : MethodId) (below : List Frame) (meth : Method) (c : Code) (A : Nat → Prop) (ls : Array Slot), fx_w p m meth c cc maxL ret s av.toArray y → kn_w D cI cL s → (∀ q : Nat, s.heap.size ≤ q → A q) → va_P D classes W0 s.heap → va_D A W0 → va_S A s.heap s.heap [] → lv_has ls maxL (lv_args 0 av) →
      W p l e rm s m av.toArray below meth c s.heap [] 0 0 (MQ below (Qc A) av.toArray s mc ms A) (F0 m 0 ls [])) : Met l y (Cond.code y cc maxL ret :: TB_w) rm (va_Pc av (pre_w D cI cL W0 sz)) (Qc (va_A W0 sz)) mc ms (va_A W0 sz) := by
  refine Met.ofW (cc := cc) (maxL := maxL) (ret := ret) hy rfl ?_
  intro p e s m args below meth c s₁ B hml hv
  obtain ⟨rfl, hsz, hP, hK, hD0⟩ := hv
  have hts := atoms_spec (ws := Cond.code y cc maxL ret :: TB_w) B.pre
  subst hsz
  have hD := hD0.self (sz := s.heap.size)
  have hl := lv_entry av (n := maxL) hlen
  rw [lg_entry_eq]
  exact body p e s m below meth c (va_A W0 s.heap.size) _ ⟨B.exec, B.bytes, hml, findClass_of_methodNamed B.named, fun w hw => hts w (List.mem_cons_of_mem _ hw), B.returns, B.notSynchronized, (name_of_methodNamed B.named B.method).1⟩ hK (fun q h => Or.inr h) hP hD va_S.rf hl
end OWNA
section OWNB
variable {p : Program} {l : Launch} {e : Env} {R : Room} {s : State} {m : MethodId} {args : Array Value} {below : List Frame} {meth : Method} {c : Code} {H : Heap} {locs : List Loc} {cells slots : Nat} {Q : State → Prop}
variable {pc : Nat} {ls : Array Slot} {rest st0 : List Value} {a : Array Value} {A : Nat → Prop} {mc ms : Nat} {D : va_G} {cc : ByteArray}
theorem af_i {S : Type} {post : Int32 → S → Prop} {out : S → va_W} {ws wc wr : va_W} (hr : va_Run p l e R s m args below meth c H locs cells slots mc ms (F0 m pc ls st0) rest (va_Qi post (fun u t => pos_w D (va_A wc H.size) (out u) t) (va_A wc H.size) a) (va_A wc H.size))
    (hP : va_P D classes ws H) (hD : va_D A ws) (hS : va_S A s.heap H locs) (hA : ∀ q : Nat, s.heap.size ≤ q → A q) (isC isR : List Nat) (hC : isC.map (fun i => ws[i]?) = wc.map some) (hR : isR.map (fun i => ws[i]?) = wr.map some) (hn : va_nd isR = true) (hdis : ∀ i ∈ isR, i ∉ isC)
    (kk : ∀ (r : Int32) (u : S) (H1 : Heap) (locs1 : List Loc), post r u → va_P D classes (wr ++ out u) H1 → va_D A (wr ++ out u) → va_S A s.heap H1 locs1 → W p l e R s m args below meth c H1 locs1 (cells + mc) (slots + ms) Q (F0 m (pc + 3) ls (.int r :: rest))) : W p l e R s m args below meth c H locs cells slots Q (F0 m pc ls st0) := by
  have hFc := va_free (wc := wc) hD hS hA isC hC
  refine va_calli hr hS (fun q _ h => hFc q h) hFc (fun r u t H1 locs1 ht hvm hw hB hz1 hk1 hS1 => ?_)
  obtain ⟨hP1, hD1⟩ := hB
  rw [ht] at hP1
  obtain ⟨hP2, hD2⟩ := va_join (wr := wr) (w1 := out u) hP hD isC isR hC hR hn hdis hk1 hFc hP1 hD1
  exact kk r u H1 locs1 hw hP2 hD2 hS1
theorem af_l {S : Type} {post : Int64 → S → Prop} {out : S → va_W} {ws wc wr : va_W} (hr : va_Run p l e R s m args below meth c H locs cells slots mc ms (F0 m pc ls st0) rest (va_Ql post (fun u t => pos_w D (va_A wc H.size) (out u) t) (va_A wc H.size) a) (va_A wc H.size))
    (hP : va_P D classes ws H) (hD : va_D A ws) (hS : va_S A s.heap H locs) (hA : ∀ q : Nat, s.heap.size ≤ q → A q) (isC isR : List Nat) (hC : isC.map (fun i => ws[i]?) = wc.map some) (hR : isR.map (fun i => ws[i]?) = wr.map some) (hn : va_nd isR = true) (hdis : ∀ i ∈ isR, i ∉ isC)
    (kk : ∀ (r : Int64) (u : S) (H1 : Heap) (locs1 : List Loc), post r u → va_P D classes (wr ++ out u) H1 → va_D A (wr ++ out u) → va_S A s.heap H1 locs1 → W p l e R s m args below meth c H1 locs1 (cells + mc) (slots + ms) Q (F0 m (pc + 3) ls (.long r :: rest))) : W p l e R s m args below meth c H locs cells slots Q (F0 m pc ls st0) := by
  have hFc := va_free (wc := wc) hD hS hA isC hC
  refine va_calll hr hS (fun q _ h => hFc q h) hFc (fun r u t H1 locs1 ht hvm hw hB hz1 hk1 hS1 => ?_)
  obtain ⟨hP1, hD1⟩ := hB
  rw [ht] at hP1
  obtain ⟨hP2, hD2⟩ := va_join (wr := wr) (w1 := out u) hP hD isC isR hC hR hn hdis hk1 hFc hP1 hD1
  exact kk r u H1 locs1 hw hP2 hD2 hS1
theorem af_v {S : Type} {post : S → Prop} {out : S → va_W} {ws wc wr : va_W} (hr : va_Run p l e R s m args below meth c H locs cells slots mc ms (F0 m pc ls st0) rest (va_Qv post (fun u t => pos_w D (va_A wc H.size) (out u) t) (va_A wc H.size) a) (va_A wc H.size))
    (hP : va_P D classes ws H) (hD : va_D A ws) (hS : va_S A s.heap H locs) (hA : ∀ q : Nat, s.heap.size ≤ q → A q) (isC isR : List Nat) (hC : isC.map (fun i => ws[i]?) = wc.map some) (hR : isR.map (fun i => ws[i]?) = wr.map some) (hn : va_nd isR = true) (hdis : ∀ i ∈ isR, i ∉ isC)
    (kk : ∀ (u : S) (H1 : Heap) (locs1 : List Loc), post u → va_P D classes (wr ++ out u) H1 → va_D A (wr ++ out u) → va_S A s.heap H1 locs1 → W p l e R s m args below meth c H1 locs1 (cells + mc) (slots + ms) Q (F0 m (pc + 3) ls rest)) : W p l e R s m args below meth c H locs cells slots Q (F0 m pc ls st0) := by
  have hFc := va_free (wc := wc) hD hS hA isC hC
  refine va_callv hr hS (fun q _ h => hFc q h) hFc (fun u t H1 locs1 ht hvm hw hB hz1 hk1 hS1 => ?_)
  obtain ⟨hP1, hD1⟩ := hB
  rw [ht] at hP1
  obtain ⟨hP2, hD2⟩ := va_join (wr := wr) (w1 := out u) hP hD isC isR hC hR hn hdis hk1 hFc hP1 hD1
  exact kk u H1 locs1 hw hP2 hD2 hS1
theorem af_r {S : Type} {post : S → Nat → Prop} {out : S → va_W} {ws wc wr : va_W} (hr : va_Run p l e R s m args below meth c H locs cells slots mc ms (F0 m pc ls st0) rest (va_Qr (fun _ => True) (fun u x t => post u x ∧ pos_w D (va_A wc H.size) (out u) t) (va_A wc H.size) a) (va_A wc H.size))
    (hP : va_P D classes ws H) (hD : va_D A ws) (hS : va_S A s.heap H locs) (hA : ∀ q : Nat, s.heap.size ≤ q → A q) (isC isR : List Nat) (hC : isC.map (fun i => ws[i]?) = wc.map some) (hR : isR.map (fun i => ws[i]?) = wr.map some) (hn : va_nd isR = true) (hdis : ∀ i ∈ isR, i ∉ isC)
    (kk : ∀ (u : S) (x : Nat) (H1 : Heap) (locs1 : List Loc), post u x → va_P D classes (wr ++ out u) H1 → va_D A (wr ++ out u) → va_S A s.heap H1 locs1 → W p l e R s m args below meth c H1 locs1 (cells + mc) (slots + ms) Q (F0 m (pc + 3) ls (.ref x :: rest))) : W p l e R s m args below meth c H locs cells slots Q (F0 m pc ls st0) := by
  have hFc := va_free (wc := wc) hD hS hA isC hC
  refine va_callr hr hS (fun q _ h => hFc q h) hFc (fun u x t H1 locs1 ht hvm hw hB hz1 hk1 hS1 => ?_)
  obtain ⟨hx, hP1, hD1⟩ := hB
  rw [ht] at hP1
  obtain ⟨hP2, hD2⟩ := va_join (wr := wr) (w1 := out u) hP hD isC isR hC hR hn hdis hk1 hFc hP1 hD1
  exact kk u x H1 locs1 hx hP2 hD2 hS1
theorem rt_i {S : Type} {post : Int32 → S → Prop} {out : S → va_W} {v : Int32} (u : S) (hx : p.tables.exec = Jvm.exec) (hb : c.code = cc) (hr : meth.sig.returnType = some .int) (hlocks : meth.locks = false) (hpost : post v u) (hP : va_P D classes (out u) H) (hD : va_D A (out u)) (hS : va_S A s.heap H locs) (hdg : decode cc pc = .ok (.ireturn, 1)) :
    W p l e R s m args below meth c H locs mc ms (MQ below (va_Qi post (fun u t => pos_w D A (out u) t) A) args s mc ms A) (F0 m pc ls [.int v]) :=
  W.iret hx hb hr (fun t ht _ => ⟨⟨v, u, rfl, hpost, by rw [ht]; exact hP, hD⟩, hS.F ht⟩) hS.2.2 hdg hlocks
theorem rt_z {S : Type} {post : Int32 → S → Prop} {out : S → va_W} {v : Int32} (u : S) (hx : p.tables.exec = Jvm.exec) (hb : c.code = cc) (hr : meth.sig.returnType = some .boolean) (hlocks : meth.locks = false) (hv : v = 0 ∨ v = 1) (hpost : post v u) (hP : va_P D classes (out u) H) (hD : va_D A (out u)) (hS : va_S A s.heap H locs) (hdg : decode cc pc = .ok (.ireturn, 1)) :
    W p l e R s m args below meth c H locs mc ms (MQ below (va_Qi post (fun u t => pos_w D A (out u) t) A) args s mc ms A) (F0 m pc ls [.int v]) :=
  W.zret hx hb hr (by rcases hv with rfl | rfl <;> rfl) (fun t ht _ => ⟨⟨v, u, rfl, hpost, by rw [ht]; exact hP, hD⟩, hS.F ht⟩) hS.2.2 hdg hlocks
theorem rt_l {S : Type} {post : Int64 → S → Prop} {out : S → va_W} {v : Int64} (u : S) (hx : p.tables.exec = Jvm.exec) (hb : c.code = cc) (hr : meth.sig.returnType = some .long) (hlocks : meth.locks = false) (hpost : post v u) (hP : va_P D classes (out u) H) (hD : va_D A (out u)) (hS : va_S A s.heap H locs) (hdg : decode cc pc = .ok (.lreturn, 1)) :
    W p l e R s m args below meth c H locs mc ms (MQ below (va_Ql post (fun u t => pos_w D A (out u) t) A) args s mc ms A) (F0 m pc ls [.long v]) :=
  W.lret hx hb hr (fun t ht _ => ⟨⟨v, u, rfl, hpost, by rw [ht]; exact hP, hD⟩, hS.F ht⟩) hS.2.2 hdg hlocks
theorem rt_v {S : Type} {post : S → Prop} {out : S → va_W} (u : S) (hx : p.tables.exec = Jvm.exec) (hb : c.code = cc) (hr : meth.sig.returnType = none) (hlocks : meth.locks = false) (hpost : post u) (hP : va_P D classes (out u) H) (hD : va_D A (out u)) (hS : va_S A s.heap H locs) (hdg : decode cc pc = .ok (.return_, 1)) :
    W p l e R s m args below meth c H locs mc ms (MQ below (va_Qv post (fun u t => pos_w D A (out u) t) A) args s mc ms A) (F0 m pc ls []) :=
  W.vret hx hb hr (fun t ht _ => ⟨⟨u, rfl, hpost, by rw [ht]; exact hP, hD⟩, hS.F ht⟩) hS.2.2 hdg hlocks
theorem rt_r {S : Type} {post : S → Nat → Prop} {out : S → va_W} {x : Nat} {rt : FieldType} (u : S) (hx : p.tables.exec = Jvm.exec) (hb : c.code = cc) (hr : meth.sig.returnType = some rt) (hrt : (∃ n, rt = .object n) ∨ ∃ t, rt = .array t) (hlocks : meth.locks = false) (hpost : post u x) (hP : va_P D classes (out u) H) (hD : va_D A (out u)) (hS : va_S A s.heap H locs) (hdg : decode cc pc = .ok (.areturn, 1)) :
    W p l e R s m args below meth c H locs mc ms (MQ below (va_Qr (fun _ => True) (fun u x t => post u x ∧ pos_w D A (out u) t) A) args s mc ms A) (F0 m pc ls [.ref x]) :=
  W.aret hx hb hr hrt (Or.inr ⟨x, rfl⟩) (fun t ht _ => ⟨⟨u, x, rfl, trivial, hpost, by rw [ht]; exact hP, hD⟩, hS.F ht⟩) hS.2.2 hdg hlocks
end OWNB
/-- longs: the answer of lcmp against 0 -/
theorem lc_eq (x y : Int64) : lg_cmp x y = 0 ↔ x = y := by
  unfold lg_cmp
  by_cases h1 : y < x
  · simp only [if_pos h1]
    exact ⟨fun h => absurd h (by decide), fun h => by subst h; exact absurd h1 Int64.lt_irrefl⟩
  · by_cases h2 : x = y
    · simp [h2]
    · simp [h1, h2]
theorem lc_lt (x y : Int64) : lg_cmp x y < 0 ↔ x < y := by
  unfold lg_cmp
  by_cases h1 : y < x
  · simp only [if_pos h1]
    exact ⟨fun h => absurd h (by decide), fun h => absurd h1 (Int64.not_lt.mpr (Int64.le_of_lt h))⟩
  · by_cases h2 : x = y
    · subst h2
      simp
    · simp only [if_neg h1, if_neg h2]
      exact ⟨fun _ => Int64.lt_of_le_of_ne (Int64.not_lt.mp h1) h2, fun _ => by decide⟩
theorem lc_gt (x y : Int64) : 0 < lg_cmp x y ↔ y < x := by
  unfold lg_cmp
  by_cases h1 : y < x
  · simp only [if_pos h1]
    exact ⟨fun _ => h1, fun _ => by decide⟩
  · by_cases h2 : x = y
    · subst h2
      simp
    · simp only [if_neg h1, if_neg h2]
      exact ⟨fun h => absurd h (by decide), fun h => absurd h h1⟩
theorem lc_le (x y : Int64) : lg_cmp x y ≤ 0 ↔ ¬ y < x := by
  rw [← lc_gt x y]
  exact ⟨fun h => Int32.not_lt.mpr h, fun h => Int32.not_lt.mp h⟩
theorem lc_ge (x y : Int64) : 0 ≤ lg_cmp x y ↔ ¬ x < y := by
  rw [← lc_lt x y]
  exact ⟨fun h => Int32.not_lt.mpr h, fun h => Int32.not_lt.mp h⟩
theorem gd_w {c : Cond} (h : c ∈ TB_w) : GoodIn TB_w (c :: TB_w) := fun w hw => by
  rcases List.mem_cons.mp hw with rfl | hw
  · exact ⟨h, (tb_good _ h).2⟩
  · exact ⟨hw, (tb_good _ hw).2⟩
theorem ka_i {D : va_G} {cI cL cA : ClassId} {s : State} (h : va_K D classes ([(cI, .int), (cL, .long)] ++ [(cA, .int)]) s) : cI = cA := Option.some.inj (((h.2 0 _ rfl).2 : s.vm.findClass _ = some cI).symm.trans ((h.2 2 _ rfl).2 : s.vm.findClass _ = some cA))
theorem ka_l {D : va_G} {cI cL cA : ClassId} {s : State} (h : va_K D classes ([(cI, .int), (cL, .long)] ++ [(cA, .long)]) s) : cL = cA := Option.some.inj (((h.2 1 _ rfl).2 : s.vm.findClass _ = some cL).symm.trans ((h.2 2 _ rfl).2 : s.vm.findClass _ = some cA))
section OWNC
variable {p : Program} {l : Launch} {e : Env} {R : Room} {s : State} {m : MethodId} {args : Array Value} {below : List Frame} {meth : Method} {c : Code} {H : Heap} {locs : List Loc} {cells slots : Nat} {Q : State → Prop}
variable {cc : ByteArray} {pc : Nat} {ls : Array Slot} {rest : List Value} {D : va_G} {cl : List vw_C} {A : Nat → Prop} {a : Nat} {tys : List (ClassId × FieldType)} {ws : va_W} {H0 : Heap}
theorem ld_i (hexec : p.tables.exec = Jvm.exec) (hb : c.code = cc) (hK : va_K D cl tys s) (hP : va_P D cl ws H) (q0 t0 : Nat) {cA : ClassId} {n : Nat} {f : Nat → Int32} (ha : ws[q0]? = some (a, .inl (cA, n, .inl f))) (ht : tys[t0]? = some (cA, .int)) {i v : Int32} (hin : vp_in i n) (hv : f i.toNatClampNeg = v) (hdg : decode cc pc = .ok (.iaload, 1))
    (kk : W p l e R s m args below meth c H locs cells slots Q (F0 m (pc + 1) ls (.int v :: rest))) : W p l e R s m args below meth c H locs cells slots Q (F0 m pc ls (.int i :: .ref a :: rest)) := by
  subst hv
  exact va_iald hexec hb hK hP q0 t0 ha ht hin hdg kk
theorem ld_l (hexec : p.tables.exec = Jvm.exec) (hb : c.code = cc) (hK : va_K D cl tys s) (hP : va_P D cl ws H) (q0 t0 : Nat) {cA : ClassId} {n : Nat} {f : Nat → Int64} (ha : ws[q0]? = some (a, .inl (cA, n, .inr (.inl f)))) (ht : tys[t0]? = some (cA, .long)) {i : Int32} {v : Int64} (hin : vp_in i n) (hv : f i.toNatClampNeg = v) (hdg : decode cc pc = .ok (.laload, 1))
    (kk : W p l e R s m args below meth c H locs cells slots Q (F0 m (pc + 1) ls (.long v :: rest))) : W p l e R s m args below meth c H locs cells slots Q (F0 m pc ls (.int i :: .ref a :: rest)) := by
  subst hv
  exact va_lald hexec hb hK hP q0 t0 ha ht hin hdg kk
theorem sd_i (hexec : p.tables.exec = Jvm.exec) (hb : c.code = cc) (hK : va_K D cl tys s) (hP : va_P D cl ws H) (hD : va_D A ws) (hS : va_S A H0 H locs) (q0 t0 : Nat) {cA : ClassId} {n : Nat} {f g : Nat → Int32} (ha : ws[q0]? = some (a, .inl (cA, n, .inl f))) (ht : tys[t0]? = some (cA, .int)) {i : Int32} {x : Int32} (hin : vp_in i n) (hg : upd f i.toNatClampNeg x = g) (hdg : decode cc pc = .ok (.iastore, 1))
    (kk : ∀ (H1 : Heap) (locs1 : List Loc), va_P D cl (ws.set q0 (a, .inl (cA, n, .inl g))) H1 → va_D A (ws.set q0 (a, .inl (cA, n, .inl g))) → va_S A H0 H1 locs1 → W p l e R s m args below meth c H1 locs1 cells slots Q (F0 m (pc + 1) ls rest)) : W p l e R s m args below meth c H locs cells slots Q (F0 m pc ls (.int x :: .int i :: .ref a :: rest)) := by
  subst hg
  exact va_iast hexec hb hK hP hD hS q0 t0 ha ht hin hdg kk
theorem sd_l (hexec : p.tables.exec = Jvm.exec) (hb : c.code = cc) (hK : va_K D cl tys s) (hP : va_P D cl ws H) (hD : va_D A ws) (hS : va_S A H0 H locs) (q0 t0 : Nat) {cA : ClassId} {n : Nat} {f g : Nat → Int64} (ha : ws[q0]? = some (a, .inl (cA, n, .inr (.inl f)))) (ht : tys[t0]? = some (cA, .long)) {i : Int32} {x : Int64} (hin : vp_in i n) (hg : vp_updL f i.toNatClampNeg x = g) (hdg : decode cc pc = .ok (.lastore, 1))
    (kk : ∀ (H1 : Heap) (locs1 : List Loc), va_P D cl (ws.set q0 (a, .inl (cA, n, .inr (.inl g)))) H1 → va_D A (ws.set q0 (a, .inl (cA, n, .inr (.inl g)))) → va_S A H0 H1 locs1 → W p l e R s m args below meth c H1 locs1 cells slots Q (F0 m (pc + 1) ls rest)) : W p l e R s m args below meth c H locs cells slots Q (F0 m pc ls (.long x :: .int i :: .ref a :: rest)) := by
  subst hg
  exact va_last hexec hb hK hP hD hS q0 t0 ha ht hin hdg kk
theorem tp_i {x y : Int32} (h : x = y) (k : W p l e R s m args below meth c H locs cells slots Q (F0 m pc ls (.int y :: rest))) : W p l e R s m args below meth c H locs cells slots Q (F0 m pc ls (.int x :: rest)) := by
  subst h
  exact k
theorem lv_tableE (hexec : p.tables.exec = Jvm.exec) (hb : c.code = cc) {dflt lo hi : Int} {offs : Array Int} {len : Nat} {x : Int32} {tgt : Nat} (hdg : decode cc pc = .ok (.tableswitch dflt lo hi offs, len)) (ht : (pc : Int) + dflt = (tgt : Int)) (h : ∀ j : Nat, lo + j ≤ hi → x.toInt = lo + j → offs[j]? = some dflt)
    (k : W p l e R s m args below meth c H locs cells slots Q (F0 m tgt ls rest)) : W p l e R s m args below meth c H locs cells slots Q (F0 m pc ls (.int x :: rest)) := by
  by_cases h1 : x.toInt < lo
  · exact lv_tableOut hexec hb hdg (Or.inl h1) ht k
  · by_cases h2 : hi < x.toInt
    · exact lv_tableOut hexec hb hdg (Or.inr h2) ht k
    · exact lv_tableIn hexec hb hdg h1 h2 (h (x.toInt - lo).toNat (by omega) (by omega)) ht k
end OWNC
end
section
/-! the pure picture: what each method answers and leaves, as the class's own code decides it -/
def bl_w (x e : Int32) : Int32 := if x < 0 then 0 else if e ≤ x then 0 else 1
def wb_w (x : Int32) : Int32 := if x < (-2000000000) then 0 else if 2000000000 < x then 0 else 1
theorem bl_01 (x e : Int32) : bl_w x e = 0 ∨ bl_w x e = 1 := by
  unfold bl_w
  split
  · exact Or.inl rfl
  · split
    · exact Or.inl rfl
    · exact Or.inr rfl
theorem wb_01 (x : Int32) : wb_w x = 0 ∨ wb_w x = 1 := by
  unfold wb_w
  split
  · exact Or.inl rfl
  · split
    · exact Or.inl rfl
    · exact Or.inr rfl
def ii_w (o n : Int32) : Int32 :=
  if o = 0 then wb_w n else if o = 1 then bl_w n 16 else if o = 2 then bl_w n 16 else if o = 3 then 1 else if o = 4 then 1 else if o = 5 then 1 else if o = 6 then 1 else if o = 7 then 1 else if o = 8 then 1 else if o = 9 then 1 else if o = 10 then bl_w n 100 else if o = 11 then bl_w n 100 else if o = 12 then bl_w n 4 else if o = 13 then bl_w n 4 else if o = 14 then 1 else if o = 15 then 1 else 0
theorem bl_vp {x : Int32} {N : Nat} (e : Int32) (he : e.toInt = N) (h : bl_w x e = 1) : vp_in x N := by
  unfold bl_w at h
  rw [vp_in_iff]
  by_cases h1 : x < 0
  · rw [if_pos h1] at h; exact absurd h (by decide)
  · by_cases h2 : e ≤ x
    · rw [if_neg h1, if_pos h2] at h; exact absurd h (by decide)
    · have h3 := Int32.le_iff_toInt_le.mp (Int32.not_lt.mp h1)
      have h4 := Int32.lt_iff_toInt_lt.mp (Int32.not_le.mp h2)
      rw [he] at h4
      exact ⟨by simpa using h3, h4⟩
theorem vp_mono {x : Int32} {a b : Nat} (h : vp_in x a) (hab : a ≤ b) : vp_in x b := by
  rw [vp_in_iff] at h ⊢
  omega
theorem ii_in1 {n : Int32} (h : ii_w 1 n = 1) : vp_in n 18 := vp_mono (bl_vp 16 (N := 16) (by decide) (by simpa [ii_w] using h)) (by decide)
theorem ii_in2 {n : Int32} (h : ii_w 2 n = 1) : vp_in n 18 := vp_mono (bl_vp 16 (N := 16) (by decide) (by simpa [ii_w] using h)) (by decide)
theorem ii_in12 {n : Int32} (h : ii_w 12 n = 1) : vp_in n 4 := bl_vp 4 (N := 4) (by decide) (by simpa [ii_w] using h)
theorem ii_in13 {n : Int32} (h : ii_w 13 n = 1) : vp_in n 4 := bl_vp 4 (N := 4) (by decide) (by simpa [ii_w] using h)
def pg_ok (ops nums : Nat → Int32) (sz : Int32) : Prop := ∀ k : Nat, (k : Int) < sz.toInt → ii_w (ops k) (nums k) = 1
theorem bl_ne {x e : Int32} (h : ¬ bl_w x e = 0) : ¬ x < 0 ∧ x < e := by
  unfold bl_w at h
  by_cases h1 : x < 0
  · rw [if_pos h1] at h; exact absurd rfl h
  · by_cases h2 : e ≤ x
    · rw [if_neg h1, if_pos h2] at h; exact absurd rfl h
    · exact ⟨h1, Int32.not_le.mp h2⟩
theorem bl_in {x sz : Int32} (h : ¬ bl_w x sz = 0) (hz : sz ≤ 100) : vp_in x 100 := by
  obtain ⟨h1, h2⟩ := bl_ne h
  rw [vp_in_iff]
  have h3 := Int32.le_iff_toInt_le.mp (Int32.not_lt.mp h1)
  have h4 := Int32.lt_iff_toInt_lt.mp h2
  have h5 := Int32.le_iff_toInt_le.mp hz
  have e0 : (0 : Int32).toInt = 0 := by decide
  have e1 : (100 : Int32).toInt = 100 := by decide
  omega
theorem pg_use {ops nums : Nat → Int32} {x sz : Int32} (hok : pg_ok ops nums sz) (h : ¬ bl_w x sz = 0) : ii_w (ops x.toNatClampNeg) (nums x.toNatClampNeg) = 1 := by
  obtain ⟨h1, h2⟩ := bl_ne h
  refine hok _ ?_
  have h3 := Int32.le_iff_toInt_le.mp (Int32.not_lt.mp h1)
  have h4 := Int32.lt_iff_toInt_lt.mp h2
  have e0 : (0 : Int32).toInt = 0 := by decide
  show ((x.toInt.toNat : Nat) : Int) < sz.toInt
  omega
def tb_w (fac a : Int64) : Int32 := if 2000000000 * fac < a then 2 else if a < -(2000000000 * fac) then 2 else 0
def im_w (fac v : Int64) : Int32 := if fac = 0 then 0 else if v - v / fac * fac = 0 then 1 else 0
def pa_w (fac v : Int64) : Int64 := if fac = 0 then 0 else v / fac
def pb_w (x y : Int64) : Int32 := if x = 0 then 0 else if x = (-1) then (if y = (-9223372036854775808) then 1 else 0) else if x * y / x = y then 0 else 1
def ml_w (fac : Int64) (r : Nat → Int64) : Int32 × (Nat → Int64) :=
  if pb_w (r 16) (r 17) = 0 then (if im_w fac (r 16 * r 17) = 0 then (2, r) else (tb_w fac (pa_w fac (r 16 * r 17)), vp_updL r 16 (pa_w fac (r 16 * r 17)))) else (2, r)
def lk_w (fac : Int64) (r : Nat → Int64) : Int32 × (Nat → Int64) :=
  if im_w fac (r 16) = 0 then (2, r) else if pa_w fac (r 16) < 0 then (2, r) else if pa_w fac (r 16) < 16 then (0, vp_updL r 16 (r (pa_w fac (r 16)).toInt32.toNatClampNeg)) else (2, r)
theorem lk_in {k : Int64} (h1 : ¬ k < 0) (h2 : k < 16) : vp_in k.toInt32 18 := by
  obtain ⟨j, hj, rfl⟩ := pk_lOf h1
  have h3 : j < 16 := (pk_lLT hj (by decide)).mp (show lN j < lN 16 from h2)
  rw [lN_i]
  exact vp_in_nI (by omega) (by decide)
def mv_w (fac : Int64) (o n : Int32) (r q : Nat → Int64) (pl : Int32) : (Nat → Int64) × (Nat → Int64) × Int32 :=
  if o = 0 then (vp_updL r 16 (n.toInt64 * fac), q, pl)
  else if o = 1 then (vp_updL r 16 (r n.toNatClampNeg), q, pl)
  else if o = 2 then (vp_updL r n.toNatClampNeg (r 16), q, pl)
  else if o = 3 then (vp_updL r 17 (r 16), q, pl)
  else if o = 7 then (if r 16 < r 17 then (vp_updL r 16 fac, q, pl) else (vp_updL r 16 0, q, pl))
  else if o = 8 then (if r 16 = r 17 then (vp_updL r 16 fac, q, pl) else (vp_updL r 16 0, q, pl))
  else if o = 10 then (r, q, n)
  else if o = 11 then (if r 16 = 0 then (r, q, n) else (r, q, pl))
  else if o = 13 then (r, vp_updL q n.toNatClampNeg (r 16), pl)
  else (r, q, pl)
def de_w (fac : Int64) (o n : Int32) (gg : Nat → Int32) (r q : Nat → Int64) (pl : Int32) : Int32 × (Nat → Int64) × (Nat → Int64) × Int32 :=
  if o = 4 then (tb_w fac (r 16 + r 17), vp_updL r 16 (r 16 + r 17), q, pl)
  else if o = 5 then (tb_w fac (r 16 - r 17), vp_updL r 16 (r 16 - r 17), q, pl)
  else if o = 6 then ((ml_w fac r).1, (ml_w fac r).2, q, pl)
  else if o = 9 then (tb_w fac (-(r 16)), vp_updL r 16 (-(r 16)), q, pl)
  else if o = 12 then (tb_w fac ((gg n.toNatClampNeg).toInt64 * fac), vp_updL r 16 ((gg n.toNatClampNeg).toInt64 * fac), q, pl)
  else if o = 14 then (1, r, q, pl)
  else if o = 15 then ((lk_w fac r).1, (lk_w fac r).2, q, pl)
  else (0, mv_w fac o n r q pl)
def ds_w (fac : Int64) (ops nums : Nat → Int32) (sz : Int32) (gg : Nat → Int32) (r q : Nat → Int64) (pl : Int32) : Int32 × (Nat → Int64) × (Nat → Int64) × Int32 :=
  if bl_w pl sz = 0 then (2, r, q, pl) else de_w fac (ops pl.toNatClampNeg) (nums pl.toNatClampNeg) gg r q (pl + 1)
def f4_w (f : Nat → Int64) (v : Int64) : Nat → Int64 := vp_updL (vp_updL (vp_updL (vp_updL f 0 v) 1 v) 2 v) 3 v
def g4_w (f : Nat → Int32) (v : Int32) : Nat → Int32 := upd (upd (upd (upd f 0 v) 1 v) 2 v) 3 v
def bg_w (r : Nat → Int64) : Nat → Int64 := vp_updL (vp_updL r 16 0) 17 0
/-- the flips ahead of step sp, from the k-th plan on, n of them -/
def fl_w (fc fl fb fs : Nat → Int32) (sp : Int32) : Nat → Nat → (Nat → Int64) → (Nat → Int64) → Int32 → (Nat → Int64) × (Nat → Int64) × Int32
  | 0, _, ra, rb, fd => (ra, rb, fd)
  | n + 1, k, ra, rb, fd => if fs k = sp then (if fc k = 0 then fl_w fc fl fb fs sp n (k + 1) (vp_updL ra (fl k).toNatClampNeg (ra (fl k).toNatClampNeg ^^^ (1 <<< ((fb k).toInt64 &&& 63)))) rb (fd + 1) else fl_w fc fl fb fs sp n (k + 1) ra (vp_updL rb (fl k).toNatClampNeg (rb (fl k).toNatClampNeg ^^^ (1 <<< ((fb k).toInt64 &&& 63)))) (fd + 1)) else fl_w fc fl fb fs sp n (k + 1) ra rb fd
def pl_ok (fl : Nat → Int32) (np : Nat) : Prop := ∀ k : Nat, k < np → vp_in (fl k) 18
abbrev sx_w : Type := (Nat → Int64) × (Nat → Int64) × (Nat → Int64) × Int32 × Int32 × Int32
/-- one step of the first copy: the flips, then the instruction; (rows of both, its ports, its place, steps, flips done) -/
def sa_w (ops nums : Nat → Int32) (sz : Int32) (gg fc fl fb fs : Nat → Int32) (np : Nat) (X : sx_w) : Int32 × sx_w :=
  ((ds_w 1 ops nums sz gg (fl_w fc fl fb fs X.2.2.2.2.1 np 0 X.1 X.2.1 X.2.2.2.2.2).1 X.2.2.1 X.2.2.2.1).1,
   (ds_w 1 ops nums sz gg (fl_w fc fl fb fs X.2.2.2.2.1 np 0 X.1 X.2.1 X.2.2.2.2.2).1 X.2.2.1 X.2.2.2.1).2.1,
   (fl_w fc fl fb fs X.2.2.2.2.1 np 0 X.1 X.2.1 X.2.2.2.2.2).2.1,
   (ds_w 1 ops nums sz gg (fl_w fc fl fb fs X.2.2.2.2.1 np 0 X.1 X.2.1 X.2.2.2.2.2).1 X.2.2.1 X.2.2.2.1).2.2.1,
   (ds_w 1 ops nums sz gg (fl_w fc fl fb fs X.2.2.2.2.1 np 0 X.1 X.2.1 X.2.2.2.2.2).1 X.2.2.1 X.2.2.2.1).2.2.2,
   X.2.2.2.2.1 + 1, (fl_w fc fl fb fs X.2.2.2.2.1 np 0 X.1 X.2.1 X.2.2.2.2.2).2.2)
def sb_w (ops nums : Nat → Int32) (sz : Int32) (gg fc fl fb fs : Nat → Int32) (np : Nat) (X : sx_w) : Int32 × sx_w :=
  ((ds_w 58659 ops nums sz gg (fl_w fc fl fb fs X.2.2.2.2.1 np 0 X.1 X.2.1 X.2.2.2.2.2).2.1 X.2.2.1 X.2.2.2.1).1,
   (fl_w fc fl fb fs X.2.2.2.2.1 np 0 X.1 X.2.1 X.2.2.2.2.2).1,
   (ds_w 58659 ops nums sz gg (fl_w fc fl fb fs X.2.2.2.2.1 np 0 X.1 X.2.1 X.2.2.2.2.2).2.1 X.2.2.1 X.2.2.2.1).2.1,
   (ds_w 58659 ops nums sz gg (fl_w fc fl fb fs X.2.2.2.2.1 np 0 X.1 X.2.1 X.2.2.2.2.2).2.1 X.2.2.1 X.2.2.2.1).2.2.1,
   (ds_w 58659 ops nums sz gg (fl_w fc fl fb fs X.2.2.2.2.1 np 0 X.1 X.2.1 X.2.2.2.2.2).2.1 X.2.2.1 X.2.2.2.1).2.2.2,
   X.2.2.2.2.1 + 1, (fl_w fc fl fb fs X.2.2.2.2.1 np 0 X.1 X.2.1 X.2.2.2.2.2).2.2)
/-- a copy's steps, at most n of them, by its one step -/
def rn_w (f : sx_w → Int32 × sx_w) : Nat → sx_w → Int32 × sx_w
  | 0, X => (2, X)
  | n + 1, X => if (f X).1 = 1 then (0, (f X).2) else if (f X).1 = 2 then (1, (f X).2) else rn_w f n (f X).2
theorem rn_1 {f : sx_w → Int32 × sx_w} {n : Nat} {X : sx_w} (h : (f X).1 = 1) : rn_w f (n + 1) X = (0, (f X).2) := if_pos h
theorem rn_2 {f : sx_w → Int32 × sx_w} {n : Nat} {X : sx_w} (h : ¬ (f X).1 = 1) (h2 : (f X).1 = 2) : rn_w f (n + 1) X = (1, (f X).2) := (if_neg h).trans (if_pos h2)
theorem rn_3 {f : sx_w → Int32 × sx_w} {n : Nat} {X : sx_w} (h : ¬ (f X).1 = 1) (h2 : ¬ (f X).1 = 2) : rn_w f (n + 1) X = rn_w f n (f X).2 := (if_neg h).trans (if_neg h2)
def ca_w (p q : Nat → Int64) : Int32 :=
  if p 0 = (p 0).toInt32.toInt64 then (if p 0 * 58659 = q 0 then
    (if p 1 = (p 1).toInt32.toInt64 then (if p 1 * 58659 = q 1 then
      (if p 2 = (p 2).toInt32.toInt64 then (if p 2 * 58659 = q 2 then
        (if p 3 = (p 3).toInt32.toInt64 then (if p 3 * 58659 = q 3 then 1 else 0) else 0) else 0) else 0) else 0) else 0) else 0) else 0
theorem ca_01 (p q : Nat → Int64) : ca_w p q = 0 ∨ ca_w p q = 1 := by
  unfold ca_w
  repeat' split
  all_goals first | exact Or.inl rfl | exact Or.inr rfl
def e4_w (ss : Nat → Int32) (q : Nat → Int64) : Nat → Int32 := upd (upd (upd (upd ss 0 (q 0).toInt32) 1 (q 1).toInt32) 2 (q 2).toInt32) 3 (q 3).toInt32
abbrev sy_w : Type := (Nat → Int64) × (Nat → Int64) × (Nat → Int64) × Int32 × (Nat → Int64) × Int32 × Int32 × Int32
/-- where both have ended -/
def ab_w (X Y : sx_w) : sy_w := (Y.1, Y.2.1, X.2.2.1, X.2.2.2.1, Y.2.2.1, Y.2.2.2.1, Y.2.2.2.2.1, Y.2.2.2.2.2)
def xa_w (ra rb qa : Nat → Int64) (sp fd : Int32) : sx_w := (bg_w ra, rb, f4_w qa 0, 0, sp, fd)
def xb_w (X : sx_w) (qb : Nat → Int64) : sx_w := (X.1, bg_w X.2.1, f4_w qb 0, 0, X.2.2.2.2.1, X.2.2.2.2.2)
/-- both copies, and the gate: why it latches; rows of both, ports and place of the first, of the second, steps, flips done -/
def rb_w (fa fb : sx_w → Int32 × sx_w) (lm : Nat) (ra rb qa qb : Nat → Int64) (plb sp fd : Int32) : Int32 × sy_w :=
  if (rn_w fa lm (xa_w ra rb qa sp fd)).1 = 0 then
    (if (rn_w fb lm (xb_w (rn_w fa lm (xa_w ra rb qa sp fd)).2 qb)).1 = 0 then
      (if ca_w (rn_w fa lm (xa_w ra rb qa sp fd)).2.2.2.1 (rn_w fb lm (xb_w (rn_w fa lm (xa_w ra rb qa sp fd)).2 qb)).2.2.2.1 = 0 then
        (3, ab_w (rn_w fa lm (xa_w ra rb qa sp fd)).2 (rn_w fb lm (xb_w (rn_w fa lm (xa_w ra rb qa sp fd)).2 qb)).2)
      else ((rn_w fb lm (xb_w (rn_w fa lm (xa_w ra rb qa sp fd)).2 qb)).1, ab_w (rn_w fa lm (xa_w ra rb qa sp fd)).2 (rn_w fb lm (xb_w (rn_w fa lm (xa_w ra rb qa sp fd)).2 qb)).2))
    else ((rn_w fb lm (xb_w (rn_w fa lm (xa_w ra rb qa sp fd)).2 qb)).1, ab_w (rn_w fa lm (xa_w ra rb qa sp fd)).2 (rn_w fb lm (xb_w (rn_w fa lm (xa_w ra rb qa sp fd)).2 qb)).2))
  else ((rn_w fa lm (xa_w ra rb qa sp fd)).1, (rn_w fa lm (xa_w ra rb qa sp fd)).2.1, (rn_w fa lm (xa_w ra rb qa sp fd)).2.2.1, (rn_w fa lm (xa_w ra rb qa sp fd)).2.2.2.1, (rn_w fa lm (xa_w ra rb qa sp fd)).2.2.2.2.1, qb, plb, (rn_w fa lm (xa_w ra rb qa sp fd)).2.2.2.2.2.1, (rn_w fa lm (xa_w ra rb qa sp fd)).2.2.2.2.2.2)
end
section
theorem d_Copy_init_0 : decode b_Copy_init 0 = .ok (.aload_n 0, 1) := by decide +kernel
theorem d_Copy_init_1 : decode b_Copy_init 1 = .ok (.invokespecial 3, 3) := by decide +kernel
theorem d_Copy_init_4 : decode b_Copy_init 4 = .ok (.aload_n 0, 1) := by decide +kernel
theorem d_Copy_init_5 : decode b_Copy_init 5 = .ok (.bipush 18, 2) := by decide +kernel
theorem d_Copy_init_7 : decode b_Copy_init 7 = .ok (.newarray .long, 2) := by decide +kernel
theorem d_Copy_init_9 : decode b_Copy_init 9 = .ok (.putfield 9, 3) := by decide +kernel
theorem d_Copy_init_12 : decode b_Copy_init 12 = .ok (.aload_n 0, 1) := by decide +kernel
theorem d_Copy_init_13 : decode b_Copy_init 13 = .ok (.iconst 4, 1) := by decide +kernel
theorem d_Copy_init_14 : decode b_Copy_init 14 = .ok (.newarray .long, 2) := by decide +kernel
theorem d_Copy_init_16 : decode b_Copy_init 16 = .ok (.putfield 15, 3) := by decide +kernel
theorem d_Copy_init_19 : decode b_Copy_init 19 = .ok (.aload_n 0, 1) := by decide +kernel
theorem d_Copy_init_20 : decode b_Copy_init 20 = .ok (.iconst 0, 1) := by decide +kernel
theorem d_Copy_init_21 : decode b_Copy_init 21 = .ok (.putfield 18, 3) := by decide +kernel
theorem d_Copy_init_24 : decode b_Copy_init 24 = .ok (.aload_n 0, 1) := by decide +kernel
theorem d_Copy_init_25 : decode b_Copy_init 25 = .ok (.lload_n 1, 1) := by decide +kernel
theorem d_Copy_init_26 : decode b_Copy_init 26 = .ok (.putfield 22, 3) := by decide +kernel
theorem d_Copy_init_29 : decode b_Copy_init 29 = .ok (.return_, 1) := by decide +kernel
theorem d_Copy_begin_0 : decode b_Copy_begin 0 = .ok (.aload_n 0, 1) := by decide +kernel
theorem d_Copy_begin_1 : decode b_Copy_begin 1 = .ok (.iconst 0, 1) := by decide +kernel
theorem d_Copy_begin_2 : decode b_Copy_begin 2 = .ok (.putfield 18, 3) := by decide +kernel
theorem d_Copy_begin_5 : decode b_Copy_begin 5 = .ok (.aload_n 0, 1) := by decide +kernel
theorem d_Copy_begin_6 : decode b_Copy_begin 6 = .ok (.getfield 9, 3) := by decide +kernel
theorem d_Copy_begin_9 : decode b_Copy_begin 9 = .ok (.bipush 16, 2) := by decide +kernel
theorem d_Copy_begin_11 : decode b_Copy_begin 11 = .ok (.lconst 0, 1) := by decide +kernel
theorem d_Copy_begin_12 : decode b_Copy_begin 12 = .ok (.lastore, 1) := by decide +kernel
theorem d_Copy_begin_13 : decode b_Copy_begin 13 = .ok (.aload_n 0, 1) := by decide +kernel
theorem d_Copy_begin_14 : decode b_Copy_begin 14 = .ok (.getfield 9, 3) := by decide +kernel
theorem d_Copy_begin_17 : decode b_Copy_begin 17 = .ok (.bipush 17, 2) := by decide +kernel
theorem d_Copy_begin_19 : decode b_Copy_begin 19 = .ok (.lconst 0, 1) := by decide +kernel
theorem d_Copy_begin_20 : decode b_Copy_begin 20 = .ok (.lastore, 1) := by decide +kernel
theorem d_Copy_begin_21 : decode b_Copy_begin 21 = .ok (.aload_n 0, 1) := by decide +kernel
theorem d_Copy_begin_22 : decode b_Copy_begin 22 = .ok (.getfield 15, 3) := by decide +kernel
theorem d_Copy_begin_25 : decode b_Copy_begin 25 = .ok (.lconst 0, 1) := by decide +kernel
theorem d_Copy_begin_26 : decode b_Copy_begin 26 = .ok (.invokestatic 26, 3) := by decide +kernel
theorem d_Copy_begin_29 : decode b_Copy_begin 29 = .ok (.return_, 1) := by decide +kernel
theorem d_Copy_multiply_0 : decode b_Copy_multiply 0 = .ok (.aload_n 0, 1) := by decide +kernel
theorem d_Copy_multiply_1 : decode b_Copy_multiply 1 = .ok (.getfield 9, 3) := by decide +kernel
theorem d_Copy_multiply_4 : decode b_Copy_multiply 4 = .ok (.bipush 16, 2) := by decide +kernel
theorem d_Copy_multiply_6 : decode b_Copy_multiply 6 = .ok (.laload, 1) := by decide +kernel
theorem d_Copy_multiply_7 : decode b_Copy_multiply 7 = .ok (.aload_n 0, 1) := by decide +kernel
theorem d_Copy_multiply_8 : decode b_Copy_multiply 8 = .ok (.getfield 9, 3) := by decide +kernel
theorem d_Copy_multiply_11 : decode b_Copy_multiply 11 = .ok (.bipush 17, 2) := by decide +kernel
theorem d_Copy_multiply_13 : decode b_Copy_multiply 13 = .ok (.laload, 1) := by decide +kernel
theorem d_Copy_multiply_14 : decode b_Copy_multiply 14 = .ok (.lmul, 1) := by decide +kernel
theorem d_Copy_multiply_15 : decode b_Copy_multiply 15 = .ok (.lstore_n 1, 1) := by decide +kernel
theorem d_Copy_multiply_16 : decode b_Copy_multiply 16 = .ok (.aload_n 0, 1) := by decide +kernel
theorem d_Copy_multiply_17 : decode b_Copy_multiply 17 = .ok (.getfield 9, 3) := by decide +kernel
theorem d_Copy_multiply_20 : decode b_Copy_multiply 20 = .ok (.bipush 16, 2) := by decide +kernel
theorem d_Copy_multiply_22 : decode b_Copy_multiply 22 = .ok (.laload, 1) := by decide +kernel
theorem d_Copy_multiply_23 : decode b_Copy_multiply 23 = .ok (.aload_n 0, 1) := by decide +kernel
theorem d_Copy_multiply_24 : decode b_Copy_multiply 24 = .ok (.getfield 9, 3) := by decide +kernel
theorem d_Copy_multiply_27 : decode b_Copy_multiply 27 = .ok (.bipush 17, 2) := by decide +kernel
theorem d_Copy_multiply_29 : decode b_Copy_multiply 29 = .ok (.laload, 1) := by decide +kernel
theorem d_Copy_multiply_30 : decode b_Copy_multiply 30 = .ok (.invokestatic 62, 3) := by decide +kernel
theorem d_Copy_multiply_33 : decode b_Copy_multiply 33 = .ok (.ifCond .ne 11, 3) := by decide +kernel
theorem d_Copy_multiply_36 : decode b_Copy_multiply 36 = .ok (.aload_n 0, 1) := by decide +kernel
theorem d_Copy_multiply_37 : decode b_Copy_multiply 37 = .ok (.lload_n 1, 1) := by decide +kernel
theorem d_Copy_multiply_38 : decode b_Copy_multiply 38 = .ok (.invokevirtual 66, 3) := by decide +kernel
theorem d_Copy_multiply_41 : decode b_Copy_multiply 41 = .ok (.ifCond .ne 5, 3) := by decide +kernel
theorem d_Copy_multiply_44 : decode b_Copy_multiply 44 = .ok (.iconst 2, 1) := by decide +kernel
theorem d_Copy_multiply_45 : decode b_Copy_multiply 45 = .ok (.ireturn, 1) := by decide +kernel
theorem d_Copy_multiply_46 : decode b_Copy_multiply 46 = .ok (.aload_n 0, 1) := by decide +kernel
theorem d_Copy_multiply_47 : decode b_Copy_multiply 47 = .ok (.getfield 9, 3) := by decide +kernel
theorem d_Copy_multiply_50 : decode b_Copy_multiply 50 = .ok (.bipush 16, 2) := by decide +kernel
theorem d_Copy_multiply_52 : decode b_Copy_multiply 52 = .ok (.aload_n 0, 1) := by decide +kernel
theorem d_Copy_multiply_53 : decode b_Copy_multiply 53 = .ok (.lload_n 1, 1) := by decide +kernel
theorem d_Copy_multiply_54 : decode b_Copy_multiply 54 = .ok (.invokevirtual 70, 3) := by decide +kernel
theorem d_Copy_multiply_57 : decode b_Copy_multiply 57 = .ok (.lastore, 1) := by decide +kernel
theorem d_Copy_multiply_58 : decode b_Copy_multiply 58 = .ok (.aload_n 0, 1) := by decide +kernel
theorem d_Copy_multiply_59 : decode b_Copy_multiply 59 = .ok (.invokevirtual 48, 3) := by decide +kernel
theorem d_Copy_multiply_62 : decode b_Copy_multiply 62 = .ok (.ireturn, 1) := by decide +kernel
theorem d_Copy_lookUp_0 : decode b_Copy_lookUp 0 = .ok (.aload_n 0, 1) := by decide +kernel
theorem d_Copy_lookUp_1 : decode b_Copy_lookUp 1 = .ok (.aload_n 0, 1) := by decide +kernel
theorem d_Copy_lookUp_2 : decode b_Copy_lookUp 2 = .ok (.getfield 9, 3) := by decide +kernel
theorem d_Copy_lookUp_5 : decode b_Copy_lookUp 5 = .ok (.bipush 16, 2) := by decide +kernel
theorem d_Copy_lookUp_7 : decode b_Copy_lookUp 7 = .ok (.laload, 1) := by decide +kernel
theorem d_Copy_lookUp_8 : decode b_Copy_lookUp 8 = .ok (.invokevirtual 66, 3) := by decide +kernel
theorem d_Copy_lookUp_11 : decode b_Copy_lookUp 11 = .ok (.ifCond .ne 5, 3) := by decide +kernel
theorem d_Copy_lookUp_14 : decode b_Copy_lookUp 14 = .ok (.iconst 2, 1) := by decide +kernel
theorem d_Copy_lookUp_15 : decode b_Copy_lookUp 15 = .ok (.ireturn, 1) := by decide +kernel
theorem d_Copy_lookUp_16 : decode b_Copy_lookUp 16 = .ok (.aload_n 0, 1) := by decide +kernel
theorem d_Copy_lookUp_17 : decode b_Copy_lookUp 17 = .ok (.aload_n 0, 1) := by decide +kernel
theorem d_Copy_lookUp_18 : decode b_Copy_lookUp 18 = .ok (.getfield 9, 3) := by decide +kernel
theorem d_Copy_lookUp_21 : decode b_Copy_lookUp 21 = .ok (.bipush 16, 2) := by decide +kernel
theorem d_Copy_lookUp_23 : decode b_Copy_lookUp 23 = .ok (.laload, 1) := by decide +kernel
theorem d_Copy_lookUp_24 : decode b_Copy_lookUp 24 = .ok (.invokevirtual 70, 3) := by decide +kernel
theorem d_Copy_lookUp_27 : decode b_Copy_lookUp 27 = .ok (.lstore_n 1, 1) := by decide +kernel
theorem d_Copy_lookUp_28 : decode b_Copy_lookUp 28 = .ok (.lload_n 1, 1) := by decide +kernel
theorem d_Copy_lookUp_29 : decode b_Copy_lookUp 29 = .ok (.lconst 0, 1) := by decide +kernel
theorem d_Copy_lookUp_30 : decode b_Copy_lookUp 30 = .ok (.lcmp, 1) := by decide +kernel
theorem d_Copy_lookUp_31 : decode b_Copy_lookUp 31 = .ok (.ifCond .lt 11, 3) := by decide +kernel
theorem d_Copy_lookUp_34 : decode b_Copy_lookUp 34 = .ok (.lload_n 1, 1) := by decide +kernel
theorem d_Copy_lookUp_35 : decode b_Copy_lookUp 35 = .ok (.ldc2_w 74, 3) := by decide +kernel
theorem d_Copy_lookUp_38 : decode b_Copy_lookUp 38 = .ok (.lcmp, 1) := by decide +kernel
theorem d_Copy_lookUp_39 : decode b_Copy_lookUp 39 = .ok (.ifCond .lt 5, 3) := by decide +kernel
theorem d_Copy_lookUp_42 : decode b_Copy_lookUp 42 = .ok (.iconst 2, 1) := by decide +kernel
theorem d_Copy_lookUp_43 : decode b_Copy_lookUp 43 = .ok (.ireturn, 1) := by decide +kernel
theorem d_Copy_lookUp_44 : decode b_Copy_lookUp 44 = .ok (.aload_n 0, 1) := by decide +kernel
theorem d_Copy_lookUp_45 : decode b_Copy_lookUp 45 = .ok (.getfield 9, 3) := by decide +kernel
theorem d_Copy_lookUp_48 : decode b_Copy_lookUp 48 = .ok (.bipush 16, 2) := by decide +kernel
theorem d_Copy_lookUp_50 : decode b_Copy_lookUp 50 = .ok (.aload_n 0, 1) := by decide +kernel
theorem d_Copy_lookUp_51 : decode b_Copy_lookUp 51 = .ok (.getfield 9, 3) := by decide +kernel
theorem d_Copy_lookUp_54 : decode b_Copy_lookUp 54 = .ok (.lload_n 1, 1) := by decide +kernel
theorem d_Copy_lookUp_55 : decode b_Copy_lookUp 55 = .ok (.l2i, 1) := by decide +kernel
theorem d_Copy_lookUp_56 : decode b_Copy_lookUp 56 = .ok (.laload, 1) := by decide +kernel
theorem d_Copy_lookUp_57 : decode b_Copy_lookUp 57 = .ok (.lastore, 1) := by decide +kernel
theorem d_Copy_lookUp_58 : decode b_Copy_lookUp 58 = .ok (.iconst 0, 1) := by decide +kernel
theorem d_Copy_lookUp_59 : decode b_Copy_lookUp 59 = .ok (.ireturn, 1) := by decide +kernel
theorem d_Copy_trapBeyondBound_0 : decode b_Copy_trapBeyondBound 0 = .ok (.ldc2_w 76, 3) := by decide +kernel
theorem d_Copy_trapBeyondBound_3 : decode b_Copy_trapBeyondBound 3 = .ok (.aload_n 0, 1) := by decide +kernel
theorem d_Copy_trapBeyondBound_4 : decode b_Copy_trapBeyondBound 4 = .ok (.getfield 22, 3) := by decide +kernel
theorem d_Copy_trapBeyondBound_7 : decode b_Copy_trapBeyondBound 7 = .ok (.lmul, 1) := by decide +kernel
theorem d_Copy_trapBeyondBound_8 : decode b_Copy_trapBeyondBound 8 = .ok (.lstore_n 1, 1) := by decide +kernel
theorem d_Copy_trapBeyondBound_9 : decode b_Copy_trapBeyondBound 9 = .ok (.aload_n 0, 1) := by decide +kernel
theorem d_Copy_trapBeyondBound_10 : decode b_Copy_trapBeyondBound 10 = .ok (.getfield 9, 3) := by decide +kernel
theorem d_Copy_trapBeyondBound_13 : decode b_Copy_trapBeyondBound 13 = .ok (.bipush 16, 2) := by decide +kernel
theorem d_Copy_trapBeyondBound_15 : decode b_Copy_trapBeyondBound 15 = .ok (.laload, 1) := by decide +kernel
theorem d_Copy_trapBeyondBound_16 : decode b_Copy_trapBeyondBound 16 = .ok (.lload_n 1, 1) := by decide +kernel
theorem d_Copy_trapBeyondBound_17 : decode b_Copy_trapBeyondBound 17 = .ok (.lcmp, 1) := by decide +kernel
theorem d_Copy_trapBeyondBound_18 : decode b_Copy_trapBeyondBound 18 = .ok (.ifCond .gt 16, 3) := by decide +kernel
theorem d_Copy_trapBeyondBound_21 : decode b_Copy_trapBeyondBound 21 = .ok (.aload_n 0, 1) := by decide +kernel
theorem d_Copy_trapBeyondBound_22 : decode b_Copy_trapBeyondBound 22 = .ok (.getfield 9, 3) := by decide +kernel
theorem d_Copy_trapBeyondBound_25 : decode b_Copy_trapBeyondBound 25 = .ok (.bipush 16, 2) := by decide +kernel
theorem d_Copy_trapBeyondBound_27 : decode b_Copy_trapBeyondBound 27 = .ok (.laload, 1) := by decide +kernel
theorem d_Copy_trapBeyondBound_28 : decode b_Copy_trapBeyondBound 28 = .ok (.lload_n 1, 1) := by decide +kernel
theorem d_Copy_trapBeyondBound_29 : decode b_Copy_trapBeyondBound 29 = .ok (.lneg, 1) := by decide +kernel
theorem d_Copy_trapBeyondBound_30 : decode b_Copy_trapBeyondBound 30 = .ok (.lcmp, 1) := by decide +kernel
theorem d_Copy_trapBeyondBound_31 : decode b_Copy_trapBeyondBound 31 = .ok (.ifCond .ge 7, 3) := by decide +kernel
theorem d_Copy_trapBeyondBound_34 : decode b_Copy_trapBeyondBound 34 = .ok (.iconst 2, 1) := by decide +kernel
theorem d_Copy_trapBeyondBound_35 : decode b_Copy_trapBeyondBound 35 = .ok (.goto 4, 3) := by decide +kernel
theorem d_Copy_trapBeyondBound_38 : decode b_Copy_trapBeyondBound 38 = .ok (.iconst 0, 1) := by decide +kernel
theorem d_Copy_trapBeyondBound_39 : decode b_Copy_trapBeyondBound 39 = .ok (.ireturn, 1) := by decide +kernel
theorem d_Copy_isMultiple_0 : decode b_Copy_isMultiple 0 = .ok (.aload_n 0, 1) := by decide +kernel
theorem d_Copy_isMultiple_1 : decode b_Copy_isMultiple 1 = .ok (.getfield 22, 3) := by decide +kernel
theorem d_Copy_isMultiple_4 : decode b_Copy_isMultiple 4 = .ok (.lconst 0, 1) := by decide +kernel
theorem d_Copy_isMultiple_5 : decode b_Copy_isMultiple 5 = .ok (.lcmp, 1) := by decide +kernel
theorem d_Copy_isMultiple_6 : decode b_Copy_isMultiple 6 = .ok (.ifCond .eq 18, 3) := by decide +kernel
theorem d_Copy_isMultiple_9 : decode b_Copy_isMultiple 9 = .ok (.lload_n 1, 1) := by decide +kernel
theorem d_Copy_isMultiple_10 : decode b_Copy_isMultiple 10 = .ok (.aload_n 0, 1) := by decide +kernel
theorem d_Copy_isMultiple_11 : decode b_Copy_isMultiple 11 = .ok (.getfield 22, 3) := by decide +kernel
theorem d_Copy_isMultiple_14 : decode b_Copy_isMultiple 14 = .ok (.lrem, 1) := by decide +kernel
theorem d_Copy_isMultiple_15 : decode b_Copy_isMultiple 15 = .ok (.lconst 0, 1) := by decide +kernel
theorem d_Copy_isMultiple_16 : decode b_Copy_isMultiple 16 = .ok (.lcmp, 1) := by decide +kernel
theorem d_Copy_isMultiple_17 : decode b_Copy_isMultiple 17 = .ok (.ifCond .ne 7, 3) := by decide +kernel
theorem d_Copy_isMultiple_20 : decode b_Copy_isMultiple 20 = .ok (.iconst 1, 1) := by decide +kernel
theorem d_Copy_isMultiple_21 : decode b_Copy_isMultiple 21 = .ok (.goto 4, 3) := by decide +kernel
theorem d_Copy_isMultiple_24 : decode b_Copy_isMultiple 24 = .ok (.iconst 0, 1) := by decide +kernel
theorem d_Copy_isMultiple_25 : decode b_Copy_isMultiple 25 = .ok (.ireturn, 1) := by decide +kernel
theorem d_Copy_part_0 : decode b_Copy_part 0 = .ok (.aload_n 0, 1) := by decide +kernel
theorem d_Copy_part_1 : decode b_Copy_part 1 = .ok (.getfield 22, 3) := by decide +kernel
theorem d_Copy_part_4 : decode b_Copy_part 4 = .ok (.lconst 0, 1) := by decide +kernel
theorem d_Copy_part_5 : decode b_Copy_part 5 = .ok (.lcmp, 1) := by decide +kernel
theorem d_Copy_part_6 : decode b_Copy_part 6 = .ok (.ifCond .eq 12, 3) := by decide +kernel
theorem d_Copy_part_9 : decode b_Copy_part 9 = .ok (.lload_n 1, 1) := by decide +kernel
theorem d_Copy_part_10 : decode b_Copy_part 10 = .ok (.aload_n 0, 1) := by decide +kernel
theorem d_Copy_part_11 : decode b_Copy_part 11 = .ok (.getfield 22, 3) := by decide +kernel
theorem d_Copy_part_14 : decode b_Copy_part 14 = .ok (.ldiv, 1) := by decide +kernel
theorem d_Copy_part_15 : decode b_Copy_part 15 = .ok (.goto 4, 3) := by decide +kernel
theorem d_Copy_part_18 : decode b_Copy_part 18 = .ok (.lconst 0, 1) := by decide +kernel
theorem d_Copy_part_19 : decode b_Copy_part 19 = .ok (.lreturn, 1) := by decide +kernel
theorem d_Copy_isProductBeyond64Bits_0 : decode b_Copy_isProductBeyond64Bits 0 = .ok (.lload_n 0, 1) := by decide +kernel
theorem d_Copy_isProductBeyond64Bits_1 : decode b_Copy_isProductBeyond64Bits 1 = .ok (.lconst 0, 1) := by decide +kernel
theorem d_Copy_isProductBeyond64Bits_2 : decode b_Copy_isProductBeyond64Bits 2 = .ok (.lcmp, 1) := by decide +kernel
theorem d_Copy_isProductBeyond64Bits_3 : decode b_Copy_isProductBeyond64Bits 3 = .ok (.ifCond .ne 5, 3) := by decide +kernel
theorem d_Copy_isProductBeyond64Bits_6 : decode b_Copy_isProductBeyond64Bits 6 = .ok (.iconst 0, 1) := by decide +kernel
theorem d_Copy_isProductBeyond64Bits_7 : decode b_Copy_isProductBeyond64Bits 7 = .ok (.ireturn, 1) := by decide +kernel
theorem d_Copy_isProductBeyond64Bits_8 : decode b_Copy_isProductBeyond64Bits 8 = .ok (.lload_n 0, 1) := by decide +kernel
theorem d_Copy_isProductBeyond64Bits_9 : decode b_Copy_isProductBeyond64Bits 9 = .ok (.ldc2_w 78, 3) := by decide +kernel
theorem d_Copy_isProductBeyond64Bits_12 : decode b_Copy_isProductBeyond64Bits 12 = .ok (.lcmp, 1) := by decide +kernel
theorem d_Copy_isProductBeyond64Bits_13 : decode b_Copy_isProductBeyond64Bits 13 = .ok (.ifCond .ne 17, 3) := by decide +kernel
theorem d_Copy_isProductBeyond64Bits_16 : decode b_Copy_isProductBeyond64Bits 16 = .ok (.lload_n 2, 1) := by decide +kernel
theorem d_Copy_isProductBeyond64Bits_17 : decode b_Copy_isProductBeyond64Bits 17 = .ok (.ldc2_w 82, 3) := by decide +kernel
theorem d_Copy_isProductBeyond64Bits_20 : decode b_Copy_isProductBeyond64Bits 20 = .ok (.lcmp, 1) := by decide +kernel
theorem d_Copy_isProductBeyond64Bits_21 : decode b_Copy_isProductBeyond64Bits 21 = .ok (.ifCond .ne 7, 3) := by decide +kernel
theorem d_Copy_isProductBeyond64Bits_24 : decode b_Copy_isProductBeyond64Bits 24 = .ok (.iconst 1, 1) := by decide +kernel
theorem d_Copy_isProductBeyond64Bits_25 : decode b_Copy_isProductBeyond64Bits 25 = .ok (.goto 4, 3) := by decide +kernel
theorem d_Copy_isProductBeyond64Bits_28 : decode b_Copy_isProductBeyond64Bits 28 = .ok (.iconst 0, 1) := by decide +kernel
theorem d_Copy_isProductBeyond64Bits_29 : decode b_Copy_isProductBeyond64Bits 29 = .ok (.ireturn, 1) := by decide +kernel
theorem d_Copy_isProductBeyond64Bits_30 : decode b_Copy_isProductBeyond64Bits 30 = .ok (.lload_n 0, 1) := by decide +kernel
theorem d_Copy_isProductBeyond64Bits_31 : decode b_Copy_isProductBeyond64Bits 31 = .ok (.lload_n 2, 1) := by decide +kernel
theorem d_Copy_isProductBeyond64Bits_32 : decode b_Copy_isProductBeyond64Bits 32 = .ok (.lmul, 1) := by decide +kernel
theorem d_Copy_isProductBeyond64Bits_33 : decode b_Copy_isProductBeyond64Bits 33 = .ok (.lload_n 0, 1) := by decide +kernel
theorem d_Copy_isProductBeyond64Bits_34 : decode b_Copy_isProductBeyond64Bits 34 = .ok (.ldiv, 1) := by decide +kernel
theorem d_Copy_isProductBeyond64Bits_35 : decode b_Copy_isProductBeyond64Bits 35 = .ok (.lload_n 2, 1) := by decide +kernel
theorem d_Copy_isProductBeyond64Bits_36 : decode b_Copy_isProductBeyond64Bits 36 = .ok (.lcmp, 1) := by decide +kernel
theorem d_Copy_isProductBeyond64Bits_37 : decode b_Copy_isProductBeyond64Bits 37 = .ok (.ifCond .eq 7, 3) := by decide +kernel
theorem d_Copy_isProductBeyond64Bits_40 : decode b_Copy_isProductBeyond64Bits 40 = .ok (.iconst 1, 1) := by decide +kernel
theorem d_Copy_isProductBeyond64Bits_41 : decode b_Copy_isProductBeyond64Bits 41 = .ok (.goto 4, 3) := by decide +kernel
theorem d_Copy_isProductBeyond64Bits_44 : decode b_Copy_isProductBeyond64Bits 44 = .ok (.iconst 0, 1) := by decide +kernel
theorem d_Copy_isProductBeyond64Bits_45 : decode b_Copy_isProductBeyond64Bits 45 = .ok (.ireturn, 1) := by decide +kernel
theorem d_Plan_init_0 : decode b_Plan_init 0 = .ok (.aload_n 0, 1) := by decide +kernel
theorem d_Plan_init_1 : decode b_Plan_init 1 = .ok (.invokespecial 3, 3) := by decide +kernel
theorem d_Plan_init_4 : decode b_Plan_init 4 = .ok (.aload_n 0, 1) := by decide +kernel
theorem d_Plan_init_5 : decode b_Plan_init 5 = .ok (.iconst 4, 1) := by decide +kernel
theorem d_Plan_init_6 : decode b_Plan_init 6 = .ok (.newarray .int, 2) := by decide +kernel
theorem d_Plan_init_8 : decode b_Plan_init 8 = .ok (.putfield 9, 3) := by decide +kernel
theorem d_Plan_init_11 : decode b_Plan_init 11 = .ok (.aload_n 0, 1) := by decide +kernel
theorem d_Plan_init_12 : decode b_Plan_init 12 = .ok (.iconst 4, 1) := by decide +kernel
theorem d_Plan_init_13 : decode b_Plan_init 13 = .ok (.newarray .int, 2) := by decide +kernel
theorem d_Plan_init_15 : decode b_Plan_init 15 = .ok (.putfield 15, 3) := by decide +kernel
theorem d_Plan_init_18 : decode b_Plan_init 18 = .ok (.aload_n 0, 1) := by decide +kernel
theorem d_Plan_init_19 : decode b_Plan_init 19 = .ok (.iconst 4, 1) := by decide +kernel
theorem d_Plan_init_20 : decode b_Plan_init 20 = .ok (.newarray .int, 2) := by decide +kernel
theorem d_Plan_init_22 : decode b_Plan_init 22 = .ok (.putfield 18, 3) := by decide +kernel
theorem d_Plan_init_25 : decode b_Plan_init 25 = .ok (.aload_n 0, 1) := by decide +kernel
theorem d_Plan_init_26 : decode b_Plan_init 26 = .ok (.iconst 4, 1) := by decide +kernel
theorem d_Plan_init_27 : decode b_Plan_init 27 = .ok (.newarray .int, 2) := by decide +kernel
theorem d_Plan_init_29 : decode b_Plan_init 29 = .ok (.putfield 21, 3) := by decide +kernel
theorem d_Plan_init_32 : decode b_Plan_init 32 = .ok (.aload_n 0, 1) := by decide +kernel
theorem d_Plan_init_33 : decode b_Plan_init 33 = .ok (.iconst 0, 1) := by decide +kernel
theorem d_Plan_init_34 : decode b_Plan_init 34 = .ok (.putfield 24, 3) := by decide +kernel
theorem d_Plan_init_37 : decode b_Plan_init 37 = .ok (.return_, 1) := by decide +kernel
theorem d_Plan_isFull_0 : decode b_Plan_isFull 0 = .ok (.aload_n 0, 1) := by decide +kernel
theorem d_Plan_isFull_1 : decode b_Plan_isFull 1 = .ok (.getfield 24, 3) := by decide +kernel
theorem d_Plan_isFull_4 : decode b_Plan_isFull 4 = .ok (.iconst 4, 1) := by decide +kernel
theorem d_Plan_isFull_5 : decode b_Plan_isFull 5 = .ok (.if_icmp .lt 7, 3) := by decide +kernel
theorem d_Plan_isFull_8 : decode b_Plan_isFull 8 = .ok (.iconst 1, 1) := by decide +kernel
theorem d_Plan_isFull_9 : decode b_Plan_isFull 9 = .ok (.goto 4, 3) := by decide +kernel
theorem d_Plan_isFull_12 : decode b_Plan_isFull 12 = .ok (.iconst 0, 1) := by decide +kernel
theorem d_Plan_isFull_13 : decode b_Plan_isFull 13 = .ok (.ireturn, 1) := by decide +kernel
theorem d_Plan_append_0 : decode b_Plan_append 0 = .ok (.aload_n 0, 1) := by decide +kernel
theorem d_Plan_append_1 : decode b_Plan_append 1 = .ok (.getfield 9, 3) := by decide +kernel
theorem d_Plan_append_4 : decode b_Plan_append 4 = .ok (.aload_n 0, 1) := by decide +kernel
theorem d_Plan_append_5 : decode b_Plan_append 5 = .ok (.getfield 24, 3) := by decide +kernel
theorem d_Plan_append_8 : decode b_Plan_append 8 = .ok (.iload_n 1, 1) := by decide +kernel
theorem d_Plan_append_9 : decode b_Plan_append 9 = .ok (.iastore, 1) := by decide +kernel
theorem d_Plan_append_10 : decode b_Plan_append 10 = .ok (.aload_n 0, 1) := by decide +kernel
theorem d_Plan_append_11 : decode b_Plan_append 11 = .ok (.getfield 15, 3) := by decide +kernel
theorem d_Plan_append_14 : decode b_Plan_append 14 = .ok (.aload_n 0, 1) := by decide +kernel
theorem d_Plan_append_15 : decode b_Plan_append 15 = .ok (.getfield 24, 3) := by decide +kernel
theorem d_Plan_append_18 : decode b_Plan_append 18 = .ok (.iload_n 2, 1) := by decide +kernel
theorem d_Plan_append_19 : decode b_Plan_append 19 = .ok (.iastore, 1) := by decide +kernel
theorem d_Plan_append_20 : decode b_Plan_append 20 = .ok (.aload_n 0, 1) := by decide +kernel
theorem d_Plan_append_21 : decode b_Plan_append 21 = .ok (.getfield 18, 3) := by decide +kernel
theorem d_Plan_append_24 : decode b_Plan_append 24 = .ok (.aload_n 0, 1) := by decide +kernel
theorem d_Plan_append_25 : decode b_Plan_append 25 = .ok (.getfield 24, 3) := by decide +kernel
theorem d_Plan_append_28 : decode b_Plan_append 28 = .ok (.iload_n 3, 1) := by decide +kernel
theorem d_Plan_append_29 : decode b_Plan_append 29 = .ok (.iastore, 1) := by decide +kernel
theorem d_Plan_append_30 : decode b_Plan_append 30 = .ok (.aload_n 0, 1) := by decide +kernel
theorem d_Plan_append_31 : decode b_Plan_append 31 = .ok (.getfield 21, 3) := by decide +kernel
theorem d_Plan_append_34 : decode b_Plan_append 34 = .ok (.aload_n 0, 1) := by decide +kernel
theorem d_Plan_append_35 : decode b_Plan_append 35 = .ok (.getfield 24, 3) := by decide +kernel
theorem d_Plan_append_38 : decode b_Plan_append 38 = .ok (.iload 4, 2) := by decide +kernel
theorem d_Plan_append_40 : decode b_Plan_append 40 = .ok (.iastore, 1) := by decide +kernel
theorem d_Plan_append_41 : decode b_Plan_append 41 = .ok (.aload_n 0, 1) := by decide +kernel
theorem d_Plan_append_42 : decode b_Plan_append 42 = .ok (.dup, 1) := by decide +kernel
theorem d_Plan_append_43 : decode b_Plan_append 43 = .ok (.getfield 24, 3) := by decide +kernel
theorem d_Plan_append_46 : decode b_Plan_append 46 = .ok (.iconst 1, 1) := by decide +kernel
theorem d_Plan_append_47 : decode b_Plan_append 47 = .ok (.iadd, 1) := by decide +kernel
theorem d_Plan_append_48 : decode b_Plan_append 48 = .ok (.putfield 24, 3) := by decide +kernel
theorem d_Plan_append_51 : decode b_Plan_append 51 = .ok (.return_, 1) := by decide +kernel
theorem d_Plan_forgetAll_0 : decode b_Plan_forgetAll 0 = .ok (.aload_n 0, 1) := by decide +kernel
theorem d_Plan_forgetAll_1 : decode b_Plan_forgetAll 1 = .ok (.iconst 0, 1) := by decide +kernel
theorem d_Plan_forgetAll_2 : decode b_Plan_forgetAll 2 = .ok (.putfield 24, 3) := by decide +kernel
theorem d_Plan_forgetAll_5 : decode b_Plan_forgetAll 5 = .ok (.return_, 1) := by decide +kernel
theorem d_Prog_init_0 : decode b_Prog_init 0 = .ok (.aload_n 0, 1) := by decide +kernel
theorem d_Prog_init_1 : decode b_Prog_init 1 = .ok (.invokespecial 3, 3) := by decide +kernel
theorem d_Prog_init_4 : decode b_Prog_init 4 = .ok (.aload_n 0, 1) := by decide +kernel
theorem d_Prog_init_5 : decode b_Prog_init 5 = .ok (.bipush 100, 2) := by decide +kernel
theorem d_Prog_init_7 : decode b_Prog_init 7 = .ok (.newarray .int, 2) := by decide +kernel
theorem d_Prog_init_9 : decode b_Prog_init 9 = .ok (.putfield 9, 3) := by decide +kernel
theorem d_Prog_init_12 : decode b_Prog_init 12 = .ok (.aload_n 0, 1) := by decide +kernel
theorem d_Prog_init_13 : decode b_Prog_init 13 = .ok (.bipush 100, 2) := by decide +kernel
theorem d_Prog_init_15 : decode b_Prog_init 15 = .ok (.newarray .int, 2) := by decide +kernel
theorem d_Prog_init_17 : decode b_Prog_init 17 = .ok (.putfield 15, 3) := by decide +kernel
theorem d_Prog_init_20 : decode b_Prog_init 20 = .ok (.aload_n 0, 1) := by decide +kernel
theorem d_Prog_init_21 : decode b_Prog_init 21 = .ok (.iconst 0, 1) := by decide +kernel
theorem d_Prog_init_22 : decode b_Prog_init 22 = .ok (.putfield 18, 3) := by decide +kernel
theorem d_Prog_init_25 : decode b_Prog_init 25 = .ok (.return_, 1) := by decide +kernel
theorem d_Prog_isFull_0 : decode b_Prog_isFull 0 = .ok (.aload_n 0, 1) := by decide +kernel
theorem d_Prog_isFull_1 : decode b_Prog_isFull 1 = .ok (.getfield 18, 3) := by decide +kernel
theorem d_Prog_isFull_4 : decode b_Prog_isFull 4 = .ok (.bipush 100, 2) := by decide +kernel
theorem d_Prog_isFull_6 : decode b_Prog_isFull 6 = .ok (.if_icmp .lt 7, 3) := by decide +kernel
theorem d_Prog_isFull_9 : decode b_Prog_isFull 9 = .ok (.iconst 1, 1) := by decide +kernel
theorem d_Prog_isFull_10 : decode b_Prog_isFull 10 = .ok (.goto 4, 3) := by decide +kernel
theorem d_Prog_isFull_13 : decode b_Prog_isFull 13 = .ok (.iconst 0, 1) := by decide +kernel
theorem d_Prog_isFull_14 : decode b_Prog_isFull 14 = .ok (.ireturn, 1) := by decide +kernel
theorem d_Prog_append_0 : decode b_Prog_append 0 = .ok (.aload_n 0, 1) := by decide +kernel
theorem d_Prog_append_1 : decode b_Prog_append 1 = .ok (.getfield 9, 3) := by decide +kernel
theorem d_Prog_append_4 : decode b_Prog_append 4 = .ok (.aload_n 0, 1) := by decide +kernel
theorem d_Prog_append_5 : decode b_Prog_append 5 = .ok (.getfield 18, 3) := by decide +kernel
theorem d_Prog_append_8 : decode b_Prog_append 8 = .ok (.iload_n 1, 1) := by decide +kernel
theorem d_Prog_append_9 : decode b_Prog_append 9 = .ok (.iastore, 1) := by decide +kernel
theorem d_Prog_append_10 : decode b_Prog_append 10 = .ok (.aload_n 0, 1) := by decide +kernel
theorem d_Prog_append_11 : decode b_Prog_append 11 = .ok (.getfield 15, 3) := by decide +kernel
theorem d_Prog_append_14 : decode b_Prog_append 14 = .ok (.aload_n 0, 1) := by decide +kernel
theorem d_Prog_append_15 : decode b_Prog_append 15 = .ok (.getfield 18, 3) := by decide +kernel
theorem d_Prog_append_18 : decode b_Prog_append 18 = .ok (.iload_n 2, 1) := by decide +kernel
theorem d_Prog_append_19 : decode b_Prog_append 19 = .ok (.iastore, 1) := by decide +kernel
theorem d_Prog_append_20 : decode b_Prog_append 20 = .ok (.aload_n 0, 1) := by decide +kernel
theorem d_Prog_append_21 : decode b_Prog_append 21 = .ok (.dup, 1) := by decide +kernel
theorem d_Prog_append_22 : decode b_Prog_append 22 = .ok (.getfield 18, 3) := by decide +kernel
theorem d_Prog_append_25 : decode b_Prog_append 25 = .ok (.iconst 1, 1) := by decide +kernel
theorem d_Prog_append_26 : decode b_Prog_append 26 = .ok (.iadd, 1) := by decide +kernel
theorem d_Prog_append_27 : decode b_Prog_append 27 = .ok (.putfield 18, 3) := by decide +kernel
theorem d_Prog_append_30 : decode b_Prog_append 30 = .ok (.return_, 1) := by decide +kernel
end
section
theorem d_Copy_doStep_0 : decode b_Copy_doStep 0 = .ok (.aload_n 0, 1) := by decide +kernel
theorem d_Copy_doStep_1 : decode b_Copy_doStep 1 = .ok (.getfield 18, 3) := by decide +kernel
theorem d_Copy_doStep_4 : decode b_Copy_doStep 4 = .ok (.aload_n 1, 1) := by decide +kernel
theorem d_Copy_doStep_5 : decode b_Copy_doStep 5 = .ok (.getfield 32, 3) := by decide +kernel
theorem d_Copy_doStep_8 : decode b_Copy_doStep 8 = .ok (.invokestatic 37, 3) := by decide +kernel
theorem d_Copy_doStep_11 : decode b_Copy_doStep 11 = .ok (.ifCond .ne 5, 3) := by decide +kernel
theorem d_Copy_doStep_14 : decode b_Copy_doStep 14 = .ok (.iconst 2, 1) := by decide +kernel
theorem d_Copy_doStep_15 : decode b_Copy_doStep 15 = .ok (.ireturn, 1) := by decide +kernel
theorem d_Copy_doStep_16 : decode b_Copy_doStep 16 = .ok (.aload_n 1, 1) := by decide +kernel
theorem d_Copy_doStep_17 : decode b_Copy_doStep 17 = .ok (.getfield 41, 3) := by decide +kernel
theorem d_Copy_doStep_20 : decode b_Copy_doStep 20 = .ok (.aload_n 0, 1) := by decide +kernel
theorem d_Copy_doStep_21 : decode b_Copy_doStep 21 = .ok (.getfield 18, 3) := by decide +kernel
theorem d_Copy_doStep_24 : decode b_Copy_doStep 24 = .ok (.iaload, 1) := by decide +kernel
theorem d_Copy_doStep_25 : decode b_Copy_doStep 25 = .ok (.istore_n 3, 1) := by decide +kernel
theorem d_Copy_doStep_26 : decode b_Copy_doStep 26 = .ok (.aload_n 1, 1) := by decide +kernel
theorem d_Copy_doStep_27 : decode b_Copy_doStep 27 = .ok (.getfield 45, 3) := by decide +kernel
theorem d_Copy_doStep_30 : decode b_Copy_doStep 30 = .ok (.aload_n 0, 1) := by decide +kernel
theorem d_Copy_doStep_31 : decode b_Copy_doStep 31 = .ok (.getfield 18, 3) := by decide +kernel
theorem d_Copy_doStep_34 : decode b_Copy_doStep 34 = .ok (.iaload, 1) := by decide +kernel
theorem d_Copy_doStep_35 : decode b_Copy_doStep 35 = .ok (.istore 4, 2) := by decide +kernel
theorem d_Copy_doStep_37 : decode b_Copy_doStep 37 = .ok (.aload_n 0, 1) := by decide +kernel
theorem d_Copy_doStep_38 : decode b_Copy_doStep 38 = .ok (.dup, 1) := by decide +kernel
theorem d_Copy_doStep_39 : decode b_Copy_doStep 39 = .ok (.getfield 18, 3) := by decide +kernel
theorem d_Copy_doStep_42 : decode b_Copy_doStep 42 = .ok (.iconst 1, 1) := by decide +kernel
theorem d_Copy_doStep_43 : decode b_Copy_doStep 43 = .ok (.iadd, 1) := by decide +kernel
theorem d_Copy_doStep_44 : decode b_Copy_doStep 44 = .ok (.putfield 18, 3) := by decide +kernel
theorem d_Copy_doStep_47 : decode b_Copy_doStep 47 = .ok (.iload_n 3, 1) := by decide +kernel
theorem d_Copy_doStep_48 : decode b_Copy_doStep 48 = .ok (.tableswitch 172 4 15 #[64, 91, 118, 172, 172, 123, 172, 172, 143, 172, 170, 165], 64) := by decide +kernel
theorem d_Copy_doStep_112 : decode b_Copy_doStep 112 = .ok (.aload_n 0, 1) := by decide +kernel
theorem d_Copy_doStep_113 : decode b_Copy_doStep 113 = .ok (.getfield 9, 3) := by decide +kernel
theorem d_Copy_doStep_116 : decode b_Copy_doStep 116 = .ok (.bipush 16, 2) := by decide +kernel
theorem d_Copy_doStep_118 : decode b_Copy_doStep 118 = .ok (.aload_n 0, 1) := by decide +kernel
theorem d_Copy_doStep_119 : decode b_Copy_doStep 119 = .ok (.getfield 9, 3) := by decide +kernel
theorem d_Copy_doStep_122 : decode b_Copy_doStep 122 = .ok (.bipush 16, 2) := by decide +kernel
theorem d_Copy_doStep_124 : decode b_Copy_doStep 124 = .ok (.laload, 1) := by decide +kernel
theorem d_Copy_doStep_125 : decode b_Copy_doStep 125 = .ok (.aload_n 0, 1) := by decide +kernel
theorem d_Copy_doStep_126 : decode b_Copy_doStep 126 = .ok (.getfield 9, 3) := by decide +kernel
theorem d_Copy_doStep_129 : decode b_Copy_doStep 129 = .ok (.bipush 17, 2) := by decide +kernel
theorem d_Copy_doStep_131 : decode b_Copy_doStep 131 = .ok (.laload, 1) := by decide +kernel
theorem d_Copy_doStep_132 : decode b_Copy_doStep 132 = .ok (.ladd, 1) := by decide +kernel
theorem d_Copy_doStep_133 : decode b_Copy_doStep 133 = .ok (.lastore, 1) := by decide +kernel
theorem d_Copy_doStep_134 : decode b_Copy_doStep 134 = .ok (.aload_n 0, 1) := by decide +kernel
theorem d_Copy_doStep_135 : decode b_Copy_doStep 135 = .ok (.invokevirtual 48, 3) := by decide +kernel
theorem d_Copy_doStep_138 : decode b_Copy_doStep 138 = .ok (.ireturn, 1) := by decide +kernel
theorem d_Copy_doStep_139 : decode b_Copy_doStep 139 = .ok (.aload_n 0, 1) := by decide +kernel
theorem d_Copy_doStep_140 : decode b_Copy_doStep 140 = .ok (.getfield 9, 3) := by decide +kernel
theorem d_Copy_doStep_143 : decode b_Copy_doStep 143 = .ok (.bipush 16, 2) := by decide +kernel
theorem d_Copy_doStep_145 : decode b_Copy_doStep 145 = .ok (.aload_n 0, 1) := by decide +kernel
theorem d_Copy_doStep_146 : decode b_Copy_doStep 146 = .ok (.getfield 9, 3) := by decide +kernel
theorem d_Copy_doStep_149 : decode b_Copy_doStep 149 = .ok (.bipush 16, 2) := by decide +kernel
theorem d_Copy_doStep_151 : decode b_Copy_doStep 151 = .ok (.laload, 1) := by decide +kernel
theorem d_Copy_doStep_152 : decode b_Copy_doStep 152 = .ok (.aload_n 0, 1) := by decide +kernel
theorem d_Copy_doStep_153 : decode b_Copy_doStep 153 = .ok (.getfield 9, 3) := by decide +kernel
theorem d_Copy_doStep_156 : decode b_Copy_doStep 156 = .ok (.bipush 17, 2) := by decide +kernel
theorem d_Copy_doStep_158 : decode b_Copy_doStep 158 = .ok (.laload, 1) := by decide +kernel
theorem d_Copy_doStep_159 : decode b_Copy_doStep 159 = .ok (.lsub, 1) := by decide +kernel
theorem d_Copy_doStep_160 : decode b_Copy_doStep 160 = .ok (.lastore, 1) := by decide +kernel
theorem d_Copy_doStep_161 : decode b_Copy_doStep 161 = .ok (.aload_n 0, 1) := by decide +kernel
theorem d_Copy_doStep_162 : decode b_Copy_doStep 162 = .ok (.invokevirtual 48, 3) := by decide +kernel
theorem d_Copy_doStep_165 : decode b_Copy_doStep 165 = .ok (.ireturn, 1) := by decide +kernel
theorem d_Copy_doStep_166 : decode b_Copy_doStep 166 = .ok (.aload_n 0, 1) := by decide +kernel
theorem d_Copy_doStep_167 : decode b_Copy_doStep 167 = .ok (.invokevirtual 52, 3) := by decide +kernel
theorem d_Copy_doStep_170 : decode b_Copy_doStep 170 = .ok (.ireturn, 1) := by decide +kernel
theorem d_Copy_doStep_171 : decode b_Copy_doStep 171 = .ok (.aload_n 0, 1) := by decide +kernel
theorem d_Copy_doStep_172 : decode b_Copy_doStep 172 = .ok (.getfield 9, 3) := by decide +kernel
theorem d_Copy_doStep_175 : decode b_Copy_doStep 175 = .ok (.bipush 16, 2) := by decide +kernel
theorem d_Copy_doStep_177 : decode b_Copy_doStep 177 = .ok (.aload_n 0, 1) := by decide +kernel
theorem d_Copy_doStep_178 : decode b_Copy_doStep 178 = .ok (.getfield 9, 3) := by decide +kernel
theorem d_Copy_doStep_181 : decode b_Copy_doStep 181 = .ok (.bipush 16, 2) := by decide +kernel
theorem d_Copy_doStep_183 : decode b_Copy_doStep 183 = .ok (.laload, 1) := by decide +kernel
theorem d_Copy_doStep_184 : decode b_Copy_doStep 184 = .ok (.lneg, 1) := by decide +kernel
theorem d_Copy_doStep_185 : decode b_Copy_doStep 185 = .ok (.lastore, 1) := by decide +kernel
theorem d_Copy_doStep_186 : decode b_Copy_doStep 186 = .ok (.aload_n 0, 1) := by decide +kernel
theorem d_Copy_doStep_187 : decode b_Copy_doStep 187 = .ok (.invokevirtual 48, 3) := by decide +kernel
theorem d_Copy_doStep_190 : decode b_Copy_doStep 190 = .ok (.ireturn, 1) := by decide +kernel
theorem d_Copy_doStep_191 : decode b_Copy_doStep 191 = .ok (.aload_n 0, 1) := by decide +kernel
theorem d_Copy_doStep_192 : decode b_Copy_doStep 192 = .ok (.getfield 9, 3) := by decide +kernel
theorem d_Copy_doStep_195 : decode b_Copy_doStep 195 = .ok (.bipush 16, 2) := by decide +kernel
theorem d_Copy_doStep_197 : decode b_Copy_doStep 197 = .ok (.aload_n 2, 1) := by decide +kernel
theorem d_Copy_doStep_198 : decode b_Copy_doStep 198 = .ok (.iload 4, 2) := by decide +kernel
theorem d_Copy_doStep_200 : decode b_Copy_doStep 200 = .ok (.iaload, 1) := by decide +kernel
theorem d_Copy_doStep_201 : decode b_Copy_doStep 201 = .ok (.i2l, 1) := by decide +kernel
theorem d_Copy_doStep_202 : decode b_Copy_doStep 202 = .ok (.aload_n 0, 1) := by decide +kernel
theorem d_Copy_doStep_203 : decode b_Copy_doStep 203 = .ok (.getfield 22, 3) := by decide +kernel
theorem d_Copy_doStep_206 : decode b_Copy_doStep 206 = .ok (.lmul, 1) := by decide +kernel
theorem d_Copy_doStep_207 : decode b_Copy_doStep 207 = .ok (.lastore, 1) := by decide +kernel
theorem d_Copy_doStep_208 : decode b_Copy_doStep 208 = .ok (.aload_n 0, 1) := by decide +kernel
theorem d_Copy_doStep_209 : decode b_Copy_doStep 209 = .ok (.invokevirtual 48, 3) := by decide +kernel
theorem d_Copy_doStep_212 : decode b_Copy_doStep 212 = .ok (.ireturn, 1) := by decide +kernel
theorem d_Copy_doStep_213 : decode b_Copy_doStep 213 = .ok (.aload_n 0, 1) := by decide +kernel
theorem d_Copy_doStep_214 : decode b_Copy_doStep 214 = .ok (.invokevirtual 55, 3) := by decide +kernel
theorem d_Copy_doStep_217 : decode b_Copy_doStep 217 = .ok (.ireturn, 1) := by decide +kernel
theorem d_Copy_doStep_218 : decode b_Copy_doStep 218 = .ok (.iconst 1, 1) := by decide +kernel
theorem d_Copy_doStep_219 : decode b_Copy_doStep 219 = .ok (.ireturn, 1) := by decide +kernel
theorem d_Copy_doStep_220 : decode b_Copy_doStep 220 = .ok (.aload_n 0, 1) := by decide +kernel
theorem d_Copy_doStep_221 : decode b_Copy_doStep 221 = .ok (.iload_n 3, 1) := by decide +kernel
theorem d_Copy_doStep_222 : decode b_Copy_doStep 222 = .ok (.iload 4, 2) := by decide +kernel
theorem d_Copy_doStep_224 : decode b_Copy_doStep 224 = .ok (.invokevirtual 58, 3) := by decide +kernel
theorem d_Copy_doStep_227 : decode b_Copy_doStep 227 = .ok (.iconst 0, 1) := by decide +kernel
theorem d_Copy_doStep_228 : decode b_Copy_doStep 228 = .ok (.ireturn, 1) := by decide +kernel
theorem d_Copy_move_0 : decode b_Copy_move 0 = .ok (.iload_n 1, 1) := by decide +kernel
theorem d_Copy_move_1 : decode b_Copy_move 1 = .ok (.tableswitch 260 0 13 #[71, 88, 104, 120, 260, 260, 260, 137, 173, 260, 209, 217, 260, 244], 71) := by decide +kernel
theorem d_Copy_move_72 : decode b_Copy_move 72 = .ok (.aload_n 0, 1) := by decide +kernel
theorem d_Copy_move_73 : decode b_Copy_move 73 = .ok (.getfield 9, 3) := by decide +kernel
theorem d_Copy_move_76 : decode b_Copy_move 76 = .ok (.bipush 16, 2) := by decide +kernel
theorem d_Copy_move_78 : decode b_Copy_move 78 = .ok (.iload_n 2, 1) := by decide +kernel
theorem d_Copy_move_79 : decode b_Copy_move 79 = .ok (.i2l, 1) := by decide +kernel
theorem d_Copy_move_80 : decode b_Copy_move 80 = .ok (.aload_n 0, 1) := by decide +kernel
theorem d_Copy_move_81 : decode b_Copy_move 81 = .ok (.getfield 22, 3) := by decide +kernel
theorem d_Copy_move_84 : decode b_Copy_move 84 = .ok (.lmul, 1) := by decide +kernel
theorem d_Copy_move_85 : decode b_Copy_move 85 = .ok (.lastore, 1) := by decide +kernel
theorem d_Copy_move_86 : decode b_Copy_move 86 = .ok (.goto 175, 3) := by decide +kernel
theorem d_Copy_move_89 : decode b_Copy_move 89 = .ok (.aload_n 0, 1) := by decide +kernel
theorem d_Copy_move_90 : decode b_Copy_move 90 = .ok (.getfield 9, 3) := by decide +kernel
theorem d_Copy_move_93 : decode b_Copy_move 93 = .ok (.bipush 16, 2) := by decide +kernel
theorem d_Copy_move_95 : decode b_Copy_move 95 = .ok (.aload_n 0, 1) := by decide +kernel
theorem d_Copy_move_96 : decode b_Copy_move 96 = .ok (.getfield 9, 3) := by decide +kernel
theorem d_Copy_move_99 : decode b_Copy_move 99 = .ok (.iload_n 2, 1) := by decide +kernel
theorem d_Copy_move_100 : decode b_Copy_move 100 = .ok (.laload, 1) := by decide +kernel
theorem d_Copy_move_101 : decode b_Copy_move 101 = .ok (.lastore, 1) := by decide +kernel
theorem d_Copy_move_102 : decode b_Copy_move 102 = .ok (.goto 159, 3) := by decide +kernel
theorem d_Copy_move_105 : decode b_Copy_move 105 = .ok (.aload_n 0, 1) := by decide +kernel
theorem d_Copy_move_106 : decode b_Copy_move 106 = .ok (.getfield 9, 3) := by decide +kernel
theorem d_Copy_move_109 : decode b_Copy_move 109 = .ok (.iload_n 2, 1) := by decide +kernel
theorem d_Copy_move_110 : decode b_Copy_move 110 = .ok (.aload_n 0, 1) := by decide +kernel
theorem d_Copy_move_111 : decode b_Copy_move 111 = .ok (.getfield 9, 3) := by decide +kernel
theorem d_Copy_move_114 : decode b_Copy_move 114 = .ok (.bipush 16, 2) := by decide +kernel
theorem d_Copy_move_116 : decode b_Copy_move 116 = .ok (.laload, 1) := by decide +kernel
theorem d_Copy_move_117 : decode b_Copy_move 117 = .ok (.lastore, 1) := by decide +kernel
theorem d_Copy_move_118 : decode b_Copy_move 118 = .ok (.goto 143, 3) := by decide +kernel
theorem d_Copy_move_121 : decode b_Copy_move 121 = .ok (.aload_n 0, 1) := by decide +kernel
theorem d_Copy_move_122 : decode b_Copy_move 122 = .ok (.getfield 9, 3) := by decide +kernel
theorem d_Copy_move_125 : decode b_Copy_move 125 = .ok (.bipush 17, 2) := by decide +kernel
theorem d_Copy_move_127 : decode b_Copy_move 127 = .ok (.aload_n 0, 1) := by decide +kernel
theorem d_Copy_move_128 : decode b_Copy_move 128 = .ok (.getfield 9, 3) := by decide +kernel
theorem d_Copy_move_131 : decode b_Copy_move 131 = .ok (.bipush 16, 2) := by decide +kernel
theorem d_Copy_move_133 : decode b_Copy_move 133 = .ok (.laload, 1) := by decide +kernel
theorem d_Copy_move_134 : decode b_Copy_move 134 = .ok (.lastore, 1) := by decide +kernel
theorem d_Copy_move_135 : decode b_Copy_move 135 = .ok (.goto 126, 3) := by decide +kernel
theorem d_Copy_move_138 : decode b_Copy_move 138 = .ok (.aload_n 0, 1) := by decide +kernel
theorem d_Copy_move_139 : decode b_Copy_move 139 = .ok (.getfield 9, 3) := by decide +kernel
theorem d_Copy_move_142 : decode b_Copy_move 142 = .ok (.bipush 16, 2) := by decide +kernel
theorem d_Copy_move_144 : decode b_Copy_move 144 = .ok (.aload_n 0, 1) := by decide +kernel
theorem d_Copy_move_145 : decode b_Copy_move 145 = .ok (.getfield 9, 3) := by decide +kernel
theorem d_Copy_move_148 : decode b_Copy_move 148 = .ok (.bipush 16, 2) := by decide +kernel
theorem d_Copy_move_150 : decode b_Copy_move 150 = .ok (.laload, 1) := by decide +kernel
theorem d_Copy_move_151 : decode b_Copy_move 151 = .ok (.aload_n 0, 1) := by decide +kernel
theorem d_Copy_move_152 : decode b_Copy_move 152 = .ok (.getfield 9, 3) := by decide +kernel
theorem d_Copy_move_155 : decode b_Copy_move 155 = .ok (.bipush 17, 2) := by decide +kernel
theorem d_Copy_move_157 : decode b_Copy_move 157 = .ok (.laload, 1) := by decide +kernel
theorem d_Copy_move_158 : decode b_Copy_move 158 = .ok (.lcmp, 1) := by decide +kernel
theorem d_Copy_move_159 : decode b_Copy_move 159 = .ok (.ifCond .ge 10, 3) := by decide +kernel
theorem d_Copy_move_162 : decode b_Copy_move 162 = .ok (.aload_n 0, 1) := by decide +kernel
theorem d_Copy_move_163 : decode b_Copy_move 163 = .ok (.getfield 22, 3) := by decide +kernel
theorem d_Copy_move_166 : decode b_Copy_move 166 = .ok (.goto 4, 3) := by decide +kernel
theorem d_Copy_move_169 : decode b_Copy_move 169 = .ok (.lconst 0, 1) := by decide +kernel
theorem d_Copy_move_170 : decode b_Copy_move 170 = .ok (.lastore, 1) := by decide +kernel
theorem d_Copy_move_171 : decode b_Copy_move 171 = .ok (.goto 90, 3) := by decide +kernel
theorem d_Copy_move_174 : decode b_Copy_move 174 = .ok (.aload_n 0, 1) := by decide +kernel
theorem d_Copy_move_175 : decode b_Copy_move 175 = .ok (.getfield 9, 3) := by decide +kernel
theorem d_Copy_move_178 : decode b_Copy_move 178 = .ok (.bipush 16, 2) := by decide +kernel
theorem d_Copy_move_180 : decode b_Copy_move 180 = .ok (.aload_n 0, 1) := by decide +kernel
theorem d_Copy_move_181 : decode b_Copy_move 181 = .ok (.getfield 9, 3) := by decide +kernel
theorem d_Copy_move_184 : decode b_Copy_move 184 = .ok (.bipush 16, 2) := by decide +kernel
theorem d_Copy_move_186 : decode b_Copy_move 186 = .ok (.laload, 1) := by decide +kernel
theorem d_Copy_move_187 : decode b_Copy_move 187 = .ok (.aload_n 0, 1) := by decide +kernel
theorem d_Copy_move_188 : decode b_Copy_move 188 = .ok (.getfield 9, 3) := by decide +kernel
theorem d_Copy_move_191 : decode b_Copy_move 191 = .ok (.bipush 17, 2) := by decide +kernel
theorem d_Copy_move_193 : decode b_Copy_move 193 = .ok (.laload, 1) := by decide +kernel
theorem d_Copy_move_194 : decode b_Copy_move 194 = .ok (.lcmp, 1) := by decide +kernel
theorem d_Copy_move_195 : decode b_Copy_move 195 = .ok (.ifCond .ne 10, 3) := by decide +kernel
theorem d_Copy_move_198 : decode b_Copy_move 198 = .ok (.aload_n 0, 1) := by decide +kernel
theorem d_Copy_move_199 : decode b_Copy_move 199 = .ok (.getfield 22, 3) := by decide +kernel
theorem d_Copy_move_202 : decode b_Copy_move 202 = .ok (.goto 4, 3) := by decide +kernel
theorem d_Copy_move_205 : decode b_Copy_move 205 = .ok (.lconst 0, 1) := by decide +kernel
theorem d_Copy_move_206 : decode b_Copy_move 206 = .ok (.lastore, 1) := by decide +kernel
theorem d_Copy_move_207 : decode b_Copy_move 207 = .ok (.goto 54, 3) := by decide +kernel
theorem d_Copy_move_210 : decode b_Copy_move 210 = .ok (.aload_n 0, 1) := by decide +kernel
theorem d_Copy_move_211 : decode b_Copy_move 211 = .ok (.iload_n 2, 1) := by decide +kernel
theorem d_Copy_move_212 : decode b_Copy_move 212 = .ok (.putfield 18, 3) := by decide +kernel
theorem d_Copy_move_215 : decode b_Copy_move 215 = .ok (.goto 46, 3) := by decide +kernel
theorem d_Copy_move_218 : decode b_Copy_move 218 = .ok (.aload_n 0, 1) := by decide +kernel
theorem d_Copy_move_219 : decode b_Copy_move 219 = .ok (.aload_n 0, 1) := by decide +kernel
theorem d_Copy_move_220 : decode b_Copy_move 220 = .ok (.getfield 9, 3) := by decide +kernel
theorem d_Copy_move_223 : decode b_Copy_move 223 = .ok (.bipush 16, 2) := by decide +kernel
theorem d_Copy_move_225 : decode b_Copy_move 225 = .ok (.laload, 1) := by decide +kernel
theorem d_Copy_move_226 : decode b_Copy_move 226 = .ok (.lconst 0, 1) := by decide +kernel
theorem d_Copy_move_227 : decode b_Copy_move 227 = .ok (.lcmp, 1) := by decide +kernel
theorem d_Copy_move_228 : decode b_Copy_move 228 = .ok (.ifCond .ne 7, 3) := by decide +kernel
theorem d_Copy_move_231 : decode b_Copy_move 231 = .ok (.iload_n 2, 1) := by decide +kernel
theorem d_Copy_move_232 : decode b_Copy_move 232 = .ok (.goto 7, 3) := by decide +kernel
theorem d_Copy_move_235 : decode b_Copy_move 235 = .ok (.aload_n 0, 1) := by decide +kernel
theorem d_Copy_move_236 : decode b_Copy_move 236 = .ok (.getfield 18, 3) := by decide +kernel
theorem d_Copy_move_239 : decode b_Copy_move 239 = .ok (.putfield 18, 3) := by decide +kernel
theorem d_Copy_move_242 : decode b_Copy_move 242 = .ok (.goto 19, 3) := by decide +kernel
theorem d_Copy_move_245 : decode b_Copy_move 245 = .ok (.aload_n 0, 1) := by decide +kernel
theorem d_Copy_move_246 : decode b_Copy_move 246 = .ok (.getfield 15, 3) := by decide +kernel
theorem d_Copy_move_249 : decode b_Copy_move 249 = .ok (.iload_n 2, 1) := by decide +kernel
theorem d_Copy_move_250 : decode b_Copy_move 250 = .ok (.aload_n 0, 1) := by decide +kernel
theorem d_Copy_move_251 : decode b_Copy_move 251 = .ok (.getfield 9, 3) := by decide +kernel
theorem d_Copy_move_254 : decode b_Copy_move 254 = .ok (.bipush 16, 2) := by decide +kernel
theorem d_Copy_move_256 : decode b_Copy_move 256 = .ok (.laload, 1) := by decide +kernel
theorem d_Copy_move_257 : decode b_Copy_move 257 = .ok (.lastore, 1) := by decide +kernel
theorem d_Copy_move_258 : decode b_Copy_move 258 = .ok (.goto 3, 3) := by decide +kernel
theorem d_Copy_move_261 : decode b_Copy_move 261 = .ok (.return_, 1) := by decide +kernel
end
section
theorem d_Gate_init_0 : decode b_Gate_init 0 = .ok (.aload_n 0, 1) := by decide +kernel
theorem d_Gate_init_1 : decode b_Gate_init 1 = .ok (.invokespecial 1, 3) := by decide +kernel
theorem d_Gate_init_4 : decode b_Gate_init 4 = .ok (.aload_n 0, 1) := by decide +kernel
theorem d_Gate_init_5 : decode b_Gate_init 5 = .ok (.new 7, 3) := by decide +kernel
theorem d_Gate_init_8 : decode b_Gate_init 8 = .ok (.dup, 1) := by decide +kernel
theorem d_Gate_init_9 : decode b_Gate_init 9 = .ok (.invokespecial 9, 3) := by decide +kernel
theorem d_Gate_init_12 : decode b_Gate_init 12 = .ok (.putfield 10, 3) := by decide +kernel
theorem d_Gate_init_15 : decode b_Gate_init 15 = .ok (.aload_n 0, 1) := by decide +kernel
theorem d_Gate_init_16 : decode b_Gate_init 16 = .ok (.new 16, 3) := by decide +kernel
theorem d_Gate_init_19 : decode b_Gate_init 19 = .ok (.dup, 1) := by decide +kernel
theorem d_Gate_init_20 : decode b_Gate_init 20 = .ok (.lconst 1, 1) := by decide +kernel
theorem d_Gate_init_21 : decode b_Gate_init 21 = .ok (.invokespecial 18, 3) := by decide +kernel
theorem d_Gate_init_24 : decode b_Gate_init 24 = .ok (.putfield 21, 3) := by decide +kernel
theorem d_Gate_init_27 : decode b_Gate_init 27 = .ok (.aload_n 0, 1) := by decide +kernel
theorem d_Gate_init_28 : decode b_Gate_init 28 = .ok (.new 16, 3) := by decide +kernel
theorem d_Gate_init_31 : decode b_Gate_init 31 = .ok (.dup, 1) := by decide +kernel
theorem d_Gate_init_32 : decode b_Gate_init 32 = .ok (.ldc2_w 25, 3) := by decide +kernel
theorem d_Gate_init_35 : decode b_Gate_init 35 = .ok (.invokespecial 18, 3) := by decide +kernel
theorem d_Gate_init_38 : decode b_Gate_init 38 = .ok (.putfield 27, 3) := by decide +kernel
theorem d_Gate_init_41 : decode b_Gate_init 41 = .ok (.aload_n 0, 1) := by decide +kernel
theorem d_Gate_init_42 : decode b_Gate_init 42 = .ok (.new 30, 3) := by decide +kernel
theorem d_Gate_init_45 : decode b_Gate_init 45 = .ok (.dup, 1) := by decide +kernel
theorem d_Gate_init_46 : decode b_Gate_init 46 = .ok (.invokespecial 32, 3) := by decide +kernel
theorem d_Gate_init_49 : decode b_Gate_init 49 = .ok (.putfield 33, 3) := by decide +kernel
theorem d_Gate_init_52 : decode b_Gate_init 52 = .ok (.aload_n 0, 1) := by decide +kernel
theorem d_Gate_init_53 : decode b_Gate_init 53 = .ok (.iconst 4, 1) := by decide +kernel
theorem d_Gate_init_54 : decode b_Gate_init 54 = .ok (.newarray .int, 2) := by decide +kernel
theorem d_Gate_init_56 : decode b_Gate_init 56 = .ok (.putfield 37, 3) := by decide +kernel
theorem d_Gate_init_59 : decode b_Gate_init 59 = .ok (.aload_n 0, 1) := by decide +kernel
theorem d_Gate_init_60 : decode b_Gate_init 60 = .ok (.iconst 4, 1) := by decide +kernel
theorem d_Gate_init_61 : decode b_Gate_init 61 = .ok (.newarray .int, 2) := by decide +kernel
theorem d_Gate_init_63 : decode b_Gate_init 63 = .ok (.putfield 41, 3) := by decide +kernel
theorem d_Gate_init_66 : decode b_Gate_init 66 = .ok (.aload_n 0, 1) := by decide +kernel
theorem d_Gate_init_67 : decode b_Gate_init 67 = .ok (.iconst 0, 1) := by decide +kernel
theorem d_Gate_init_68 : decode b_Gate_init 68 = .ok (.putfield 44, 3) := by decide +kernel
theorem d_Gate_init_71 : decode b_Gate_init 71 = .ok (.aload_n 0, 1) := by decide +kernel
theorem d_Gate_init_72 : decode b_Gate_init 72 = .ok (.iconst 0, 1) := by decide +kernel
theorem d_Gate_init_73 : decode b_Gate_init 73 = .ok (.putfield 48, 3) := by decide +kernel
theorem d_Gate_init_76 : decode b_Gate_init 76 = .ok (.aload_n 0, 1) := by decide +kernel
theorem d_Gate_init_77 : decode b_Gate_init 77 = .ok (.iconst 0, 1) := by decide +kernel
theorem d_Gate_init_78 : decode b_Gate_init 78 = .ok (.putfield 52, 3) := by decide +kernel
theorem d_Gate_init_81 : decode b_Gate_init 81 = .ok (.aload_n 0, 1) := by decide +kernel
theorem d_Gate_init_82 : decode b_Gate_init 82 = .ok (.iconst 0, 1) := by decide +kernel
theorem d_Gate_init_83 : decode b_Gate_init 83 = .ok (.putfield 55, 3) := by decide +kernel
theorem d_Gate_init_86 : decode b_Gate_init 86 = .ok (.aload_n 0, 1) := by decide +kernel
theorem d_Gate_init_87 : decode b_Gate_init 87 = .ok (.iconst 0, 1) := by decide +kernel
theorem d_Gate_init_88 : decode b_Gate_init 88 = .ok (.putfield 58, 3) := by decide +kernel
theorem d_Gate_init_91 : decode b_Gate_init 91 = .ok (.aload_n 0, 1) := by decide +kernel
theorem d_Gate_init_92 : decode b_Gate_init 92 = .ok (.iconst 1, 1) := by decide +kernel
theorem d_Gate_init_93 : decode b_Gate_init 93 = .ok (.sipush 5000, 3) := by decide +kernel
theorem d_Gate_init_96 : decode b_Gate_init 96 = .ok (.iload_n 1, 1) := by decide +kernel
theorem d_Gate_init_97 : decode b_Gate_init 97 = .ok (.invokestatic 61, 3) := by decide +kernel
theorem d_Gate_init_100 : decode b_Gate_init 100 = .ok (.invokestatic 67, 3) := by decide +kernel
theorem d_Gate_init_103 : decode b_Gate_init 103 = .ok (.putfield 70, 3) := by decide +kernel
theorem d_Gate_init_106 : decode b_Gate_init 106 = .ok (.return_, 1) := by decide +kernel
theorem d_Gate_add_0 : decode b_Gate_add 0 = .ok (.iload_n 1, 1) := by decide +kernel
theorem d_Gate_add_1 : decode b_Gate_add 1 = .ok (.iload_n 2, 1) := by decide +kernel
theorem d_Gate_add_2 : decode b_Gate_add 2 = .ok (.invokestatic 73, 3) := by decide +kernel
theorem d_Gate_add_5 : decode b_Gate_add 5 = .ok (.ifCond .ne 13, 3) := by decide +kernel
theorem d_Gate_add_8 : decode b_Gate_add 8 = .ok (.new 77, 3) := by decide +kernel
theorem d_Gate_add_11 : decode b_Gate_add 11 = .ok (.dup, 1) := by decide +kernel
theorem d_Gate_add_12 : decode b_Gate_add 12 = .ok (.ldc 79, 2) := by decide +kernel
theorem d_Gate_add_14 : decode b_Gate_add 14 = .ok (.invokespecial 81, 3) := by decide +kernel
theorem d_Gate_add_17 : decode b_Gate_add 17 = .ok (.athrow, 1) := by decide +kernel
theorem d_Gate_add_18 : decode b_Gate_add 18 = .ok (.aload_n 0, 1) := by decide +kernel
theorem d_Gate_add_19 : decode b_Gate_add 19 = .ok (.getfield 44, 3) := by decide +kernel
theorem d_Gate_add_22 : decode b_Gate_add 22 = .ok (.ifCond .ne 13, 3) := by decide +kernel
theorem d_Gate_add_25 : decode b_Gate_add 25 = .ok (.aload_n 0, 1) := by decide +kernel
theorem d_Gate_add_26 : decode b_Gate_add 26 = .ok (.getfield 10, 3) := by decide +kernel
theorem d_Gate_add_29 : decode b_Gate_add 29 = .ok (.invokevirtual 84, 3) := by decide +kernel
theorem d_Gate_add_32 : decode b_Gate_add 32 = .ok (.ifCond .eq 13, 3) := by decide +kernel
theorem d_Gate_add_35 : decode b_Gate_add 35 = .ok (.new 88, 3) := by decide +kernel
theorem d_Gate_add_38 : decode b_Gate_add 38 = .ok (.dup, 1) := by decide +kernel
theorem d_Gate_add_39 : decode b_Gate_add 39 = .ok (.ldc 90, 2) := by decide +kernel
theorem d_Gate_add_41 : decode b_Gate_add 41 = .ok (.invokespecial 92, 3) := by decide +kernel
theorem d_Gate_add_44 : decode b_Gate_add 44 = .ok (.athrow, 1) := by decide +kernel
theorem d_Gate_add_45 : decode b_Gate_add 45 = .ok (.aload_n 0, 1) := by decide +kernel
theorem d_Gate_add_46 : decode b_Gate_add 46 = .ok (.getfield 10, 3) := by decide +kernel
theorem d_Gate_add_49 : decode b_Gate_add 49 = .ok (.iload_n 1, 1) := by decide +kernel
theorem d_Gate_add_50 : decode b_Gate_add 50 = .ok (.iload_n 2, 1) := by decide +kernel
theorem d_Gate_add_51 : decode b_Gate_add 51 = .ok (.invokevirtual 93, 3) := by decide +kernel
theorem d_Gate_add_54 : decode b_Gate_add 54 = .ok (.aload_n 0, 1) := by decide +kernel
theorem d_Gate_add_55 : decode b_Gate_add 55 = .ok (.getfield 10, 3) := by decide +kernel
theorem d_Gate_add_58 : decode b_Gate_add 58 = .ok (.getfield 97, 3) := by decide +kernel
theorem d_Gate_add_61 : decode b_Gate_add 61 = .ok (.ireturn, 1) := by decide +kernel
theorem d_Gate_give_0 : decode b_Gate_give 0 = .ok (.iload_n 1, 1) := by decide +kernel
theorem d_Gate_give_1 : decode b_Gate_give 1 = .ok (.invokestatic 100, 3) := by decide +kernel
theorem d_Gate_give_4 : decode b_Gate_give 4 = .ok (.ifCond .eq 10, 3) := by decide +kernel
theorem d_Gate_give_7 : decode b_Gate_give 7 = .ok (.iload_n 2, 1) := by decide +kernel
theorem d_Gate_give_8 : decode b_Gate_give 8 = .ok (.invokestatic 104, 3) := by decide +kernel
theorem d_Gate_give_11 : decode b_Gate_give 11 = .ok (.ifCond .ne 5, 3) := by decide +kernel
theorem d_Gate_give_14 : decode b_Gate_give 14 = .ok (.iconst 0, 1) := by decide +kernel
theorem d_Gate_give_15 : decode b_Gate_give 15 = .ok (.ireturn, 1) := by decide +kernel
theorem d_Gate_give_16 : decode b_Gate_give 16 = .ok (.aload_n 0, 1) := by decide +kernel
theorem d_Gate_give_17 : decode b_Gate_give 17 = .ok (.getfield 37, 3) := by decide +kernel
theorem d_Gate_give_20 : decode b_Gate_give 20 = .ok (.iload_n 1, 1) := by decide +kernel
theorem d_Gate_give_21 : decode b_Gate_give 21 = .ok (.iload_n 2, 1) := by decide +kernel
theorem d_Gate_give_22 : decode b_Gate_give 22 = .ok (.iastore, 1) := by decide +kernel
theorem d_Gate_give_23 : decode b_Gate_give 23 = .ok (.iconst 1, 1) := by decide +kernel
theorem d_Gate_give_24 : decode b_Gate_give 24 = .ok (.ireturn, 1) := by decide +kernel
theorem d_Gate_cycle_0 : decode b_Gate_cycle 0 = .ok (.aload_n 0, 1) := by decide +kernel
theorem d_Gate_cycle_1 : decode b_Gate_cycle 1 = .ok (.getfield 48, 3) := by decide +kernel
theorem d_Gate_cycle_4 : decode b_Gate_cycle 4 = .ok (.ifCond .eq 5, 3) := by decide +kernel
theorem d_Gate_cycle_7 : decode b_Gate_cycle 7 = .ok (.iconst 0, 1) := by decide +kernel
theorem d_Gate_cycle_8 : decode b_Gate_cycle 8 = .ok (.ireturn, 1) := by decide +kernel
theorem d_Gate_cycle_9 : decode b_Gate_cycle 9 = .ok (.aload_n 0, 1) := by decide +kernel
theorem d_Gate_cycle_10 : decode b_Gate_cycle 10 = .ok (.iconst 1, 1) := by decide +kernel
theorem d_Gate_cycle_11 : decode b_Gate_cycle 11 = .ok (.putfield 44, 3) := by decide +kernel
theorem d_Gate_cycle_14 : decode b_Gate_cycle 14 = .ok (.aload_n 0, 1) := by decide +kernel
theorem d_Gate_cycle_15 : decode b_Gate_cycle 15 = .ok (.iconst 0, 1) := by decide +kernel
theorem d_Gate_cycle_16 : decode b_Gate_cycle 16 = .ok (.putfield 55, 3) := by decide +kernel
theorem d_Gate_cycle_19 : decode b_Gate_cycle 19 = .ok (.aload_n 0, 1) := by decide +kernel
theorem d_Gate_cycle_20 : decode b_Gate_cycle 20 = .ok (.aload_n 0, 1) := by decide +kernel
theorem d_Gate_cycle_21 : decode b_Gate_cycle 21 = .ok (.invokevirtual 107, 3) := by decide +kernel
theorem d_Gate_cycle_24 : decode b_Gate_cycle 24 = .ok (.putfield 48, 3) := by decide +kernel
theorem d_Gate_cycle_27 : decode b_Gate_cycle 27 = .ok (.aload_n 0, 1) := by decide +kernel
theorem d_Gate_cycle_28 : decode b_Gate_cycle 28 = .ok (.getfield 33, 3) := by decide +kernel
theorem d_Gate_cycle_31 : decode b_Gate_cycle 31 = .ok (.invokevirtual 111, 3) := by decide +kernel
theorem d_Gate_cycle_34 : decode b_Gate_cycle 34 = .ok (.aload_n 0, 1) := by decide +kernel
theorem d_Gate_cycle_35 : decode b_Gate_cycle 35 = .ok (.getfield 48, 3) := by decide +kernel
theorem d_Gate_cycle_38 : decode b_Gate_cycle 38 = .ok (.ifCond .eq 13, 3) := by decide +kernel
theorem d_Gate_cycle_41 : decode b_Gate_cycle 41 = .ok (.aload_n 0, 1) := by decide +kernel
theorem d_Gate_cycle_42 : decode b_Gate_cycle 42 = .ok (.getfield 41, 3) := by decide +kernel
theorem d_Gate_cycle_45 : decode b_Gate_cycle 45 = .ok (.iconst 0, 1) := by decide +kernel
theorem d_Gate_cycle_46 : decode b_Gate_cycle 46 = .ok (.invokestatic 114, 3) := by decide +kernel
theorem d_Gate_cycle_49 : decode b_Gate_cycle 49 = .ok (.iconst 0, 1) := by decide +kernel
theorem d_Gate_cycle_50 : decode b_Gate_cycle 50 = .ok (.ireturn, 1) := by decide +kernel
theorem d_Gate_cycle_51 : decode b_Gate_cycle 51 = .ok (.aload_n 0, 1) := by decide +kernel
theorem d_Gate_cycle_52 : decode b_Gate_cycle 52 = .ok (.invokevirtual 120, 3) := by decide +kernel
theorem d_Gate_cycle_55 : decode b_Gate_cycle 55 = .ok (.iconst 1, 1) := by decide +kernel
theorem d_Gate_cycle_56 : decode b_Gate_cycle 56 = .ok (.ireturn, 1) := by decide +kernel
theorem d_Gate_flip_0 : decode b_Gate_flip 0 = .ok (.iload_n 1, 1) := by decide +kernel
theorem d_Gate_flip_1 : decode b_Gate_flip 1 = .ok (.invokestatic 123, 3) := by decide +kernel
theorem d_Gate_flip_4 : decode b_Gate_flip 4 = .ok (.ifCond .eq 24, 3) := by decide +kernel
theorem d_Gate_flip_7 : decode b_Gate_flip 7 = .ok (.iload_n 2, 1) := by decide +kernel
theorem d_Gate_flip_8 : decode b_Gate_flip 8 = .ok (.invokestatic 126, 3) := by decide +kernel
theorem d_Gate_flip_11 : decode b_Gate_flip 11 = .ok (.ifCond .eq 17, 3) := by decide +kernel
theorem d_Gate_flip_14 : decode b_Gate_flip 14 = .ok (.iload_n 3, 1) := by decide +kernel
theorem d_Gate_flip_15 : decode b_Gate_flip 15 = .ok (.bipush 64, 2) := by decide +kernel
theorem d_Gate_flip_17 : decode b_Gate_flip 17 = .ok (.invokestatic 129, 3) := by decide +kernel
theorem d_Gate_flip_20 : decode b_Gate_flip 20 = .ok (.ifCond .eq 8, 3) := by decide +kernel
theorem d_Gate_flip_23 : decode b_Gate_flip 23 = .ok (.iload 4, 2) := by decide +kernel
theorem d_Gate_flip_25 : decode b_Gate_flip 25 = .ok (.ifCond .ge 5, 3) := by decide +kernel
theorem d_Gate_flip_28 : decode b_Gate_flip 28 = .ok (.iconst 0, 1) := by decide +kernel
theorem d_Gate_flip_29 : decode b_Gate_flip 29 = .ok (.ireturn, 1) := by decide +kernel
theorem d_Gate_flip_30 : decode b_Gate_flip 30 = .ok (.aload_n 0, 1) := by decide +kernel
theorem d_Gate_flip_31 : decode b_Gate_flip 31 = .ok (.getfield 48, 3) := by decide +kernel
theorem d_Gate_flip_34 : decode b_Gate_flip 34 = .ok (.ifCond .ne 13, 3) := by decide +kernel
theorem d_Gate_flip_37 : decode b_Gate_flip 37 = .ok (.aload_n 0, 1) := by decide +kernel
theorem d_Gate_flip_38 : decode b_Gate_flip 38 = .ok (.getfield 33, 3) := by decide +kernel
theorem d_Gate_flip_41 : decode b_Gate_flip 41 = .ok (.invokevirtual 132, 3) := by decide +kernel
theorem d_Gate_flip_44 : decode b_Gate_flip 44 = .ok (.ifCond .eq 5, 3) := by decide +kernel
theorem d_Gate_flip_47 : decode b_Gate_flip 47 = .ok (.iconst 0, 1) := by decide +kernel
theorem d_Gate_flip_48 : decode b_Gate_flip 48 = .ok (.ireturn, 1) := by decide +kernel
theorem d_Gate_flip_49 : decode b_Gate_flip 49 = .ok (.aload_n 0, 1) := by decide +kernel
theorem d_Gate_flip_50 : decode b_Gate_flip 50 = .ok (.getfield 33, 3) := by decide +kernel
theorem d_Gate_flip_53 : decode b_Gate_flip 53 = .ok (.iload_n 1, 1) := by decide +kernel
theorem d_Gate_flip_54 : decode b_Gate_flip 54 = .ok (.iload_n 2, 1) := by decide +kernel
theorem d_Gate_flip_55 : decode b_Gate_flip 55 = .ok (.iload_n 3, 1) := by decide +kernel
theorem d_Gate_flip_56 : decode b_Gate_flip 56 = .ok (.iload 4, 2) := by decide +kernel
theorem d_Gate_flip_58 : decode b_Gate_flip 58 = .ok (.invokevirtual 133, 3) := by decide +kernel
theorem d_Gate_flip_61 : decode b_Gate_flip 61 = .ok (.iconst 1, 1) := by decide +kernel
theorem d_Gate_flip_62 : decode b_Gate_flip 62 = .ok (.ireturn, 1) := by decide +kernel
theorem d_Gate_output_0 : decode b_Gate_output 0 = .ok (.iload_n 1, 1) := by decide +kernel
theorem d_Gate_output_1 : decode b_Gate_output 1 = .ok (.invokestatic 100, 3) := by decide +kernel
theorem d_Gate_output_4 : decode b_Gate_output 4 = .ok (.ifCond .eq 12, 3) := by decide +kernel
theorem d_Gate_output_7 : decode b_Gate_output 7 = .ok (.aload_n 0, 1) := by decide +kernel
theorem d_Gate_output_8 : decode b_Gate_output 8 = .ok (.getfield 41, 3) := by decide +kernel
theorem d_Gate_output_11 : decode b_Gate_output 11 = .ok (.iload_n 1, 1) := by decide +kernel
theorem d_Gate_output_12 : decode b_Gate_output 12 = .ok (.iaload, 1) := by decide +kernel
theorem d_Gate_output_13 : decode b_Gate_output 13 = .ok (.goto 4, 3) := by decide +kernel
theorem d_Gate_output_16 : decode b_Gate_output 16 = .ok (.iconst (-1), 1) := by decide +kernel
theorem d_Gate_output_17 : decode b_Gate_output 17 = .ok (.ireturn, 1) := by decide +kernel
theorem d_Gate_cell_0 : decode b_Gate_cell 0 = .ok (.iload_n 1, 1) := by decide +kernel
theorem d_Gate_cell_1 : decode b_Gate_cell 1 = .ok (.invokestatic 123, 3) := by decide +kernel
theorem d_Gate_cell_4 : decode b_Gate_cell 4 = .ok (.ifCond .eq 10, 3) := by decide +kernel
theorem d_Gate_cell_7 : decode b_Gate_cell 7 = .ok (.iload_n 2, 1) := by decide +kernel
theorem d_Gate_cell_8 : decode b_Gate_cell 8 = .ok (.invokestatic 126, 3) := by decide +kernel
theorem d_Gate_cell_11 : decode b_Gate_cell 11 = .ok (.ifCond .ne 13, 3) := by decide +kernel
theorem d_Gate_cell_14 : decode b_Gate_cell 14 = .ok (.new 136, 3) := by decide +kernel
theorem d_Gate_cell_17 : decode b_Gate_cell 17 = .ok (.dup, 1) := by decide +kernel
theorem d_Gate_cell_18 : decode b_Gate_cell 18 = .ok (.ldc 138, 2) := by decide +kernel
theorem d_Gate_cell_20 : decode b_Gate_cell 20 = .ok (.invokespecial 140, 3) := by decide +kernel
theorem d_Gate_cell_23 : decode b_Gate_cell 23 = .ok (.athrow, 1) := by decide +kernel
theorem d_Gate_cell_24 : decode b_Gate_cell 24 = .ok (.aload_n 0, 1) := by decide +kernel
theorem d_Gate_cell_25 : decode b_Gate_cell 25 = .ok (.iload_n 1, 1) := by decide +kernel
theorem d_Gate_cell_26 : decode b_Gate_cell 26 = .ok (.invokevirtual 141, 3) := by decide +kernel
theorem d_Gate_cell_29 : decode b_Gate_cell 29 = .ok (.getfield 145, 3) := by decide +kernel
theorem d_Gate_cell_32 : decode b_Gate_cell 32 = .ok (.iload_n 2, 1) := by decide +kernel
theorem d_Gate_cell_33 : decode b_Gate_cell 33 = .ok (.laload, 1) := by decide +kernel
theorem d_Gate_cell_34 : decode b_Gate_cell 34 = .ok (.lreturn, 1) := by decide +kernel
theorem d_Gate_count_0 : decode b_Gate_count 0 = .ok (.iload_n 1, 1) := by decide +kernel
theorem d_Gate_count_1 : decode b_Gate_count 1 = .ok (.tableswitch 84 0 6 #[43, 51, 56, 61, 66, 74, 79], 43) := by decide +kernel
theorem d_Gate_count_44 : decode b_Gate_count 44 = .ok (.aload_n 0, 1) := by decide +kernel
theorem d_Gate_count_45 : decode b_Gate_count 45 = .ok (.getfield 10, 3) := by decide +kernel
theorem d_Gate_count_48 : decode b_Gate_count 48 = .ok (.getfield 97, 3) := by decide +kernel
theorem d_Gate_count_51 : decode b_Gate_count 51 = .ok (.ireturn, 1) := by decide +kernel
theorem d_Gate_count_52 : decode b_Gate_count 52 = .ok (.aload_n 0, 1) := by decide +kernel
theorem d_Gate_count_53 : decode b_Gate_count 53 = .ok (.getfield 52, 3) := by decide +kernel
theorem d_Gate_count_56 : decode b_Gate_count 56 = .ok (.ireturn, 1) := by decide +kernel
theorem d_Gate_count_57 : decode b_Gate_count 57 = .ok (.aload_n 0, 1) := by decide +kernel
theorem d_Gate_count_58 : decode b_Gate_count 58 = .ok (.getfield 48, 3) := by decide +kernel
theorem d_Gate_count_61 : decode b_Gate_count 61 = .ok (.ireturn, 1) := by decide +kernel
theorem d_Gate_count_62 : decode b_Gate_count 62 = .ok (.aload_n 0, 1) := by decide +kernel
theorem d_Gate_count_63 : decode b_Gate_count 63 = .ok (.getfield 55, 3) := by decide +kernel
theorem d_Gate_count_66 : decode b_Gate_count 66 = .ok (.ireturn, 1) := by decide +kernel
theorem d_Gate_count_67 : decode b_Gate_count 67 = .ok (.aload_n 0, 1) := by decide +kernel
theorem d_Gate_count_68 : decode b_Gate_count 68 = .ok (.getfield 33, 3) := by decide +kernel
theorem d_Gate_count_71 : decode b_Gate_count 71 = .ok (.getfield 149, 3) := by decide +kernel
theorem d_Gate_count_74 : decode b_Gate_count 74 = .ok (.ireturn, 1) := by decide +kernel
theorem d_Gate_count_75 : decode b_Gate_count 75 = .ok (.aload_n 0, 1) := by decide +kernel
theorem d_Gate_count_76 : decode b_Gate_count 76 = .ok (.getfield 58, 3) := by decide +kernel
theorem d_Gate_count_79 : decode b_Gate_count 79 = .ok (.ireturn, 1) := by decide +kernel
theorem d_Gate_count_80 : decode b_Gate_count 80 = .ok (.aload_n 0, 1) := by decide +kernel
theorem d_Gate_count_81 : decode b_Gate_count 81 = .ok (.getfield 70, 3) := by decide +kernel
theorem d_Gate_count_84 : decode b_Gate_count 84 = .ok (.ireturn, 1) := by decide +kernel
theorem d_Gate_count_85 : decode b_Gate_count 85 = .ok (.iconst (-1), 1) := by decide +kernel
theorem d_Gate_count_86 : decode b_Gate_count 86 = .ok (.ireturn, 1) := by decide +kernel
theorem d_Gate_isBelow_0 : decode b_Gate_isBelow 0 = .ok (.iload_n 0, 1) := by decide +kernel
theorem d_Gate_isBelow_1 : decode b_Gate_isBelow 1 = .ok (.ifCond .lt 12, 3) := by decide +kernel
theorem d_Gate_isBelow_4 : decode b_Gate_isBelow 4 = .ok (.iload_n 0, 1) := by decide +kernel
theorem d_Gate_isBelow_5 : decode b_Gate_isBelow 5 = .ok (.iload_n 1, 1) := by decide +kernel
theorem d_Gate_isBelow_6 : decode b_Gate_isBelow 6 = .ok (.if_icmp .ge 7, 3) := by decide +kernel
theorem d_Gate_isBelow_9 : decode b_Gate_isBelow 9 = .ok (.iconst 1, 1) := by decide +kernel
theorem d_Gate_isBelow_10 : decode b_Gate_isBelow 10 = .ok (.goto 4, 3) := by decide +kernel
theorem d_Gate_isBelow_13 : decode b_Gate_isBelow 13 = .ok (.iconst 0, 1) := by decide +kernel
theorem d_Gate_isBelow_14 : decode b_Gate_isBelow 14 = .ok (.ireturn, 1) := by decide +kernel
theorem d_Gate_isPort_0 : decode b_Gate_isPort 0 = .ok (.iload_n 0, 1) := by decide +kernel
theorem d_Gate_isPort_1 : decode b_Gate_isPort 1 = .ok (.iconst 4, 1) := by decide +kernel
theorem d_Gate_isPort_2 : decode b_Gate_isPort 2 = .ok (.invokestatic 129, 3) := by decide +kernel
theorem d_Gate_isPort_5 : decode b_Gate_isPort 5 = .ok (.ireturn, 1) := by decide +kernel
theorem d_Gate_isCopy_0 : decode b_Gate_isCopy 0 = .ok (.iload_n 0, 1) := by decide +kernel
theorem d_Gate_isCopy_1 : decode b_Gate_isCopy 1 = .ok (.iconst 2, 1) := by decide +kernel
theorem d_Gate_isCopy_2 : decode b_Gate_isCopy 2 = .ok (.invokestatic 129, 3) := by decide +kernel
theorem d_Gate_isCopy_5 : decode b_Gate_isCopy 5 = .ok (.ireturn, 1) := by decide +kernel
theorem d_Gate_isInRow_0 : decode b_Gate_isInRow 0 = .ok (.iload_n 0, 1) := by decide +kernel
theorem d_Gate_isInRow_1 : decode b_Gate_isInRow 1 = .ok (.bipush 18, 2) := by decide +kernel
theorem d_Gate_isInRow_3 : decode b_Gate_isInRow 3 = .ok (.invokestatic 129, 3) := by decide +kernel
theorem d_Gate_isInRow_6 : decode b_Gate_isInRow 6 = .ok (.ireturn, 1) := by decide +kernel
theorem d_Gate_isWithinBound_0 : decode b_Gate_isWithinBound 0 = .ok (.iload_n 0, 1) := by decide +kernel
theorem d_Gate_isWithinBound_1 : decode b_Gate_isWithinBound 1 = .ok (.ldc 150, 2) := by decide +kernel
theorem d_Gate_isWithinBound_3 : decode b_Gate_isWithinBound 3 = .ok (.if_icmp .lt 13, 3) := by decide +kernel
theorem d_Gate_isWithinBound_6 : decode b_Gate_isWithinBound 6 = .ok (.iload_n 0, 1) := by decide +kernel
theorem d_Gate_isWithinBound_7 : decode b_Gate_isWithinBound 7 = .ok (.ldc 151, 2) := by decide +kernel
theorem d_Gate_isWithinBound_9 : decode b_Gate_isWithinBound 9 = .ok (.if_icmp .gt 7, 3) := by decide +kernel
theorem d_Gate_isWithinBound_12 : decode b_Gate_isWithinBound 12 = .ok (.iconst 1, 1) := by decide +kernel
theorem d_Gate_isWithinBound_13 : decode b_Gate_isWithinBound 13 = .ok (.goto 4, 3) := by decide +kernel
theorem d_Gate_isWithinBound_16 : decode b_Gate_isWithinBound 16 = .ok (.iconst 0, 1) := by decide +kernel
theorem d_Gate_isWithinBound_17 : decode b_Gate_isWithinBound 17 = .ok (.ireturn, 1) := by decide +kernel
theorem d_Gate_isInstruction_0 : decode b_Gate_isInstruction 0 = .ok (.iload_n 0, 1) := by decide +kernel
theorem d_Gate_isInstruction_1 : decode b_Gate_isInstruction 1 = .ok (.tableswitch 105 0 15 #[79, 84, 84, 103, 103, 103, 103, 103, 103, 103, 91, 91, 98, 98, 103, 103], 79) := by decide +kernel
theorem d_Gate_isInstruction_80 : decode b_Gate_isInstruction 80 = .ok (.iload_n 1, 1) := by decide +kernel
theorem d_Gate_isInstruction_81 : decode b_Gate_isInstruction 81 = .ok (.invokestatic 104, 3) := by decide +kernel
theorem d_Gate_isInstruction_84 : decode b_Gate_isInstruction 84 = .ok (.ireturn, 1) := by decide +kernel
theorem d_Gate_isInstruction_85 : decode b_Gate_isInstruction 85 = .ok (.iload_n 1, 1) := by decide +kernel
theorem d_Gate_isInstruction_86 : decode b_Gate_isInstruction 86 = .ok (.bipush 16, 2) := by decide +kernel
theorem d_Gate_isInstruction_88 : decode b_Gate_isInstruction 88 = .ok (.invokestatic 129, 3) := by decide +kernel
theorem d_Gate_isInstruction_91 : decode b_Gate_isInstruction 91 = .ok (.ireturn, 1) := by decide +kernel
theorem d_Gate_isInstruction_92 : decode b_Gate_isInstruction 92 = .ok (.iload_n 1, 1) := by decide +kernel
theorem d_Gate_isInstruction_93 : decode b_Gate_isInstruction 93 = .ok (.bipush 100, 2) := by decide +kernel
theorem d_Gate_isInstruction_95 : decode b_Gate_isInstruction 95 = .ok (.invokestatic 129, 3) := by decide +kernel
theorem d_Gate_isInstruction_98 : decode b_Gate_isInstruction 98 = .ok (.ireturn, 1) := by decide +kernel
theorem d_Gate_isInstruction_99 : decode b_Gate_isInstruction 99 = .ok (.iload_n 1, 1) := by decide +kernel
theorem d_Gate_isInstruction_100 : decode b_Gate_isInstruction 100 = .ok (.invokestatic 100, 3) := by decide +kernel
theorem d_Gate_isInstruction_103 : decode b_Gate_isInstruction 103 = .ok (.ireturn, 1) := by decide +kernel
theorem d_Gate_isInstruction_104 : decode b_Gate_isInstruction 104 = .ok (.iconst 1, 1) := by decide +kernel
theorem d_Gate_isInstruction_105 : decode b_Gate_isInstruction 105 = .ok (.ireturn, 1) := by decide +kernel
theorem d_Gate_isInstruction_106 : decode b_Gate_isInstruction 106 = .ok (.iconst 0, 1) := by decide +kernel
theorem d_Gate_isInstruction_107 : decode b_Gate_isInstruction 107 = .ok (.ireturn, 1) := by decide +kernel
theorem d_Gate_copyOf_0 : decode b_Gate_copyOf 0 = .ok (.iload_n 1, 1) := by decide +kernel
theorem d_Gate_copyOf_1 : decode b_Gate_copyOf 1 = .ok (.ifCond .ne 10, 3) := by decide +kernel
theorem d_Gate_copyOf_4 : decode b_Gate_copyOf 4 = .ok (.aload_n 0, 1) := by decide +kernel
theorem d_Gate_copyOf_5 : decode b_Gate_copyOf 5 = .ok (.getfield 21, 3) := by decide +kernel
theorem d_Gate_copyOf_8 : decode b_Gate_copyOf 8 = .ok (.goto 7, 3) := by decide +kernel
theorem d_Gate_copyOf_11 : decode b_Gate_copyOf 11 = .ok (.aload_n 0, 1) := by decide +kernel
theorem d_Gate_copyOf_12 : decode b_Gate_copyOf 12 = .ok (.getfield 27, 3) := by decide +kernel
theorem d_Gate_copyOf_15 : decode b_Gate_copyOf 15 = .ok (.areturn, 1) := by decide +kernel
theorem d_Gate_runBothCopies_0 : decode b_Gate_runBothCopies 0 = .ok (.aload_n 0, 1) := by decide +kernel
theorem d_Gate_runBothCopies_1 : decode b_Gate_runBothCopies 1 = .ok (.aload_n 0, 1) := by decide +kernel
theorem d_Gate_runBothCopies_2 : decode b_Gate_runBothCopies 2 = .ok (.getfield 21, 3) := by decide +kernel
theorem d_Gate_runBothCopies_5 : decode b_Gate_runBothCopies 5 = .ok (.invokevirtual 152, 3) := by decide +kernel
theorem d_Gate_runBothCopies_8 : decode b_Gate_runBothCopies 8 = .ok (.istore_n 1, 1) := by decide +kernel
theorem d_Gate_runBothCopies_9 : decode b_Gate_runBothCopies 9 = .ok (.iload_n 1, 1) := by decide +kernel
theorem d_Gate_runBothCopies_10 : decode b_Gate_runBothCopies 10 = .ok (.ifCond .ne 12, 3) := by decide +kernel
theorem d_Gate_runBothCopies_13 : decode b_Gate_runBothCopies 13 = .ok (.aload_n 0, 1) := by decide +kernel
theorem d_Gate_runBothCopies_14 : decode b_Gate_runBothCopies 14 = .ok (.aload_n 0, 1) := by decide +kernel
theorem d_Gate_runBothCopies_15 : decode b_Gate_runBothCopies 15 = .ok (.getfield 27, 3) := by decide +kernel
theorem d_Gate_runBothCopies_18 : decode b_Gate_runBothCopies 18 = .ok (.invokevirtual 152, 3) := by decide +kernel
theorem d_Gate_runBothCopies_21 : decode b_Gate_runBothCopies 21 = .ok (.istore_n 1, 1) := by decide +kernel
theorem d_Gate_runBothCopies_22 : decode b_Gate_runBothCopies 22 = .ok (.iload_n 1, 1) := by decide +kernel
theorem d_Gate_runBothCopies_23 : decode b_Gate_runBothCopies 23 = .ok (.ifCond .ne 12, 3) := by decide +kernel
theorem d_Gate_runBothCopies_26 : decode b_Gate_runBothCopies 26 = .ok (.aload_n 0, 1) := by decide +kernel
theorem d_Gate_runBothCopies_27 : decode b_Gate_runBothCopies 27 = .ok (.invokevirtual 156, 3) := by decide +kernel
theorem d_Gate_runBothCopies_30 : decode b_Gate_runBothCopies 30 = .ok (.ifCond .ne 5, 3) := by decide +kernel
theorem d_Gate_runBothCopies_33 : decode b_Gate_runBothCopies 33 = .ok (.iconst 3, 1) := by decide +kernel
theorem d_Gate_runBothCopies_34 : decode b_Gate_runBothCopies 34 = .ok (.istore_n 1, 1) := by decide +kernel
theorem d_Gate_runBothCopies_35 : decode b_Gate_runBothCopies 35 = .ok (.iload_n 1, 1) := by decide +kernel
theorem d_Gate_runBothCopies_36 : decode b_Gate_runBothCopies 36 = .ok (.ireturn, 1) := by decide +kernel
theorem d_Gate_runToItsEnd_0 : decode b_Gate_runToItsEnd 0 = .ok (.aload_n 1, 1) := by decide +kernel
theorem d_Gate_runToItsEnd_1 : decode b_Gate_runToItsEnd 1 = .ok (.invokevirtual 159, 3) := by decide +kernel
theorem d_Gate_runToItsEnd_4 : decode b_Gate_runToItsEnd 4 = .ok (.iconst 0, 1) := by decide +kernel
theorem d_Gate_runToItsEnd_5 : decode b_Gate_runToItsEnd 5 = .ok (.istore_n 2, 1) := by decide +kernel
theorem d_Gate_runToItsEnd_6 : decode b_Gate_runToItsEnd 6 = .ok (.iload_n 2, 1) := by decide +kernel
theorem d_Gate_runToItsEnd_7 : decode b_Gate_runToItsEnd 7 = .ok (.aload_n 0, 1) := by decide +kernel
theorem d_Gate_runToItsEnd_8 : decode b_Gate_runToItsEnd 8 = .ok (.getfield 70, 3) := by decide +kernel
theorem d_Gate_runToItsEnd_11 : decode b_Gate_runToItsEnd 11 = .ok (.if_icmp .ge 50, 3) := by decide +kernel
theorem d_Gate_runToItsEnd_14 : decode b_Gate_runToItsEnd 14 = .ok (.aload_n 0, 1) := by decide +kernel
theorem d_Gate_runToItsEnd_15 : decode b_Gate_runToItsEnd 15 = .ok (.invokevirtual 162, 3) := by decide +kernel
theorem d_Gate_runToItsEnd_18 : decode b_Gate_runToItsEnd 18 = .ok (.aload_n 0, 1) := by decide +kernel
theorem d_Gate_runToItsEnd_19 : decode b_Gate_runToItsEnd 19 = .ok (.dup, 1) := by decide +kernel
theorem d_Gate_runToItsEnd_20 : decode b_Gate_runToItsEnd 20 = .ok (.getfield 55, 3) := by decide +kernel
theorem d_Gate_runToItsEnd_23 : decode b_Gate_runToItsEnd 23 = .ok (.iconst 1, 1) := by decide +kernel
theorem d_Gate_runToItsEnd_24 : decode b_Gate_runToItsEnd 24 = .ok (.iadd, 1) := by decide +kernel
theorem d_Gate_runToItsEnd_25 : decode b_Gate_runToItsEnd 25 = .ok (.putfield 55, 3) := by decide +kernel
theorem d_Gate_runToItsEnd_28 : decode b_Gate_runToItsEnd 28 = .ok (.aload_n 1, 1) := by decide +kernel
theorem d_Gate_runToItsEnd_29 : decode b_Gate_runToItsEnd 29 = .ok (.aload_n 0, 1) := by decide +kernel
theorem d_Gate_runToItsEnd_30 : decode b_Gate_runToItsEnd 30 = .ok (.getfield 10, 3) := by decide +kernel
theorem d_Gate_runToItsEnd_33 : decode b_Gate_runToItsEnd 33 = .ok (.aload_n 0, 1) := by decide +kernel
theorem d_Gate_runToItsEnd_34 : decode b_Gate_runToItsEnd 34 = .ok (.getfield 37, 3) := by decide +kernel
theorem d_Gate_runToItsEnd_37 : decode b_Gate_runToItsEnd 37 = .ok (.invokevirtual 165, 3) := by decide +kernel
theorem d_Gate_runToItsEnd_40 : decode b_Gate_runToItsEnd 40 = .ok (.istore_n 3, 1) := by decide +kernel
theorem d_Gate_runToItsEnd_41 : decode b_Gate_runToItsEnd 41 = .ok (.iload_n 3, 1) := by decide +kernel
theorem d_Gate_runToItsEnd_42 : decode b_Gate_runToItsEnd 42 = .ok (.iconst 1, 1) := by decide +kernel
theorem d_Gate_runToItsEnd_43 : decode b_Gate_runToItsEnd 43 = .ok (.if_icmp .ne 5, 3) := by decide +kernel
theorem d_Gate_runToItsEnd_46 : decode b_Gate_runToItsEnd 46 = .ok (.iconst 0, 1) := by decide +kernel
theorem d_Gate_runToItsEnd_47 : decode b_Gate_runToItsEnd 47 = .ok (.ireturn, 1) := by decide +kernel
theorem d_Gate_runToItsEnd_48 : decode b_Gate_runToItsEnd 48 = .ok (.iload_n 3, 1) := by decide +kernel
theorem d_Gate_runToItsEnd_49 : decode b_Gate_runToItsEnd 49 = .ok (.iconst 2, 1) := by decide +kernel
theorem d_Gate_runToItsEnd_50 : decode b_Gate_runToItsEnd 50 = .ok (.if_icmp .ne 5, 3) := by decide +kernel
theorem d_Gate_runToItsEnd_53 : decode b_Gate_runToItsEnd 53 = .ok (.iconst 1, 1) := by decide +kernel
theorem d_Gate_runToItsEnd_54 : decode b_Gate_runToItsEnd 54 = .ok (.ireturn, 1) := by decide +kernel
theorem d_Gate_runToItsEnd_55 : decode b_Gate_runToItsEnd 55 = .ok (.iinc 2 1, 3) := by decide +kernel
theorem d_Gate_runToItsEnd_58 : decode b_Gate_runToItsEnd 58 = .ok (.goto (-52), 3) := by decide +kernel
theorem d_Gate_runToItsEnd_61 : decode b_Gate_runToItsEnd 61 = .ok (.iconst 2, 1) := by decide +kernel
theorem d_Gate_runToItsEnd_62 : decode b_Gate_runToItsEnd 62 = .ok (.ireturn, 1) := by decide +kernel
theorem d_Gate_doFlipsAhead_0 : decode b_Gate_doFlipsAhead 0 = .ok (.iconst 0, 1) := by decide +kernel
theorem d_Gate_doFlipsAhead_1 : decode b_Gate_doFlipsAhead 1 = .ok (.istore_n 1, 1) := by decide +kernel
theorem d_Gate_doFlipsAhead_2 : decode b_Gate_doFlipsAhead 2 = .ok (.iload_n 1, 1) := by decide +kernel
theorem d_Gate_doFlipsAhead_3 : decode b_Gate_doFlipsAhead 3 = .ok (.aload_n 0, 1) := by decide +kernel
theorem d_Gate_doFlipsAhead_4 : decode b_Gate_doFlipsAhead 4 = .ok (.getfield 33, 3) := by decide +kernel
theorem d_Gate_doFlipsAhead_7 : decode b_Gate_doFlipsAhead 7 = .ok (.getfield 149, 3) := by decide +kernel
theorem d_Gate_doFlipsAhead_10 : decode b_Gate_doFlipsAhead 10 = .ok (.if_icmp .ge 75, 3) := by decide +kernel
theorem d_Gate_doFlipsAhead_13 : decode b_Gate_doFlipsAhead 13 = .ok (.aload_n 0, 1) := by decide +kernel
theorem d_Gate_doFlipsAhead_14 : decode b_Gate_doFlipsAhead 14 = .ok (.getfield 33, 3) := by decide +kernel
theorem d_Gate_doFlipsAhead_17 : decode b_Gate_doFlipsAhead 17 = .ok (.getfield 169, 3) := by decide +kernel
theorem d_Gate_doFlipsAhead_20 : decode b_Gate_doFlipsAhead 20 = .ok (.iload_n 1, 1) := by decide +kernel
theorem d_Gate_doFlipsAhead_21 : decode b_Gate_doFlipsAhead 21 = .ok (.iaload, 1) := by decide +kernel
theorem d_Gate_doFlipsAhead_22 : decode b_Gate_doFlipsAhead 22 = .ok (.aload_n 0, 1) := by decide +kernel
theorem d_Gate_doFlipsAhead_23 : decode b_Gate_doFlipsAhead 23 = .ok (.getfield 55, 3) := by decide +kernel
theorem d_Gate_doFlipsAhead_26 : decode b_Gate_doFlipsAhead 26 = .ok (.if_icmp .ne 53, 3) := by decide +kernel
theorem d_Gate_doFlipsAhead_29 : decode b_Gate_doFlipsAhead 29 = .ok (.aload_n 0, 1) := by decide +kernel
theorem d_Gate_doFlipsAhead_30 : decode b_Gate_doFlipsAhead 30 = .ok (.aload_n 0, 1) := by decide +kernel
theorem d_Gate_doFlipsAhead_31 : decode b_Gate_doFlipsAhead 31 = .ok (.getfield 33, 3) := by decide +kernel
theorem d_Gate_doFlipsAhead_34 : decode b_Gate_doFlipsAhead 34 = .ok (.getfield 171, 3) := by decide +kernel
theorem d_Gate_doFlipsAhead_37 : decode b_Gate_doFlipsAhead 37 = .ok (.iload_n 1, 1) := by decide +kernel
theorem d_Gate_doFlipsAhead_38 : decode b_Gate_doFlipsAhead 38 = .ok (.iaload, 1) := by decide +kernel
theorem d_Gate_doFlipsAhead_39 : decode b_Gate_doFlipsAhead 39 = .ok (.invokevirtual 141, 3) := by decide +kernel
theorem d_Gate_doFlipsAhead_42 : decode b_Gate_doFlipsAhead 42 = .ok (.getfield 145, 3) := by decide +kernel
theorem d_Gate_doFlipsAhead_45 : decode b_Gate_doFlipsAhead 45 = .ok (.aload_n 0, 1) := by decide +kernel
theorem d_Gate_doFlipsAhead_46 : decode b_Gate_doFlipsAhead 46 = .ok (.getfield 33, 3) := by decide +kernel
theorem d_Gate_doFlipsAhead_49 : decode b_Gate_doFlipsAhead 49 = .ok (.getfield 174, 3) := by decide +kernel
theorem d_Gate_doFlipsAhead_52 : decode b_Gate_doFlipsAhead 52 = .ok (.iload_n 1, 1) := by decide +kernel
theorem d_Gate_doFlipsAhead_53 : decode b_Gate_doFlipsAhead 53 = .ok (.iaload, 1) := by decide +kernel
theorem d_Gate_doFlipsAhead_54 : decode b_Gate_doFlipsAhead 54 = .ok (.dup2, 1) := by decide +kernel
theorem d_Gate_doFlipsAhead_55 : decode b_Gate_doFlipsAhead 55 = .ok (.laload, 1) := by decide +kernel
theorem d_Gate_doFlipsAhead_56 : decode b_Gate_doFlipsAhead 56 = .ok (.lconst 1, 1) := by decide +kernel
theorem d_Gate_doFlipsAhead_57 : decode b_Gate_doFlipsAhead 57 = .ok (.aload_n 0, 1) := by decide +kernel
theorem d_Gate_doFlipsAhead_58 : decode b_Gate_doFlipsAhead 58 = .ok (.getfield 33, 3) := by decide +kernel
theorem d_Gate_doFlipsAhead_61 : decode b_Gate_doFlipsAhead 61 = .ok (.getfield 177, 3) := by decide +kernel
theorem d_Gate_doFlipsAhead_64 : decode b_Gate_doFlipsAhead 64 = .ok (.iload_n 1, 1) := by decide +kernel
theorem d_Gate_doFlipsAhead_65 : decode b_Gate_doFlipsAhead 65 = .ok (.iaload, 1) := by decide +kernel
theorem d_Gate_doFlipsAhead_66 : decode b_Gate_doFlipsAhead 66 = .ok (.lshl, 1) := by decide +kernel
theorem d_Gate_doFlipsAhead_67 : decode b_Gate_doFlipsAhead 67 = .ok (.lxor, 1) := by decide +kernel
theorem d_Gate_doFlipsAhead_68 : decode b_Gate_doFlipsAhead 68 = .ok (.lastore, 1) := by decide +kernel
theorem d_Gate_doFlipsAhead_69 : decode b_Gate_doFlipsAhead 69 = .ok (.aload_n 0, 1) := by decide +kernel
theorem d_Gate_doFlipsAhead_70 : decode b_Gate_doFlipsAhead 70 = .ok (.dup, 1) := by decide +kernel
theorem d_Gate_doFlipsAhead_71 : decode b_Gate_doFlipsAhead 71 = .ok (.getfield 58, 3) := by decide +kernel
theorem d_Gate_doFlipsAhead_74 : decode b_Gate_doFlipsAhead 74 = .ok (.iconst 1, 1) := by decide +kernel
theorem d_Gate_doFlipsAhead_75 : decode b_Gate_doFlipsAhead 75 = .ok (.iadd, 1) := by decide +kernel
theorem d_Gate_doFlipsAhead_76 : decode b_Gate_doFlipsAhead 76 = .ok (.putfield 58, 3) := by decide +kernel
theorem d_Gate_doFlipsAhead_79 : decode b_Gate_doFlipsAhead 79 = .ok (.iinc 1 1, 3) := by decide +kernel
theorem d_Gate_doFlipsAhead_82 : decode b_Gate_doFlipsAhead 82 = .ok (.goto (-80), 3) := by decide +kernel
theorem d_Gate_doFlipsAhead_85 : decode b_Gate_doFlipsAhead 85 = .ok (.return_, 1) := by decide +kernel
theorem d_Gate_copiesAgree_0 : decode b_Gate_copiesAgree 0 = .ok (.iconst 0, 1) := by decide +kernel
theorem d_Gate_copiesAgree_1 : decode b_Gate_copiesAgree 1 = .ok (.istore_n 1, 1) := by decide +kernel
theorem d_Gate_copiesAgree_2 : decode b_Gate_copiesAgree 2 = .ok (.iload_n 1, 1) := by decide +kernel
theorem d_Gate_copiesAgree_3 : decode b_Gate_copiesAgree 3 = .ok (.iconst 4, 1) := by decide +kernel
theorem d_Gate_copiesAgree_4 : decode b_Gate_copiesAgree 4 = .ok (.if_icmp .ge 47, 3) := by decide +kernel
theorem d_Gate_copiesAgree_7 : decode b_Gate_copiesAgree 7 = .ok (.aload_n 0, 1) := by decide +kernel
theorem d_Gate_copiesAgree_8 : decode b_Gate_copiesAgree 8 = .ok (.getfield 21, 3) := by decide +kernel
theorem d_Gate_copiesAgree_11 : decode b_Gate_copiesAgree 11 = .ok (.getfield 180, 3) := by decide +kernel
theorem d_Gate_copiesAgree_14 : decode b_Gate_copiesAgree 14 = .ok (.iload_n 1, 1) := by decide +kernel
theorem d_Gate_copiesAgree_15 : decode b_Gate_copiesAgree 15 = .ok (.laload, 1) := by decide +kernel
theorem d_Gate_copiesAgree_16 : decode b_Gate_copiesAgree 16 = .ok (.lstore_n 2, 1) := by decide +kernel
theorem d_Gate_copiesAgree_17 : decode b_Gate_copiesAgree 17 = .ok (.lload_n 2, 1) := by decide +kernel
theorem d_Gate_copiesAgree_18 : decode b_Gate_copiesAgree 18 = .ok (.lload_n 2, 1) := by decide +kernel
theorem d_Gate_copiesAgree_19 : decode b_Gate_copiesAgree 19 = .ok (.l2i, 1) := by decide +kernel
theorem d_Gate_copiesAgree_20 : decode b_Gate_copiesAgree 20 = .ok (.i2l, 1) := by decide +kernel
theorem d_Gate_copiesAgree_21 : decode b_Gate_copiesAgree 21 = .ok (.lcmp, 1) := by decide +kernel
theorem d_Gate_copiesAgree_22 : decode b_Gate_copiesAgree 22 = .ok (.ifCond .ne 21, 3) := by decide +kernel
theorem d_Gate_copiesAgree_25 : decode b_Gate_copiesAgree 25 = .ok (.lload_n 2, 1) := by decide +kernel
theorem d_Gate_copiesAgree_26 : decode b_Gate_copiesAgree 26 = .ok (.ldc2_w 25, 3) := by decide +kernel
theorem d_Gate_copiesAgree_29 : decode b_Gate_copiesAgree 29 = .ok (.lmul, 1) := by decide +kernel
theorem d_Gate_copiesAgree_30 : decode b_Gate_copiesAgree 30 = .ok (.aload_n 0, 1) := by decide +kernel
theorem d_Gate_copiesAgree_31 : decode b_Gate_copiesAgree 31 = .ok (.getfield 27, 3) := by decide +kernel
theorem d_Gate_copiesAgree_34 : decode b_Gate_copiesAgree 34 = .ok (.getfield 180, 3) := by decide +kernel
theorem d_Gate_copiesAgree_37 : decode b_Gate_copiesAgree 37 = .ok (.iload_n 1, 1) := by decide +kernel
theorem d_Gate_copiesAgree_38 : decode b_Gate_copiesAgree 38 = .ok (.laload, 1) := by decide +kernel
theorem d_Gate_copiesAgree_39 : decode b_Gate_copiesAgree 39 = .ok (.lcmp, 1) := by decide +kernel
theorem d_Gate_copiesAgree_40 : decode b_Gate_copiesAgree 40 = .ok (.ifCond .eq 5, 3) := by decide +kernel
theorem d_Gate_copiesAgree_43 : decode b_Gate_copiesAgree 43 = .ok (.iconst 0, 1) := by decide +kernel
theorem d_Gate_copiesAgree_44 : decode b_Gate_copiesAgree 44 = .ok (.ireturn, 1) := by decide +kernel
theorem d_Gate_copiesAgree_45 : decode b_Gate_copiesAgree 45 = .ok (.iinc 1 1, 3) := by decide +kernel
theorem d_Gate_copiesAgree_48 : decode b_Gate_copiesAgree 48 = .ok (.goto (-46), 3) := by decide +kernel
theorem d_Gate_copiesAgree_51 : decode b_Gate_copiesAgree 51 = .ok (.iconst 1, 1) := by decide +kernel
theorem d_Gate_copiesAgree_52 : decode b_Gate_copiesAgree 52 = .ok (.ireturn, 1) := by decide +kernel
theorem d_Gate_emit_0 : decode b_Gate_emit 0 = .ok (.iconst 0, 1) := by decide +kernel
theorem d_Gate_emit_1 : decode b_Gate_emit 1 = .ok (.istore_n 1, 1) := by decide +kernel
theorem d_Gate_emit_2 : decode b_Gate_emit 2 = .ok (.iload_n 1, 1) := by decide +kernel
theorem d_Gate_emit_3 : decode b_Gate_emit 3 = .ok (.iconst 4, 1) := by decide +kernel
theorem d_Gate_emit_4 : decode b_Gate_emit 4 = .ok (.if_icmp .ge 25, 3) := by decide +kernel
theorem d_Gate_emit_7 : decode b_Gate_emit 7 = .ok (.aload_n 0, 1) := by decide +kernel
theorem d_Gate_emit_8 : decode b_Gate_emit 8 = .ok (.getfield 41, 3) := by decide +kernel
theorem d_Gate_emit_11 : decode b_Gate_emit 11 = .ok (.iload_n 1, 1) := by decide +kernel
theorem d_Gate_emit_12 : decode b_Gate_emit 12 = .ok (.aload_n 0, 1) := by decide +kernel
theorem d_Gate_emit_13 : decode b_Gate_emit 13 = .ok (.getfield 21, 3) := by decide +kernel
theorem d_Gate_emit_16 : decode b_Gate_emit 16 = .ok (.getfield 180, 3) := by decide +kernel
theorem d_Gate_emit_19 : decode b_Gate_emit 19 = .ok (.iload_n 1, 1) := by decide +kernel
theorem d_Gate_emit_20 : decode b_Gate_emit 20 = .ok (.laload, 1) := by decide +kernel
theorem d_Gate_emit_21 : decode b_Gate_emit 21 = .ok (.l2i, 1) := by decide +kernel
theorem d_Gate_emit_22 : decode b_Gate_emit 22 = .ok (.iastore, 1) := by decide +kernel
theorem d_Gate_emit_23 : decode b_Gate_emit 23 = .ok (.iinc 1 1, 3) := by decide +kernel
theorem d_Gate_emit_26 : decode b_Gate_emit 26 = .ok (.goto (-24), 3) := by decide +kernel
theorem d_Gate_emit_29 : decode b_Gate_emit 29 = .ok (.aload_n 0, 1) := by decide +kernel
theorem d_Gate_emit_30 : decode b_Gate_emit 30 = .ok (.dup, 1) := by decide +kernel
theorem d_Gate_emit_31 : decode b_Gate_emit 31 = .ok (.getfield 52, 3) := by decide +kernel
theorem d_Gate_emit_34 : decode b_Gate_emit 34 = .ok (.iconst 1, 1) := by decide +kernel
theorem d_Gate_emit_35 : decode b_Gate_emit 35 = .ok (.iadd, 1) := by decide +kernel
theorem d_Gate_emit_36 : decode b_Gate_emit 36 = .ok (.putfield 52, 3) := by decide +kernel
theorem d_Gate_emit_39 : decode b_Gate_emit 39 = .ok (.return_, 1) := by decide +kernel
theorem d_Arrs_fill_i_0 : decode b_Arrs_fill_i 0 = .ok (.iconst 0, 1) := by decide +kernel
theorem d_Arrs_fill_i_1 : decode b_Arrs_fill_i 1 = .ok (.istore_n 2, 1) := by decide +kernel
theorem d_Arrs_fill_i_2 : decode b_Arrs_fill_i 2 = .ok (.aload_n 0, 1) := by decide +kernel
theorem d_Arrs_fill_i_3 : decode b_Arrs_fill_i 3 = .ok (.arraylength, 1) := by decide +kernel
theorem d_Arrs_fill_i_4 : decode b_Arrs_fill_i 4 = .ok (.istore_n 3, 1) := by decide +kernel
theorem d_Arrs_fill_i_5 : decode b_Arrs_fill_i 5 = .ok (.iload_n 2, 1) := by decide +kernel
theorem d_Arrs_fill_i_6 : decode b_Arrs_fill_i 6 = .ok (.iload_n 3, 1) := by decide +kernel
theorem d_Arrs_fill_i_7 : decode b_Arrs_fill_i 7 = .ok (.if_icmp .ge 13, 3) := by decide +kernel
theorem d_Arrs_fill_i_10 : decode b_Arrs_fill_i 10 = .ok (.aload_n 0, 1) := by decide +kernel
theorem d_Arrs_fill_i_11 : decode b_Arrs_fill_i 11 = .ok (.iload_n 2, 1) := by decide +kernel
theorem d_Arrs_fill_i_12 : decode b_Arrs_fill_i 12 = .ok (.iload_n 1, 1) := by decide +kernel
theorem d_Arrs_fill_i_13 : decode b_Arrs_fill_i 13 = .ok (.iastore, 1) := by decide +kernel
theorem d_Arrs_fill_i_14 : decode b_Arrs_fill_i 14 = .ok (.iinc 2 1, 3) := by decide +kernel
theorem d_Arrs_fill_i_17 : decode b_Arrs_fill_i 17 = .ok (.goto (-12), 3) := by decide +kernel
theorem d_Arrs_fill_i_20 : decode b_Arrs_fill_i 20 = .ok (.return_, 1) := by decide +kernel
theorem d_Arrs_fill_l_0 : decode b_Arrs_fill_l 0 = .ok (.iconst 0, 1) := by decide +kernel
theorem d_Arrs_fill_l_1 : decode b_Arrs_fill_l 1 = .ok (.istore_n 3, 1) := by decide +kernel
theorem d_Arrs_fill_l_2 : decode b_Arrs_fill_l 2 = .ok (.aload_n 0, 1) := by decide +kernel
theorem d_Arrs_fill_l_3 : decode b_Arrs_fill_l 3 = .ok (.arraylength, 1) := by decide +kernel
theorem d_Arrs_fill_l_4 : decode b_Arrs_fill_l 4 = .ok (.istore 4, 2) := by decide +kernel
theorem d_Arrs_fill_l_6 : decode b_Arrs_fill_l 6 = .ok (.iload_n 3, 1) := by decide +kernel
theorem d_Arrs_fill_l_7 : decode b_Arrs_fill_l 7 = .ok (.iload 4, 2) := by decide +kernel
theorem d_Arrs_fill_l_9 : decode b_Arrs_fill_l 9 = .ok (.if_icmp .ge 13, 3) := by decide +kernel
theorem d_Arrs_fill_l_12 : decode b_Arrs_fill_l 12 = .ok (.aload_n 0, 1) := by decide +kernel
theorem d_Arrs_fill_l_13 : decode b_Arrs_fill_l 13 = .ok (.iload_n 3, 1) := by decide +kernel
theorem d_Arrs_fill_l_14 : decode b_Arrs_fill_l 14 = .ok (.lload_n 1, 1) := by decide +kernel
theorem d_Arrs_fill_l_15 : decode b_Arrs_fill_l 15 = .ok (.lastore, 1) := by decide +kernel
theorem d_Arrs_fill_l_16 : decode b_Arrs_fill_l 16 = .ok (.iinc 3 1, 3) := by decide +kernel
theorem d_Arrs_fill_l_19 : decode b_Arrs_fill_l 19 = .ok (.goto (-13), 3) := by decide +kernel
theorem d_Arrs_fill_l_22 : decode b_Arrs_fill_l 22 = .ok (.return_, 1) := by decide +kernel
end
section
theorem tw_164 : (Cond.code y_Gate_isBelow b_Gate_isBelow 2 (some .boolean)) ∈ TB_w := List.mem_filter.mpr ⟨List.mem_of_getElem? (i := 164) rfl, by decide +kernel⟩
theorem tw_20 : (Cond.initialized R_Gate) ∈ TB_w := List.mem_filter.mpr ⟨List.mem_of_getElem? (i := 20) (by decide +kernel), by decide +kernel⟩
theorem tw_162 : (Cond.methodLink R_Gate 129 y_Gate_isBelow) ∈ TB_w := List.mem_filter.mpr ⟨List.mem_of_getElem? (i := 162) (by decide +kernel), by decide +kernel⟩
theorem tw_163 : (Cond.static y_Gate_isBelow) ∈ TB_w := List.mem_filter.mpr ⟨List.mem_of_getElem? (i := 163) (by decide +kernel), by decide +kernel⟩
theorem tw_168 : (Cond.constant R_Gate 150 (-2000000000)) ∈ TB_w := List.mem_filter.mpr ⟨List.mem_of_getElem? (i := 168) (by decide +kernel), by decide +kernel⟩
theorem tw_169 : (Cond.constant R_Gate 151 2000000000) ∈ TB_w := List.mem_filter.mpr ⟨List.mem_of_getElem? (i := 169) (by decide +kernel), by decide +kernel⟩
theorem tw_167 : (Cond.code y_Gate_isWithinBound b_Gate_isWithinBound 1 (some .boolean)) ∈ TB_w := List.mem_filter.mpr ⟨List.mem_of_getElem? (i := 167) rfl, by decide +kernel⟩
theorem tw_165 : (Cond.methodLink R_Gate 104 y_Gate_isWithinBound) ∈ TB_w := List.mem_filter.mpr ⟨List.mem_of_getElem? (i := 165) (by decide +kernel), by decide +kernel⟩
theorem tw_166 : (Cond.static y_Gate_isWithinBound) ∈ TB_w := List.mem_filter.mpr ⟨List.mem_of_getElem? (i := 166) (by decide +kernel), by decide +kernel⟩
theorem tw_161 : (Cond.code y_Gate_isPort b_Gate_isPort 1 (some .boolean)) ∈ TB_w := List.mem_filter.mpr ⟨List.mem_of_getElem? (i := 161) rfl, by decide +kernel⟩
theorem tw_159 : (Cond.methodLink R_Gate 100 y_Gate_isPort) ∈ TB_w := List.mem_filter.mpr ⟨List.mem_of_getElem? (i := 159) (by decide +kernel), by decide +kernel⟩
theorem tw_160 : (Cond.static y_Gate_isPort) ∈ TB_w := List.mem_filter.mpr ⟨List.mem_of_getElem? (i := 160) (by decide +kernel), by decide +kernel⟩
set_option maxHeartbeats 4000000 in
set_option maxRecDepth 100000 in
theorem c_Gate_isBelow (l : Launch) (dC : Nat → ClassId) (dI : Nat → Nat → Nat) (cI cL : ClassId) (hs0 : Nat) (x0 : Int32) (e0 : Int32)  : ct_i l y_Gate_isBelow b_Gate_isBelow 2 (some .boolean) ({ frames := 0, cells := 0, slots := 0, locals := 0 }) (dC, dI) cI cL [.int x0, .int e0] [] hs0 (fun (r : Int32) (u : Unit) => r = bl_w x0 e0) (fun u => []) 0 0 := by
  refine st_w (Qc := fun A => va_Qi (fun (r : Int32) (u : Unit) => r = bl_w x0 e0) (fun (u : Unit) t => pos_w (dC, dI) A [] t) A) (by decide) (Nat.le_of_ble_eq_true rfl) ?_
  intro p e s m below meth c A ls hfx hK hA hP hD hS hl
  obtain ⟨hx, hb, hml, hown, htb, hr, hlocks, hin⟩ := hfx
  have hl : lv_has ls 2 [(0, .int x0), (1, .int e0)] := hl
  refine lv_iload_n hx hb d_Gate_isBelow_0 rfl (lv_at hl 0 rfl) ?_
  refine lv_if_lt (tgt := 13) hx hb d_Gate_isBelow_1 (by decide) (fun c_1 => ?_) (fun c_1 => ?_)
  · have c_1 : x0 < 0 := c_1
    refine lv_iconst (v := 0) hx hb d_Gate_isBelow_13 (by decide) ?_
    exact rt_z (v := 0) () hx hb hr hlocks (by decide) (show (0 : Int32) = bl_w x0 e0 from (by simp only [bl_w, if_pos c_1, and_self])) (hP.sub (ws' := []) [] rfl) (hD.sub (ws' := []) [] (by decide) rfl) hS d_Gate_isBelow_14
  · have c_1 : ¬ x0 < 0 := c_1
    refine lv_iload_n hx hb d_Gate_isBelow_4 rfl (lv_at hl 0 rfl) ?_
    refine lv_iload_n hx hb d_Gate_isBelow_5 rfl (lv_at hl 1 rfl) ?_
    refine lv_icmp_ge (tgt := 13) hx hb d_Gate_isBelow_6 (by decide) (fun c_2 => ?_) (fun c_2 => ?_)
    · have c_2 : e0 ≤ x0 := c_2
      refine lv_iconst (v := 0) hx hb d_Gate_isBelow_13 (by decide) ?_
      exact rt_z (v := 0) () hx hb hr hlocks (by decide) (show (0 : Int32) = bl_w x0 e0 from (by simp only [bl_w, if_neg c_1, if_pos c_2, and_self])) (hP.sub (ws' := []) [] rfl) (hD.sub (ws' := []) [] (by decide) rfl) hS d_Gate_isBelow_14
    · have c_2 : ¬ e0 ≤ x0 := c_2
      refine lv_iconst (v := 1) hx hb d_Gate_isBelow_9 (by decide) ?_
      refine lv_goto (tgt := 14) hx hb d_Gate_isBelow_10 (by decide) ?_
      exact rt_z (v := 1) () hx hb hr hlocks (by decide) (show (1 : Int32) = bl_w x0 e0 from (by simp only [bl_w, if_neg c_1, if_neg c_2, and_self])) (hP.sub (ws' := []) [] rfl) (hD.sub (ws' := []) [] (by decide) rfl) hS d_Gate_isBelow_14

set_option maxHeartbeats 4000000 in
set_option maxRecDepth 100000 in
theorem c_Gate_isPort (l : Launch) (dC : Nat → ClassId) (dI : Nat → Nat → Nat) (cI cL : ClassId) (hs0 : Nat) (x0 : Int32)  : ct_i l y_Gate_isPort b_Gate_isPort 1 (some .boolean) ({ frames := 1, cells := 0, slots := 0, locals := 40 }) (dC, dI) cI cL [.int x0] [] hs0 (fun (r : Int32) (u : Unit) => r = bl_w x0 4) (fun u => []) 0 0 := by
  refine st_w (Qc := fun A => va_Qi (fun (r : Int32) (u : Unit) => r = bl_w x0 4) (fun (u : Unit) t => pos_w (dC, dI) A [] t) A) (by decide) (Nat.le_of_ble_eq_true rfl) ?_
  intro p e s m below meth c A ls hfx hK hA hP hD hS hl
  obtain ⟨hx, hb, hml, hown, htb, hr, hlocks, hin⟩ := hfx
  have hl : lv_has ls 1 [(0, .int x0)] := hl
  refine lv_iload_n hx hb d_Gate_isPort_0 rfl (lv_at hl 0 rfl) ?_
  refine lv_iconst (v := 4) hx hb d_Gate_isPort_1 (by decide) ?_
  refine af_i (wr := []) (va_runS (As := [.int x0, .int 4]) (rest := []) ⟨hx, hb, hml, hown, htb⟩ (c_Gate_isBelow l dC dI cI cL s.heap.size x0 4 ) ⟨callB_of 2 htb (gd_w tw_164) rfl rfl rfl (htb _ tw_20) (htb _ tw_162) (by decide +kernel) ⟨Nat.le_of_ble_eq_true rfl, Nat.le_of_ble_eq_true rfl⟩, htb _ tw_163⟩ (pv_S hK (hP.sub (ws' := []) [] rfl) (hD.sub (ws' := []) [] (by decide) rfl)) rfl rfl hl.1 rfl (lv_room (Nat.le_of_ble_eq_true rfl)) d_Gate_isPort_2 ⟨Nat.le_of_ble_eq_true rfl, Nat.le_of_ble_eq_true rfl⟩) hP hD hS hA [] [] rfl rfl (by decide) (by decide) (fun r_1 u_2 H locs hw hP hD hS => ?_)
  try dsimp only at hw
  subst hw
  have hP : va_P (dC, dI) classes [] H := hP
  have hD : va_D A [] := hD
  exact rt_z (v := bl_w x0 4) () hx hb hr hlocks (by first | decide | exact bl_01 _ _ | exact wb_01 _) (show (bl_w x0 4) = bl_w x0 4 from (by simp only [and_self])) (hP.sub (ws' := []) [] rfl) (hD.sub (ws' := []) [] (by decide) rfl) hS d_Gate_isPort_5

set_option maxHeartbeats 4000000 in
set_option maxRecDepth 100000 in
theorem c_Gate_isCopy (l : Launch) (dC : Nat → ClassId) (dI : Nat → Nat → Nat) (cI cL : ClassId) (hs0 : Nat) (x0 : Int32)  : ct_i l y_Gate_isCopy b_Gate_isCopy 1 (some .boolean) ({ frames := 1, cells := 0, slots := 0, locals := 40 }) (dC, dI) cI cL [.int x0] [] hs0 (fun (r : Int32) (u : Unit) => r = bl_w x0 2) (fun u => []) 0 0 := by
  refine st_w (Qc := fun A => va_Qi (fun (r : Int32) (u : Unit) => r = bl_w x0 2) (fun (u : Unit) t => pos_w (dC, dI) A [] t) A) (by decide) (Nat.le_of_ble_eq_true rfl) ?_
  intro p e s m below meth c A ls hfx hK hA hP hD hS hl
  obtain ⟨hx, hb, hml, hown, htb, hr, hlocks, hin⟩ := hfx
  have hl : lv_has ls 1 [(0, .int x0)] := hl
  refine lv_iload_n hx hb d_Gate_isCopy_0 rfl (lv_at hl 0 rfl) ?_
  refine lv_iconst (v := 2) hx hb d_Gate_isCopy_1 (by decide) ?_
  refine af_i (wr := []) (va_runS (As := [.int x0, .int 2]) (rest := []) ⟨hx, hb, hml, hown, htb⟩ (c_Gate_isBelow l dC dI cI cL s.heap.size x0 2 ) ⟨callB_of 2 htb (gd_w tw_164) rfl rfl rfl (htb _ tw_20) (htb _ tw_162) (by decide +kernel) ⟨Nat.le_of_ble_eq_true rfl, Nat.le_of_ble_eq_true rfl⟩, htb _ tw_163⟩ (pv_S hK (hP.sub (ws' := []) [] rfl) (hD.sub (ws' := []) [] (by decide) rfl)) rfl rfl hl.1 rfl (lv_room (Nat.le_of_ble_eq_true rfl)) d_Gate_isCopy_2 ⟨Nat.le_of_ble_eq_true rfl, Nat.le_of_ble_eq_true rfl⟩) hP hD hS hA [] [] rfl rfl (by decide) (by decide) (fun r_1 u_2 H locs hw hP hD hS => ?_)
  try dsimp only at hw
  subst hw
  have hP : va_P (dC, dI) classes [] H := hP
  have hD : va_D A [] := hD
  exact rt_z (v := bl_w x0 2) () hx hb hr hlocks (by first | decide | exact bl_01 _ _ | exact wb_01 _) (show (bl_w x0 2) = bl_w x0 2 from (by simp only [and_self])) (hP.sub (ws' := []) [] rfl) (hD.sub (ws' := []) [] (by decide) rfl) hS d_Gate_isCopy_5

set_option maxHeartbeats 4000000 in
set_option maxRecDepth 100000 in
theorem c_Gate_isInRow (l : Launch) (dC : Nat → ClassId) (dI : Nat → Nat → Nat) (cI cL : ClassId) (hs0 : Nat) (x0 : Int32)  : ct_i l y_Gate_isInRow b_Gate_isInRow 1 (some .boolean) ({ frames := 1, cells := 0, slots := 0, locals := 40 }) (dC, dI) cI cL [.int x0] [] hs0 (fun (r : Int32) (u : Unit) => r = bl_w x0 18) (fun u => []) 0 0 := by
  refine st_w (Qc := fun A => va_Qi (fun (r : Int32) (u : Unit) => r = bl_w x0 18) (fun (u : Unit) t => pos_w (dC, dI) A [] t) A) (by decide) (Nat.le_of_ble_eq_true rfl) ?_
  intro p e s m below meth c A ls hfx hK hA hP hD hS hl
  obtain ⟨hx, hb, hml, hown, htb, hr, hlocks, hin⟩ := hfx
  have hl : lv_has ls 1 [(0, .int x0)] := hl
  refine lv_iload_n hx hb d_Gate_isInRow_0 rfl (lv_at hl 0 rfl) ?_
  refine lv_bipush (v := 18) hx hb d_Gate_isInRow_1 (by decide) ?_
  refine af_i (wr := []) (va_runS (As := [.int x0, .int 18]) (rest := []) ⟨hx, hb, hml, hown, htb⟩ (c_Gate_isBelow l dC dI cI cL s.heap.size x0 18 ) ⟨callB_of 2 htb (gd_w tw_164) rfl rfl rfl (htb _ tw_20) (htb _ tw_162) (by decide +kernel) ⟨Nat.le_of_ble_eq_true rfl, Nat.le_of_ble_eq_true rfl⟩, htb _ tw_163⟩ (pv_S hK (hP.sub (ws' := []) [] rfl) (hD.sub (ws' := []) [] (by decide) rfl)) rfl rfl hl.1 rfl (lv_room (Nat.le_of_ble_eq_true rfl)) d_Gate_isInRow_3 ⟨Nat.le_of_ble_eq_true rfl, Nat.le_of_ble_eq_true rfl⟩) hP hD hS hA [] [] rfl rfl (by decide) (by decide) (fun r_1 u_2 H locs hw hP hD hS => ?_)
  try dsimp only at hw
  subst hw
  have hP : va_P (dC, dI) classes [] H := hP
  have hD : va_D A [] := hD
  exact rt_z (v := bl_w x0 18) () hx hb hr hlocks (by first | decide | exact bl_01 _ _ | exact wb_01 _) (show (bl_w x0 18) = bl_w x0 18 from (by simp only [and_self])) (hP.sub (ws' := []) [] rfl) (hD.sub (ws' := []) [] (by decide) rfl) hS d_Gate_isInRow_6

set_option maxHeartbeats 4000000 in
set_option maxRecDepth 100000 in
theorem c_Gate_isWithinBound (l : Launch) (dC : Nat → ClassId) (dI : Nat → Nat → Nat) (cI cL : ClassId) (hs0 : Nat) (x0 : Int32)  : ct_i l y_Gate_isWithinBound b_Gate_isWithinBound 1 (some .boolean) ({ frames := 0, cells := 0, slots := 0, locals := 0 }) (dC, dI) cI cL [.int x0] [] hs0 (fun (r : Int32) (u : Unit) => r = wb_w x0) (fun u => []) 0 0 := by
  refine st_w (Qc := fun A => va_Qi (fun (r : Int32) (u : Unit) => r = wb_w x0) (fun (u : Unit) t => pos_w (dC, dI) A [] t) A) (by decide) (Nat.le_of_ble_eq_true rfl) ?_
  intro p e s m below meth c A ls hfx hK hA hP hD hS hl
  obtain ⟨hx, hb, hml, hown, htb, hr, hlocks, hin⟩ := hfx
  have hl : lv_has ls 1 [(0, .int x0)] := hl
  refine lv_iload_n hx hb d_Gate_isWithinBound_0 rfl (lv_at hl 0 rfl) ?_
  refine lv_ldc (v := (-2000000000)) hx hb hown (htb _ tw_168) d_Gate_isWithinBound_1 ?_
  refine lv_icmp_lt (tgt := 16) hx hb d_Gate_isWithinBound_3 (by decide) (fun c_1 => ?_) (fun c_1 => ?_)
  · have c_1 : x0 < (-2000000000) := c_1
    refine lv_iconst (v := 0) hx hb d_Gate_isWithinBound_16 (by decide) ?_
    exact rt_z (v := 0) () hx hb hr hlocks (by decide) (show (0 : Int32) = wb_w x0 from (by simp only [wb_w, if_pos c_1, and_self])) (hP.sub (ws' := []) [] rfl) (hD.sub (ws' := []) [] (by decide) rfl) hS d_Gate_isWithinBound_17
  · have c_1 : ¬ x0 < (-2000000000) := c_1
    refine lv_iload_n hx hb d_Gate_isWithinBound_6 rfl (lv_at hl 0 rfl) ?_
    refine lv_ldc (v := 2000000000) hx hb hown (htb _ tw_169) d_Gate_isWithinBound_7 ?_
    refine lv_icmp_gt (tgt := 16) hx hb d_Gate_isWithinBound_9 (by decide) (fun c_2 => ?_) (fun c_2 => ?_)
    · have c_2 : 2000000000 < x0 := c_2
      refine lv_iconst (v := 0) hx hb d_Gate_isWithinBound_16 (by decide) ?_
      exact rt_z (v := 0) () hx hb hr hlocks (by decide) (show (0 : Int32) = wb_w x0 from (by simp only [wb_w, if_neg c_1, if_pos c_2, and_self])) (hP.sub (ws' := []) [] rfl) (hD.sub (ws' := []) [] (by decide) rfl) hS d_Gate_isWithinBound_17
    · have c_2 : ¬ 2000000000 < x0 := c_2
      refine lv_iconst (v := 1) hx hb d_Gate_isWithinBound_12 (by decide) ?_
      refine lv_goto (tgt := 17) hx hb d_Gate_isWithinBound_13 (by decide) ?_
      exact rt_z (v := 1) () hx hb hr hlocks (by decide) (show (1 : Int32) = wb_w x0 from (by simp only [wb_w, if_neg c_1, if_neg c_2, and_self])) (hP.sub (ws' := []) [] rfl) (hD.sub (ws' := []) [] (by decide) rfl) hS d_Gate_isWithinBound_17

set_option maxHeartbeats 4000000 in
set_option maxRecDepth 100000 in
theorem c_Gate_isInstruction (l : Launch) (dC : Nat → ClassId) (dI : Nat → Nat → Nat) (cI cL : ClassId) (hs0 : Nat) (o0 : Int32) (n0 : Int32)  : ct_i l y_Gate_isInstruction b_Gate_isInstruction 2 (some .boolean) ({ frames := 2, cells := 0, slots := 0, locals := 80 }) (dC, dI) cI cL [.int o0, .int n0] [] hs0 (fun (r : Int32) (u : Unit) => r = ii_w o0 n0) (fun u => []) 0 0 := by
  refine st_w (Qc := fun A => va_Qi (fun (r : Int32) (u : Unit) => r = ii_w o0 n0) (fun (u : Unit) t => pos_w (dC, dI) A [] t) A) (by decide) (Nat.le_of_ble_eq_true rfl) ?_
  intro p e s m below meth c A ls hfx hK hA hP hD hS hl
  obtain ⟨hx, hb, hml, hown, htb, hr, hlocks, hin⟩ := hfx
  have hl : lv_has ls 2 [(0, .int o0), (1, .int n0)] := hl
  refine lv_iload_n hx hb d_Gate_isInstruction_0 rfl (lv_at hl 0 rfl) ?_
  by_cases c_1 : o0 = 0
  · refine lv_tableIn (tgt := 80) hx hb d_Gate_isInstruction_1 (by rw [c_1]; decide) (by rw [c_1]; decide) (by rw [c_1]; rfl) (by decide) ?_
    refine lv_iload_n hx hb d_Gate_isInstruction_80 rfl (lv_at hl 1 rfl) ?_
    refine af_i (wr := []) (va_runS (As := [.int n0]) (rest := []) ⟨hx, hb, hml, hown, htb⟩ (c_Gate_isWithinBound l dC dI cI cL s.heap.size n0 ) ⟨callB_of 1 htb (gd_w tw_167) rfl rfl rfl (htb _ tw_20) (htb _ tw_165) (by decide +kernel) ⟨Nat.le_of_ble_eq_true rfl, Nat.le_of_ble_eq_true rfl⟩, htb _ tw_166⟩ (pv_S hK (hP.sub (ws' := []) [] rfl) (hD.sub (ws' := []) [] (by decide) rfl)) rfl rfl hl.1 rfl (lv_room (Nat.le_of_ble_eq_true rfl)) d_Gate_isInstruction_81 ⟨Nat.le_of_ble_eq_true rfl, Nat.le_of_ble_eq_true rfl⟩) hP hD hS hA [] [] rfl rfl (by decide) (by decide) (fun r_2 u_3 H locs hw hP hD hS => ?_)
    try dsimp only at hw
    subst hw
    have hP : va_P (dC, dI) classes [] H := hP
    have hD : va_D A [] := hD
    exact rt_z (v := wb_w n0) () hx hb hr hlocks (by first | decide | exact bl_01 _ _ | exact wb_01 _) (show (wb_w n0) = ii_w o0 n0 from (by simp only [ii_w, if_pos c_1, and_self])) (hP.sub (ws' := []) [] rfl) (hD.sub (ws' := []) [] (by decide) rfl) hS d_Gate_isInstruction_84
  by_cases c_4 : o0 = 1
  · refine lv_tableIn (tgt := 85) hx hb d_Gate_isInstruction_1 (by rw [c_4]; decide) (by rw [c_4]; decide) (by rw [c_4]; rfl) (by decide) ?_
    refine lv_iload_n hx hb d_Gate_isInstruction_85 rfl (lv_at hl 1 rfl) ?_
    refine lv_bipush (v := 16) hx hb d_Gate_isInstruction_86 (by decide) ?_
    refine af_i (wr := []) (va_runS (As := [.int n0, .int 16]) (rest := []) ⟨hx, hb, hml, hown, htb⟩ (c_Gate_isBelow l dC dI cI cL s.heap.size n0 16 ) ⟨callB_of 2 htb (gd_w tw_164) rfl rfl rfl (htb _ tw_20) (htb _ tw_162) (by decide +kernel) ⟨Nat.le_of_ble_eq_true rfl, Nat.le_of_ble_eq_true rfl⟩, htb _ tw_163⟩ (pv_S hK (hP.sub (ws' := []) [] rfl) (hD.sub (ws' := []) [] (by decide) rfl)) rfl rfl hl.1 rfl (lv_room (Nat.le_of_ble_eq_true rfl)) d_Gate_isInstruction_88 ⟨Nat.le_of_ble_eq_true rfl, Nat.le_of_ble_eq_true rfl⟩) hP hD hS hA [] [] rfl rfl (by decide) (by decide) (fun r_5 u_6 H locs hw hP hD hS => ?_)
    try dsimp only at hw
    subst hw
    have hP : va_P (dC, dI) classes [] H := hP
    have hD : va_D A [] := hD
    exact rt_z (v := bl_w n0 16) () hx hb hr hlocks (by first | decide | exact bl_01 _ _ | exact wb_01 _) (show (bl_w n0 16) = ii_w o0 n0 from (by simp only [ii_w, if_neg c_1, if_pos c_4, and_self])) (hP.sub (ws' := []) [] rfl) (hD.sub (ws' := []) [] (by decide) rfl) hS d_Gate_isInstruction_91
  by_cases c_7 : o0 = 2
  · refine lv_tableIn (tgt := 85) hx hb d_Gate_isInstruction_1 (by rw [c_7]; decide) (by rw [c_7]; decide) (by rw [c_7]; rfl) (by decide) ?_
    refine lv_iload_n hx hb d_Gate_isInstruction_85 rfl (lv_at hl 1 rfl) ?_
    refine lv_bipush (v := 16) hx hb d_Gate_isInstruction_86 (by decide) ?_
    refine af_i (wr := []) (va_runS (As := [.int n0, .int 16]) (rest := []) ⟨hx, hb, hml, hown, htb⟩ (c_Gate_isBelow l dC dI cI cL s.heap.size n0 16 ) ⟨callB_of 2 htb (gd_w tw_164) rfl rfl rfl (htb _ tw_20) (htb _ tw_162) (by decide +kernel) ⟨Nat.le_of_ble_eq_true rfl, Nat.le_of_ble_eq_true rfl⟩, htb _ tw_163⟩ (pv_S hK (hP.sub (ws' := []) [] rfl) (hD.sub (ws' := []) [] (by decide) rfl)) rfl rfl hl.1 rfl (lv_room (Nat.le_of_ble_eq_true rfl)) d_Gate_isInstruction_88 ⟨Nat.le_of_ble_eq_true rfl, Nat.le_of_ble_eq_true rfl⟩) hP hD hS hA [] [] rfl rfl (by decide) (by decide) (fun r_8 u_9 H locs hw hP hD hS => ?_)
    try dsimp only at hw
    subst hw
    have hP : va_P (dC, dI) classes [] H := hP
    have hD : va_D A [] := hD
    exact rt_z (v := bl_w n0 16) () hx hb hr hlocks (by first | decide | exact bl_01 _ _ | exact wb_01 _) (show (bl_w n0 16) = ii_w o0 n0 from (by simp only [ii_w, if_neg c_1, if_neg c_4, if_pos c_7, and_self])) (hP.sub (ws' := []) [] rfl) (hD.sub (ws' := []) [] (by decide) rfl) hS d_Gate_isInstruction_91
  by_cases c_10 : o0 = 3
  · refine lv_tableIn (tgt := 104) hx hb d_Gate_isInstruction_1 (by rw [c_10]; decide) (by rw [c_10]; decide) (by rw [c_10]; rfl) (by decide) ?_
    refine lv_iconst (v := 1) hx hb d_Gate_isInstruction_104 (by decide) ?_
    exact rt_z (v := 1) () hx hb hr hlocks (by first | decide | exact bl_01 _ _ | exact wb_01 _) (show (1 : Int32) = ii_w o0 n0 from (by simp only [ii_w, if_neg c_1, if_neg c_4, if_neg c_7, if_pos c_10, and_self])) (hP.sub (ws' := []) [] rfl) (hD.sub (ws' := []) [] (by decide) rfl) hS d_Gate_isInstruction_105
  by_cases c_11 : o0 = 4
  · refine lv_tableIn (tgt := 104) hx hb d_Gate_isInstruction_1 (by rw [c_11]; decide) (by rw [c_11]; decide) (by rw [c_11]; rfl) (by decide) ?_
    refine lv_iconst (v := 1) hx hb d_Gate_isInstruction_104 (by decide) ?_
    exact rt_z (v := 1) () hx hb hr hlocks (by first | decide | exact bl_01 _ _ | exact wb_01 _) (show (1 : Int32) = ii_w o0 n0 from (by simp only [ii_w, if_neg c_1, if_neg c_4, if_neg c_7, if_neg c_10, if_pos c_11, and_self])) (hP.sub (ws' := []) [] rfl) (hD.sub (ws' := []) [] (by decide) rfl) hS d_Gate_isInstruction_105
  by_cases c_12 : o0 = 5
  · refine lv_tableIn (tgt := 104) hx hb d_Gate_isInstruction_1 (by rw [c_12]; decide) (by rw [c_12]; decide) (by rw [c_12]; rfl) (by decide) ?_
    refine lv_iconst (v := 1) hx hb d_Gate_isInstruction_104 (by decide) ?_
    exact rt_z (v := 1) () hx hb hr hlocks (by first | decide | exact bl_01 _ _ | exact wb_01 _) (show (1 : Int32) = ii_w o0 n0 from (by simp only [ii_w, if_neg c_1, if_neg c_4, if_neg c_7, if_neg c_10, if_neg c_11, if_pos c_12, and_self])) (hP.sub (ws' := []) [] rfl) (hD.sub (ws' := []) [] (by decide) rfl) hS d_Gate_isInstruction_105
  by_cases c_13 : o0 = 6
  · refine lv_tableIn (tgt := 104) hx hb d_Gate_isInstruction_1 (by rw [c_13]; decide) (by rw [c_13]; decide) (by rw [c_13]; rfl) (by decide) ?_
    refine lv_iconst (v := 1) hx hb d_Gate_isInstruction_104 (by decide) ?_
    exact rt_z (v := 1) () hx hb hr hlocks (by first | decide | exact bl_01 _ _ | exact wb_01 _) (show (1 : Int32) = ii_w o0 n0 from (by simp only [ii_w, if_neg c_1, if_neg c_4, if_neg c_7, if_neg c_10, if_neg c_11, if_neg c_12, if_pos c_13, and_self])) (hP.sub (ws' := []) [] rfl) (hD.sub (ws' := []) [] (by decide) rfl) hS d_Gate_isInstruction_105
  by_cases c_14 : o0 = 7
  · refine lv_tableIn (tgt := 104) hx hb d_Gate_isInstruction_1 (by rw [c_14]; decide) (by rw [c_14]; decide) (by rw [c_14]; rfl) (by decide) ?_
    refine lv_iconst (v := 1) hx hb d_Gate_isInstruction_104 (by decide) ?_
    exact rt_z (v := 1) () hx hb hr hlocks (by first | decide | exact bl_01 _ _ | exact wb_01 _) (show (1 : Int32) = ii_w o0 n0 from (by simp only [ii_w, if_neg c_1, if_neg c_4, if_neg c_7, if_neg c_10, if_neg c_11, if_neg c_12, if_neg c_13, if_pos c_14, and_self])) (hP.sub (ws' := []) [] rfl) (hD.sub (ws' := []) [] (by decide) rfl) hS d_Gate_isInstruction_105
  by_cases c_15 : o0 = 8
  · refine lv_tableIn (tgt := 104) hx hb d_Gate_isInstruction_1 (by rw [c_15]; decide) (by rw [c_15]; decide) (by rw [c_15]; rfl) (by decide) ?_
    refine lv_iconst (v := 1) hx hb d_Gate_isInstruction_104 (by decide) ?_
    exact rt_z (v := 1) () hx hb hr hlocks (by first | decide | exact bl_01 _ _ | exact wb_01 _) (show (1 : Int32) = ii_w o0 n0 from (by simp only [ii_w, if_neg c_1, if_neg c_4, if_neg c_7, if_neg c_10, if_neg c_11, if_neg c_12, if_neg c_13, if_neg c_14, if_pos c_15, and_self])) (hP.sub (ws' := []) [] rfl) (hD.sub (ws' := []) [] (by decide) rfl) hS d_Gate_isInstruction_105
  by_cases c_16 : o0 = 9
  · refine lv_tableIn (tgt := 104) hx hb d_Gate_isInstruction_1 (by rw [c_16]; decide) (by rw [c_16]; decide) (by rw [c_16]; rfl) (by decide) ?_
    refine lv_iconst (v := 1) hx hb d_Gate_isInstruction_104 (by decide) ?_
    exact rt_z (v := 1) () hx hb hr hlocks (by first | decide | exact bl_01 _ _ | exact wb_01 _) (show (1 : Int32) = ii_w o0 n0 from (by simp only [ii_w, if_neg c_1, if_neg c_4, if_neg c_7, if_neg c_10, if_neg c_11, if_neg c_12, if_neg c_13, if_neg c_14, if_neg c_15, if_pos c_16, and_self])) (hP.sub (ws' := []) [] rfl) (hD.sub (ws' := []) [] (by decide) rfl) hS d_Gate_isInstruction_105
  by_cases c_17 : o0 = 10
  · refine lv_tableIn (tgt := 92) hx hb d_Gate_isInstruction_1 (by rw [c_17]; decide) (by rw [c_17]; decide) (by rw [c_17]; rfl) (by decide) ?_
    refine lv_iload_n hx hb d_Gate_isInstruction_92 rfl (lv_at hl 1 rfl) ?_
    refine lv_bipush (v := 100) hx hb d_Gate_isInstruction_93 (by decide) ?_
    refine af_i (wr := []) (va_runS (As := [.int n0, .int 100]) (rest := []) ⟨hx, hb, hml, hown, htb⟩ (c_Gate_isBelow l dC dI cI cL s.heap.size n0 100 ) ⟨callB_of 2 htb (gd_w tw_164) rfl rfl rfl (htb _ tw_20) (htb _ tw_162) (by decide +kernel) ⟨Nat.le_of_ble_eq_true rfl, Nat.le_of_ble_eq_true rfl⟩, htb _ tw_163⟩ (pv_S hK (hP.sub (ws' := []) [] rfl) (hD.sub (ws' := []) [] (by decide) rfl)) rfl rfl hl.1 rfl (lv_room (Nat.le_of_ble_eq_true rfl)) d_Gate_isInstruction_95 ⟨Nat.le_of_ble_eq_true rfl, Nat.le_of_ble_eq_true rfl⟩) hP hD hS hA [] [] rfl rfl (by decide) (by decide) (fun r_18 u_19 H locs hw hP hD hS => ?_)
    try dsimp only at hw
    subst hw
    have hP : va_P (dC, dI) classes [] H := hP
    have hD : va_D A [] := hD
    exact rt_z (v := bl_w n0 100) () hx hb hr hlocks (by first | decide | exact bl_01 _ _ | exact wb_01 _) (show (bl_w n0 100) = ii_w o0 n0 from (by simp only [ii_w, if_neg c_1, if_neg c_4, if_neg c_7, if_neg c_10, if_neg c_11, if_neg c_12, if_neg c_13, if_neg c_14, if_neg c_15, if_neg c_16, if_pos c_17, and_self])) (hP.sub (ws' := []) [] rfl) (hD.sub (ws' := []) [] (by decide) rfl) hS d_Gate_isInstruction_98
  by_cases c_20 : o0 = 11
  · refine lv_tableIn (tgt := 92) hx hb d_Gate_isInstruction_1 (by rw [c_20]; decide) (by rw [c_20]; decide) (by rw [c_20]; rfl) (by decide) ?_
    refine lv_iload_n hx hb d_Gate_isInstruction_92 rfl (lv_at hl 1 rfl) ?_
    refine lv_bipush (v := 100) hx hb d_Gate_isInstruction_93 (by decide) ?_
    refine af_i (wr := []) (va_runS (As := [.int n0, .int 100]) (rest := []) ⟨hx, hb, hml, hown, htb⟩ (c_Gate_isBelow l dC dI cI cL s.heap.size n0 100 ) ⟨callB_of 2 htb (gd_w tw_164) rfl rfl rfl (htb _ tw_20) (htb _ tw_162) (by decide +kernel) ⟨Nat.le_of_ble_eq_true rfl, Nat.le_of_ble_eq_true rfl⟩, htb _ tw_163⟩ (pv_S hK (hP.sub (ws' := []) [] rfl) (hD.sub (ws' := []) [] (by decide) rfl)) rfl rfl hl.1 rfl (lv_room (Nat.le_of_ble_eq_true rfl)) d_Gate_isInstruction_95 ⟨Nat.le_of_ble_eq_true rfl, Nat.le_of_ble_eq_true rfl⟩) hP hD hS hA [] [] rfl rfl (by decide) (by decide) (fun r_21 u_22 H locs hw hP hD hS => ?_)
    try dsimp only at hw
    subst hw
    have hP : va_P (dC, dI) classes [] H := hP
    have hD : va_D A [] := hD
    exact rt_z (v := bl_w n0 100) () hx hb hr hlocks (by first | decide | exact bl_01 _ _ | exact wb_01 _) (show (bl_w n0 100) = ii_w o0 n0 from (by simp only [ii_w, if_neg c_1, if_neg c_4, if_neg c_7, if_neg c_10, if_neg c_11, if_neg c_12, if_neg c_13, if_neg c_14, if_neg c_15, if_neg c_16, if_neg c_17, if_pos c_20, and_self])) (hP.sub (ws' := []) [] rfl) (hD.sub (ws' := []) [] (by decide) rfl) hS d_Gate_isInstruction_98
  by_cases c_23 : o0 = 12
  · refine lv_tableIn (tgt := 99) hx hb d_Gate_isInstruction_1 (by rw [c_23]; decide) (by rw [c_23]; decide) (by rw [c_23]; rfl) (by decide) ?_
    refine lv_iload_n hx hb d_Gate_isInstruction_99 rfl (lv_at hl 1 rfl) ?_
    refine af_i (wr := []) (va_runS (As := [.int n0]) (rest := []) ⟨hx, hb, hml, hown, htb⟩ (c_Gate_isPort l dC dI cI cL s.heap.size n0 ) ⟨callB_of 1 htb (gd_w tw_161) rfl rfl rfl (htb _ tw_20) (htb _ tw_159) (by decide +kernel) ⟨Nat.le_of_ble_eq_true rfl, Nat.le_of_ble_eq_true rfl⟩, htb _ tw_160⟩ (pv_S hK (hP.sub (ws' := []) [] rfl) (hD.sub (ws' := []) [] (by decide) rfl)) rfl rfl hl.1 rfl (lv_room (Nat.le_of_ble_eq_true rfl)) d_Gate_isInstruction_100 ⟨Nat.le_of_ble_eq_true rfl, Nat.le_of_ble_eq_true rfl⟩) hP hD hS hA [] [] rfl rfl (by decide) (by decide) (fun r_24 u_25 H locs hw hP hD hS => ?_)
    try dsimp only at hw
    subst hw
    have hP : va_P (dC, dI) classes [] H := hP
    have hD : va_D A [] := hD
    exact rt_z (v := bl_w n0 4) () hx hb hr hlocks (by first | decide | exact bl_01 _ _ | exact wb_01 _) (show (bl_w n0 4) = ii_w o0 n0 from (by simp only [ii_w, if_neg c_1, if_neg c_4, if_neg c_7, if_neg c_10, if_neg c_11, if_neg c_12, if_neg c_13, if_neg c_14, if_neg c_15, if_neg c_16, if_neg c_17, if_neg c_20, if_pos c_23, and_self])) (hP.sub (ws' := []) [] rfl) (hD.sub (ws' := []) [] (by decide) rfl) hS d_Gate_isInstruction_103
  by_cases c_26 : o0 = 13
  · refine lv_tableIn (tgt := 99) hx hb d_Gate_isInstruction_1 (by rw [c_26]; decide) (by rw [c_26]; decide) (by rw [c_26]; rfl) (by decide) ?_
    refine lv_iload_n hx hb d_Gate_isInstruction_99 rfl (lv_at hl 1 rfl) ?_
    refine af_i (wr := []) (va_runS (As := [.int n0]) (rest := []) ⟨hx, hb, hml, hown, htb⟩ (c_Gate_isPort l dC dI cI cL s.heap.size n0 ) ⟨callB_of 1 htb (gd_w tw_161) rfl rfl rfl (htb _ tw_20) (htb _ tw_159) (by decide +kernel) ⟨Nat.le_of_ble_eq_true rfl, Nat.le_of_ble_eq_true rfl⟩, htb _ tw_160⟩ (pv_S hK (hP.sub (ws' := []) [] rfl) (hD.sub (ws' := []) [] (by decide) rfl)) rfl rfl hl.1 rfl (lv_room (Nat.le_of_ble_eq_true rfl)) d_Gate_isInstruction_100 ⟨Nat.le_of_ble_eq_true rfl, Nat.le_of_ble_eq_true rfl⟩) hP hD hS hA [] [] rfl rfl (by decide) (by decide) (fun r_27 u_28 H locs hw hP hD hS => ?_)
    try dsimp only at hw
    subst hw
    have hP : va_P (dC, dI) classes [] H := hP
    have hD : va_D A [] := hD
    exact rt_z (v := bl_w n0 4) () hx hb hr hlocks (by first | decide | exact bl_01 _ _ | exact wb_01 _) (show (bl_w n0 4) = ii_w o0 n0 from (by simp only [ii_w, if_neg c_1, if_neg c_4, if_neg c_7, if_neg c_10, if_neg c_11, if_neg c_12, if_neg c_13, if_neg c_14, if_neg c_15, if_neg c_16, if_neg c_17, if_neg c_20, if_neg c_23, if_pos c_26, and_self])) (hP.sub (ws' := []) [] rfl) (hD.sub (ws' := []) [] (by decide) rfl) hS d_Gate_isInstruction_103
  by_cases c_29 : o0 = 14
  · refine lv_tableIn (tgt := 104) hx hb d_Gate_isInstruction_1 (by rw [c_29]; decide) (by rw [c_29]; decide) (by rw [c_29]; rfl) (by decide) ?_
    refine lv_iconst (v := 1) hx hb d_Gate_isInstruction_104 (by decide) ?_
    exact rt_z (v := 1) () hx hb hr hlocks (by first | decide | exact bl_01 _ _ | exact wb_01 _) (show (1 : Int32) = ii_w o0 n0 from (by simp only [ii_w, if_neg c_1, if_neg c_4, if_neg c_7, if_neg c_10, if_neg c_11, if_neg c_12, if_neg c_13, if_neg c_14, if_neg c_15, if_neg c_16, if_neg c_17, if_neg c_20, if_neg c_23, if_neg c_26, if_pos c_29, and_self])) (hP.sub (ws' := []) [] rfl) (hD.sub (ws' := []) [] (by decide) rfl) hS d_Gate_isInstruction_105
  by_cases c_30 : o0 = 15
  · refine lv_tableIn (tgt := 104) hx hb d_Gate_isInstruction_1 (by rw [c_30]; decide) (by rw [c_30]; decide) (by rw [c_30]; rfl) (by decide) ?_
    refine lv_iconst (v := 1) hx hb d_Gate_isInstruction_104 (by decide) ?_
    exact rt_z (v := 1) () hx hb hr hlocks (by first | decide | exact bl_01 _ _ | exact wb_01 _) (show (1 : Int32) = ii_w o0 n0 from (by simp only [ii_w, if_neg c_1, if_neg c_4, if_neg c_7, if_neg c_10, if_neg c_11, if_neg c_12, if_neg c_13, if_neg c_14, if_neg c_15, if_neg c_16, if_neg c_17, if_neg c_20, if_neg c_23, if_neg c_26, if_neg c_29, if_pos c_30, and_self])) (hP.sub (ws' := []) [] rfl) (hD.sub (ws' := []) [] (by decide) rfl) hS d_Gate_isInstruction_105
  refine lv_tableE (tgt := 106) hx hb d_Gate_isInstruction_1 (by decide) (fun j hj he => by have q_0 := lv_neT c_1 (a := 0) (by decide); have q_1 := lv_neT c_4 (a := 1) (by decide); have q_2 := lv_neT c_7 (a := 2) (by decide); have q_3 := lv_neT c_10 (a := 3) (by decide); have q_4 := lv_neT c_11 (a := 4) (by decide); have q_5 := lv_neT c_12 (a := 5) (by decide); have q_6 := lv_neT c_13 (a := 6) (by decide); have q_7 := lv_neT c_14 (a := 7) (by decide); have q_8 := lv_neT c_15 (a := 8) (by decide); have q_9 := lv_neT c_16 (a := 9) (by decide); have q_10 := lv_neT c_17 (a := 10) (by decide); have q_11 := lv_neT c_20 (a := 11) (by decide); have q_12 := lv_neT c_23 (a := 12) (by decide); have q_13 := lv_neT c_26 (a := 13) (by decide); have q_14 := lv_neT c_29 (a := 14) (by decide); have q_15 := lv_neT c_30 (a := 15) (by decide); rcases (show j = 0 ∨ j = 1 ∨ j = 2 ∨ j = 3 ∨ j = 4 ∨ j = 5 ∨ j = 6 ∨ j = 7 ∨ j = 8 ∨ j = 9 ∨ j = 10 ∨ j = 11 ∨ j = 12 ∨ j = 13 ∨ j = 14 ∨ j = 15 by omega) with rfl | rfl | rfl | rfl | rfl | rfl | rfl | rfl | rfl | rfl | rfl | rfl | rfl | rfl | rfl | rfl <;> first | rfl | (exfalso; omega)) ?_
  refine lv_iconst (v := 0) hx hb d_Gate_isInstruction_106 (by decide) ?_
  exact rt_z (v := 0) () hx hb hr hlocks (by first | decide | exact bl_01 _ _ | exact wb_01 _) (show (0 : Int32) = ii_w o0 n0 from (by simp only [ii_w, if_neg c_1, if_neg c_4, if_neg c_7, if_neg c_10, if_neg c_11, if_neg c_12, if_neg c_13, if_neg c_14, if_neg c_15, if_neg c_16, if_neg c_17, if_neg c_20, if_neg c_23, if_neg c_26, if_neg c_29, if_neg c_30, and_self])) (hP.sub (ws' := []) [] rfl) (hD.sub (ws' := []) [] (by decide) rfl) hS d_Gate_isInstruction_107
end
section
theorem tw_206 : (Cond.constantLong R_Copy 76 2000000000) ∈ TB_w := List.mem_filter.mpr ⟨List.mem_of_getElem? (i := 206) (by decide +kernel), by decide +kernel⟩
theorem tw_68 : (Cond.fieldLink R_Copy 22 "TwinGate$Copy" "factor" "J") ∈ TB_w := List.mem_filter.mpr ⟨List.mem_of_getElem? (i := 68) (by decide +kernel), by decide +kernel⟩
theorem tw_69 : (Cond.fieldLink R_Copy 9 "TwinGate$Copy" "row" "[J") ∈ TB_w := List.mem_filter.mpr ⟨List.mem_of_getElem? (i := 69) (by decide +kernel), by decide +kernel⟩
theorem tw_214 : (Cond.constantLong R_Copy 78 (-1)) ∈ TB_w := List.mem_filter.mpr ⟨List.mem_of_getElem? (i := 214) (by decide +kernel), by decide +kernel⟩
theorem tw_215 : (Cond.constantLong R_Copy 82 (-9223372036854775808)) ∈ TB_w := List.mem_filter.mpr ⟨List.mem_of_getElem? (i := 215) (by decide +kernel), by decide +kernel⟩
theorem tw_213 : (Cond.code y_Copy_isProductBeyond64Bits b_Copy_isProductBeyond64Bits 4 (some .boolean)) ∈ TB_w := List.mem_filter.mpr ⟨List.mem_of_getElem? (i := 213) rfl, by decide +kernel⟩
theorem tw_22 : (Cond.initialized R_Copy) ∈ TB_w := List.mem_filter.mpr ⟨List.mem_of_getElem? (i := 22) (by decide +kernel), by decide +kernel⟩
theorem tw_211 : (Cond.methodLink R_Copy 62 y_Copy_isProductBeyond64Bits) ∈ TB_w := List.mem_filter.mpr ⟨List.mem_of_getElem? (i := 211) (by decide +kernel), by decide +kernel⟩
theorem tw_212 : (Cond.static y_Copy_isProductBeyond64Bits) ∈ TB_w := List.mem_filter.mpr ⟨List.mem_of_getElem? (i := 212) (by decide +kernel), by decide +kernel⟩
theorem tw_219 : (Cond.code y_Copy_isMultiple b_Copy_isMultiple 3 (some .boolean)) ∈ TB_w := List.mem_filter.mpr ⟨List.mem_of_getElem? (i := 219) rfl, by decide +kernel⟩
theorem tw_216 : (Cond.methodLink R_Copy 66 y_Copy_isMultiple) ∈ TB_w := List.mem_filter.mpr ⟨List.mem_of_getElem? (i := 216) (by decide +kernel), by decide +kernel⟩
theorem tw_218 : (Cond.instanceMethod y_Copy_isMultiple) ∈ TB_w := List.mem_filter.mpr ⟨List.mem_of_getElem? (i := 218) (by decide +kernel), by decide +kernel⟩
theorem tw_6 : (Cond.selects R_Copy y_Copy_isMultiple y_Copy_isMultiple) ∈ TB_w := List.mem_filter.mpr ⟨List.mem_of_getElem? (i := 6) (by decide +kernel), by decide +kernel⟩
theorem tw_223 : (Cond.code y_Copy_part b_Copy_part 3 (some .long)) ∈ TB_w := List.mem_filter.mpr ⟨List.mem_of_getElem? (i := 223) rfl, by decide +kernel⟩
theorem tw_220 : (Cond.methodLink R_Copy 70 y_Copy_part) ∈ TB_w := List.mem_filter.mpr ⟨List.mem_of_getElem? (i := 220) (by decide +kernel), by decide +kernel⟩
theorem tw_222 : (Cond.instanceMethod y_Copy_part) ∈ TB_w := List.mem_filter.mpr ⟨List.mem_of_getElem? (i := 222) (by decide +kernel), by decide +kernel⟩
theorem tw_7 : (Cond.selects R_Copy y_Copy_part y_Copy_part) ∈ TB_w := List.mem_filter.mpr ⟨List.mem_of_getElem? (i := 7) (by decide +kernel), by decide +kernel⟩
theorem tw_205 : (Cond.code y_Copy_trapBeyondBound b_Copy_trapBeyondBound 3 (some .int)) ∈ TB_w := List.mem_filter.mpr ⟨List.mem_of_getElem? (i := 205) rfl, by decide +kernel⟩
theorem tw_202 : (Cond.methodLink R_Copy 48 y_Copy_trapBeyondBound) ∈ TB_w := List.mem_filter.mpr ⟨List.mem_of_getElem? (i := 202) (by decide +kernel), by decide +kernel⟩
theorem tw_204 : (Cond.instanceMethod y_Copy_trapBeyondBound) ∈ TB_w := List.mem_filter.mpr ⟨List.mem_of_getElem? (i := 204) (by decide +kernel), by decide +kernel⟩
theorem tw_4 : (Cond.selects R_Copy y_Copy_trapBeyondBound y_Copy_trapBeyondBound) ∈ TB_w := List.mem_filter.mpr ⟨List.mem_of_getElem? (i := 4) (by decide +kernel), by decide +kernel⟩
theorem tw_228 : (Cond.constantLong R_Copy 74 16) ∈ TB_w := List.mem_filter.mpr ⟨List.mem_of_getElem? (i := 228) (by decide +kernel), by decide +kernel⟩
theorem tw_73 : (Cond.fieldLink R_Copy 18 "TwinGate$Copy" "place" "I") ∈ TB_w := List.mem_filter.mpr ⟨List.mem_of_getElem? (i := 73) (by decide +kernel), by decide +kernel⟩
theorem tw_71 : (Cond.fieldLink R_Copy 15 "TwinGate$Copy" "ports" "[J") ∈ TB_w := List.mem_filter.mpr ⟨List.mem_of_getElem? (i := 71) (by decide +kernel), by decide +kernel⟩
set_option maxHeartbeats 4000000 in
set_option maxRecDepth 100000 in
theorem c_Copy_trapBeyondBound (l : Launch) (dC : Nat → ClassId) (dI : Nat → Nat → Nat) (cI cL : ClassId) (hs0 : Nat) (cp : Nat) (rw : Nat) (po : Nat) (fac : Int64) (rr : Nat → Int64) (qq : Nat → Int64) (pl : Int32)  : ct_i l y_Copy_trapBeyondBound b_Copy_trapBeyondBound 3 (some .int) ({ frames := 0, cells := 0, slots := 0, locals := 0 }) (dC, dI) cI cL [.ref cp] [(cp, .inr (1, [.long fac, .ref rw, .ref po, .int pl])), (rw, .inl (cL, 18, .inr (.inl rr))), (po, .inl (cL, 4, .inr (.inl qq)))] hs0 (fun (r : Int32) (u : Unit) => r = tb_w fac (rr 16)) (fun u => [(cp, .inr (1, [.long fac, .ref rw, .ref po, .int pl])), (rw, .inl (cL, 18, .inr (.inl rr))), (po, .inl (cL, 4, .inr (.inl qq)))]) 0 0 := by
  refine st_w (Qc := fun A => va_Qi (fun (r : Int32) (u : Unit) => r = tb_w fac (rr 16)) (fun (u : Unit) t => pos_w (dC, dI) A [(cp, .inr (1, [.long fac, .ref rw, .ref po, .int pl])), (rw, .inl (cL, 18, .inr (.inl rr))), (po, .inl (cL, 4, .inr (.inl qq)))] t) A) (by decide) (Nat.le_of_ble_eq_true rfl) ?_
  intro p e s m below meth c A ls hfx hK hA hP hD hS hl
  obtain ⟨hx, hb, hml, hown, htb, hr, hlocks, hin⟩ := hfx
  have hl : lv_has ls 3 [(0, .ref cp)] := hl
  refine lv_ldc2 (v := 2000000000) hx hb hown (htb _ tw_206) d_Copy_trapBeyondBound_0 ?_
  refine lv_aload_n hx hb d_Copy_trapBeyondBound_3 rfl (lv_at hl 0 rfl) ?_
  refine va_get (D := (dC, dI)) (ci := 1) (v := .long fac) (C := R_Copy) (T := F_Copy) (N := 4) hx hb htb iw_Copy hown hK.1 hP 0 rfl rfl 0 (by decide) (htb _ tw_68) (fun _ h9 => h9) rfl d_Copy_trapBeyondBound_4 ?_
  refine lv_lmul hx hb d_Copy_trapBeyondBound_7 ?_
  refine lv_lstore_n (lv' := [(1, .long (2000000000 * fac)), (0, .ref cp)]) hx hb d_Copy_trapBeyondBound_8 rfl hl (by decide) rfl (fun ls hl => ?_)
  refine lv_aload_n hx hb d_Copy_trapBeyondBound_9 rfl (lv_at hl 1 rfl) ?_
  refine va_get (D := (dC, dI)) (ci := 1) (v := .ref rw) (C := R_Copy) (T := F_Copy) (N := 4) hx hb htb iw_Copy hown hK.1 hP 0 rfl rfl 1 (by decide) (htb _ tw_69) (fun _ h9 => h9) rfl d_Copy_trapBeyondBound_10 ?_
  refine lv_bipush (v := 16) hx hb d_Copy_trapBeyondBound_13 (by decide) ?_
  refine ld_l (v := rr 16) (cA := cL) hx hb hK.1 hP 1 1 rfl rfl (show ¬ (_ ∨ _) by decide) rfl d_Copy_trapBeyondBound_15 ?_
  refine lv_lload_n hx hb d_Copy_trapBeyondBound_16 rfl (lv_at hl 0 rfl) ?_
  refine W.lcmp hx hb d_Copy_trapBeyondBound_17 ?_
  refine lv_if_gt (tgt := 34) hx hb d_Copy_trapBeyondBound_18 (by decide) (fun c_1 => ?_) (fun c_1 => ?_)
  · have c_1 : 0 < (lg_cmp (rr 16) (2000000000 * fac)) := c_1
    rw [lc_gt] at c_1
    refine lv_iconst (v := 2) hx hb d_Copy_trapBeyondBound_34 (by decide) ?_
    refine lv_goto (tgt := 39) hx hb d_Copy_trapBeyondBound_35 (by decide) ?_
    exact rt_i (v := 2) () hx hb hr hlocks (show (2 : Int32) = tb_w fac (rr 16) from (by simp only [tb_w, if_pos c_1, and_self])) (hP.sub (ws' := [(cp, .inr (1, [.long fac, .ref rw, .ref po, .int pl])), (rw, .inl (cL, 18, .inr (.inl rr))), (po, .inl (cL, 4, .inr (.inl qq)))]) [0, 1, 2] rfl) (hD.sub (ws' := [(cp, .inr (1, [.long fac, .ref rw, .ref po, .int pl])), (rw, .inl (cL, 18, .inr (.inl rr))), (po, .inl (cL, 4, .inr (.inl qq)))]) [0, 1, 2] (by decide) rfl) hS d_Copy_trapBeyondBound_39
  · have c_1 : ¬ 0 < (lg_cmp (rr 16) (2000000000 * fac)) := c_1
    rw [lc_gt] at c_1
    refine lv_aload_n hx hb d_Copy_trapBeyondBound_21 rfl (lv_at hl 1 rfl) ?_
    refine va_get (D := (dC, dI)) (ci := 1) (v := .ref rw) (C := R_Copy) (T := F_Copy) (N := 4) hx hb htb iw_Copy hown hK.1 hP 0 rfl rfl 1 (by decide) (htb _ tw_69) (fun _ h9 => h9) rfl d_Copy_trapBeyondBound_22 ?_
    refine lv_bipush (v := 16) hx hb d_Copy_trapBeyondBound_25 (by decide) ?_
    refine ld_l (v := rr 16) (cA := cL) hx hb hK.1 hP 1 1 rfl rfl (show ¬ (_ ∨ _) by decide) rfl d_Copy_trapBeyondBound_27 ?_
    refine lv_lload_n hx hb d_Copy_trapBeyondBound_28 rfl (lv_at hl 0 rfl) ?_
    refine lv_lneg hx hb d_Copy_trapBeyondBound_29 ?_
    refine W.lcmp hx hb d_Copy_trapBeyondBound_30 ?_
    refine lv_if_ge (tgt := 38) hx hb d_Copy_trapBeyondBound_31 (by decide) (fun c_2 => ?_) (fun c_2 => ?_)
    · have c_2 : 0 ≤ (lg_cmp (rr 16) (-(2000000000 * fac))) := c_2
      rw [lc_ge] at c_2
      refine lv_iconst (v := 0) hx hb d_Copy_trapBeyondBound_38 (by decide) ?_
      exact rt_i (v := 0) () hx hb hr hlocks (show (0 : Int32) = tb_w fac (rr 16) from (by simp only [tb_w, if_neg c_1, if_neg c_2, and_self])) (hP.sub (ws' := [(cp, .inr (1, [.long fac, .ref rw, .ref po, .int pl])), (rw, .inl (cL, 18, .inr (.inl rr))), (po, .inl (cL, 4, .inr (.inl qq)))]) [0, 1, 2] rfl) (hD.sub (ws' := [(cp, .inr (1, [.long fac, .ref rw, .ref po, .int pl])), (rw, .inl (cL, 18, .inr (.inl rr))), (po, .inl (cL, 4, .inr (.inl qq)))]) [0, 1, 2] (by decide) rfl) hS d_Copy_trapBeyondBound_39
    · have c_2 : ¬ 0 ≤ (lg_cmp (rr 16) (-(2000000000 * fac))) := c_2
      rw [lc_ge, Decidable.not_not] at c_2
      refine lv_iconst (v := 2) hx hb d_Copy_trapBeyondBound_34 (by decide) ?_
      refine lv_goto (tgt := 39) hx hb d_Copy_trapBeyondBound_35 (by decide) ?_
      exact rt_i (v := 2) () hx hb hr hlocks (show (2 : Int32) = tb_w fac (rr 16) from (by simp only [tb_w, if_neg c_1, if_pos c_2, and_self])) (hP.sub (ws' := [(cp, .inr (1, [.long fac, .ref rw, .ref po, .int pl])), (rw, .inl (cL, 18, .inr (.inl rr))), (po, .inl (cL, 4, .inr (.inl qq)))]) [0, 1, 2] rfl) (hD.sub (ws' := [(cp, .inr (1, [.long fac, .ref rw, .ref po, .int pl])), (rw, .inl (cL, 18, .inr (.inl rr))), (po, .inl (cL, 4, .inr (.inl qq)))]) [0, 1, 2] (by decide) rfl) hS d_Copy_trapBeyondBound_39

set_option maxHeartbeats 4000000 in
set_option maxRecDepth 100000 in
theorem c_Copy_isMultiple (l : Launch) (dC : Nat → ClassId) (dI : Nat → Nat → Nat) (cI cL : ClassId) (hs0 : Nat) (cp : Nat) (rw : Nat) (po : Nat) (fac : Int64) (rr : Nat → Int64) (qq : Nat → Int64) (pl : Int32) (v0 : Int64)  : ct_i l y_Copy_isMultiple b_Copy_isMultiple 3 (some .boolean) ({ frames := 0, cells := 0, slots := 0, locals := 0 }) (dC, dI) cI cL [.ref cp, .long v0] [(cp, .inr (1, [.long fac, .ref rw, .ref po, .int pl])), (rw, .inl (cL, 18, .inr (.inl rr))), (po, .inl (cL, 4, .inr (.inl qq)))] hs0 (fun (r : Int32) (u : Unit) => r = im_w fac v0) (fun u => [(cp, .inr (1, [.long fac, .ref rw, .ref po, .int pl])), (rw, .inl (cL, 18, .inr (.inl rr))), (po, .inl (cL, 4, .inr (.inl qq)))]) 0 0 := by
  refine st_w (Qc := fun A => va_Qi (fun (r : Int32) (u : Unit) => r = im_w fac v0) (fun (u : Unit) t => pos_w (dC, dI) A [(cp, .inr (1, [.long fac, .ref rw, .ref po, .int pl])), (rw, .inl (cL, 18, .inr (.inl rr))), (po, .inl (cL, 4, .inr (.inl qq)))] t) A) (by decide) (Nat.le_of_ble_eq_true rfl) ?_
  intro p e s m below meth c A ls hfx hK hA hP hD hS hl
  obtain ⟨hx, hb, hml, hown, htb, hr, hlocks, hin⟩ := hfx
  have hl : lv_has ls 3 [(0, .ref cp), (1, .long v0)] := hl
  refine lv_aload_n hx hb d_Copy_isMultiple_0 rfl (lv_at hl 0 rfl) ?_
  refine va_get (D := (dC, dI)) (ci := 1) (v := .long fac) (C := R_Copy) (T := F_Copy) (N := 4) hx hb htb iw_Copy hown hK.1 hP 0 rfl rfl 0 (by decide) (htb _ tw_68) (fun _ h9 => h9) rfl d_Copy_isMultiple_1 ?_
  refine lv_lconst (v := 0) hx hb d_Copy_isMultiple_4 (by decide) ?_
  refine W.lcmp hx hb d_Copy_isMultiple_5 ?_
  refine lv_if_eq (tgt := 24) hx hb d_Copy_isMultiple_6 (by decide) (fun c_1 => ?_) (fun c_1 => ?_)
  · have c_1 : (lg_cmp fac 0) = 0 := c_1
    rw [lc_eq] at c_1
    refine lv_iconst (v := 0) hx hb d_Copy_isMultiple_24 (by decide) ?_
    exact rt_z (v := 0) () hx hb hr hlocks (by decide) (show (0 : Int32) = im_w fac v0 from (by simp only [im_w, if_pos c_1, and_self])) (hP.sub (ws' := [(cp, .inr (1, [.long fac, .ref rw, .ref po, .int pl])), (rw, .inl (cL, 18, .inr (.inl rr))), (po, .inl (cL, 4, .inr (.inl qq)))]) [0, 1, 2] rfl) (hD.sub (ws' := [(cp, .inr (1, [.long fac, .ref rw, .ref po, .int pl])), (rw, .inl (cL, 18, .inr (.inl rr))), (po, .inl (cL, 4, .inr (.inl qq)))]) [0, 1, 2] (by decide) rfl) hS d_Copy_isMultiple_25
  · have c_1 : ¬ (lg_cmp fac 0) = 0 := c_1
    rw [lc_eq] at c_1
    refine lv_lload_n hx hb d_Copy_isMultiple_9 rfl (lv_at hl 1 rfl) ?_
    refine lv_aload_n hx hb d_Copy_isMultiple_10 rfl (lv_at hl 0 rfl) ?_
    refine va_get (D := (dC, dI)) (ci := 1) (v := .long fac) (C := R_Copy) (T := F_Copy) (N := 4) hx hb htb iw_Copy hown hK.1 hP 0 rfl rfl 0 (by decide) (htb _ tw_68) (fun _ h9 => h9) rfl d_Copy_isMultiple_11 ?_
    refine lv_lrem hx hb d_Copy_isMultiple_14 (c_1) ?_
    refine lv_lconst (v := 0) hx hb d_Copy_isMultiple_15 (by decide) ?_
    refine W.lcmp hx hb d_Copy_isMultiple_16 ?_
    refine lv_if_ne (tgt := 24) hx hb d_Copy_isMultiple_17 (by decide) (fun c_2 => ?_) (fun c_2 => ?_)
    · have c_2 : ¬ (lg_cmp (v0 - v0 / fac * fac) 0) = 0 := c_2
      rw [lc_eq] at c_2
      refine lv_iconst (v := 0) hx hb d_Copy_isMultiple_24 (by decide) ?_
      exact rt_z (v := 0) () hx hb hr hlocks (by decide) (show (0 : Int32) = im_w fac v0 from (by simp only [im_w, if_neg c_1, if_neg c_2, and_self])) (hP.sub (ws' := [(cp, .inr (1, [.long fac, .ref rw, .ref po, .int pl])), (rw, .inl (cL, 18, .inr (.inl rr))), (po, .inl (cL, 4, .inr (.inl qq)))]) [0, 1, 2] rfl) (hD.sub (ws' := [(cp, .inr (1, [.long fac, .ref rw, .ref po, .int pl])), (rw, .inl (cL, 18, .inr (.inl rr))), (po, .inl (cL, 4, .inr (.inl qq)))]) [0, 1, 2] (by decide) rfl) hS d_Copy_isMultiple_25
    · have c_2 : (lg_cmp (v0 - v0 / fac * fac) 0) = 0 := c_2
      rw [lc_eq] at c_2
      refine lv_iconst (v := 1) hx hb d_Copy_isMultiple_20 (by decide) ?_
      refine lv_goto (tgt := 25) hx hb d_Copy_isMultiple_21 (by decide) ?_
      exact rt_z (v := 1) () hx hb hr hlocks (by decide) (show (1 : Int32) = im_w fac v0 from (by simp only [im_w, if_neg c_1, if_pos c_2, and_self])) (hP.sub (ws' := [(cp, .inr (1, [.long fac, .ref rw, .ref po, .int pl])), (rw, .inl (cL, 18, .inr (.inl rr))), (po, .inl (cL, 4, .inr (.inl qq)))]) [0, 1, 2] rfl) (hD.sub (ws' := [(cp, .inr (1, [.long fac, .ref rw, .ref po, .int pl])), (rw, .inl (cL, 18, .inr (.inl rr))), (po, .inl (cL, 4, .inr (.inl qq)))]) [0, 1, 2] (by decide) rfl) hS d_Copy_isMultiple_25

set_option maxHeartbeats 4000000 in
set_option maxRecDepth 100000 in
theorem c_Copy_part (l : Launch) (dC : Nat → ClassId) (dI : Nat → Nat → Nat) (cI cL : ClassId) (hs0 : Nat) (cp : Nat) (rw : Nat) (po : Nat) (fac : Int64) (rr : Nat → Int64) (qq : Nat → Int64) (pl : Int32) (v0 : Int64)  : ct_l l y_Copy_part b_Copy_part 3 (some .long) ({ frames := 0, cells := 0, slots := 0, locals := 0 }) (dC, dI) cI cL [.ref cp, .long v0] [(cp, .inr (1, [.long fac, .ref rw, .ref po, .int pl])), (rw, .inl (cL, 18, .inr (.inl rr))), (po, .inl (cL, 4, .inr (.inl qq)))] hs0 (fun (r : Int64) (u : Unit) => r = pa_w fac v0) (fun u => [(cp, .inr (1, [.long fac, .ref rw, .ref po, .int pl])), (rw, .inl (cL, 18, .inr (.inl rr))), (po, .inl (cL, 4, .inr (.inl qq)))]) 0 0 := by
  refine st_w (Qc := fun A => va_Ql (fun (r : Int64) (u : Unit) => r = pa_w fac v0) (fun (u : Unit) t => pos_w (dC, dI) A [(cp, .inr (1, [.long fac, .ref rw, .ref po, .int pl])), (rw, .inl (cL, 18, .inr (.inl rr))), (po, .inl (cL, 4, .inr (.inl qq)))] t) A) (by decide) (Nat.le_of_ble_eq_true rfl) ?_
  intro p e s m below meth c A ls hfx hK hA hP hD hS hl
  obtain ⟨hx, hb, hml, hown, htb, hr, hlocks, hin⟩ := hfx
  have hl : lv_has ls 3 [(0, .ref cp), (1, .long v0)] := hl
  refine lv_aload_n hx hb d_Copy_part_0 rfl (lv_at hl 0 rfl) ?_
  refine va_get (D := (dC, dI)) (ci := 1) (v := .long fac) (C := R_Copy) (T := F_Copy) (N := 4) hx hb htb iw_Copy hown hK.1 hP 0 rfl rfl 0 (by decide) (htb _ tw_68) (fun _ h9 => h9) rfl d_Copy_part_1 ?_
  refine lv_lconst (v := 0) hx hb d_Copy_part_4 (by decide) ?_
  refine W.lcmp hx hb d_Copy_part_5 ?_
  refine lv_if_eq (tgt := 18) hx hb d_Copy_part_6 (by decide) (fun c_1 => ?_) (fun c_1 => ?_)
  · have c_1 : (lg_cmp fac 0) = 0 := c_1
    rw [lc_eq] at c_1
    refine lv_lconst (v := 0) hx hb d_Copy_part_18 (by decide) ?_
    exact rt_l (v := 0) () hx hb hr hlocks (show (0 : Int64) = pa_w fac v0 from (by simp only [pa_w, if_pos c_1, and_self])) (hP.sub (ws' := [(cp, .inr (1, [.long fac, .ref rw, .ref po, .int pl])), (rw, .inl (cL, 18, .inr (.inl rr))), (po, .inl (cL, 4, .inr (.inl qq)))]) [0, 1, 2] rfl) (hD.sub (ws' := [(cp, .inr (1, [.long fac, .ref rw, .ref po, .int pl])), (rw, .inl (cL, 18, .inr (.inl rr))), (po, .inl (cL, 4, .inr (.inl qq)))]) [0, 1, 2] (by decide) rfl) hS d_Copy_part_19
  · have c_1 : ¬ (lg_cmp fac 0) = 0 := c_1
    rw [lc_eq] at c_1
    refine lv_lload_n hx hb d_Copy_part_9 rfl (lv_at hl 1 rfl) ?_
    refine lv_aload_n hx hb d_Copy_part_10 rfl (lv_at hl 0 rfl) ?_
    refine va_get (D := (dC, dI)) (ci := 1) (v := .long fac) (C := R_Copy) (T := F_Copy) (N := 4) hx hb htb iw_Copy hown hK.1 hP 0 rfl rfl 0 (by decide) (htb _ tw_68) (fun _ h9 => h9) rfl d_Copy_part_11 ?_
    refine lv_ldiv hx hb d_Copy_part_14 (c_1) ?_
    refine lv_goto (tgt := 19) hx hb d_Copy_part_15 (by decide) ?_
    exact rt_l (v := v0 / fac) () hx hb hr hlocks (show (v0 / fac) = pa_w fac v0 from (by simp only [pa_w, if_neg c_1, and_self])) (hP.sub (ws' := [(cp, .inr (1, [.long fac, .ref rw, .ref po, .int pl])), (rw, .inl (cL, 18, .inr (.inl rr))), (po, .inl (cL, 4, .inr (.inl qq)))]) [0, 1, 2] rfl) (hD.sub (ws' := [(cp, .inr (1, [.long fac, .ref rw, .ref po, .int pl])), (rw, .inl (cL, 18, .inr (.inl rr))), (po, .inl (cL, 4, .inr (.inl qq)))]) [0, 1, 2] (by decide) rfl) hS d_Copy_part_19

set_option maxHeartbeats 4000000 in
set_option maxRecDepth 100000 in
theorem c_Copy_isProductBeyond64Bits (l : Launch) (dC : Nat → ClassId) (dI : Nat → Nat → Nat) (cI cL : ClassId) (hs0 : Nat) (x0 : Int64) (y0 : Int64)  : ct_i l y_Copy_isProductBeyond64Bits b_Copy_isProductBeyond64Bits 4 (some .boolean) ({ frames := 0, cells := 0, slots := 0, locals := 0 }) (dC, dI) cI cL [.long x0, .long y0] [] hs0 (fun (r : Int32) (u : Unit) => r = pb_w x0 y0) (fun u => []) 0 0 := by
  refine st_w (Qc := fun A => va_Qi (fun (r : Int32) (u : Unit) => r = pb_w x0 y0) (fun (u : Unit) t => pos_w (dC, dI) A [] t) A) (by decide) (Nat.le_of_ble_eq_true rfl) ?_
  intro p e s m below meth c A ls hfx hK hA hP hD hS hl
  obtain ⟨hx, hb, hml, hown, htb, hr, hlocks, hin⟩ := hfx
  have hl : lv_has ls 4 [(0, .long x0), (2, .long y0)] := hl
  refine lv_lload_n hx hb d_Copy_isProductBeyond64Bits_0 rfl (lv_at hl 0 rfl) ?_
  refine lv_lconst (v := 0) hx hb d_Copy_isProductBeyond64Bits_1 (by decide) ?_
  refine W.lcmp hx hb d_Copy_isProductBeyond64Bits_2 ?_
  refine lv_if_ne (tgt := 8) hx hb d_Copy_isProductBeyond64Bits_3 (by decide) (fun c_1 => ?_) (fun c_1 => ?_)
  · have c_1 : ¬ (lg_cmp x0 0) = 0 := c_1
    rw [lc_eq] at c_1
    refine lv_lload_n hx hb d_Copy_isProductBeyond64Bits_8 rfl (lv_at hl 0 rfl) ?_
    refine lv_ldc2 (v := (-1)) hx hb hown (htb _ tw_214) d_Copy_isProductBeyond64Bits_9 ?_
    refine W.lcmp hx hb d_Copy_isProductBeyond64Bits_12 ?_
    refine lv_if_ne (tgt := 30) hx hb d_Copy_isProductBeyond64Bits_13 (by decide) (fun c_2 => ?_) (fun c_2 => ?_)
    · have c_2 : ¬ (lg_cmp x0 (-1)) = 0 := c_2
      rw [lc_eq] at c_2
      refine lv_lload_n hx hb d_Copy_isProductBeyond64Bits_30 rfl (lv_at hl 0 rfl) ?_
      refine lv_lload_n hx hb d_Copy_isProductBeyond64Bits_31 rfl (lv_at hl 1 rfl) ?_
      refine lv_lmul hx hb d_Copy_isProductBeyond64Bits_32 ?_
      refine lv_lload_n hx hb d_Copy_isProductBeyond64Bits_33 rfl (lv_at hl 0 rfl) ?_
      refine lv_ldiv hx hb d_Copy_isProductBeyond64Bits_34 (c_1) ?_
      refine lv_lload_n hx hb d_Copy_isProductBeyond64Bits_35 rfl (lv_at hl 1 rfl) ?_
      refine W.lcmp hx hb d_Copy_isProductBeyond64Bits_36 ?_
      refine lv_if_eq (tgt := 44) hx hb d_Copy_isProductBeyond64Bits_37 (by decide) (fun c_3 => ?_) (fun c_3 => ?_)
      · have c_3 : (lg_cmp ((x0 * y0) / x0) y0) = 0 := c_3
        rw [lc_eq] at c_3
        refine lv_iconst (v := 0) hx hb d_Copy_isProductBeyond64Bits_44 (by decide) ?_
        exact rt_z (v := 0) () hx hb hr hlocks (by decide) (show (0 : Int32) = pb_w x0 y0 from (by simp only [pb_w, if_neg c_1, if_neg c_2, if_pos c_3, and_self])) (hP.sub (ws' := []) [] rfl) (hD.sub (ws' := []) [] (by decide) rfl) hS d_Copy_isProductBeyond64Bits_45
      · have c_3 : ¬ (lg_cmp ((x0 * y0) / x0) y0) = 0 := c_3
        rw [lc_eq] at c_3
        refine lv_iconst (v := 1) hx hb d_Copy_isProductBeyond64Bits_40 (by decide) ?_
        refine lv_goto (tgt := 45) hx hb d_Copy_isProductBeyond64Bits_41 (by decide) ?_
        exact rt_z (v := 1) () hx hb hr hlocks (by decide) (show (1 : Int32) = pb_w x0 y0 from (by simp only [pb_w, if_neg c_1, if_neg c_2, if_neg c_3, and_self])) (hP.sub (ws' := []) [] rfl) (hD.sub (ws' := []) [] (by decide) rfl) hS d_Copy_isProductBeyond64Bits_45
    · have c_2 : (lg_cmp x0 (-1)) = 0 := c_2
      rw [lc_eq] at c_2
      refine lv_lload_n hx hb d_Copy_isProductBeyond64Bits_16 rfl (lv_at hl 1 rfl) ?_
      refine lv_ldc2 (v := (-9223372036854775808)) hx hb hown (htb _ tw_215) d_Copy_isProductBeyond64Bits_17 ?_
      refine W.lcmp hx hb d_Copy_isProductBeyond64Bits_20 ?_
      refine lv_if_ne (tgt := 28) hx hb d_Copy_isProductBeyond64Bits_21 (by decide) (fun c_4 => ?_) (fun c_4 => ?_)
      · have c_4 : ¬ (lg_cmp y0 (-9223372036854775808)) = 0 := c_4
        rw [lc_eq] at c_4
        refine lv_iconst (v := 0) hx hb d_Copy_isProductBeyond64Bits_28 (by decide) ?_
        exact rt_z (v := 0) () hx hb hr hlocks (by decide) (show (0 : Int32) = pb_w x0 y0 from (by simp only [pb_w, if_neg c_1, if_pos c_2, if_neg c_4, and_self])) (hP.sub (ws' := []) [] rfl) (hD.sub (ws' := []) [] (by decide) rfl) hS d_Copy_isProductBeyond64Bits_29
      · have c_4 : (lg_cmp y0 (-9223372036854775808)) = 0 := c_4
        rw [lc_eq] at c_4
        refine lv_iconst (v := 1) hx hb d_Copy_isProductBeyond64Bits_24 (by decide) ?_
        refine lv_goto (tgt := 29) hx hb d_Copy_isProductBeyond64Bits_25 (by decide) ?_
        exact rt_z (v := 1) () hx hb hr hlocks (by decide) (show (1 : Int32) = pb_w x0 y0 from (by simp only [pb_w, if_neg c_1, if_pos c_2, if_pos c_4, and_self])) (hP.sub (ws' := []) [] rfl) (hD.sub (ws' := []) [] (by decide) rfl) hS d_Copy_isProductBeyond64Bits_29
  · have c_1 : (lg_cmp x0 0) = 0 := c_1
    rw [lc_eq] at c_1
    refine lv_iconst (v := 0) hx hb d_Copy_isProductBeyond64Bits_6 (by decide) ?_
    exact rt_z (v := 0) () hx hb hr hlocks (by decide) (show (0 : Int32) = pb_w x0 y0 from (by simp only [pb_w, if_pos c_1, and_self])) (hP.sub (ws' := []) [] rfl) (hD.sub (ws' := []) [] (by decide) rfl) hS d_Copy_isProductBeyond64Bits_7

set_option maxHeartbeats 4000000 in
set_option maxRecDepth 100000 in
theorem c_Copy_multiply (l : Launch) (dC : Nat → ClassId) (dI : Nat → Nat → Nat) (cI cL : ClassId) (hs0 : Nat) (cp : Nat) (rw : Nat) (po : Nat) (fac : Int64) (rr : Nat → Int64) (qq : Nat → Int64) (pl : Int32)  : ct_i l y_Copy_multiply b_Copy_multiply 3 (some .int) ({ frames := 1, cells := 0, slots := 0, locals := 40 }) (dC, dI) cI cL [.ref cp] [(cp, .inr (1, [.long fac, .ref rw, .ref po, .int pl])), (rw, .inl (cL, 18, .inr (.inl rr))), (po, .inl (cL, 4, .inr (.inl qq)))] hs0 (fun (r : Int32) (u : (Nat → Int64)) => r = (ml_w fac rr).1 ∧ u = (ml_w fac rr).2) (fun u => [(cp, .inr (1, [.long fac, .ref rw, .ref po, .int pl])), (rw, .inl (cL, 18, .inr (.inl u))), (po, .inl (cL, 4, .inr (.inl qq)))]) 0 0 := by
  refine st_w (Qc := fun A => va_Qi (fun (r : Int32) (u : (Nat → Int64)) => r = (ml_w fac rr).1 ∧ u = (ml_w fac rr).2) (fun (u : (Nat → Int64)) t => pos_w (dC, dI) A [(cp, .inr (1, [.long fac, .ref rw, .ref po, .int pl])), (rw, .inl (cL, 18, .inr (.inl u))), (po, .inl (cL, 4, .inr (.inl qq)))] t) A) (by decide) (Nat.le_of_ble_eq_true rfl) ?_
  intro p e s m below meth c A ls hfx hK hA hP hD hS hl
  obtain ⟨hx, hb, hml, hown, htb, hr, hlocks, hin⟩ := hfx
  have hl : lv_has ls 3 [(0, .ref cp)] := hl
  refine lv_aload_n hx hb d_Copy_multiply_0 rfl (lv_at hl 0 rfl) ?_
  refine va_get (D := (dC, dI)) (ci := 1) (v := .ref rw) (C := R_Copy) (T := F_Copy) (N := 4) hx hb htb iw_Copy hown hK.1 hP 0 rfl rfl 1 (by decide) (htb _ tw_69) (fun _ h9 => h9) rfl d_Copy_multiply_1 ?_
  refine lv_bipush (v := 16) hx hb d_Copy_multiply_4 (by decide) ?_
  refine ld_l (v := rr 16) (cA := cL) hx hb hK.1 hP 1 1 rfl rfl (show ¬ (_ ∨ _) by decide) rfl d_Copy_multiply_6 ?_
  refine lv_aload_n hx hb d_Copy_multiply_7 rfl (lv_at hl 0 rfl) ?_
  refine va_get (D := (dC, dI)) (ci := 1) (v := .ref rw) (C := R_Copy) (T := F_Copy) (N := 4) hx hb htb iw_Copy hown hK.1 hP 0 rfl rfl 1 (by decide) (htb _ tw_69) (fun _ h9 => h9) rfl d_Copy_multiply_8 ?_
  refine lv_bipush (v := 17) hx hb d_Copy_multiply_11 (by decide) ?_
  refine ld_l (v := rr 17) (cA := cL) hx hb hK.1 hP 1 1 rfl rfl (show ¬ (_ ∨ _) by decide) rfl d_Copy_multiply_13 ?_
  refine lv_lmul hx hb d_Copy_multiply_14 ?_
  refine lv_lstore_n (lv' := [(1, .long ((rr 16) * (rr 17))), (0, .ref cp)]) hx hb d_Copy_multiply_15 rfl hl (by decide) rfl (fun ls hl => ?_)
  refine lv_aload_n hx hb d_Copy_multiply_16 rfl (lv_at hl 1 rfl) ?_
  refine va_get (D := (dC, dI)) (ci := 1) (v := .ref rw) (C := R_Copy) (T := F_Copy) (N := 4) hx hb htb iw_Copy hown hK.1 hP 0 rfl rfl 1 (by decide) (htb _ tw_69) (fun _ h9 => h9) rfl d_Copy_multiply_17 ?_
  refine lv_bipush (v := 16) hx hb d_Copy_multiply_20 (by decide) ?_
  refine ld_l (v := rr 16) (cA := cL) hx hb hK.1 hP 1 1 rfl rfl (show ¬ (_ ∨ _) by decide) rfl d_Copy_multiply_22 ?_
  refine lv_aload_n hx hb d_Copy_multiply_23 rfl (lv_at hl 1 rfl) ?_
  refine va_get (D := (dC, dI)) (ci := 1) (v := .ref rw) (C := R_Copy) (T := F_Copy) (N := 4) hx hb htb iw_Copy hown hK.1 hP 0 rfl rfl 1 (by decide) (htb _ tw_69) (fun _ h9 => h9) rfl d_Copy_multiply_24 ?_
  refine lv_bipush (v := 17) hx hb d_Copy_multiply_27 (by decide) ?_
  refine ld_l (v := rr 17) (cA := cL) hx hb hK.1 hP 1 1 rfl rfl (show ¬ (_ ∨ _) by decide) rfl d_Copy_multiply_29 ?_
  refine af_i (wr := [(cp, .inr (1, [.long fac, .ref rw, .ref po, .int pl])), (rw, .inl (cL, 18, .inr (.inl rr))), (po, .inl (cL, 4, .inr (.inl qq)))]) (va_runS (As := [.long (rr 16), .long (rr 17)]) (rest := []) ⟨hx, hb, hml, hown, htb⟩ (c_Copy_isProductBeyond64Bits l dC dI cI cL s.heap.size (rr 16) (rr 17) ) ⟨callB_of 2 htb (gd_w tw_213) rfl rfl rfl (htb _ tw_22) (htb _ tw_211) (by decide +kernel) ⟨Nat.le_of_ble_eq_true rfl, Nat.le_of_ble_eq_true rfl⟩, htb _ tw_212⟩ (pv_S hK (hP.sub (ws' := []) [] rfl) (hD.sub (ws' := []) [] (by decide) rfl)) rfl rfl hl.1 rfl (lv_room (Nat.le_of_ble_eq_true rfl)) d_Copy_multiply_30 ⟨Nat.le_of_ble_eq_true rfl, Nat.le_of_ble_eq_true rfl⟩) hP hD hS hA [] [0, 1, 2] rfl rfl (by decide) (by decide) (fun r_1 u_2 H locs hw hP hD hS => ?_)
  try dsimp only at hw
  subst hw
  have hP : va_P (dC, dI) classes [(cp, .inr (1, [.long fac, .ref rw, .ref po, .int pl])), (rw, .inl (cL, 18, .inr (.inl rr))), (po, .inl (cL, 4, .inr (.inl qq)))] H := hP
  have hD : va_D A [(cp, .inr (1, [.long fac, .ref rw, .ref po, .int pl])), (rw, .inl (cL, 18, .inr (.inl rr))), (po, .inl (cL, 4, .inr (.inl qq)))] := hD
  refine lv_if_ne (tgt := 44) hx hb d_Copy_multiply_33 (by decide) (fun c_3 => ?_) (fun c_3 => ?_)
  · have c_3 : ¬ (pb_w (rr 16) (rr 17)) = 0 := c_3
    refine lv_iconst (v := 2) hx hb d_Copy_multiply_44 (by decide) ?_
    exact rt_i (v := 2) rr hx hb hr hlocks (show (2 : Int32) = (ml_w fac rr).1 ∧ rr = (ml_w fac rr).2 from (by simp only [ml_w, pk_uLs, if_neg c_3, and_self])) (hP.sub (ws' := [(cp, .inr (1, [.long fac, .ref rw, .ref po, .int pl])), (rw, .inl (cL, 18, .inr (.inl rr))), (po, .inl (cL, 4, .inr (.inl qq)))]) [0, 1, 2] rfl) (hD.sub (ws' := [(cp, .inr (1, [.long fac, .ref rw, .ref po, .int pl])), (rw, .inl (cL, 18, .inr (.inl rr))), (po, .inl (cL, 4, .inr (.inl qq)))]) [0, 1, 2] (by decide) rfl) hS d_Copy_multiply_45
  · have c_3 : (pb_w (rr 16) (rr 17)) = 0 := c_3
    refine lv_aload_n hx hb d_Copy_multiply_36 rfl (lv_at hl 1 rfl) ?_
    refine lv_lload_n hx hb d_Copy_multiply_37 rfl (lv_at hl 0 rfl) ?_
    refine af_i (wr := []) (va_runV (As := [.long ((rr 16) * (rr 17))]) (rest := []) ⟨hx, hb, hml, hown, htb⟩ (c_Copy_isMultiple l dC dI cI cL H.size cp rw po fac rr qq pl ((rr 16) * (rr 17)) ) ⟨callB_of 1 htb (gd_w tw_219) rfl rfl rfl (htb _ tw_22) (htb _ tw_216) (by decide +kernel) ⟨Nat.le_of_ble_eq_true rfl, Nat.le_of_ble_eq_true rfl⟩, htb _ tw_218, htb _ tw_6⟩ (pv_V hK (hP.sub (ws' := [(cp, .inr (1, [.long fac, .ref rw, .ref po, .int pl])), (rw, .inl (cL, 18, .inr (.inl rr))), (po, .inl (cL, 4, .inr (.inl qq)))]) [0, 1, 2] rfl) (hD.sub (ws' := [(cp, .inr (1, [.long fac, .ref rw, .ref po, .int pl])), (rw, .inl (cL, 18, .inr (.inl rr))), (po, .inl (cL, 4, .inr (.inl qq)))]) [0, 1, 2] (by decide) rfl) (ci := 1) (q0 := 0) rfl rfl) rfl rfl hl.1 rfl (lv_room (Nat.le_of_ble_eq_true rfl)) d_Copy_multiply_38 ⟨Nat.le_of_ble_eq_true rfl, Nat.le_of_ble_eq_true rfl⟩) hP hD hS hA [0, 1, 2] [] rfl rfl (by decide) (by decide) (fun r_4 u_5 H locs hw hP hD hS => ?_)
    try dsimp only at hw
    subst hw
    have hP : va_P (dC, dI) classes [(cp, .inr (1, [.long fac, .ref rw, .ref po, .int pl])), (rw, .inl (cL, 18, .inr (.inl rr))), (po, .inl (cL, 4, .inr (.inl qq)))] H := hP
    have hD : va_D A [(cp, .inr (1, [.long fac, .ref rw, .ref po, .int pl])), (rw, .inl (cL, 18, .inr (.inl rr))), (po, .inl (cL, 4, .inr (.inl qq)))] := hD
    refine lv_if_ne (tgt := 46) hx hb d_Copy_multiply_41 (by decide) (fun c_6 => ?_) (fun c_6 => ?_)
    · have c_6 : ¬ (im_w fac ((rr 16) * (rr 17))) = 0 := c_6
      refine lv_aload_n hx hb d_Copy_multiply_46 rfl (lv_at hl 1 rfl) ?_
      refine va_get (D := (dC, dI)) (ci := 1) (v := .ref rw) (C := R_Copy) (T := F_Copy) (N := 4) hx hb htb iw_Copy hown hK.1 hP 0 rfl rfl 1 (by decide) (htb _ tw_69) (fun _ h9 => h9) rfl d_Copy_multiply_47 ?_
      refine lv_bipush (v := 16) hx hb d_Copy_multiply_50 (by decide) ?_
      refine lv_aload_n hx hb d_Copy_multiply_52 rfl (lv_at hl 1 rfl) ?_
      refine lv_lload_n hx hb d_Copy_multiply_53 rfl (lv_at hl 0 rfl) ?_
      refine af_l (wr := []) (va_runV (As := [.long ((rr 16) * (rr 17))]) (rest := [.int 16, .ref rw]) ⟨hx, hb, hml, hown, htb⟩ (c_Copy_part l dC dI cI cL H.size cp rw po fac rr qq pl ((rr 16) * (rr 17)) ) ⟨callB_of 1 htb (gd_w tw_223) rfl rfl rfl (htb _ tw_22) (htb _ tw_220) (by decide +kernel) ⟨Nat.le_of_ble_eq_true rfl, Nat.le_of_ble_eq_true rfl⟩, htb _ tw_222, htb _ tw_7⟩ (pv_V hK (hP.sub (ws' := [(cp, .inr (1, [.long fac, .ref rw, .ref po, .int pl])), (rw, .inl (cL, 18, .inr (.inl rr))), (po, .inl (cL, 4, .inr (.inl qq)))]) [0, 1, 2] rfl) (hD.sub (ws' := [(cp, .inr (1, [.long fac, .ref rw, .ref po, .int pl])), (rw, .inl (cL, 18, .inr (.inl rr))), (po, .inl (cL, 4, .inr (.inl qq)))]) [0, 1, 2] (by decide) rfl) (ci := 1) (q0 := 0) rfl rfl) rfl rfl hl.1 rfl (lv_room (Nat.le_of_ble_eq_true rfl)) d_Copy_multiply_54 ⟨Nat.le_of_ble_eq_true rfl, Nat.le_of_ble_eq_true rfl⟩) hP hD hS hA [0, 1, 2] [] rfl rfl (by decide) (by decide) (fun r_7 u_8 H locs hw hP hD hS => ?_)
      try dsimp only at hw
      subst hw
      have hP : va_P (dC, dI) classes [(cp, .inr (1, [.long fac, .ref rw, .ref po, .int pl])), (rw, .inl (cL, 18, .inr (.inl rr))), (po, .inl (cL, 4, .inr (.inl qq)))] H := hP
      have hD : va_D A [(cp, .inr (1, [.long fac, .ref rw, .ref po, .int pl])), (rw, .inl (cL, 18, .inr (.inl rr))), (po, .inl (cL, 4, .inr (.inl qq)))] := hD
      refine sd_l (g := vp_updL rr 16 (pa_w fac ((rr 16) * (rr 17)))) (cA := cL) hx hb hK.1 hP hD hS 1 1 rfl rfl (show ¬ (_ ∨ _) by decide) rfl d_Copy_multiply_57 (fun H locs hP hD hS => ?_)
      have hP : va_P (dC, dI) classes [(cp, .inr (1, [.long fac, .ref rw, .ref po, .int pl])), (rw, .inl (cL, 18, .inr (.inl (vp_updL rr 16 (pa_w fac ((rr 16) * (rr 17))))))), (po, .inl (cL, 4, .inr (.inl qq)))] H := hP
      have hD : va_D A [(cp, .inr (1, [.long fac, .ref rw, .ref po, .int pl])), (rw, .inl (cL, 18, .inr (.inl (vp_updL rr 16 (pa_w fac ((rr 16) * (rr 17))))))), (po, .inl (cL, 4, .inr (.inl qq)))] := hD
      refine lv_aload_n hx hb d_Copy_multiply_58 rfl (lv_at hl 1 rfl) ?_
      refine af_i (wr := []) (va_runV (As := []) (rest := []) ⟨hx, hb, hml, hown, htb⟩ (c_Copy_trapBeyondBound l dC dI cI cL H.size cp rw po fac (vp_updL rr 16 (pa_w fac ((rr 16) * (rr 17)))) qq pl ) ⟨callB_of 0 htb (gd_w tw_205) rfl rfl rfl (htb _ tw_22) (htb _ tw_202) (by decide +kernel) ⟨Nat.le_of_ble_eq_true rfl, Nat.le_of_ble_eq_true rfl⟩, htb _ tw_204, htb _ tw_4⟩ (pv_V hK (hP.sub (ws' := [(cp, .inr (1, [.long fac, .ref rw, .ref po, .int pl])), (rw, .inl (cL, 18, .inr (.inl (vp_updL rr 16 (pa_w fac ((rr 16) * (rr 17))))))), (po, .inl (cL, 4, .inr (.inl qq)))]) [0, 1, 2] rfl) (hD.sub (ws' := [(cp, .inr (1, [.long fac, .ref rw, .ref po, .int pl])), (rw, .inl (cL, 18, .inr (.inl (vp_updL rr 16 (pa_w fac ((rr 16) * (rr 17))))))), (po, .inl (cL, 4, .inr (.inl qq)))]) [0, 1, 2] (by decide) rfl) (ci := 1) (q0 := 0) rfl rfl) rfl rfl hl.1 rfl (lv_room (Nat.le_of_ble_eq_true rfl)) d_Copy_multiply_59 ⟨Nat.le_of_ble_eq_true rfl, Nat.le_of_ble_eq_true rfl⟩) hP hD hS hA [0, 1, 2] [] rfl rfl (by decide) (by decide) (fun r_9 u_10 H locs hw hP hD hS => ?_)
      try dsimp only at hw
      subst hw
      have hP : va_P (dC, dI) classes [(cp, .inr (1, [.long fac, .ref rw, .ref po, .int pl])), (rw, .inl (cL, 18, .inr (.inl (vp_updL rr 16 (pa_w fac ((rr 16) * (rr 17))))))), (po, .inl (cL, 4, .inr (.inl qq)))] H := hP
      have hD : va_D A [(cp, .inr (1, [.long fac, .ref rw, .ref po, .int pl])), (rw, .inl (cL, 18, .inr (.inl (vp_updL rr 16 (pa_w fac ((rr 16) * (rr 17))))))), (po, .inl (cL, 4, .inr (.inl qq)))] := hD
      exact rt_i (v := tb_w fac ((vp_updL rr 16 (pa_w fac ((rr 16) * (rr 17)))) 16)) (vp_updL rr 16 (pa_w fac ((rr 16) * (rr 17)))) hx hb hr hlocks (show (tb_w fac ((vp_updL rr 16 (pa_w fac ((rr 16) * (rr 17)))) 16)) = (ml_w fac rr).1 ∧ (vp_updL rr 16 (pa_w fac ((rr 16) * (rr 17)))) = (ml_w fac rr).2 from (by simp only [ml_w, pk_uLs, if_pos c_3, if_neg c_6, and_self])) (hP.sub (ws' := [(cp, .inr (1, [.long fac, .ref rw, .ref po, .int pl])), (rw, .inl (cL, 18, .inr (.inl (vp_updL rr 16 (pa_w fac ((rr 16) * (rr 17))))))), (po, .inl (cL, 4, .inr (.inl qq)))]) [0, 1, 2] rfl) (hD.sub (ws' := [(cp, .inr (1, [.long fac, .ref rw, .ref po, .int pl])), (rw, .inl (cL, 18, .inr (.inl (vp_updL rr 16 (pa_w fac ((rr 16) * (rr 17))))))), (po, .inl (cL, 4, .inr (.inl qq)))]) [0, 1, 2] (by decide) rfl) hS d_Copy_multiply_62
    · have c_6 : (im_w fac ((rr 16) * (rr 17))) = 0 := c_6
      refine lv_iconst (v := 2) hx hb d_Copy_multiply_44 (by decide) ?_
      exact rt_i (v := 2) rr hx hb hr hlocks (show (2 : Int32) = (ml_w fac rr).1 ∧ rr = (ml_w fac rr).2 from (by simp only [ml_w, pk_uLs, if_pos c_3, if_pos c_6, and_self])) (hP.sub (ws' := [(cp, .inr (1, [.long fac, .ref rw, .ref po, .int pl])), (rw, .inl (cL, 18, .inr (.inl rr))), (po, .inl (cL, 4, .inr (.inl qq)))]) [0, 1, 2] rfl) (hD.sub (ws' := [(cp, .inr (1, [.long fac, .ref rw, .ref po, .int pl])), (rw, .inl (cL, 18, .inr (.inl rr))), (po, .inl (cL, 4, .inr (.inl qq)))]) [0, 1, 2] (by decide) rfl) hS d_Copy_multiply_45

set_option maxHeartbeats 4000000 in
set_option maxRecDepth 100000 in
theorem c_Copy_lookUp (l : Launch) (dC : Nat → ClassId) (dI : Nat → Nat → Nat) (cI cL : ClassId) (hs0 : Nat) (cp : Nat) (rw : Nat) (po : Nat) (fac : Int64) (rr : Nat → Int64) (qq : Nat → Int64) (pl : Int32)  : ct_i l y_Copy_lookUp b_Copy_lookUp 3 (some .int) ({ frames := 1, cells := 0, slots := 0, locals := 40 }) (dC, dI) cI cL [.ref cp] [(cp, .inr (1, [.long fac, .ref rw, .ref po, .int pl])), (rw, .inl (cL, 18, .inr (.inl rr))), (po, .inl (cL, 4, .inr (.inl qq)))] hs0 (fun (r : Int32) (u : (Nat → Int64)) => r = (lk_w fac rr).1 ∧ u = (lk_w fac rr).2) (fun u => [(cp, .inr (1, [.long fac, .ref rw, .ref po, .int pl])), (rw, .inl (cL, 18, .inr (.inl u))), (po, .inl (cL, 4, .inr (.inl qq)))]) 0 0 := by
  refine st_w (Qc := fun A => va_Qi (fun (r : Int32) (u : (Nat → Int64)) => r = (lk_w fac rr).1 ∧ u = (lk_w fac rr).2) (fun (u : (Nat → Int64)) t => pos_w (dC, dI) A [(cp, .inr (1, [.long fac, .ref rw, .ref po, .int pl])), (rw, .inl (cL, 18, .inr (.inl u))), (po, .inl (cL, 4, .inr (.inl qq)))] t) A) (by decide) (Nat.le_of_ble_eq_true rfl) ?_
  intro p e s m below meth c A ls hfx hK hA hP hD hS hl
  obtain ⟨hx, hb, hml, hown, htb, hr, hlocks, hin⟩ := hfx
  have hl : lv_has ls 3 [(0, .ref cp)] := hl
  refine lv_aload_n hx hb d_Copy_lookUp_0 rfl (lv_at hl 0 rfl) ?_
  refine lv_aload_n hx hb d_Copy_lookUp_1 rfl (lv_at hl 0 rfl) ?_
  refine va_get (D := (dC, dI)) (ci := 1) (v := .ref rw) (C := R_Copy) (T := F_Copy) (N := 4) hx hb htb iw_Copy hown hK.1 hP 0 rfl rfl 1 (by decide) (htb _ tw_69) (fun _ h9 => h9) rfl d_Copy_lookUp_2 ?_
  refine lv_bipush (v := 16) hx hb d_Copy_lookUp_5 (by decide) ?_
  refine ld_l (v := rr 16) (cA := cL) hx hb hK.1 hP 1 1 rfl rfl (show ¬ (_ ∨ _) by decide) rfl d_Copy_lookUp_7 ?_
  refine af_i (wr := []) (va_runV (As := [.long (rr 16)]) (rest := []) ⟨hx, hb, hml, hown, htb⟩ (c_Copy_isMultiple l dC dI cI cL s.heap.size cp rw po fac rr qq pl (rr 16) ) ⟨callB_of 1 htb (gd_w tw_219) rfl rfl rfl (htb _ tw_22) (htb _ tw_216) (by decide +kernel) ⟨Nat.le_of_ble_eq_true rfl, Nat.le_of_ble_eq_true rfl⟩, htb _ tw_218, htb _ tw_6⟩ (pv_V hK (hP.sub (ws' := [(cp, .inr (1, [.long fac, .ref rw, .ref po, .int pl])), (rw, .inl (cL, 18, .inr (.inl rr))), (po, .inl (cL, 4, .inr (.inl qq)))]) [0, 1, 2] rfl) (hD.sub (ws' := [(cp, .inr (1, [.long fac, .ref rw, .ref po, .int pl])), (rw, .inl (cL, 18, .inr (.inl rr))), (po, .inl (cL, 4, .inr (.inl qq)))]) [0, 1, 2] (by decide) rfl) (ci := 1) (q0 := 0) rfl rfl) rfl rfl hl.1 rfl (lv_room (Nat.le_of_ble_eq_true rfl)) d_Copy_lookUp_8 ⟨Nat.le_of_ble_eq_true rfl, Nat.le_of_ble_eq_true rfl⟩) hP hD hS hA [0, 1, 2] [] rfl rfl (by decide) (by decide) (fun r_1 u_2 H locs hw hP hD hS => ?_)
  try dsimp only at hw
  subst hw
  have hP : va_P (dC, dI) classes [(cp, .inr (1, [.long fac, .ref rw, .ref po, .int pl])), (rw, .inl (cL, 18, .inr (.inl rr))), (po, .inl (cL, 4, .inr (.inl qq)))] H := hP
  have hD : va_D A [(cp, .inr (1, [.long fac, .ref rw, .ref po, .int pl])), (rw, .inl (cL, 18, .inr (.inl rr))), (po, .inl (cL, 4, .inr (.inl qq)))] := hD
  refine lv_if_ne (tgt := 16) hx hb d_Copy_lookUp_11 (by decide) (fun c_3 => ?_) (fun c_3 => ?_)
  · have c_3 : ¬ (im_w fac (rr 16)) = 0 := c_3
    refine lv_aload_n hx hb d_Copy_lookUp_16 rfl (lv_at hl 0 rfl) ?_
    refine lv_aload_n hx hb d_Copy_lookUp_17 rfl (lv_at hl 0 rfl) ?_
    refine va_get (D := (dC, dI)) (ci := 1) (v := .ref rw) (C := R_Copy) (T := F_Copy) (N := 4) hx hb htb iw_Copy hown hK.1 hP 0 rfl rfl 1 (by decide) (htb _ tw_69) (fun _ h9 => h9) rfl d_Copy_lookUp_18 ?_
    refine lv_bipush (v := 16) hx hb d_Copy_lookUp_21 (by decide) ?_
    refine ld_l (v := rr 16) (cA := cL) hx hb hK.1 hP 1 1 rfl rfl (show ¬ (_ ∨ _) by decide) rfl d_Copy_lookUp_23 ?_
    refine af_l (wr := []) (va_runV (As := [.long (rr 16)]) (rest := []) ⟨hx, hb, hml, hown, htb⟩ (c_Copy_part l dC dI cI cL H.size cp rw po fac rr qq pl (rr 16) ) ⟨callB_of 1 htb (gd_w tw_223) rfl rfl rfl (htb _ tw_22) (htb _ tw_220) (by decide +kernel) ⟨Nat.le_of_ble_eq_true rfl, Nat.le_of_ble_eq_true rfl⟩, htb _ tw_222, htb _ tw_7⟩ (pv_V hK (hP.sub (ws' := [(cp, .inr (1, [.long fac, .ref rw, .ref po, .int pl])), (rw, .inl (cL, 18, .inr (.inl rr))), (po, .inl (cL, 4, .inr (.inl qq)))]) [0, 1, 2] rfl) (hD.sub (ws' := [(cp, .inr (1, [.long fac, .ref rw, .ref po, .int pl])), (rw, .inl (cL, 18, .inr (.inl rr))), (po, .inl (cL, 4, .inr (.inl qq)))]) [0, 1, 2] (by decide) rfl) (ci := 1) (q0 := 0) rfl rfl) rfl rfl hl.1 rfl (lv_room (Nat.le_of_ble_eq_true rfl)) d_Copy_lookUp_24 ⟨Nat.le_of_ble_eq_true rfl, Nat.le_of_ble_eq_true rfl⟩) hP hD hS hA [0, 1, 2] [] rfl rfl (by decide) (by decide) (fun r_4 u_5 H locs hw hP hD hS => ?_)
    try dsimp only at hw
    subst hw
    have hP : va_P (dC, dI) classes [(cp, .inr (1, [.long fac, .ref rw, .ref po, .int pl])), (rw, .inl (cL, 18, .inr (.inl rr))), (po, .inl (cL, 4, .inr (.inl qq)))] H := hP
    have hD : va_D A [(cp, .inr (1, [.long fac, .ref rw, .ref po, .int pl])), (rw, .inl (cL, 18, .inr (.inl rr))), (po, .inl (cL, 4, .inr (.inl qq)))] := hD
    refine lv_lstore_n (lv' := [(1, .long (pa_w fac (rr 16))), (0, .ref cp)]) hx hb d_Copy_lookUp_27 rfl hl (by decide) rfl (fun ls hl => ?_)
    refine lv_lload_n hx hb d_Copy_lookUp_28 rfl (lv_at hl 0 rfl) ?_
    refine lv_lconst (v := 0) hx hb d_Copy_lookUp_29 (by decide) ?_
    refine W.lcmp hx hb d_Copy_lookUp_30 ?_
    refine lv_if_lt (tgt := 42) hx hb d_Copy_lookUp_31 (by decide) (fun c_6 => ?_) (fun c_6 => ?_)
    · have c_6 : (lg_cmp (pa_w fac (rr 16)) 0) < 0 := c_6
      rw [lc_lt] at c_6
      refine lv_iconst (v := 2) hx hb d_Copy_lookUp_42 (by decide) ?_
      exact rt_i (v := 2) rr hx hb hr hlocks (show (2 : Int32) = (lk_w fac rr).1 ∧ rr = (lk_w fac rr).2 from (by simp only [lk_w, if_neg c_3, if_pos c_6, and_self])) (hP.sub (ws' := [(cp, .inr (1, [.long fac, .ref rw, .ref po, .int pl])), (rw, .inl (cL, 18, .inr (.inl rr))), (po, .inl (cL, 4, .inr (.inl qq)))]) [0, 1, 2] rfl) (hD.sub (ws' := [(cp, .inr (1, [.long fac, .ref rw, .ref po, .int pl])), (rw, .inl (cL, 18, .inr (.inl rr))), (po, .inl (cL, 4, .inr (.inl qq)))]) [0, 1, 2] (by decide) rfl) hS d_Copy_lookUp_43
    · have c_6 : ¬ (lg_cmp (pa_w fac (rr 16)) 0) < 0 := c_6
      rw [lc_lt] at c_6
      refine lv_lload_n hx hb d_Copy_lookUp_34 rfl (lv_at hl 0 rfl) ?_
      refine lv_ldc2 (v := 16) hx hb hown (htb _ tw_228) d_Copy_lookUp_35 ?_
      refine W.lcmp hx hb d_Copy_lookUp_38 ?_
      refine lv_if_lt (tgt := 44) hx hb d_Copy_lookUp_39 (by decide) (fun c_7 => ?_) (fun c_7 => ?_)
      · have c_7 : (lg_cmp (pa_w fac (rr 16)) 16) < 0 := c_7
        rw [lc_lt] at c_7
        refine lv_aload_n hx hb d_Copy_lookUp_44 rfl (lv_at hl 1 rfl) ?_
        refine va_get (D := (dC, dI)) (ci := 1) (v := .ref rw) (C := R_Copy) (T := F_Copy) (N := 4) hx hb htb iw_Copy hown hK.1 hP 0 rfl rfl 1 (by decide) (htb _ tw_69) (fun _ h9 => h9) rfl d_Copy_lookUp_45 ?_
        refine lv_bipush (v := 16) hx hb d_Copy_lookUp_48 (by decide) ?_
        refine lv_aload_n hx hb d_Copy_lookUp_50 rfl (lv_at hl 1 rfl) ?_
        refine va_get (D := (dC, dI)) (ci := 1) (v := .ref rw) (C := R_Copy) (T := F_Copy) (N := 4) hx hb htb iw_Copy hown hK.1 hP 0 rfl rfl 1 (by decide) (htb _ tw_69) (fun _ h9 => h9) rfl d_Copy_lookUp_51 ?_
        refine lv_lload_n hx hb d_Copy_lookUp_54 rfl (lv_at hl 0 rfl) ?_
        refine lv_l2i (v := (pa_w fac (rr 16)).toInt32) hx hb d_Copy_lookUp_55 rfl ?_
        refine ld_l (v := rr (((pa_w fac (rr 16)).toInt32).toNatClampNeg)) (cA := cL) hx hb hK.1 hP 1 1 rfl rfl (lk_in c_6 c_7) rfl d_Copy_lookUp_56 ?_
        refine sd_l (g := vp_updL rr 16 (rr (((pa_w fac (rr 16)).toInt32).toNatClampNeg))) (cA := cL) hx hb hK.1 hP hD hS 1 1 rfl rfl (show ¬ (_ ∨ _) by decide) rfl d_Copy_lookUp_57 (fun H locs hP hD hS => ?_)
        have hP : va_P (dC, dI) classes [(cp, .inr (1, [.long fac, .ref rw, .ref po, .int pl])), (rw, .inl (cL, 18, .inr (.inl (vp_updL rr 16 (rr (((pa_w fac (rr 16)).toInt32).toNatClampNeg)))))), (po, .inl (cL, 4, .inr (.inl qq)))] H := hP
        have hD : va_D A [(cp, .inr (1, [.long fac, .ref rw, .ref po, .int pl])), (rw, .inl (cL, 18, .inr (.inl (vp_updL rr 16 (rr (((pa_w fac (rr 16)).toInt32).toNatClampNeg)))))), (po, .inl (cL, 4, .inr (.inl qq)))] := hD
        refine lv_iconst (v := 0) hx hb d_Copy_lookUp_58 (by decide) ?_
        exact rt_i (v := 0) (vp_updL rr 16 (rr (((pa_w fac (rr 16)).toInt32).toNatClampNeg))) hx hb hr hlocks (show (0 : Int32) = (lk_w fac rr).1 ∧ (vp_updL rr 16 (rr (((pa_w fac (rr 16)).toInt32).toNatClampNeg))) = (lk_w fac rr).2 from (by simp only [lk_w, if_neg c_3, if_neg c_6, if_pos c_7, and_self])) (hP.sub (ws' := [(cp, .inr (1, [.long fac, .ref rw, .ref po, .int pl])), (rw, .inl (cL, 18, .inr (.inl (vp_updL rr 16 (rr (((pa_w fac (rr 16)).toInt32).toNatClampNeg)))))), (po, .inl (cL, 4, .inr (.inl qq)))]) [0, 1, 2] rfl) (hD.sub (ws' := [(cp, .inr (1, [.long fac, .ref rw, .ref po, .int pl])), (rw, .inl (cL, 18, .inr (.inl (vp_updL rr 16 (rr (((pa_w fac (rr 16)).toInt32).toNatClampNeg)))))), (po, .inl (cL, 4, .inr (.inl qq)))]) [0, 1, 2] (by decide) rfl) hS d_Copy_lookUp_59
      · have c_7 : ¬ (lg_cmp (pa_w fac (rr 16)) 16) < 0 := c_7
        rw [lc_lt] at c_7
        refine lv_iconst (v := 2) hx hb d_Copy_lookUp_42 (by decide) ?_
        exact rt_i (v := 2) rr hx hb hr hlocks (show (2 : Int32) = (lk_w fac rr).1 ∧ rr = (lk_w fac rr).2 from (by simp only [lk_w, if_neg c_3, if_neg c_6, if_neg c_7, and_self])) (hP.sub (ws' := [(cp, .inr (1, [.long fac, .ref rw, .ref po, .int pl])), (rw, .inl (cL, 18, .inr (.inl rr))), (po, .inl (cL, 4, .inr (.inl qq)))]) [0, 1, 2] rfl) (hD.sub (ws' := [(cp, .inr (1, [.long fac, .ref rw, .ref po, .int pl])), (rw, .inl (cL, 18, .inr (.inl rr))), (po, .inl (cL, 4, .inr (.inl qq)))]) [0, 1, 2] (by decide) rfl) hS d_Copy_lookUp_43
  · have c_3 : (im_w fac (rr 16)) = 0 := c_3
    refine lv_iconst (v := 2) hx hb d_Copy_lookUp_14 (by decide) ?_
    exact rt_i (v := 2) rr hx hb hr hlocks (show (2 : Int32) = (lk_w fac rr).1 ∧ rr = (lk_w fac rr).2 from (by simp only [lk_w, if_pos c_3, and_self])) (hP.sub (ws' := [(cp, .inr (1, [.long fac, .ref rw, .ref po, .int pl])), (rw, .inl (cL, 18, .inr (.inl rr))), (po, .inl (cL, 4, .inr (.inl qq)))]) [0, 1, 2] rfl) (hD.sub (ws' := [(cp, .inr (1, [.long fac, .ref rw, .ref po, .int pl])), (rw, .inl (cL, 18, .inr (.inl rr))), (po, .inl (cL, 4, .inr (.inl qq)))]) [0, 1, 2] (by decide) rfl) hS d_Copy_lookUp_15

set_option maxHeartbeats 4000000 in
set_option maxRecDepth 100000 in
theorem c_Copy_move (l : Launch) (dC : Nat → ClassId) (dI : Nat → Nat → Nat) (cI cL : ClassId) (hs0 : Nat) (cp : Nat) (rw : Nat) (po : Nat) (fac : Int64) (rr : Nat → Int64) (qq : Nat → Int64) (pl : Int32) (o0 : Int32) (n0 : Int32) (hv : ii_w o0 n0 = 1) : ct_v l y_Copy_move b_Copy_move 3 none ({ frames := 0, cells := 0, slots := 0, locals := 0 }) (dC, dI) cI cL [.ref cp, .int o0, .int n0] [(cp, .inr (1, [.long fac, .ref rw, .ref po, .int pl])), (rw, .inl (cL, 18, .inr (.inl rr))), (po, .inl (cL, 4, .inr (.inl qq)))] hs0 (fun (u : (Nat → Int64) × (Nat → Int64) × Int32) => u.1 = (mv_w fac o0 n0 rr qq pl).1 ∧ u.2.1 = (mv_w fac o0 n0 rr qq pl).2.1 ∧ u.2.2 = (mv_w fac o0 n0 rr qq pl).2.2) (fun u => [(cp, .inr (1, [.long fac, .ref rw, .ref po, .int u.2.2])), (rw, .inl (cL, 18, .inr (.inl u.1))), (po, .inl (cL, 4, .inr (.inl u.2.1)))]) 0 0 := by
  refine st_w (Qc := fun A => va_Qv (fun (u : (Nat → Int64) × (Nat → Int64) × Int32) => u.1 = (mv_w fac o0 n0 rr qq pl).1 ∧ u.2.1 = (mv_w fac o0 n0 rr qq pl).2.1 ∧ u.2.2 = (mv_w fac o0 n0 rr qq pl).2.2) (fun (u : (Nat → Int64) × (Nat → Int64) × Int32) t => pos_w (dC, dI) A [(cp, .inr (1, [.long fac, .ref rw, .ref po, .int u.2.2])), (rw, .inl (cL, 18, .inr (.inl u.1))), (po, .inl (cL, 4, .inr (.inl u.2.1)))] t) A) (by decide) (Nat.le_of_ble_eq_true rfl) ?_
  intro p e s m below meth c A ls hfx hK hA hP hD hS hl
  obtain ⟨hx, hb, hml, hown, htb, hr, hlocks, hin⟩ := hfx
  have hl : lv_has ls 3 [(0, .ref cp), (1, .int o0), (2, .int n0)] := hl
  refine lv_iload_n hx hb d_Copy_move_0 rfl (lv_at hl 1 rfl) ?_
  by_cases c_1 : o0 = 0
  · refine lv_tableIn (tgt := 72) hx hb d_Copy_move_1 (by rw [c_1]; decide) (by rw [c_1]; decide) (by rw [c_1]; rfl) (by decide) ?_
    refine lv_aload_n hx hb d_Copy_move_72 rfl (lv_at hl 0 rfl) ?_
    refine va_get (D := (dC, dI)) (ci := 1) (v := .ref rw) (C := R_Copy) (T := F_Copy) (N := 4) hx hb htb iw_Copy hown hK.1 hP 0 rfl rfl 1 (by decide) (htb _ tw_69) (fun _ h9 => h9) rfl d_Copy_move_73 ?_
    refine lv_bipush (v := 16) hx hb d_Copy_move_76 (by decide) ?_
    refine lv_iload_n hx hb d_Copy_move_78 rfl (lv_at hl 2 rfl) ?_
    refine lv_i2l (v := n0.toInt64) hx hb d_Copy_move_79 (by first | rfl | decide) ?_
    refine lv_aload_n hx hb d_Copy_move_80 rfl (lv_at hl 0 rfl) ?_
    refine va_get (D := (dC, dI)) (ci := 1) (v := .long fac) (C := R_Copy) (T := F_Copy) (N := 4) hx hb htb iw_Copy hown hK.1 hP 0 rfl rfl 0 (by decide) (htb _ tw_68) (fun _ h9 => h9) rfl d_Copy_move_81 ?_
    refine lv_lmul hx hb d_Copy_move_84 ?_
    refine sd_l (g := vp_updL rr 16 (n0.toInt64 * fac)) (cA := cL) hx hb hK.1 hP hD hS 1 1 rfl rfl (show ¬ (_ ∨ _) by decide) rfl d_Copy_move_85 (fun H locs hP hD hS => ?_)
    have hP : va_P (dC, dI) classes [(cp, .inr (1, [.long fac, .ref rw, .ref po, .int pl])), (rw, .inl (cL, 18, .inr (.inl (vp_updL rr 16 (n0.toInt64 * fac))))), (po, .inl (cL, 4, .inr (.inl qq)))] H := hP
    have hD : va_D A [(cp, .inr (1, [.long fac, .ref rw, .ref po, .int pl])), (rw, .inl (cL, 18, .inr (.inl (vp_updL rr 16 (n0.toInt64 * fac))))), (po, .inl (cL, 4, .inr (.inl qq)))] := hD
    refine lv_goto (tgt := 261) hx hb d_Copy_move_86 (by decide) ?_
    exact rt_v ((vp_updL rr 16 (n0.toInt64 * fac)), qq, pl) hx hb hr hlocks (show (vp_updL rr 16 (n0.toInt64 * fac)) = (mv_w fac o0 n0 rr qq pl).1 ∧ qq = (mv_w fac o0 n0 rr qq pl).2.1 ∧ pl = (mv_w fac o0 n0 rr qq pl).2.2 from (by simp only [mv_w, if_pos c_1, and_self])) (hP.sub (ws' := [(cp, .inr (1, [.long fac, .ref rw, .ref po, .int pl])), (rw, .inl (cL, 18, .inr (.inl (vp_updL rr 16 (n0.toInt64 * fac))))), (po, .inl (cL, 4, .inr (.inl qq)))]) [0, 1, 2] rfl) (hD.sub (ws' := [(cp, .inr (1, [.long fac, .ref rw, .ref po, .int pl])), (rw, .inl (cL, 18, .inr (.inl (vp_updL rr 16 (n0.toInt64 * fac))))), (po, .inl (cL, 4, .inr (.inl qq)))]) [0, 1, 2] (by decide) rfl) hS d_Copy_move_261
  by_cases c_2 : o0 = 1
  · refine lv_tableIn (tgt := 89) hx hb d_Copy_move_1 (by rw [c_2]; decide) (by rw [c_2]; decide) (by rw [c_2]; rfl) (by decide) ?_
    refine lv_aload_n hx hb d_Copy_move_89 rfl (lv_at hl 0 rfl) ?_
    refine va_get (D := (dC, dI)) (ci := 1) (v := .ref rw) (C := R_Copy) (T := F_Copy) (N := 4) hx hb htb iw_Copy hown hK.1 hP 0 rfl rfl 1 (by decide) (htb _ tw_69) (fun _ h9 => h9) rfl d_Copy_move_90 ?_
    refine lv_bipush (v := 16) hx hb d_Copy_move_93 (by decide) ?_
    refine lv_aload_n hx hb d_Copy_move_95 rfl (lv_at hl 0 rfl) ?_
    refine va_get (D := (dC, dI)) (ci := 1) (v := .ref rw) (C := R_Copy) (T := F_Copy) (N := 4) hx hb htb iw_Copy hown hK.1 hP 0 rfl rfl 1 (by decide) (htb _ tw_69) (fun _ h9 => h9) rfl d_Copy_move_96 ?_
    refine lv_iload_n hx hb d_Copy_move_99 rfl (lv_at hl 2 rfl) ?_
    refine ld_l (v := rr n0.toNatClampNeg) (cA := cL) hx hb hK.1 hP 1 1 rfl rfl (ii_in1 (by have q9 := hv; rw [c_2] at q9; exact q9)) rfl d_Copy_move_100 ?_
    refine sd_l (g := vp_updL rr 16 (rr n0.toNatClampNeg)) (cA := cL) hx hb hK.1 hP hD hS 1 1 rfl rfl (show ¬ (_ ∨ _) by decide) rfl d_Copy_move_101 (fun H locs hP hD hS => ?_)
    have hP : va_P (dC, dI) classes [(cp, .inr (1, [.long fac, .ref rw, .ref po, .int pl])), (rw, .inl (cL, 18, .inr (.inl (vp_updL rr 16 (rr n0.toNatClampNeg))))), (po, .inl (cL, 4, .inr (.inl qq)))] H := hP
    have hD : va_D A [(cp, .inr (1, [.long fac, .ref rw, .ref po, .int pl])), (rw, .inl (cL, 18, .inr (.inl (vp_updL rr 16 (rr n0.toNatClampNeg))))), (po, .inl (cL, 4, .inr (.inl qq)))] := hD
    refine lv_goto (tgt := 261) hx hb d_Copy_move_102 (by decide) ?_
    exact rt_v ((vp_updL rr 16 (rr n0.toNatClampNeg)), qq, pl) hx hb hr hlocks (show (vp_updL rr 16 (rr n0.toNatClampNeg)) = (mv_w fac o0 n0 rr qq pl).1 ∧ qq = (mv_w fac o0 n0 rr qq pl).2.1 ∧ pl = (mv_w fac o0 n0 rr qq pl).2.2 from (by simp only [mv_w, if_neg c_1, if_pos c_2, and_self])) (hP.sub (ws' := [(cp, .inr (1, [.long fac, .ref rw, .ref po, .int pl])), (rw, .inl (cL, 18, .inr (.inl (vp_updL rr 16 (rr n0.toNatClampNeg))))), (po, .inl (cL, 4, .inr (.inl qq)))]) [0, 1, 2] rfl) (hD.sub (ws' := [(cp, .inr (1, [.long fac, .ref rw, .ref po, .int pl])), (rw, .inl (cL, 18, .inr (.inl (vp_updL rr 16 (rr n0.toNatClampNeg))))), (po, .inl (cL, 4, .inr (.inl qq)))]) [0, 1, 2] (by decide) rfl) hS d_Copy_move_261
  by_cases c_3 : o0 = 2
  · refine lv_tableIn (tgt := 105) hx hb d_Copy_move_1 (by rw [c_3]; decide) (by rw [c_3]; decide) (by rw [c_3]; rfl) (by decide) ?_
    refine lv_aload_n hx hb d_Copy_move_105 rfl (lv_at hl 0 rfl) ?_
    refine va_get (D := (dC, dI)) (ci := 1) (v := .ref rw) (C := R_Copy) (T := F_Copy) (N := 4) hx hb htb iw_Copy hown hK.1 hP 0 rfl rfl 1 (by decide) (htb _ tw_69) (fun _ h9 => h9) rfl d_Copy_move_106 ?_
    refine lv_iload_n hx hb d_Copy_move_109 rfl (lv_at hl 2 rfl) ?_
    refine lv_aload_n hx hb d_Copy_move_110 rfl (lv_at hl 0 rfl) ?_
    refine va_get (D := (dC, dI)) (ci := 1) (v := .ref rw) (C := R_Copy) (T := F_Copy) (N := 4) hx hb htb iw_Copy hown hK.1 hP 0 rfl rfl 1 (by decide) (htb _ tw_69) (fun _ h9 => h9) rfl d_Copy_move_111 ?_
    refine lv_bipush (v := 16) hx hb d_Copy_move_114 (by decide) ?_
    refine ld_l (v := rr 16) (cA := cL) hx hb hK.1 hP 1 1 rfl rfl (show ¬ (_ ∨ _) by decide) rfl d_Copy_move_116 ?_
    refine sd_l (g := vp_updL rr n0.toNatClampNeg (rr 16)) (cA := cL) hx hb hK.1 hP hD hS 1 1 rfl rfl (ii_in2 (by have q9 := hv; rw [c_3] at q9; exact q9)) rfl d_Copy_move_117 (fun H locs hP hD hS => ?_)
    have hP : va_P (dC, dI) classes [(cp, .inr (1, [.long fac, .ref rw, .ref po, .int pl])), (rw, .inl (cL, 18, .inr (.inl (vp_updL rr n0.toNatClampNeg (rr 16))))), (po, .inl (cL, 4, .inr (.inl qq)))] H := hP
    have hD : va_D A [(cp, .inr (1, [.long fac, .ref rw, .ref po, .int pl])), (rw, .inl (cL, 18, .inr (.inl (vp_updL rr n0.toNatClampNeg (rr 16))))), (po, .inl (cL, 4, .inr (.inl qq)))] := hD
    refine lv_goto (tgt := 261) hx hb d_Copy_move_118 (by decide) ?_
    exact rt_v ((vp_updL rr n0.toNatClampNeg (rr 16)), qq, pl) hx hb hr hlocks (show (vp_updL rr n0.toNatClampNeg (rr 16)) = (mv_w fac o0 n0 rr qq pl).1 ∧ qq = (mv_w fac o0 n0 rr qq pl).2.1 ∧ pl = (mv_w fac o0 n0 rr qq pl).2.2 from (by simp only [mv_w, if_neg c_1, if_neg c_2, if_pos c_3, and_self])) (hP.sub (ws' := [(cp, .inr (1, [.long fac, .ref rw, .ref po, .int pl])), (rw, .inl (cL, 18, .inr (.inl (vp_updL rr n0.toNatClampNeg (rr 16))))), (po, .inl (cL, 4, .inr (.inl qq)))]) [0, 1, 2] rfl) (hD.sub (ws' := [(cp, .inr (1, [.long fac, .ref rw, .ref po, .int pl])), (rw, .inl (cL, 18, .inr (.inl (vp_updL rr n0.toNatClampNeg (rr 16))))), (po, .inl (cL, 4, .inr (.inl qq)))]) [0, 1, 2] (by decide) rfl) hS d_Copy_move_261
  by_cases c_4 : o0 = 3
  · refine lv_tableIn (tgt := 121) hx hb d_Copy_move_1 (by rw [c_4]; decide) (by rw [c_4]; decide) (by rw [c_4]; rfl) (by decide) ?_
    refine lv_aload_n hx hb d_Copy_move_121 rfl (lv_at hl 0 rfl) ?_
    refine va_get (D := (dC, dI)) (ci := 1) (v := .ref rw) (C := R_Copy) (T := F_Copy) (N := 4) hx hb htb iw_Copy hown hK.1 hP 0 rfl rfl 1 (by decide) (htb _ tw_69) (fun _ h9 => h9) rfl d_Copy_move_122 ?_
    refine lv_bipush (v := 17) hx hb d_Copy_move_125 (by decide) ?_
    refine lv_aload_n hx hb d_Copy_move_127 rfl (lv_at hl 0 rfl) ?_
    refine va_get (D := (dC, dI)) (ci := 1) (v := .ref rw) (C := R_Copy) (T := F_Copy) (N := 4) hx hb htb iw_Copy hown hK.1 hP 0 rfl rfl 1 (by decide) (htb _ tw_69) (fun _ h9 => h9) rfl d_Copy_move_128 ?_
    refine lv_bipush (v := 16) hx hb d_Copy_move_131 (by decide) ?_
    refine ld_l (v := rr 16) (cA := cL) hx hb hK.1 hP 1 1 rfl rfl (show ¬ (_ ∨ _) by decide) rfl d_Copy_move_133 ?_
    refine sd_l (g := vp_updL rr 17 (rr 16)) (cA := cL) hx hb hK.1 hP hD hS 1 1 rfl rfl (show ¬ (_ ∨ _) by decide) rfl d_Copy_move_134 (fun H locs hP hD hS => ?_)
    have hP : va_P (dC, dI) classes [(cp, .inr (1, [.long fac, .ref rw, .ref po, .int pl])), (rw, .inl (cL, 18, .inr (.inl (vp_updL rr 17 (rr 16))))), (po, .inl (cL, 4, .inr (.inl qq)))] H := hP
    have hD : va_D A [(cp, .inr (1, [.long fac, .ref rw, .ref po, .int pl])), (rw, .inl (cL, 18, .inr (.inl (vp_updL rr 17 (rr 16))))), (po, .inl (cL, 4, .inr (.inl qq)))] := hD
    refine lv_goto (tgt := 261) hx hb d_Copy_move_135 (by decide) ?_
    exact rt_v ((vp_updL rr 17 (rr 16)), qq, pl) hx hb hr hlocks (show (vp_updL rr 17 (rr 16)) = (mv_w fac o0 n0 rr qq pl).1 ∧ qq = (mv_w fac o0 n0 rr qq pl).2.1 ∧ pl = (mv_w fac o0 n0 rr qq pl).2.2 from (by simp only [mv_w, if_neg c_1, if_neg c_2, if_neg c_3, if_pos c_4, and_self])) (hP.sub (ws' := [(cp, .inr (1, [.long fac, .ref rw, .ref po, .int pl])), (rw, .inl (cL, 18, .inr (.inl (vp_updL rr 17 (rr 16))))), (po, .inl (cL, 4, .inr (.inl qq)))]) [0, 1, 2] rfl) (hD.sub (ws' := [(cp, .inr (1, [.long fac, .ref rw, .ref po, .int pl])), (rw, .inl (cL, 18, .inr (.inl (vp_updL rr 17 (rr 16))))), (po, .inl (cL, 4, .inr (.inl qq)))]) [0, 1, 2] (by decide) rfl) hS d_Copy_move_261
  by_cases c_5 : o0 = 7
  · refine lv_tableIn (tgt := 138) hx hb d_Copy_move_1 (by rw [c_5]; decide) (by rw [c_5]; decide) (by rw [c_5]; rfl) (by decide) ?_
    refine lv_aload_n hx hb d_Copy_move_138 rfl (lv_at hl 0 rfl) ?_
    refine va_get (D := (dC, dI)) (ci := 1) (v := .ref rw) (C := R_Copy) (T := F_Copy) (N := 4) hx hb htb iw_Copy hown hK.1 hP 0 rfl rfl 1 (by decide) (htb _ tw_69) (fun _ h9 => h9) rfl d_Copy_move_139 ?_
    refine lv_bipush (v := 16) hx hb d_Copy_move_142 (by decide) ?_
    refine lv_aload_n hx hb d_Copy_move_144 rfl (lv_at hl 0 rfl) ?_
    refine va_get (D := (dC, dI)) (ci := 1) (v := .ref rw) (C := R_Copy) (T := F_Copy) (N := 4) hx hb htb iw_Copy hown hK.1 hP 0 rfl rfl 1 (by decide) (htb _ tw_69) (fun _ h9 => h9) rfl d_Copy_move_145 ?_
    refine lv_bipush (v := 16) hx hb d_Copy_move_148 (by decide) ?_
    refine ld_l (v := rr 16) (cA := cL) hx hb hK.1 hP 1 1 rfl rfl (show ¬ (_ ∨ _) by decide) rfl d_Copy_move_150 ?_
    refine lv_aload_n hx hb d_Copy_move_151 rfl (lv_at hl 0 rfl) ?_
    refine va_get (D := (dC, dI)) (ci := 1) (v := .ref rw) (C := R_Copy) (T := F_Copy) (N := 4) hx hb htb iw_Copy hown hK.1 hP 0 rfl rfl 1 (by decide) (htb _ tw_69) (fun _ h9 => h9) rfl d_Copy_move_152 ?_
    refine lv_bipush (v := 17) hx hb d_Copy_move_155 (by decide) ?_
    refine ld_l (v := rr 17) (cA := cL) hx hb hK.1 hP 1 1 rfl rfl (show ¬ (_ ∨ _) by decide) rfl d_Copy_move_157 ?_
    refine W.lcmp hx hb d_Copy_move_158 ?_
    refine lv_if_ge (tgt := 169) hx hb d_Copy_move_159 (by decide) (fun c_6 => ?_) (fun c_6 => ?_)
    · have c_6 : 0 ≤ (lg_cmp (rr 16) (rr 17)) := c_6
      rw [lc_ge] at c_6
      refine lv_lconst (v := 0) hx hb d_Copy_move_169 (by decide) ?_
      refine sd_l (g := vp_updL rr 16 0) (cA := cL) hx hb hK.1 hP hD hS 1 1 rfl rfl (show ¬ (_ ∨ _) by decide) rfl d_Copy_move_170 (fun H locs hP hD hS => ?_)
      have hP : va_P (dC, dI) classes [(cp, .inr (1, [.long fac, .ref rw, .ref po, .int pl])), (rw, .inl (cL, 18, .inr (.inl (vp_updL rr 16 0)))), (po, .inl (cL, 4, .inr (.inl qq)))] H := hP
      have hD : va_D A [(cp, .inr (1, [.long fac, .ref rw, .ref po, .int pl])), (rw, .inl (cL, 18, .inr (.inl (vp_updL rr 16 0)))), (po, .inl (cL, 4, .inr (.inl qq)))] := hD
      refine lv_goto (tgt := 261) hx hb d_Copy_move_171 (by decide) ?_
      exact rt_v ((vp_updL rr 16 0), qq, pl) hx hb hr hlocks (show (vp_updL rr 16 0) = (mv_w fac o0 n0 rr qq pl).1 ∧ qq = (mv_w fac o0 n0 rr qq pl).2.1 ∧ pl = (mv_w fac o0 n0 rr qq pl).2.2 from (by simp only [mv_w, if_neg c_1, if_neg c_2, if_neg c_3, if_neg c_4, if_pos c_5, if_neg c_6, and_self])) (hP.sub (ws' := [(cp, .inr (1, [.long fac, .ref rw, .ref po, .int pl])), (rw, .inl (cL, 18, .inr (.inl (vp_updL rr 16 0)))), (po, .inl (cL, 4, .inr (.inl qq)))]) [0, 1, 2] rfl) (hD.sub (ws' := [(cp, .inr (1, [.long fac, .ref rw, .ref po, .int pl])), (rw, .inl (cL, 18, .inr (.inl (vp_updL rr 16 0)))), (po, .inl (cL, 4, .inr (.inl qq)))]) [0, 1, 2] (by decide) rfl) hS d_Copy_move_261
    · have c_6 : ¬ 0 ≤ (lg_cmp (rr 16) (rr 17)) := c_6
      rw [lc_ge, Decidable.not_not] at c_6
      refine lv_aload_n hx hb d_Copy_move_162 rfl (lv_at hl 0 rfl) ?_
      refine va_get (D := (dC, dI)) (ci := 1) (v := .long fac) (C := R_Copy) (T := F_Copy) (N := 4) hx hb htb iw_Copy hown hK.1 hP 0 rfl rfl 0 (by decide) (htb _ tw_68) (fun _ h9 => h9) rfl d_Copy_move_163 ?_
      refine lv_goto (tgt := 170) hx hb d_Copy_move_166 (by decide) ?_
      refine sd_l (g := vp_updL rr 16 fac) (cA := cL) hx hb hK.1 hP hD hS 1 1 rfl rfl (show ¬ (_ ∨ _) by decide) rfl d_Copy_move_170 (fun H locs hP hD hS => ?_)
      have hP : va_P (dC, dI) classes [(cp, .inr (1, [.long fac, .ref rw, .ref po, .int pl])), (rw, .inl (cL, 18, .inr (.inl (vp_updL rr 16 fac)))), (po, .inl (cL, 4, .inr (.inl qq)))] H := hP
      have hD : va_D A [(cp, .inr (1, [.long fac, .ref rw, .ref po, .int pl])), (rw, .inl (cL, 18, .inr (.inl (vp_updL rr 16 fac)))), (po, .inl (cL, 4, .inr (.inl qq)))] := hD
      refine lv_goto (tgt := 261) hx hb d_Copy_move_171 (by decide) ?_
      exact rt_v ((vp_updL rr 16 fac), qq, pl) hx hb hr hlocks (show (vp_updL rr 16 fac) = (mv_w fac o0 n0 rr qq pl).1 ∧ qq = (mv_w fac o0 n0 rr qq pl).2.1 ∧ pl = (mv_w fac o0 n0 rr qq pl).2.2 from (by simp only [mv_w, if_neg c_1, if_neg c_2, if_neg c_3, if_neg c_4, if_pos c_5, if_pos c_6, and_self])) (hP.sub (ws' := [(cp, .inr (1, [.long fac, .ref rw, .ref po, .int pl])), (rw, .inl (cL, 18, .inr (.inl (vp_updL rr 16 fac)))), (po, .inl (cL, 4, .inr (.inl qq)))]) [0, 1, 2] rfl) (hD.sub (ws' := [(cp, .inr (1, [.long fac, .ref rw, .ref po, .int pl])), (rw, .inl (cL, 18, .inr (.inl (vp_updL rr 16 fac)))), (po, .inl (cL, 4, .inr (.inl qq)))]) [0, 1, 2] (by decide) rfl) hS d_Copy_move_261
  by_cases c_7 : o0 = 8
  · refine lv_tableIn (tgt := 174) hx hb d_Copy_move_1 (by rw [c_7]; decide) (by rw [c_7]; decide) (by rw [c_7]; rfl) (by decide) ?_
    refine lv_aload_n hx hb d_Copy_move_174 rfl (lv_at hl 0 rfl) ?_
    refine va_get (D := (dC, dI)) (ci := 1) (v := .ref rw) (C := R_Copy) (T := F_Copy) (N := 4) hx hb htb iw_Copy hown hK.1 hP 0 rfl rfl 1 (by decide) (htb _ tw_69) (fun _ h9 => h9) rfl d_Copy_move_175 ?_
    refine lv_bipush (v := 16) hx hb d_Copy_move_178 (by decide) ?_
    refine lv_aload_n hx hb d_Copy_move_180 rfl (lv_at hl 0 rfl) ?_
    refine va_get (D := (dC, dI)) (ci := 1) (v := .ref rw) (C := R_Copy) (T := F_Copy) (N := 4) hx hb htb iw_Copy hown hK.1 hP 0 rfl rfl 1 (by decide) (htb _ tw_69) (fun _ h9 => h9) rfl d_Copy_move_181 ?_
    refine lv_bipush (v := 16) hx hb d_Copy_move_184 (by decide) ?_
    refine ld_l (v := rr 16) (cA := cL) hx hb hK.1 hP 1 1 rfl rfl (show ¬ (_ ∨ _) by decide) rfl d_Copy_move_186 ?_
    refine lv_aload_n hx hb d_Copy_move_187 rfl (lv_at hl 0 rfl) ?_
    refine va_get (D := (dC, dI)) (ci := 1) (v := .ref rw) (C := R_Copy) (T := F_Copy) (N := 4) hx hb htb iw_Copy hown hK.1 hP 0 rfl rfl 1 (by decide) (htb _ tw_69) (fun _ h9 => h9) rfl d_Copy_move_188 ?_
    refine lv_bipush (v := 17) hx hb d_Copy_move_191 (by decide) ?_
    refine ld_l (v := rr 17) (cA := cL) hx hb hK.1 hP 1 1 rfl rfl (show ¬ (_ ∨ _) by decide) rfl d_Copy_move_193 ?_
    refine W.lcmp hx hb d_Copy_move_194 ?_
    refine lv_if_ne (tgt := 205) hx hb d_Copy_move_195 (by decide) (fun c_8 => ?_) (fun c_8 => ?_)
    · have c_8 : ¬ (lg_cmp (rr 16) (rr 17)) = 0 := c_8
      rw [lc_eq] at c_8
      refine lv_lconst (v := 0) hx hb d_Copy_move_205 (by decide) ?_
      refine sd_l (g := vp_updL rr 16 0) (cA := cL) hx hb hK.1 hP hD hS 1 1 rfl rfl (show ¬ (_ ∨ _) by decide) rfl d_Copy_move_206 (fun H locs hP hD hS => ?_)
      have hP : va_P (dC, dI) classes [(cp, .inr (1, [.long fac, .ref rw, .ref po, .int pl])), (rw, .inl (cL, 18, .inr (.inl (vp_updL rr 16 0)))), (po, .inl (cL, 4, .inr (.inl qq)))] H := hP
      have hD : va_D A [(cp, .inr (1, [.long fac, .ref rw, .ref po, .int pl])), (rw, .inl (cL, 18, .inr (.inl (vp_updL rr 16 0)))), (po, .inl (cL, 4, .inr (.inl qq)))] := hD
      refine lv_goto (tgt := 261) hx hb d_Copy_move_207 (by decide) ?_
      exact rt_v ((vp_updL rr 16 0), qq, pl) hx hb hr hlocks (show (vp_updL rr 16 0) = (mv_w fac o0 n0 rr qq pl).1 ∧ qq = (mv_w fac o0 n0 rr qq pl).2.1 ∧ pl = (mv_w fac o0 n0 rr qq pl).2.2 from (by simp only [mv_w, if_neg c_1, if_neg c_2, if_neg c_3, if_neg c_4, if_neg c_5, if_pos c_7, if_neg c_8, and_self])) (hP.sub (ws' := [(cp, .inr (1, [.long fac, .ref rw, .ref po, .int pl])), (rw, .inl (cL, 18, .inr (.inl (vp_updL rr 16 0)))), (po, .inl (cL, 4, .inr (.inl qq)))]) [0, 1, 2] rfl) (hD.sub (ws' := [(cp, .inr (1, [.long fac, .ref rw, .ref po, .int pl])), (rw, .inl (cL, 18, .inr (.inl (vp_updL rr 16 0)))), (po, .inl (cL, 4, .inr (.inl qq)))]) [0, 1, 2] (by decide) rfl) hS d_Copy_move_261
    · have c_8 : (lg_cmp (rr 16) (rr 17)) = 0 := c_8
      rw [lc_eq] at c_8
      refine lv_aload_n hx hb d_Copy_move_198 rfl (lv_at hl 0 rfl) ?_
      refine va_get (D := (dC, dI)) (ci := 1) (v := .long fac) (C := R_Copy) (T := F_Copy) (N := 4) hx hb htb iw_Copy hown hK.1 hP 0 rfl rfl 0 (by decide) (htb _ tw_68) (fun _ h9 => h9) rfl d_Copy_move_199 ?_
      refine lv_goto (tgt := 206) hx hb d_Copy_move_202 (by decide) ?_
      refine sd_l (g := vp_updL rr 16 fac) (cA := cL) hx hb hK.1 hP hD hS 1 1 rfl rfl (show ¬ (_ ∨ _) by decide) rfl d_Copy_move_206 (fun H locs hP hD hS => ?_)
      have hP : va_P (dC, dI) classes [(cp, .inr (1, [.long fac, .ref rw, .ref po, .int pl])), (rw, .inl (cL, 18, .inr (.inl (vp_updL rr 16 fac)))), (po, .inl (cL, 4, .inr (.inl qq)))] H := hP
      have hD : va_D A [(cp, .inr (1, [.long fac, .ref rw, .ref po, .int pl])), (rw, .inl (cL, 18, .inr (.inl (vp_updL rr 16 fac)))), (po, .inl (cL, 4, .inr (.inl qq)))] := hD
      refine lv_goto (tgt := 261) hx hb d_Copy_move_207 (by decide) ?_
      exact rt_v ((vp_updL rr 16 fac), qq, pl) hx hb hr hlocks (show (vp_updL rr 16 fac) = (mv_w fac o0 n0 rr qq pl).1 ∧ qq = (mv_w fac o0 n0 rr qq pl).2.1 ∧ pl = (mv_w fac o0 n0 rr qq pl).2.2 from (by simp only [mv_w, if_neg c_1, if_neg c_2, if_neg c_3, if_neg c_4, if_neg c_5, if_pos c_7, if_pos c_8, and_self])) (hP.sub (ws' := [(cp, .inr (1, [.long fac, .ref rw, .ref po, .int pl])), (rw, .inl (cL, 18, .inr (.inl (vp_updL rr 16 fac)))), (po, .inl (cL, 4, .inr (.inl qq)))]) [0, 1, 2] rfl) (hD.sub (ws' := [(cp, .inr (1, [.long fac, .ref rw, .ref po, .int pl])), (rw, .inl (cL, 18, .inr (.inl (vp_updL rr 16 fac)))), (po, .inl (cL, 4, .inr (.inl qq)))]) [0, 1, 2] (by decide) rfl) hS d_Copy_move_261
  by_cases c_9 : o0 = 10
  · refine lv_tableIn (tgt := 210) hx hb d_Copy_move_1 (by rw [c_9]; decide) (by rw [c_9]; decide) (by rw [c_9]; rfl) (by decide) ?_
    refine lv_aload_n hx hb d_Copy_move_210 rfl (lv_at hl 0 rfl) ?_
    refine lv_iload_n hx hb d_Copy_move_211 rfl (lv_at hl 2 rfl) ?_
    refine va_put (D := (dC, dI)) (ci := 1) (v := .int n0) (ty := .int) (C := R_Copy) (T := F_Copy) (N := 4) hx hb htb iw_Copy t_Copy t_Copy_ok n_Copy hown hK.1 hP hD hS 0 rfl rfl 3 (by decide) (htb _ tw_73) (fun _ h9 => h9) rfl (by decide +kernel) rfl rfl (Nat.le_of_ble_eq_true rfl) d_Copy_move_212 (fun H locs hP hD hS => ?_)
    have hP : va_P (dC, dI) classes [(cp, .inr (1, [.long fac, .ref rw, .ref po, .int n0])), (rw, .inl (cL, 18, .inr (.inl rr))), (po, .inl (cL, 4, .inr (.inl qq)))] H := hP
    have hD : va_D A [(cp, .inr (1, [.long fac, .ref rw, .ref po, .int n0])), (rw, .inl (cL, 18, .inr (.inl rr))), (po, .inl (cL, 4, .inr (.inl qq)))] := hD
    refine lv_goto (tgt := 261) hx hb d_Copy_move_215 (by decide) ?_
    exact rt_v (rr, qq, n0) hx hb hr hlocks (show rr = (mv_w fac o0 n0 rr qq pl).1 ∧ qq = (mv_w fac o0 n0 rr qq pl).2.1 ∧ n0 = (mv_w fac o0 n0 rr qq pl).2.2 from (by simp only [mv_w, if_neg c_1, if_neg c_2, if_neg c_3, if_neg c_4, if_neg c_5, if_neg c_7, if_pos c_9, and_self])) (hP.sub (ws' := [(cp, .inr (1, [.long fac, .ref rw, .ref po, .int n0])), (rw, .inl (cL, 18, .inr (.inl rr))), (po, .inl (cL, 4, .inr (.inl qq)))]) [0, 1, 2] rfl) (hD.sub (ws' := [(cp, .inr (1, [.long fac, .ref rw, .ref po, .int n0])), (rw, .inl (cL, 18, .inr (.inl rr))), (po, .inl (cL, 4, .inr (.inl qq)))]) [0, 1, 2] (by decide) rfl) hS d_Copy_move_261
  by_cases c_10 : o0 = 11
  · refine lv_tableIn (tgt := 218) hx hb d_Copy_move_1 (by rw [c_10]; decide) (by rw [c_10]; decide) (by rw [c_10]; rfl) (by decide) ?_
    refine lv_aload_n hx hb d_Copy_move_218 rfl (lv_at hl 0 rfl) ?_
    refine lv_aload_n hx hb d_Copy_move_219 rfl (lv_at hl 0 rfl) ?_
    refine va_get (D := (dC, dI)) (ci := 1) (v := .ref rw) (C := R_Copy) (T := F_Copy) (N := 4) hx hb htb iw_Copy hown hK.1 hP 0 rfl rfl 1 (by decide) (htb _ tw_69) (fun _ h9 => h9) rfl d_Copy_move_220 ?_
    refine lv_bipush (v := 16) hx hb d_Copy_move_223 (by decide) ?_
    refine ld_l (v := rr 16) (cA := cL) hx hb hK.1 hP 1 1 rfl rfl (show ¬ (_ ∨ _) by decide) rfl d_Copy_move_225 ?_
    refine lv_lconst (v := 0) hx hb d_Copy_move_226 (by decide) ?_
    refine W.lcmp hx hb d_Copy_move_227 ?_
    refine lv_if_ne (tgt := 235) hx hb d_Copy_move_228 (by decide) (fun c_11 => ?_) (fun c_11 => ?_)
    · have c_11 : ¬ (lg_cmp (rr 16) 0) = 0 := c_11
      rw [lc_eq] at c_11
      refine lv_aload_n hx hb d_Copy_move_235 rfl (lv_at hl 0 rfl) ?_
      refine va_get (D := (dC, dI)) (ci := 1) (v := .int pl) (C := R_Copy) (T := F_Copy) (N := 4) hx hb htb iw_Copy hown hK.1 hP 0 rfl rfl 3 (by decide) (htb _ tw_73) (fun _ h9 => h9) rfl d_Copy_move_236 ?_
      refine va_put (D := (dC, dI)) (ci := 1) (v := .int pl) (ty := .int) (C := R_Copy) (T := F_Copy) (N := 4) hx hb htb iw_Copy t_Copy t_Copy_ok n_Copy hown hK.1 hP hD hS 0 rfl rfl 3 (by decide) (htb _ tw_73) (fun _ h9 => h9) rfl (by decide +kernel) rfl rfl (Nat.le_of_ble_eq_true rfl) d_Copy_move_239 (fun H locs hP hD hS => ?_)
      have hP : va_P (dC, dI) classes [(cp, .inr (1, [.long fac, .ref rw, .ref po, .int pl])), (rw, .inl (cL, 18, .inr (.inl rr))), (po, .inl (cL, 4, .inr (.inl qq)))] H := hP
      have hD : va_D A [(cp, .inr (1, [.long fac, .ref rw, .ref po, .int pl])), (rw, .inl (cL, 18, .inr (.inl rr))), (po, .inl (cL, 4, .inr (.inl qq)))] := hD
      refine lv_goto (tgt := 261) hx hb d_Copy_move_242 (by decide) ?_
      exact rt_v (rr, qq, pl) hx hb hr hlocks (show rr = (mv_w fac o0 n0 rr qq pl).1 ∧ qq = (mv_w fac o0 n0 rr qq pl).2.1 ∧ pl = (mv_w fac o0 n0 rr qq pl).2.2 from (by simp only [mv_w, if_neg c_1, if_neg c_2, if_neg c_3, if_neg c_4, if_neg c_5, if_neg c_7, if_neg c_9, if_pos c_10, if_neg c_11, and_self])) (hP.sub (ws' := [(cp, .inr (1, [.long fac, .ref rw, .ref po, .int pl])), (rw, .inl (cL, 18, .inr (.inl rr))), (po, .inl (cL, 4, .inr (.inl qq)))]) [0, 1, 2] rfl) (hD.sub (ws' := [(cp, .inr (1, [.long fac, .ref rw, .ref po, .int pl])), (rw, .inl (cL, 18, .inr (.inl rr))), (po, .inl (cL, 4, .inr (.inl qq)))]) [0, 1, 2] (by decide) rfl) hS d_Copy_move_261
    · have c_11 : (lg_cmp (rr 16) 0) = 0 := c_11
      rw [lc_eq] at c_11
      refine lv_iload_n hx hb d_Copy_move_231 rfl (lv_at hl 2 rfl) ?_
      refine lv_goto (tgt := 239) hx hb d_Copy_move_232 (by decide) ?_
      refine va_put (D := (dC, dI)) (ci := 1) (v := .int n0) (ty := .int) (C := R_Copy) (T := F_Copy) (N := 4) hx hb htb iw_Copy t_Copy t_Copy_ok n_Copy hown hK.1 hP hD hS 0 rfl rfl 3 (by decide) (htb _ tw_73) (fun _ h9 => h9) rfl (by decide +kernel) rfl rfl (Nat.le_of_ble_eq_true rfl) d_Copy_move_239 (fun H locs hP hD hS => ?_)
      have hP : va_P (dC, dI) classes [(cp, .inr (1, [.long fac, .ref rw, .ref po, .int n0])), (rw, .inl (cL, 18, .inr (.inl rr))), (po, .inl (cL, 4, .inr (.inl qq)))] H := hP
      have hD : va_D A [(cp, .inr (1, [.long fac, .ref rw, .ref po, .int n0])), (rw, .inl (cL, 18, .inr (.inl rr))), (po, .inl (cL, 4, .inr (.inl qq)))] := hD
      refine lv_goto (tgt := 261) hx hb d_Copy_move_242 (by decide) ?_
      exact rt_v (rr, qq, n0) hx hb hr hlocks (show rr = (mv_w fac o0 n0 rr qq pl).1 ∧ qq = (mv_w fac o0 n0 rr qq pl).2.1 ∧ n0 = (mv_w fac o0 n0 rr qq pl).2.2 from (by simp only [mv_w, if_neg c_1, if_neg c_2, if_neg c_3, if_neg c_4, if_neg c_5, if_neg c_7, if_neg c_9, if_pos c_10, if_pos c_11, and_self])) (hP.sub (ws' := [(cp, .inr (1, [.long fac, .ref rw, .ref po, .int n0])), (rw, .inl (cL, 18, .inr (.inl rr))), (po, .inl (cL, 4, .inr (.inl qq)))]) [0, 1, 2] rfl) (hD.sub (ws' := [(cp, .inr (1, [.long fac, .ref rw, .ref po, .int n0])), (rw, .inl (cL, 18, .inr (.inl rr))), (po, .inl (cL, 4, .inr (.inl qq)))]) [0, 1, 2] (by decide) rfl) hS d_Copy_move_261
  by_cases c_12 : o0 = 13
  · refine lv_tableIn (tgt := 245) hx hb d_Copy_move_1 (by rw [c_12]; decide) (by rw [c_12]; decide) (by rw [c_12]; rfl) (by decide) ?_
    refine lv_aload_n hx hb d_Copy_move_245 rfl (lv_at hl 0 rfl) ?_
    refine va_get (D := (dC, dI)) (ci := 1) (v := .ref po) (C := R_Copy) (T := F_Copy) (N := 4) hx hb htb iw_Copy hown hK.1 hP 0 rfl rfl 2 (by decide) (htb _ tw_71) (fun _ h9 => h9) rfl d_Copy_move_246 ?_
    refine lv_iload_n hx hb d_Copy_move_249 rfl (lv_at hl 2 rfl) ?_
    refine lv_aload_n hx hb d_Copy_move_250 rfl (lv_at hl 0 rfl) ?_
    refine va_get (D := (dC, dI)) (ci := 1) (v := .ref rw) (C := R_Copy) (T := F_Copy) (N := 4) hx hb htb iw_Copy hown hK.1 hP 0 rfl rfl 1 (by decide) (htb _ tw_69) (fun _ h9 => h9) rfl d_Copy_move_251 ?_
    refine lv_bipush (v := 16) hx hb d_Copy_move_254 (by decide) ?_
    refine ld_l (v := rr 16) (cA := cL) hx hb hK.1 hP 1 1 rfl rfl (show ¬ (_ ∨ _) by decide) rfl d_Copy_move_256 ?_
    refine sd_l (g := vp_updL qq n0.toNatClampNeg (rr 16)) (cA := cL) hx hb hK.1 hP hD hS 2 1 rfl rfl (ii_in13 (by have q9 := hv; rw [c_12] at q9; exact q9)) rfl d_Copy_move_257 (fun H locs hP hD hS => ?_)
    have hP : va_P (dC, dI) classes [(cp, .inr (1, [.long fac, .ref rw, .ref po, .int pl])), (rw, .inl (cL, 18, .inr (.inl rr))), (po, .inl (cL, 4, .inr (.inl (vp_updL qq n0.toNatClampNeg (rr 16)))))] H := hP
    have hD : va_D A [(cp, .inr (1, [.long fac, .ref rw, .ref po, .int pl])), (rw, .inl (cL, 18, .inr (.inl rr))), (po, .inl (cL, 4, .inr (.inl (vp_updL qq n0.toNatClampNeg (rr 16)))))] := hD
    refine lv_goto (tgt := 261) hx hb d_Copy_move_258 (by decide) ?_
    exact rt_v (rr, (vp_updL qq n0.toNatClampNeg (rr 16)), pl) hx hb hr hlocks (show rr = (mv_w fac o0 n0 rr qq pl).1 ∧ (vp_updL qq n0.toNatClampNeg (rr 16)) = (mv_w fac o0 n0 rr qq pl).2.1 ∧ pl = (mv_w fac o0 n0 rr qq pl).2.2 from (by simp only [mv_w, if_neg c_1, if_neg c_2, if_neg c_3, if_neg c_4, if_neg c_5, if_neg c_7, if_neg c_9, if_neg c_10, if_pos c_12, and_self])) (hP.sub (ws' := [(cp, .inr (1, [.long fac, .ref rw, .ref po, .int pl])), (rw, .inl (cL, 18, .inr (.inl rr))), (po, .inl (cL, 4, .inr (.inl (vp_updL qq n0.toNatClampNeg (rr 16)))))]) [0, 1, 2] rfl) (hD.sub (ws' := [(cp, .inr (1, [.long fac, .ref rw, .ref po, .int pl])), (rw, .inl (cL, 18, .inr (.inl rr))), (po, .inl (cL, 4, .inr (.inl (vp_updL qq n0.toNatClampNeg (rr 16)))))]) [0, 1, 2] (by decide) rfl) hS d_Copy_move_261
  refine lv_tableE (tgt := 261) hx hb d_Copy_move_1 (by decide) (fun j hj he => by have q_0 := lv_neT c_1 (a := 0) (by decide); have q_1 := lv_neT c_2 (a := 1) (by decide); have q_2 := lv_neT c_3 (a := 2) (by decide); have q_3 := lv_neT c_4 (a := 3) (by decide); have q_4 := lv_neT c_5 (a := 7) (by decide); have q_5 := lv_neT c_7 (a := 8) (by decide); have q_6 := lv_neT c_9 (a := 10) (by decide); have q_7 := lv_neT c_10 (a := 11) (by decide); have q_8 := lv_neT c_12 (a := 13) (by decide); rcases (show j = 0 ∨ j = 1 ∨ j = 2 ∨ j = 3 ∨ j = 4 ∨ j = 5 ∨ j = 6 ∨ j = 7 ∨ j = 8 ∨ j = 9 ∨ j = 10 ∨ j = 11 ∨ j = 12 ∨ j = 13 by omega) with rfl | rfl | rfl | rfl | rfl | rfl | rfl | rfl | rfl | rfl | rfl | rfl | rfl | rfl <;> first | rfl | (exfalso; omega)) ?_
  exact rt_v (rr, qq, pl) hx hb hr hlocks (show rr = (mv_w fac o0 n0 rr qq pl).1 ∧ qq = (mv_w fac o0 n0 rr qq pl).2.1 ∧ pl = (mv_w fac o0 n0 rr qq pl).2.2 from (by simp only [mv_w, if_neg c_1, if_neg c_2, if_neg c_3, if_neg c_4, if_neg c_5, if_neg c_7, if_neg c_9, if_neg c_10, if_neg c_12, and_self])) (hP.sub (ws' := [(cp, .inr (1, [.long fac, .ref rw, .ref po, .int pl])), (rw, .inl (cL, 18, .inr (.inl rr))), (po, .inl (cL, 4, .inr (.inl qq)))]) [0, 1, 2] rfl) (hD.sub (ws' := [(cp, .inr (1, [.long fac, .ref rw, .ref po, .int pl])), (rw, .inl (cL, 18, .inr (.inl rr))), (po, .inl (cL, 4, .inr (.inl qq)))]) [0, 1, 2] (by decide) rfl) hS d_Copy_move_261
end
section
theorem tw_53 : (Cond.fieldLink R_Copy 32 "TwinGate$Program" "size" "I") ∈ TB_w := List.mem_filter.mpr ⟨List.mem_of_getElem? (i := 53) (by decide +kernel), by decide +kernel⟩
theorem tw_48 : (Cond.fieldLink R_Copy 41 "TwinGate$Program" "ops" "[I") ∈ TB_w := List.mem_filter.mpr ⟨List.mem_of_getElem? (i := 48) (by decide +kernel), by decide +kernel⟩
theorem tw_50 : (Cond.fieldLink R_Copy 45 "TwinGate$Program" "numbers" "[I") ∈ TB_w := List.mem_filter.mpr ⟨List.mem_of_getElem? (i := 50) (by decide +kernel), by decide +kernel⟩
theorem tw_210 : (Cond.code y_Copy_multiply b_Copy_multiply 3 (some .int)) ∈ TB_w := List.mem_filter.mpr ⟨List.mem_of_getElem? (i := 210) rfl, by decide +kernel⟩
theorem tw_207 : (Cond.methodLink R_Copy 52 y_Copy_multiply) ∈ TB_w := List.mem_filter.mpr ⟨List.mem_of_getElem? (i := 207) (by decide +kernel), by decide +kernel⟩
theorem tw_209 : (Cond.instanceMethod y_Copy_multiply) ∈ TB_w := List.mem_filter.mpr ⟨List.mem_of_getElem? (i := 209) (by decide +kernel), by decide +kernel⟩
theorem tw_5 : (Cond.selects R_Copy y_Copy_multiply y_Copy_multiply) ∈ TB_w := List.mem_filter.mpr ⟨List.mem_of_getElem? (i := 5) (by decide +kernel), by decide +kernel⟩
theorem tw_227 : (Cond.code y_Copy_lookUp b_Copy_lookUp 3 (some .int)) ∈ TB_w := List.mem_filter.mpr ⟨List.mem_of_getElem? (i := 227) rfl, by decide +kernel⟩
theorem tw_224 : (Cond.methodLink R_Copy 55 y_Copy_lookUp) ∈ TB_w := List.mem_filter.mpr ⟨List.mem_of_getElem? (i := 224) (by decide +kernel), by decide +kernel⟩
theorem tw_226 : (Cond.instanceMethod y_Copy_lookUp) ∈ TB_w := List.mem_filter.mpr ⟨List.mem_of_getElem? (i := 226) (by decide +kernel), by decide +kernel⟩
theorem tw_8 : (Cond.selects R_Copy y_Copy_lookUp y_Copy_lookUp) ∈ TB_w := List.mem_filter.mpr ⟨List.mem_of_getElem? (i := 8) (by decide +kernel), by decide +kernel⟩
theorem tw_232 : (Cond.code y_Copy_move b_Copy_move 3 none) ∈ TB_w := List.mem_filter.mpr ⟨List.mem_of_getElem? (i := 232) rfl, by decide +kernel⟩
theorem tw_229 : (Cond.methodLink R_Copy 58 y_Copy_move) ∈ TB_w := List.mem_filter.mpr ⟨List.mem_of_getElem? (i := 229) (by decide +kernel), by decide +kernel⟩
theorem tw_231 : (Cond.instanceMethod y_Copy_move) ∈ TB_w := List.mem_filter.mpr ⟨List.mem_of_getElem? (i := 231) (by decide +kernel), by decide +kernel⟩
theorem tw_9 : (Cond.selects R_Copy y_Copy_move y_Copy_move) ∈ TB_w := List.mem_filter.mpr ⟨List.mem_of_getElem? (i := 9) (by decide +kernel), by decide +kernel⟩
set_option maxHeartbeats 4000000 in
set_option maxRecDepth 100000 in
theorem c_Copy_doStep (l : Launch) (dC : Nat → ClassId) (dI : Nat → Nat → Nat) (cI cL : ClassId) (hs0 : Nat) (cp : Nat) (rw : Nat) (po : Nat) (fac : Int64) (rr : Nat → Int64) (qq : Nat → Int64) (pl : Int32) (pg : Nat) (oa : Nat) (na : Nat) (ops : Nat → Int32) (nums : Nat → Int32) (sz : Int32) (gv : Nat) (gg : Nat → Int32) (hz : sz ≤ 100) (hok : pg_ok ops nums sz) : ct_i l y_Copy_doStep b_Copy_doStep 5 (some .int) ({ frames := 2, cells := 0, slots := 0, locals := 80 }) (dC, dI) cI cL [.ref cp, .ref pg, .ref gv] [(cp, .inr (1, [.long fac, .ref rw, .ref po, .int pl])), (rw, .inl (cL, 18, .inr (.inl rr))), (po, .inl (cL, 4, .inr (.inl qq))), (pg, .inr (3, [.ref oa, .ref na, .int sz])), (oa, .inl (cI, 100, .inl ops)), (na, .inl (cI, 100, .inl nums)), (gv, .inl (cI, 4, .inl gg))] hs0 (fun (r : Int32) (u : (Nat → Int64) × (Nat → Int64) × Int32) => r = (ds_w fac ops nums sz gg rr qq pl).1 ∧ u.1 = (ds_w fac ops nums sz gg rr qq pl).2.1 ∧ u.2.1 = (ds_w fac ops nums sz gg rr qq pl).2.2.1 ∧ u.2.2 = (ds_w fac ops nums sz gg rr qq pl).2.2.2) (fun u => [(cp, .inr (1, [.long fac, .ref rw, .ref po, .int u.2.2])), (rw, .inl (cL, 18, .inr (.inl u.1))), (po, .inl (cL, 4, .inr (.inl u.2.1))), (pg, .inr (3, [.ref oa, .ref na, .int sz])), (oa, .inl (cI, 100, .inl ops)), (na, .inl (cI, 100, .inl nums)), (gv, .inl (cI, 4, .inl gg))]) 0 0 := by
  refine st_w (Qc := fun A => va_Qi (fun (r : Int32) (u : (Nat → Int64) × (Nat → Int64) × Int32) => r = (ds_w fac ops nums sz gg rr qq pl).1 ∧ u.1 = (ds_w fac ops nums sz gg rr qq pl).2.1 ∧ u.2.1 = (ds_w fac ops nums sz gg rr qq pl).2.2.1 ∧ u.2.2 = (ds_w fac ops nums sz gg rr qq pl).2.2.2) (fun (u : (Nat → Int64) × (Nat → Int64) × Int32) t => pos_w (dC, dI) A [(cp, .inr (1, [.long fac, .ref rw, .ref po, .int u.2.2])), (rw, .inl (cL, 18, .inr (.inl u.1))), (po, .inl (cL, 4, .inr (.inl u.2.1))), (pg, .inr (3, [.ref oa, .ref na, .int sz])), (oa, .inl (cI, 100, .inl ops)), (na, .inl (cI, 100, .inl nums)), (gv, .inl (cI, 4, .inl gg))] t) A) (by decide) (Nat.le_of_ble_eq_true rfl) ?_
  intro p e s m below meth c A ls hfx hK hA hP hD hS hl
  obtain ⟨hx, hb, hml, hown, htb, hr, hlocks, hin⟩ := hfx
  have hl : lv_has ls 5 [(0, .ref cp), (1, .ref pg), (2, .ref gv)] := hl
  refine lv_aload_n hx hb d_Copy_doStep_0 rfl (lv_at hl 0 rfl) ?_
  refine va_get (D := (dC, dI)) (ci := 1) (v := .int pl) (C := R_Copy) (T := F_Copy) (N := 4) hx hb htb iw_Copy hown hK.1 hP 0 rfl rfl 3 (by decide) (htb _ tw_73) (fun _ h9 => h9) rfl d_Copy_doStep_1 ?_
  refine lv_aload_n hx hb d_Copy_doStep_4 rfl (lv_at hl 1 rfl) ?_
  refine va_get (D := (dC, dI)) (ci := 3) (v := .int sz) (C := R_Prog) (T := F_Prog) (N := 3) hx hb htb iw_Prog hown hK.1 hP 3 rfl rfl 2 (by decide) (htb _ tw_53) (fun _ h9 => h9) rfl d_Copy_doStep_5 ?_
  refine af_i (wr := [(cp, .inr (1, [.long fac, .ref rw, .ref po, .int pl])), (rw, .inl (cL, 18, .inr (.inl rr))), (po, .inl (cL, 4, .inr (.inl qq))), (pg, .inr (3, [.ref oa, .ref na, .int sz])), (oa, .inl (cI, 100, .inl ops)), (na, .inl (cI, 100, .inl nums)), (gv, .inl (cI, 4, .inl gg))]) (va_runSN (As := [.int pl, .int sz]) (rest := []) ⟨hx, hb, hml, hown, htb⟩ (c_Gate_isBelow l dC dI cI cL s.heap.size pl sz ) ⟨va_cnB 2 htb (gd_w tw_164) rfl rfl rfl (hK.2 _ nt_2) (htb _ tw_20) (by decide +kernel) ⟨Nat.le_of_ble_eq_true rfl, Nat.le_of_ble_eq_true rfl⟩, htb _ tw_163, trivial⟩ (pv_S hK (hP.sub (ws' := []) [] rfl) (hD.sub (ws' := []) [] (by decide) rfl)) rfl rfl hl.1 rfl (lv_room (Nat.le_of_ble_eq_true rfl)) d_Copy_doStep_8 ⟨Nat.le_of_ble_eq_true rfl, Nat.le_of_ble_eq_true rfl⟩) hP hD hS hA [] [0, 1, 2, 3, 4, 5, 6] rfl rfl (by decide) (by decide) (fun r_1 u_2 H locs hw hP hD hS => ?_)
  try dsimp only at hw
  subst hw
  have hP : va_P (dC, dI) classes [(cp, .inr (1, [.long fac, .ref rw, .ref po, .int pl])), (rw, .inl (cL, 18, .inr (.inl rr))), (po, .inl (cL, 4, .inr (.inl qq))), (pg, .inr (3, [.ref oa, .ref na, .int sz])), (oa, .inl (cI, 100, .inl ops)), (na, .inl (cI, 100, .inl nums)), (gv, .inl (cI, 4, .inl gg))] H := hP
  have hD : va_D A [(cp, .inr (1, [.long fac, .ref rw, .ref po, .int pl])), (rw, .inl (cL, 18, .inr (.inl rr))), (po, .inl (cL, 4, .inr (.inl qq))), (pg, .inr (3, [.ref oa, .ref na, .int sz])), (oa, .inl (cI, 100, .inl ops)), (na, .inl (cI, 100, .inl nums)), (gv, .inl (cI, 4, .inl gg))] := hD
  refine lv_if_ne (tgt := 16) hx hb d_Copy_doStep_11 (by decide) (fun c_3 => ?_) (fun c_3 => ?_)
  · have c_3 : ¬ (bl_w pl sz) = 0 := c_3
    refine lv_aload_n hx hb d_Copy_doStep_16 rfl (lv_at hl 1 rfl) ?_
    refine va_get (D := (dC, dI)) (ci := 3) (v := .ref oa) (C := R_Prog) (T := F_Prog) (N := 3) hx hb htb iw_Prog hown hK.1 hP 3 rfl rfl 0 (by decide) (htb _ tw_48) (fun _ h9 => h9) rfl d_Copy_doStep_17 ?_
    refine lv_aload_n hx hb d_Copy_doStep_20 rfl (lv_at hl 0 rfl) ?_
    refine va_get (D := (dC, dI)) (ci := 1) (v := .int pl) (C := R_Copy) (T := F_Copy) (N := 4) hx hb htb iw_Copy hown hK.1 hP 0 rfl rfl 3 (by decide) (htb _ tw_73) (fun _ h9 => h9) rfl d_Copy_doStep_21 ?_
    refine ld_i (v := ops pl.toNatClampNeg) (cA := cI) hx hb hK.1 hP 4 0 rfl rfl (bl_in c_3 hz) rfl d_Copy_doStep_24 ?_
    refine lv_istore_n (lv' := [(3, .int (ops pl.toNatClampNeg)), (0, .ref cp), (1, .ref pg), (2, .ref gv)]) hx hb d_Copy_doStep_25 rfl hl (by decide) rfl (fun ls hl => ?_)
    refine lv_aload_n hx hb d_Copy_doStep_26 rfl (lv_at hl 2 rfl) ?_
    refine va_get (D := (dC, dI)) (ci := 3) (v := .ref na) (C := R_Prog) (T := F_Prog) (N := 3) hx hb htb iw_Prog hown hK.1 hP 3 rfl rfl 1 (by decide) (htb _ tw_50) (fun _ h9 => h9) rfl d_Copy_doStep_27 ?_
    refine lv_aload_n hx hb d_Copy_doStep_30 rfl (lv_at hl 1 rfl) ?_
    refine va_get (D := (dC, dI)) (ci := 1) (v := .int pl) (C := R_Copy) (T := F_Copy) (N := 4) hx hb htb iw_Copy hown hK.1 hP 0 rfl rfl 3 (by decide) (htb _ tw_73) (fun _ h9 => h9) rfl d_Copy_doStep_31 ?_
    refine ld_i (v := nums pl.toNatClampNeg) (cA := cI) hx hb hK.1 hP 5 0 rfl rfl (bl_in c_3 hz) rfl d_Copy_doStep_34 ?_
    refine lv_istore (lv' := [(4, .int (nums pl.toNatClampNeg)), (3, .int (ops pl.toNatClampNeg)), (0, .ref cp), (1, .ref pg), (2, .ref gv)]) hx hb d_Copy_doStep_35 hl (by decide) rfl (fun ls hl => ?_)
    refine lv_aload_n hx hb d_Copy_doStep_37 rfl (lv_at hl 2 rfl) ?_
    refine lv_dup hx hb d_Copy_doStep_38 rfl ?_
    refine va_get (D := (dC, dI)) (ci := 1) (v := .int pl) (C := R_Copy) (T := F_Copy) (N := 4) hx hb htb iw_Copy hown hK.1 hP 0 rfl rfl 3 (by decide) (htb _ tw_73) (fun _ h9 => h9) rfl d_Copy_doStep_39 ?_
    refine lv_iconst (v := 1) hx hb d_Copy_doStep_42 (by decide) ?_
    refine lv_iadd hx hb d_Copy_doStep_43 ?_
    refine va_put (D := (dC, dI)) (ci := 1) (v := .int (pl + 1)) (ty := .int) (C := R_Copy) (T := F_Copy) (N := 4) hx hb htb iw_Copy t_Copy t_Copy_ok n_Copy hown hK.1 hP hD hS 0 rfl rfl 3 (by decide) (htb _ tw_73) (fun _ h9 => h9) rfl (by decide +kernel) rfl rfl (Nat.le_of_ble_eq_true rfl) d_Copy_doStep_44 (fun H locs hP hD hS => ?_)
    have hP : va_P (dC, dI) classes [(cp, .inr (1, [.long fac, .ref rw, .ref po, .int (pl + 1)])), (rw, .inl (cL, 18, .inr (.inl rr))), (po, .inl (cL, 4, .inr (.inl qq))), (pg, .inr (3, [.ref oa, .ref na, .int sz])), (oa, .inl (cI, 100, .inl ops)), (na, .inl (cI, 100, .inl nums)), (gv, .inl (cI, 4, .inl gg))] H := hP
    have hD : va_D A [(cp, .inr (1, [.long fac, .ref rw, .ref po, .int (pl + 1)])), (rw, .inl (cL, 18, .inr (.inl rr))), (po, .inl (cL, 4, .inr (.inl qq))), (pg, .inr (3, [.ref oa, .ref na, .int sz])), (oa, .inl (cI, 100, .inl ops)), (na, .inl (cI, 100, .inl nums)), (gv, .inl (cI, 4, .inl gg))] := hD
    refine lv_iload_n hx hb d_Copy_doStep_47 rfl (lv_at hl 1 rfl) ?_
    by_cases c_4 : (ops pl.toNatClampNeg) = 4
    · refine lv_tableIn (tgt := 112) hx hb d_Copy_doStep_48 (by rw [c_4]; decide) (by rw [c_4]; decide) (by rw [c_4]; rfl) (by decide) ?_
      refine lv_aload_n hx hb d_Copy_doStep_112 rfl (lv_at hl 2 rfl) ?_
      refine va_get (D := (dC, dI)) (ci := 1) (v := .ref rw) (C := R_Copy) (T := F_Copy) (N := 4) hx hb htb iw_Copy hown hK.1 hP 0 rfl rfl 1 (by decide) (htb _ tw_69) (fun _ h9 => h9) rfl d_Copy_doStep_113 ?_
      refine lv_bipush (v := 16) hx hb d_Copy_doStep_116 (by decide) ?_
      refine lv_aload_n hx hb d_Copy_doStep_118 rfl (lv_at hl 2 rfl) ?_
      refine va_get (D := (dC, dI)) (ci := 1) (v := .ref rw) (C := R_Copy) (T := F_Copy) (N := 4) hx hb htb iw_Copy hown hK.1 hP 0 rfl rfl 1 (by decide) (htb _ tw_69) (fun _ h9 => h9) rfl d_Copy_doStep_119 ?_
      refine lv_bipush (v := 16) hx hb d_Copy_doStep_122 (by decide) ?_
      refine ld_l (v := rr 16) (cA := cL) hx hb hK.1 hP 1 1 rfl rfl (show ¬ (_ ∨ _) by decide) rfl d_Copy_doStep_124 ?_
      refine lv_aload_n hx hb d_Copy_doStep_125 rfl (lv_at hl 2 rfl) ?_
      refine va_get (D := (dC, dI)) (ci := 1) (v := .ref rw) (C := R_Copy) (T := F_Copy) (N := 4) hx hb htb iw_Copy hown hK.1 hP 0 rfl rfl 1 (by decide) (htb _ tw_69) (fun _ h9 => h9) rfl d_Copy_doStep_126 ?_
      refine lv_bipush (v := 17) hx hb d_Copy_doStep_129 (by decide) ?_
      refine ld_l (v := rr 17) (cA := cL) hx hb hK.1 hP 1 1 rfl rfl (show ¬ (_ ∨ _) by decide) rfl d_Copy_doStep_131 ?_
      refine lv_ladd hx hb d_Copy_doStep_132 ?_
      refine sd_l (g := vp_updL rr 16 ((rr 16) + (rr 17))) (cA := cL) hx hb hK.1 hP hD hS 1 1 rfl rfl (show ¬ (_ ∨ _) by decide) rfl d_Copy_doStep_133 (fun H locs hP hD hS => ?_)
      have hP : va_P (dC, dI) classes [(cp, .inr (1, [.long fac, .ref rw, .ref po, .int (pl + 1)])), (rw, .inl (cL, 18, .inr (.inl (vp_updL rr 16 ((rr 16) + (rr 17)))))), (po, .inl (cL, 4, .inr (.inl qq))), (pg, .inr (3, [.ref oa, .ref na, .int sz])), (oa, .inl (cI, 100, .inl ops)), (na, .inl (cI, 100, .inl nums)), (gv, .inl (cI, 4, .inl gg))] H := hP
      have hD : va_D A [(cp, .inr (1, [.long fac, .ref rw, .ref po, .int (pl + 1)])), (rw, .inl (cL, 18, .inr (.inl (vp_updL rr 16 ((rr 16) + (rr 17)))))), (po, .inl (cL, 4, .inr (.inl qq))), (pg, .inr (3, [.ref oa, .ref na, .int sz])), (oa, .inl (cI, 100, .inl ops)), (na, .inl (cI, 100, .inl nums)), (gv, .inl (cI, 4, .inl gg))] := hD
      refine lv_aload_n hx hb d_Copy_doStep_134 rfl (lv_at hl 2 rfl) ?_
      refine af_i (wr := [(pg, .inr (3, [.ref oa, .ref na, .int sz])), (oa, .inl (cI, 100, .inl ops)), (na, .inl (cI, 100, .inl nums)), (gv, .inl (cI, 4, .inl gg))]) (va_runV (As := []) (rest := []) ⟨hx, hb, hml, hown, htb⟩ (c_Copy_trapBeyondBound l dC dI cI cL H.size cp rw po fac (vp_updL rr 16 ((rr 16) + (rr 17))) qq (pl + 1) ) ⟨callB_of 0 htb (gd_w tw_205) rfl rfl rfl (htb _ tw_22) (htb _ tw_202) (by decide +kernel) ⟨Nat.le_of_ble_eq_true rfl, Nat.le_of_ble_eq_true rfl⟩, htb _ tw_204, htb _ tw_4⟩ (pv_V hK (hP.sub (ws' := [(cp, .inr (1, [.long fac, .ref rw, .ref po, .int (pl + 1)])), (rw, .inl (cL, 18, .inr (.inl (vp_updL rr 16 ((rr 16) + (rr 17)))))), (po, .inl (cL, 4, .inr (.inl qq)))]) [0, 1, 2] rfl) (hD.sub (ws' := [(cp, .inr (1, [.long fac, .ref rw, .ref po, .int (pl + 1)])), (rw, .inl (cL, 18, .inr (.inl (vp_updL rr 16 ((rr 16) + (rr 17)))))), (po, .inl (cL, 4, .inr (.inl qq)))]) [0, 1, 2] (by decide) rfl) (ci := 1) (q0 := 0) rfl rfl) rfl rfl hl.1 rfl (lv_room (Nat.le_of_ble_eq_true rfl)) d_Copy_doStep_135 ⟨Nat.le_of_ble_eq_true rfl, Nat.le_of_ble_eq_true rfl⟩) hP hD hS hA [0, 1, 2] [3, 4, 5, 6] rfl rfl (by decide) (by decide) (fun r_5 u_6 H locs hw hP hD hS => ?_)
      try dsimp only at hw
      subst hw
      have hP : va_P (dC, dI) classes [(pg, .inr (3, [.ref oa, .ref na, .int sz])), (oa, .inl (cI, 100, .inl ops)), (na, .inl (cI, 100, .inl nums)), (gv, .inl (cI, 4, .inl gg)), (cp, .inr (1, [.long fac, .ref rw, .ref po, .int (pl + 1)])), (rw, .inl (cL, 18, .inr (.inl (vp_updL rr 16 ((rr 16) + (rr 17)))))), (po, .inl (cL, 4, .inr (.inl qq)))] H := hP
      have hD : va_D A [(pg, .inr (3, [.ref oa, .ref na, .int sz])), (oa, .inl (cI, 100, .inl ops)), (na, .inl (cI, 100, .inl nums)), (gv, .inl (cI, 4, .inl gg)), (cp, .inr (1, [.long fac, .ref rw, .ref po, .int (pl + 1)])), (rw, .inl (cL, 18, .inr (.inl (vp_updL rr 16 ((rr 16) + (rr 17)))))), (po, .inl (cL, 4, .inr (.inl qq)))] := hD
      exact rt_i (v := tb_w fac ((vp_updL rr 16 ((rr 16) + (rr 17))) 16)) ((vp_updL rr 16 ((rr 16) + (rr 17))), qq, (pl + 1)) hx hb hr hlocks (show (tb_w fac ((vp_updL rr 16 ((rr 16) + (rr 17))) 16)) = (ds_w fac ops nums sz gg rr qq pl).1 ∧ (vp_updL rr 16 ((rr 16) + (rr 17))) = (ds_w fac ops nums sz gg rr qq pl).2.1 ∧ qq = (ds_w fac ops nums sz gg rr qq pl).2.2.1 ∧ (pl + 1) = (ds_w fac ops nums sz gg rr qq pl).2.2.2 from (by simp only [ds_w, de_w, pk_uLs, if_neg c_3, if_pos c_4, and_self])) (hP.sub (ws' := [(cp, .inr (1, [.long fac, .ref rw, .ref po, .int (pl + 1)])), (rw, .inl (cL, 18, .inr (.inl (vp_updL rr 16 ((rr 16) + (rr 17)))))), (po, .inl (cL, 4, .inr (.inl qq))), (pg, .inr (3, [.ref oa, .ref na, .int sz])), (oa, .inl (cI, 100, .inl ops)), (na, .inl (cI, 100, .inl nums)), (gv, .inl (cI, 4, .inl gg))]) [4, 5, 6, 0, 1, 2, 3] rfl) (hD.sub (ws' := [(cp, .inr (1, [.long fac, .ref rw, .ref po, .int (pl + 1)])), (rw, .inl (cL, 18, .inr (.inl (vp_updL rr 16 ((rr 16) + (rr 17)))))), (po, .inl (cL, 4, .inr (.inl qq))), (pg, .inr (3, [.ref oa, .ref na, .int sz])), (oa, .inl (cI, 100, .inl ops)), (na, .inl (cI, 100, .inl nums)), (gv, .inl (cI, 4, .inl gg))]) [4, 5, 6, 0, 1, 2, 3] (by decide) rfl) hS d_Copy_doStep_138
    by_cases c_7 : (ops pl.toNatClampNeg) = 5
    · refine lv_tableIn (tgt := 139) hx hb d_Copy_doStep_48 (by rw [c_7]; decide) (by rw [c_7]; decide) (by rw [c_7]; rfl) (by decide) ?_
      refine lv_aload_n hx hb d_Copy_doStep_139 rfl (lv_at hl 2 rfl) ?_
      refine va_get (D := (dC, dI)) (ci := 1) (v := .ref rw) (C := R_Copy) (T := F_Copy) (N := 4) hx hb htb iw_Copy hown hK.1 hP 0 rfl rfl 1 (by decide) (htb _ tw_69) (fun _ h9 => h9) rfl d_Copy_doStep_140 ?_
      refine lv_bipush (v := 16) hx hb d_Copy_doStep_143 (by decide) ?_
      refine lv_aload_n hx hb d_Copy_doStep_145 rfl (lv_at hl 2 rfl) ?_
      refine va_get (D := (dC, dI)) (ci := 1) (v := .ref rw) (C := R_Copy) (T := F_Copy) (N := 4) hx hb htb iw_Copy hown hK.1 hP 0 rfl rfl 1 (by decide) (htb _ tw_69) (fun _ h9 => h9) rfl d_Copy_doStep_146 ?_
      refine lv_bipush (v := 16) hx hb d_Copy_doStep_149 (by decide) ?_
      refine ld_l (v := rr 16) (cA := cL) hx hb hK.1 hP 1 1 rfl rfl (show ¬ (_ ∨ _) by decide) rfl d_Copy_doStep_151 ?_
      refine lv_aload_n hx hb d_Copy_doStep_152 rfl (lv_at hl 2 rfl) ?_
      refine va_get (D := (dC, dI)) (ci := 1) (v := .ref rw) (C := R_Copy) (T := F_Copy) (N := 4) hx hb htb iw_Copy hown hK.1 hP 0 rfl rfl 1 (by decide) (htb _ tw_69) (fun _ h9 => h9) rfl d_Copy_doStep_153 ?_
      refine lv_bipush (v := 17) hx hb d_Copy_doStep_156 (by decide) ?_
      refine ld_l (v := rr 17) (cA := cL) hx hb hK.1 hP 1 1 rfl rfl (show ¬ (_ ∨ _) by decide) rfl d_Copy_doStep_158 ?_
      refine lv_lsub hx hb d_Copy_doStep_159 ?_
      refine sd_l (g := vp_updL rr 16 ((rr 16) - (rr 17))) (cA := cL) hx hb hK.1 hP hD hS 1 1 rfl rfl (show ¬ (_ ∨ _) by decide) rfl d_Copy_doStep_160 (fun H locs hP hD hS => ?_)
      have hP : va_P (dC, dI) classes [(cp, .inr (1, [.long fac, .ref rw, .ref po, .int (pl + 1)])), (rw, .inl (cL, 18, .inr (.inl (vp_updL rr 16 ((rr 16) - (rr 17)))))), (po, .inl (cL, 4, .inr (.inl qq))), (pg, .inr (3, [.ref oa, .ref na, .int sz])), (oa, .inl (cI, 100, .inl ops)), (na, .inl (cI, 100, .inl nums)), (gv, .inl (cI, 4, .inl gg))] H := hP
      have hD : va_D A [(cp, .inr (1, [.long fac, .ref rw, .ref po, .int (pl + 1)])), (rw, .inl (cL, 18, .inr (.inl (vp_updL rr 16 ((rr 16) - (rr 17)))))), (po, .inl (cL, 4, .inr (.inl qq))), (pg, .inr (3, [.ref oa, .ref na, .int sz])), (oa, .inl (cI, 100, .inl ops)), (na, .inl (cI, 100, .inl nums)), (gv, .inl (cI, 4, .inl gg))] := hD
      refine lv_aload_n hx hb d_Copy_doStep_161 rfl (lv_at hl 2 rfl) ?_
      refine af_i (wr := [(pg, .inr (3, [.ref oa, .ref na, .int sz])), (oa, .inl (cI, 100, .inl ops)), (na, .inl (cI, 100, .inl nums)), (gv, .inl (cI, 4, .inl gg))]) (va_runV (As := []) (rest := []) ⟨hx, hb, hml, hown, htb⟩ (c_Copy_trapBeyondBound l dC dI cI cL H.size cp rw po fac (vp_updL rr 16 ((rr 16) - (rr 17))) qq (pl + 1) ) ⟨callB_of 0 htb (gd_w tw_205) rfl rfl rfl (htb _ tw_22) (htb _ tw_202) (by decide +kernel) ⟨Nat.le_of_ble_eq_true rfl, Nat.le_of_ble_eq_true rfl⟩, htb _ tw_204, htb _ tw_4⟩ (pv_V hK (hP.sub (ws' := [(cp, .inr (1, [.long fac, .ref rw, .ref po, .int (pl + 1)])), (rw, .inl (cL, 18, .inr (.inl (vp_updL rr 16 ((rr 16) - (rr 17)))))), (po, .inl (cL, 4, .inr (.inl qq)))]) [0, 1, 2] rfl) (hD.sub (ws' := [(cp, .inr (1, [.long fac, .ref rw, .ref po, .int (pl + 1)])), (rw, .inl (cL, 18, .inr (.inl (vp_updL rr 16 ((rr 16) - (rr 17)))))), (po, .inl (cL, 4, .inr (.inl qq)))]) [0, 1, 2] (by decide) rfl) (ci := 1) (q0 := 0) rfl rfl) rfl rfl hl.1 rfl (lv_room (Nat.le_of_ble_eq_true rfl)) d_Copy_doStep_162 ⟨Nat.le_of_ble_eq_true rfl, Nat.le_of_ble_eq_true rfl⟩) hP hD hS hA [0, 1, 2] [3, 4, 5, 6] rfl rfl (by decide) (by decide) (fun r_8 u_9 H locs hw hP hD hS => ?_)
      try dsimp only at hw
      subst hw
      have hP : va_P (dC, dI) classes [(pg, .inr (3, [.ref oa, .ref na, .int sz])), (oa, .inl (cI, 100, .inl ops)), (na, .inl (cI, 100, .inl nums)), (gv, .inl (cI, 4, .inl gg)), (cp, .inr (1, [.long fac, .ref rw, .ref po, .int (pl + 1)])), (rw, .inl (cL, 18, .inr (.inl (vp_updL rr 16 ((rr 16) - (rr 17)))))), (po, .inl (cL, 4, .inr (.inl qq)))] H := hP
      have hD : va_D A [(pg, .inr (3, [.ref oa, .ref na, .int sz])), (oa, .inl (cI, 100, .inl ops)), (na, .inl (cI, 100, .inl nums)), (gv, .inl (cI, 4, .inl gg)), (cp, .inr (1, [.long fac, .ref rw, .ref po, .int (pl + 1)])), (rw, .inl (cL, 18, .inr (.inl (vp_updL rr 16 ((rr 16) - (rr 17)))))), (po, .inl (cL, 4, .inr (.inl qq)))] := hD
      exact rt_i (v := tb_w fac ((vp_updL rr 16 ((rr 16) - (rr 17))) 16)) ((vp_updL rr 16 ((rr 16) - (rr 17))), qq, (pl + 1)) hx hb hr hlocks (show (tb_w fac ((vp_updL rr 16 ((rr 16) - (rr 17))) 16)) = (ds_w fac ops nums sz gg rr qq pl).1 ∧ (vp_updL rr 16 ((rr 16) - (rr 17))) = (ds_w fac ops nums sz gg rr qq pl).2.1 ∧ qq = (ds_w fac ops nums sz gg rr qq pl).2.2.1 ∧ (pl + 1) = (ds_w fac ops nums sz gg rr qq pl).2.2.2 from (by simp only [ds_w, de_w, pk_uLs, if_neg c_3, if_neg c_4, if_pos c_7, and_self])) (hP.sub (ws' := [(cp, .inr (1, [.long fac, .ref rw, .ref po, .int (pl + 1)])), (rw, .inl (cL, 18, .inr (.inl (vp_updL rr 16 ((rr 16) - (rr 17)))))), (po, .inl (cL, 4, .inr (.inl qq))), (pg, .inr (3, [.ref oa, .ref na, .int sz])), (oa, .inl (cI, 100, .inl ops)), (na, .inl (cI, 100, .inl nums)), (gv, .inl (cI, 4, .inl gg))]) [4, 5, 6, 0, 1, 2, 3] rfl) (hD.sub (ws' := [(cp, .inr (1, [.long fac, .ref rw, .ref po, .int (pl + 1)])), (rw, .inl (cL, 18, .inr (.inl (vp_updL rr 16 ((rr 16) - (rr 17)))))), (po, .inl (cL, 4, .inr (.inl qq))), (pg, .inr (3, [.ref oa, .ref na, .int sz])), (oa, .inl (cI, 100, .inl ops)), (na, .inl (cI, 100, .inl nums)), (gv, .inl (cI, 4, .inl gg))]) [4, 5, 6, 0, 1, 2, 3] (by decide) rfl) hS d_Copy_doStep_165
    by_cases c_10 : (ops pl.toNatClampNeg) = 6
    · refine lv_tableIn (tgt := 166) hx hb d_Copy_doStep_48 (by rw [c_10]; decide) (by rw [c_10]; decide) (by rw [c_10]; rfl) (by decide) ?_
      refine lv_aload_n hx hb d_Copy_doStep_166 rfl (lv_at hl 2 rfl) ?_
      refine af_i (wr := [(pg, .inr (3, [.ref oa, .ref na, .int sz])), (oa, .inl (cI, 100, .inl ops)), (na, .inl (cI, 100, .inl nums)), (gv, .inl (cI, 4, .inl gg))]) (va_runV (As := []) (rest := []) ⟨hx, hb, hml, hown, htb⟩ (c_Copy_multiply l dC dI cI cL H.size cp rw po fac rr qq (pl + 1) ) ⟨callB_of 0 htb (gd_w tw_210) rfl rfl rfl (htb _ tw_22) (htb _ tw_207) (by decide +kernel) ⟨Nat.le_of_ble_eq_true rfl, Nat.le_of_ble_eq_true rfl⟩, htb _ tw_209, htb _ tw_5⟩ (pv_V hK (hP.sub (ws' := [(cp, .inr (1, [.long fac, .ref rw, .ref po, .int (pl + 1)])), (rw, .inl (cL, 18, .inr (.inl rr))), (po, .inl (cL, 4, .inr (.inl qq)))]) [0, 1, 2] rfl) (hD.sub (ws' := [(cp, .inr (1, [.long fac, .ref rw, .ref po, .int (pl + 1)])), (rw, .inl (cL, 18, .inr (.inl rr))), (po, .inl (cL, 4, .inr (.inl qq)))]) [0, 1, 2] (by decide) rfl) (ci := 1) (q0 := 0) rfl rfl) rfl rfl hl.1 rfl (lv_room (Nat.le_of_ble_eq_true rfl)) d_Copy_doStep_167 ⟨Nat.le_of_ble_eq_true rfl, Nat.le_of_ble_eq_true rfl⟩) hP hD hS hA [0, 1, 2] [3, 4, 5, 6] rfl rfl (by decide) (by decide) (fun r_11 u_12 H locs hw hP hD hS => ?_)
      obtain ⟨z_13, rfl⟩ : ∃ z, z = u_12 := ⟨_, rfl⟩
      try dsimp only at hw
      obtain ⟨rfl, rfl⟩ := hw
      have hP : va_P (dC, dI) classes [(pg, .inr (3, [.ref oa, .ref na, .int sz])), (oa, .inl (cI, 100, .inl ops)), (na, .inl (cI, 100, .inl nums)), (gv, .inl (cI, 4, .inl gg)), (cp, .inr (1, [.long fac, .ref rw, .ref po, .int (pl + 1)])), (rw, .inl (cL, 18, .inr (.inl ((ml_w fac rr).2)))), (po, .inl (cL, 4, .inr (.inl qq)))] H := hP
      have hD : va_D A [(pg, .inr (3, [.ref oa, .ref na, .int sz])), (oa, .inl (cI, 100, .inl ops)), (na, .inl (cI, 100, .inl nums)), (gv, .inl (cI, 4, .inl gg)), (cp, .inr (1, [.long fac, .ref rw, .ref po, .int (pl + 1)])), (rw, .inl (cL, 18, .inr (.inl ((ml_w fac rr).2)))), (po, .inl (cL, 4, .inr (.inl qq)))] := hD
      exact rt_i (v := (ml_w fac rr).1) ((ml_w fac rr).2, qq, (pl + 1)) hx hb hr hlocks (show ((ml_w fac rr).1) = (ds_w fac ops nums sz gg rr qq pl).1 ∧ ((ml_w fac rr).2) = (ds_w fac ops nums sz gg rr qq pl).2.1 ∧ qq = (ds_w fac ops nums sz gg rr qq pl).2.2.1 ∧ (pl + 1) = (ds_w fac ops nums sz gg rr qq pl).2.2.2 from (by simp only [ds_w, de_w, pk_uLs, if_neg c_3, if_neg c_4, if_neg c_7, if_pos c_10, and_self])) (hP.sub (ws' := [(cp, .inr (1, [.long fac, .ref rw, .ref po, .int (pl + 1)])), (rw, .inl (cL, 18, .inr (.inl ((ml_w fac rr).2)))), (po, .inl (cL, 4, .inr (.inl qq))), (pg, .inr (3, [.ref oa, .ref na, .int sz])), (oa, .inl (cI, 100, .inl ops)), (na, .inl (cI, 100, .inl nums)), (gv, .inl (cI, 4, .inl gg))]) [4, 5, 6, 0, 1, 2, 3] rfl) (hD.sub (ws' := [(cp, .inr (1, [.long fac, .ref rw, .ref po, .int (pl + 1)])), (rw, .inl (cL, 18, .inr (.inl ((ml_w fac rr).2)))), (po, .inl (cL, 4, .inr (.inl qq))), (pg, .inr (3, [.ref oa, .ref na, .int sz])), (oa, .inl (cI, 100, .inl ops)), (na, .inl (cI, 100, .inl nums)), (gv, .inl (cI, 4, .inl gg))]) [4, 5, 6, 0, 1, 2, 3] (by decide) rfl) hS d_Copy_doStep_170
    by_cases c_14 : (ops pl.toNatClampNeg) = 9
    · refine lv_tableIn (tgt := 171) hx hb d_Copy_doStep_48 (by rw [c_14]; decide) (by rw [c_14]; decide) (by rw [c_14]; rfl) (by decide) ?_
      refine lv_aload_n hx hb d_Copy_doStep_171 rfl (lv_at hl 2 rfl) ?_
      refine va_get (D := (dC, dI)) (ci := 1) (v := .ref rw) (C := R_Copy) (T := F_Copy) (N := 4) hx hb htb iw_Copy hown hK.1 hP 0 rfl rfl 1 (by decide) (htb _ tw_69) (fun _ h9 => h9) rfl d_Copy_doStep_172 ?_
      refine lv_bipush (v := 16) hx hb d_Copy_doStep_175 (by decide) ?_
      refine lv_aload_n hx hb d_Copy_doStep_177 rfl (lv_at hl 2 rfl) ?_
      refine va_get (D := (dC, dI)) (ci := 1) (v := .ref rw) (C := R_Copy) (T := F_Copy) (N := 4) hx hb htb iw_Copy hown hK.1 hP 0 rfl rfl 1 (by decide) (htb _ tw_69) (fun _ h9 => h9) rfl d_Copy_doStep_178 ?_
      refine lv_bipush (v := 16) hx hb d_Copy_doStep_181 (by decide) ?_
      refine ld_l (v := rr 16) (cA := cL) hx hb hK.1 hP 1 1 rfl rfl (show ¬ (_ ∨ _) by decide) rfl d_Copy_doStep_183 ?_
      refine lv_lneg hx hb d_Copy_doStep_184 ?_
      refine sd_l (g := vp_updL rr 16 (-(rr 16))) (cA := cL) hx hb hK.1 hP hD hS 1 1 rfl rfl (show ¬ (_ ∨ _) by decide) rfl d_Copy_doStep_185 (fun H locs hP hD hS => ?_)
      have hP : va_P (dC, dI) classes [(cp, .inr (1, [.long fac, .ref rw, .ref po, .int (pl + 1)])), (rw, .inl (cL, 18, .inr (.inl (vp_updL rr 16 (-(rr 16)))))), (po, .inl (cL, 4, .inr (.inl qq))), (pg, .inr (3, [.ref oa, .ref na, .int sz])), (oa, .inl (cI, 100, .inl ops)), (na, .inl (cI, 100, .inl nums)), (gv, .inl (cI, 4, .inl gg))] H := hP
      have hD : va_D A [(cp, .inr (1, [.long fac, .ref rw, .ref po, .int (pl + 1)])), (rw, .inl (cL, 18, .inr (.inl (vp_updL rr 16 (-(rr 16)))))), (po, .inl (cL, 4, .inr (.inl qq))), (pg, .inr (3, [.ref oa, .ref na, .int sz])), (oa, .inl (cI, 100, .inl ops)), (na, .inl (cI, 100, .inl nums)), (gv, .inl (cI, 4, .inl gg))] := hD
      refine lv_aload_n hx hb d_Copy_doStep_186 rfl (lv_at hl 2 rfl) ?_
      refine af_i (wr := [(pg, .inr (3, [.ref oa, .ref na, .int sz])), (oa, .inl (cI, 100, .inl ops)), (na, .inl (cI, 100, .inl nums)), (gv, .inl (cI, 4, .inl gg))]) (va_runV (As := []) (rest := []) ⟨hx, hb, hml, hown, htb⟩ (c_Copy_trapBeyondBound l dC dI cI cL H.size cp rw po fac (vp_updL rr 16 (-(rr 16))) qq (pl + 1) ) ⟨callB_of 0 htb (gd_w tw_205) rfl rfl rfl (htb _ tw_22) (htb _ tw_202) (by decide +kernel) ⟨Nat.le_of_ble_eq_true rfl, Nat.le_of_ble_eq_true rfl⟩, htb _ tw_204, htb _ tw_4⟩ (pv_V hK (hP.sub (ws' := [(cp, .inr (1, [.long fac, .ref rw, .ref po, .int (pl + 1)])), (rw, .inl (cL, 18, .inr (.inl (vp_updL rr 16 (-(rr 16)))))), (po, .inl (cL, 4, .inr (.inl qq)))]) [0, 1, 2] rfl) (hD.sub (ws' := [(cp, .inr (1, [.long fac, .ref rw, .ref po, .int (pl + 1)])), (rw, .inl (cL, 18, .inr (.inl (vp_updL rr 16 (-(rr 16)))))), (po, .inl (cL, 4, .inr (.inl qq)))]) [0, 1, 2] (by decide) rfl) (ci := 1) (q0 := 0) rfl rfl) rfl rfl hl.1 rfl (lv_room (Nat.le_of_ble_eq_true rfl)) d_Copy_doStep_187 ⟨Nat.le_of_ble_eq_true rfl, Nat.le_of_ble_eq_true rfl⟩) hP hD hS hA [0, 1, 2] [3, 4, 5, 6] rfl rfl (by decide) (by decide) (fun r_15 u_16 H locs hw hP hD hS => ?_)
      try dsimp only at hw
      subst hw
      have hP : va_P (dC, dI) classes [(pg, .inr (3, [.ref oa, .ref na, .int sz])), (oa, .inl (cI, 100, .inl ops)), (na, .inl (cI, 100, .inl nums)), (gv, .inl (cI, 4, .inl gg)), (cp, .inr (1, [.long fac, .ref rw, .ref po, .int (pl + 1)])), (rw, .inl (cL, 18, .inr (.inl (vp_updL rr 16 (-(rr 16)))))), (po, .inl (cL, 4, .inr (.inl qq)))] H := hP
      have hD : va_D A [(pg, .inr (3, [.ref oa, .ref na, .int sz])), (oa, .inl (cI, 100, .inl ops)), (na, .inl (cI, 100, .inl nums)), (gv, .inl (cI, 4, .inl gg)), (cp, .inr (1, [.long fac, .ref rw, .ref po, .int (pl + 1)])), (rw, .inl (cL, 18, .inr (.inl (vp_updL rr 16 (-(rr 16)))))), (po, .inl (cL, 4, .inr (.inl qq)))] := hD
      exact rt_i (v := tb_w fac ((vp_updL rr 16 (-(rr 16))) 16)) ((vp_updL rr 16 (-(rr 16))), qq, (pl + 1)) hx hb hr hlocks (show (tb_w fac ((vp_updL rr 16 (-(rr 16))) 16)) = (ds_w fac ops nums sz gg rr qq pl).1 ∧ (vp_updL rr 16 (-(rr 16))) = (ds_w fac ops nums sz gg rr qq pl).2.1 ∧ qq = (ds_w fac ops nums sz gg rr qq pl).2.2.1 ∧ (pl + 1) = (ds_w fac ops nums sz gg rr qq pl).2.2.2 from (by simp only [ds_w, de_w, pk_uLs, if_neg c_3, if_neg c_4, if_neg c_7, if_neg c_10, if_pos c_14, and_self])) (hP.sub (ws' := [(cp, .inr (1, [.long fac, .ref rw, .ref po, .int (pl + 1)])), (rw, .inl (cL, 18, .inr (.inl (vp_updL rr 16 (-(rr 16)))))), (po, .inl (cL, 4, .inr (.inl qq))), (pg, .inr (3, [.ref oa, .ref na, .int sz])), (oa, .inl (cI, 100, .inl ops)), (na, .inl (cI, 100, .inl nums)), (gv, .inl (cI, 4, .inl gg))]) [4, 5, 6, 0, 1, 2, 3] rfl) (hD.sub (ws' := [(cp, .inr (1, [.long fac, .ref rw, .ref po, .int (pl + 1)])), (rw, .inl (cL, 18, .inr (.inl (vp_updL rr 16 (-(rr 16)))))), (po, .inl (cL, 4, .inr (.inl qq))), (pg, .inr (3, [.ref oa, .ref na, .int sz])), (oa, .inl (cI, 100, .inl ops)), (na, .inl (cI, 100, .inl nums)), (gv, .inl (cI, 4, .inl gg))]) [4, 5, 6, 0, 1, 2, 3] (by decide) rfl) hS d_Copy_doStep_190
    by_cases c_17 : (ops pl.toNatClampNeg) = 12
    · refine lv_tableIn (tgt := 191) hx hb d_Copy_doStep_48 (by rw [c_17]; decide) (by rw [c_17]; decide) (by rw [c_17]; rfl) (by decide) ?_
      refine lv_aload_n hx hb d_Copy_doStep_191 rfl (lv_at hl 2 rfl) ?_
      refine va_get (D := (dC, dI)) (ci := 1) (v := .ref rw) (C := R_Copy) (T := F_Copy) (N := 4) hx hb htb iw_Copy hown hK.1 hP 0 rfl rfl 1 (by decide) (htb _ tw_69) (fun _ h9 => h9) rfl d_Copy_doStep_192 ?_
      refine lv_bipush (v := 16) hx hb d_Copy_doStep_195 (by decide) ?_
      refine lv_aload_n hx hb d_Copy_doStep_197 rfl (lv_at hl 4 rfl) ?_
      refine lv_iload hx hb d_Copy_doStep_198 (lv_at hl 0 rfl) ?_
      refine ld_i (v := gg ((nums pl.toNatClampNeg).toNatClampNeg)) (cA := cI) hx hb hK.1 hP 6 0 rfl rfl (ii_in12 (by have q9 := pg_use hok c_3; rw [c_17] at q9; exact q9)) rfl d_Copy_doStep_200 ?_
      refine lv_i2l (v := (gg ((nums pl.toNatClampNeg).toNatClampNeg)).toInt64) hx hb d_Copy_doStep_201 (by first | rfl | decide) ?_
      refine lv_aload_n hx hb d_Copy_doStep_202 rfl (lv_at hl 2 rfl) ?_
      refine va_get (D := (dC, dI)) (ci := 1) (v := .long fac) (C := R_Copy) (T := F_Copy) (N := 4) hx hb htb iw_Copy hown hK.1 hP 0 rfl rfl 0 (by decide) (htb _ tw_68) (fun _ h9 => h9) rfl d_Copy_doStep_203 ?_
      refine lv_lmul hx hb d_Copy_doStep_206 ?_
      refine sd_l (g := vp_updL rr 16 (((gg ((nums pl.toNatClampNeg).toNatClampNeg)).toInt64) * fac)) (cA := cL) hx hb hK.1 hP hD hS 1 1 rfl rfl (show ¬ (_ ∨ _) by decide) rfl d_Copy_doStep_207 (fun H locs hP hD hS => ?_)
      have hP : va_P (dC, dI) classes [(cp, .inr (1, [.long fac, .ref rw, .ref po, .int (pl + 1)])), (rw, .inl (cL, 18, .inr (.inl (vp_updL rr 16 (((gg ((nums pl.toNatClampNeg).toNatClampNeg)).toInt64) * fac))))), (po, .inl (cL, 4, .inr (.inl qq))), (pg, .inr (3, [.ref oa, .ref na, .int sz])), (oa, .inl (cI, 100, .inl ops)), (na, .inl (cI, 100, .inl nums)), (gv, .inl (cI, 4, .inl gg))] H := hP
      have hD : va_D A [(cp, .inr (1, [.long fac, .ref rw, .ref po, .int (pl + 1)])), (rw, .inl (cL, 18, .inr (.inl (vp_updL rr 16 (((gg ((nums pl.toNatClampNeg).toNatClampNeg)).toInt64) * fac))))), (po, .inl (cL, 4, .inr (.inl qq))), (pg, .inr (3, [.ref oa, .ref na, .int sz])), (oa, .inl (cI, 100, .inl ops)), (na, .inl (cI, 100, .inl nums)), (gv, .inl (cI, 4, .inl gg))] := hD
      refine lv_aload_n hx hb d_Copy_doStep_208 rfl (lv_at hl 2 rfl) ?_
      refine af_i (wr := [(pg, .inr (3, [.ref oa, .ref na, .int sz])), (oa, .inl (cI, 100, .inl ops)), (na, .inl (cI, 100, .inl nums)), (gv, .inl (cI, 4, .inl gg))]) (va_runV (As := []) (rest := []) ⟨hx, hb, hml, hown, htb⟩ (c_Copy_trapBeyondBound l dC dI cI cL H.size cp rw po fac (vp_updL rr 16 (((gg ((nums pl.toNatClampNeg).toNatClampNeg)).toInt64) * fac)) qq (pl + 1) ) ⟨callB_of 0 htb (gd_w tw_205) rfl rfl rfl (htb _ tw_22) (htb _ tw_202) (by decide +kernel) ⟨Nat.le_of_ble_eq_true rfl, Nat.le_of_ble_eq_true rfl⟩, htb _ tw_204, htb _ tw_4⟩ (pv_V hK (hP.sub (ws' := [(cp, .inr (1, [.long fac, .ref rw, .ref po, .int (pl + 1)])), (rw, .inl (cL, 18, .inr (.inl (vp_updL rr 16 (((gg ((nums pl.toNatClampNeg).toNatClampNeg)).toInt64) * fac))))), (po, .inl (cL, 4, .inr (.inl qq)))]) [0, 1, 2] rfl) (hD.sub (ws' := [(cp, .inr (1, [.long fac, .ref rw, .ref po, .int (pl + 1)])), (rw, .inl (cL, 18, .inr (.inl (vp_updL rr 16 (((gg ((nums pl.toNatClampNeg).toNatClampNeg)).toInt64) * fac))))), (po, .inl (cL, 4, .inr (.inl qq)))]) [0, 1, 2] (by decide) rfl) (ci := 1) (q0 := 0) rfl rfl) rfl rfl hl.1 rfl (lv_room (Nat.le_of_ble_eq_true rfl)) d_Copy_doStep_209 ⟨Nat.le_of_ble_eq_true rfl, Nat.le_of_ble_eq_true rfl⟩) hP hD hS hA [0, 1, 2] [3, 4, 5, 6] rfl rfl (by decide) (by decide) (fun r_18 u_19 H locs hw hP hD hS => ?_)
      try dsimp only at hw
      subst hw
      have hP : va_P (dC, dI) classes [(pg, .inr (3, [.ref oa, .ref na, .int sz])), (oa, .inl (cI, 100, .inl ops)), (na, .inl (cI, 100, .inl nums)), (gv, .inl (cI, 4, .inl gg)), (cp, .inr (1, [.long fac, .ref rw, .ref po, .int (pl + 1)])), (rw, .inl (cL, 18, .inr (.inl (vp_updL rr 16 (((gg ((nums pl.toNatClampNeg).toNatClampNeg)).toInt64) * fac))))), (po, .inl (cL, 4, .inr (.inl qq)))] H := hP
      have hD : va_D A [(pg, .inr (3, [.ref oa, .ref na, .int sz])), (oa, .inl (cI, 100, .inl ops)), (na, .inl (cI, 100, .inl nums)), (gv, .inl (cI, 4, .inl gg)), (cp, .inr (1, [.long fac, .ref rw, .ref po, .int (pl + 1)])), (rw, .inl (cL, 18, .inr (.inl (vp_updL rr 16 (((gg ((nums pl.toNatClampNeg).toNatClampNeg)).toInt64) * fac))))), (po, .inl (cL, 4, .inr (.inl qq)))] := hD
      exact rt_i (v := tb_w fac ((vp_updL rr 16 (((gg ((nums pl.toNatClampNeg).toNatClampNeg)).toInt64) * fac)) 16)) ((vp_updL rr 16 (((gg ((nums pl.toNatClampNeg).toNatClampNeg)).toInt64) * fac)), qq, (pl + 1)) hx hb hr hlocks (show (tb_w fac ((vp_updL rr 16 (((gg ((nums pl.toNatClampNeg).toNatClampNeg)).toInt64) * fac)) 16)) = (ds_w fac ops nums sz gg rr qq pl).1 ∧ (vp_updL rr 16 (((gg ((nums pl.toNatClampNeg).toNatClampNeg)).toInt64) * fac)) = (ds_w fac ops nums sz gg rr qq pl).2.1 ∧ qq = (ds_w fac ops nums sz gg rr qq pl).2.2.1 ∧ (pl + 1) = (ds_w fac ops nums sz gg rr qq pl).2.2.2 from (by simp only [ds_w, de_w, pk_uLs, if_neg c_3, if_neg c_4, if_neg c_7, if_neg c_10, if_neg c_14, if_pos c_17, and_self])) (hP.sub (ws' := [(cp, .inr (1, [.long fac, .ref rw, .ref po, .int (pl + 1)])), (rw, .inl (cL, 18, .inr (.inl (vp_updL rr 16 (((gg ((nums pl.toNatClampNeg).toNatClampNeg)).toInt64) * fac))))), (po, .inl (cL, 4, .inr (.inl qq))), (pg, .inr (3, [.ref oa, .ref na, .int sz])), (oa, .inl (cI, 100, .inl ops)), (na, .inl (cI, 100, .inl nums)), (gv, .inl (cI, 4, .inl gg))]) [4, 5, 6, 0, 1, 2, 3] rfl) (hD.sub (ws' := [(cp, .inr (1, [.long fac, .ref rw, .ref po, .int (pl + 1)])), (rw, .inl (cL, 18, .inr (.inl (vp_updL rr 16 (((gg ((nums pl.toNatClampNeg).toNatClampNeg)).toInt64) * fac))))), (po, .inl (cL, 4, .inr (.inl qq))), (pg, .inr (3, [.ref oa, .ref na, .int sz])), (oa, .inl (cI, 100, .inl ops)), (na, .inl (cI, 100, .inl nums)), (gv, .inl (cI, 4, .inl gg))]) [4, 5, 6, 0, 1, 2, 3] (by decide) rfl) hS d_Copy_doStep_212
    by_cases c_20 : (ops pl.toNatClampNeg) = 14
    · refine lv_tableIn (tgt := 218) hx hb d_Copy_doStep_48 (by rw [c_20]; decide) (by rw [c_20]; decide) (by rw [c_20]; rfl) (by decide) ?_
      refine lv_iconst (v := 1) hx hb d_Copy_doStep_218 (by decide) ?_
      exact rt_i (v := 1) (rr, qq, pl + 1) hx hb hr hlocks (show (1 : Int32) = (ds_w fac ops nums sz gg rr qq pl).1 ∧ rr = (ds_w fac ops nums sz gg rr qq pl).2.1 ∧ qq = (ds_w fac ops nums sz gg rr qq pl).2.2.1 ∧ (pl + 1) = (ds_w fac ops nums sz gg rr qq pl).2.2.2 from (by simp only [ds_w, de_w, pk_uLs, if_neg c_3, if_neg c_4, if_neg c_7, if_neg c_10, if_neg c_14, if_neg c_17, if_pos c_20, and_self])) (hP.sub (ws' := [(cp, .inr (1, [.long fac, .ref rw, .ref po, .int (pl + 1)])), (rw, .inl (cL, 18, .inr (.inl rr))), (po, .inl (cL, 4, .inr (.inl qq))), (pg, .inr (3, [.ref oa, .ref na, .int sz])), (oa, .inl (cI, 100, .inl ops)), (na, .inl (cI, 100, .inl nums)), (gv, .inl (cI, 4, .inl gg))]) [0, 1, 2, 3, 4, 5, 6] rfl) (hD.sub (ws' := [(cp, .inr (1, [.long fac, .ref rw, .ref po, .int (pl + 1)])), (rw, .inl (cL, 18, .inr (.inl rr))), (po, .inl (cL, 4, .inr (.inl qq))), (pg, .inr (3, [.ref oa, .ref na, .int sz])), (oa, .inl (cI, 100, .inl ops)), (na, .inl (cI, 100, .inl nums)), (gv, .inl (cI, 4, .inl gg))]) [0, 1, 2, 3, 4, 5, 6] (by decide) rfl) hS d_Copy_doStep_219
    by_cases c_21 : (ops pl.toNatClampNeg) = 15
    · refine lv_tableIn (tgt := 213) hx hb d_Copy_doStep_48 (by rw [c_21]; decide) (by rw [c_21]; decide) (by rw [c_21]; rfl) (by decide) ?_
      refine lv_aload_n hx hb d_Copy_doStep_213 rfl (lv_at hl 2 rfl) ?_
      refine af_i (wr := [(pg, .inr (3, [.ref oa, .ref na, .int sz])), (oa, .inl (cI, 100, .inl ops)), (na, .inl (cI, 100, .inl nums)), (gv, .inl (cI, 4, .inl gg))]) (va_runV (As := []) (rest := []) ⟨hx, hb, hml, hown, htb⟩ (c_Copy_lookUp l dC dI cI cL H.size cp rw po fac rr qq (pl + 1) ) ⟨callB_of 0 htb (gd_w tw_227) rfl rfl rfl (htb _ tw_22) (htb _ tw_224) (by decide +kernel) ⟨Nat.le_of_ble_eq_true rfl, Nat.le_of_ble_eq_true rfl⟩, htb _ tw_226, htb _ tw_8⟩ (pv_V hK (hP.sub (ws' := [(cp, .inr (1, [.long fac, .ref rw, .ref po, .int (pl + 1)])), (rw, .inl (cL, 18, .inr (.inl rr))), (po, .inl (cL, 4, .inr (.inl qq)))]) [0, 1, 2] rfl) (hD.sub (ws' := [(cp, .inr (1, [.long fac, .ref rw, .ref po, .int (pl + 1)])), (rw, .inl (cL, 18, .inr (.inl rr))), (po, .inl (cL, 4, .inr (.inl qq)))]) [0, 1, 2] (by decide) rfl) (ci := 1) (q0 := 0) rfl rfl) rfl rfl hl.1 rfl (lv_room (Nat.le_of_ble_eq_true rfl)) d_Copy_doStep_214 ⟨Nat.le_of_ble_eq_true rfl, Nat.le_of_ble_eq_true rfl⟩) hP hD hS hA [0, 1, 2] [3, 4, 5, 6] rfl rfl (by decide) (by decide) (fun r_22 u_23 H locs hw hP hD hS => ?_)
      obtain ⟨z_24, rfl⟩ : ∃ z, z = u_23 := ⟨_, rfl⟩
      try dsimp only at hw
      obtain ⟨rfl, rfl⟩ := hw
      have hP : va_P (dC, dI) classes [(pg, .inr (3, [.ref oa, .ref na, .int sz])), (oa, .inl (cI, 100, .inl ops)), (na, .inl (cI, 100, .inl nums)), (gv, .inl (cI, 4, .inl gg)), (cp, .inr (1, [.long fac, .ref rw, .ref po, .int (pl + 1)])), (rw, .inl (cL, 18, .inr (.inl ((lk_w fac rr).2)))), (po, .inl (cL, 4, .inr (.inl qq)))] H := hP
      have hD : va_D A [(pg, .inr (3, [.ref oa, .ref na, .int sz])), (oa, .inl (cI, 100, .inl ops)), (na, .inl (cI, 100, .inl nums)), (gv, .inl (cI, 4, .inl gg)), (cp, .inr (1, [.long fac, .ref rw, .ref po, .int (pl + 1)])), (rw, .inl (cL, 18, .inr (.inl ((lk_w fac rr).2)))), (po, .inl (cL, 4, .inr (.inl qq)))] := hD
      exact rt_i (v := (lk_w fac rr).1) ((lk_w fac rr).2, qq, (pl + 1)) hx hb hr hlocks (show ((lk_w fac rr).1) = (ds_w fac ops nums sz gg rr qq pl).1 ∧ ((lk_w fac rr).2) = (ds_w fac ops nums sz gg rr qq pl).2.1 ∧ qq = (ds_w fac ops nums sz gg rr qq pl).2.2.1 ∧ (pl + 1) = (ds_w fac ops nums sz gg rr qq pl).2.2.2 from (by simp only [ds_w, de_w, pk_uLs, if_neg c_3, if_neg c_4, if_neg c_7, if_neg c_10, if_neg c_14, if_neg c_17, if_neg c_20, if_pos c_21, and_self])) (hP.sub (ws' := [(cp, .inr (1, [.long fac, .ref rw, .ref po, .int (pl + 1)])), (rw, .inl (cL, 18, .inr (.inl ((lk_w fac rr).2)))), (po, .inl (cL, 4, .inr (.inl qq))), (pg, .inr (3, [.ref oa, .ref na, .int sz])), (oa, .inl (cI, 100, .inl ops)), (na, .inl (cI, 100, .inl nums)), (gv, .inl (cI, 4, .inl gg))]) [4, 5, 6, 0, 1, 2, 3] rfl) (hD.sub (ws' := [(cp, .inr (1, [.long fac, .ref rw, .ref po, .int (pl + 1)])), (rw, .inl (cL, 18, .inr (.inl ((lk_w fac rr).2)))), (po, .inl (cL, 4, .inr (.inl qq))), (pg, .inr (3, [.ref oa, .ref na, .int sz])), (oa, .inl (cI, 100, .inl ops)), (na, .inl (cI, 100, .inl nums)), (gv, .inl (cI, 4, .inl gg))]) [4, 5, 6, 0, 1, 2, 3] (by decide) rfl) hS d_Copy_doStep_217
    refine lv_tableE (tgt := 220) hx hb d_Copy_doStep_48 (by decide) (fun j hj he => by have q_0 := lv_neT c_4 (a := 4) (by decide); have q_1 := lv_neT c_7 (a := 5) (by decide); have q_2 := lv_neT c_10 (a := 6) (by decide); have q_3 := lv_neT c_14 (a := 9) (by decide); have q_4 := lv_neT c_17 (a := 12) (by decide); have q_5 := lv_neT c_20 (a := 14) (by decide); have q_6 := lv_neT c_21 (a := 15) (by decide); rcases (show j = 0 ∨ j = 1 ∨ j = 2 ∨ j = 3 ∨ j = 4 ∨ j = 5 ∨ j = 6 ∨ j = 7 ∨ j = 8 ∨ j = 9 ∨ j = 10 ∨ j = 11 by omega) with rfl | rfl | rfl | rfl | rfl | rfl | rfl | rfl | rfl | rfl | rfl | rfl <;> first | rfl | (exfalso; omega)) ?_
    refine lv_aload_n hx hb d_Copy_doStep_220 rfl (lv_at hl 2 rfl) ?_
    refine lv_iload_n hx hb d_Copy_doStep_221 rfl (lv_at hl 1 rfl) ?_
    refine lv_iload hx hb d_Copy_doStep_222 (lv_at hl 0 rfl) ?_
    refine af_v (wr := [(pg, .inr (3, [.ref oa, .ref na, .int sz])), (oa, .inl (cI, 100, .inl ops)), (na, .inl (cI, 100, .inl nums)), (gv, .inl (cI, 4, .inl gg))]) (va_runV (As := [.int (ops pl.toNatClampNeg), .int (nums pl.toNatClampNeg)]) (rest := []) ⟨hx, hb, hml, hown, htb⟩ (c_Copy_move l dC dI cI cL H.size cp rw po fac rr qq (pl + 1) (ops pl.toNatClampNeg) (nums pl.toNatClampNeg) (pg_use hok c_3)) ⟨callB_of 2 htb (gd_w tw_232) rfl rfl rfl (htb _ tw_22) (htb _ tw_229) (by decide +kernel) ⟨Nat.le_of_ble_eq_true rfl, Nat.le_of_ble_eq_true rfl⟩, htb _ tw_231, htb _ tw_9⟩ (pv_V hK (hP.sub (ws' := [(cp, .inr (1, [.long fac, .ref rw, .ref po, .int (pl + 1)])), (rw, .inl (cL, 18, .inr (.inl rr))), (po, .inl (cL, 4, .inr (.inl qq)))]) [0, 1, 2] rfl) (hD.sub (ws' := [(cp, .inr (1, [.long fac, .ref rw, .ref po, .int (pl + 1)])), (rw, .inl (cL, 18, .inr (.inl rr))), (po, .inl (cL, 4, .inr (.inl qq)))]) [0, 1, 2] (by decide) rfl) (ci := 1) (q0 := 0) rfl rfl) rfl rfl hl.1 rfl (lv_room (Nat.le_of_ble_eq_true rfl)) d_Copy_doStep_224 ⟨Nat.le_of_ble_eq_true rfl, Nat.le_of_ble_eq_true rfl⟩) hP hD hS hA [0, 1, 2] [3, 4, 5, 6] rfl rfl (by decide) (by decide) (fun u_26 H locs hw hP hD hS => ?_)
    obtain ⟨z_27, z_28, z_29⟩ := u_26
    try dsimp only at hw
    obtain ⟨rfl, rfl, rfl⟩ := hw
    have hP : va_P (dC, dI) classes [(pg, .inr (3, [.ref oa, .ref na, .int sz])), (oa, .inl (cI, 100, .inl ops)), (na, .inl (cI, 100, .inl nums)), (gv, .inl (cI, 4, .inl gg)), (cp, .inr (1, [.long fac, .ref rw, .ref po, .int ((mv_w fac (ops pl.toNatClampNeg) (nums pl.toNatClampNeg) rr qq (pl + 1)).2.2)])), (rw, .inl (cL, 18, .inr (.inl ((mv_w fac (ops pl.toNatClampNeg) (nums pl.toNatClampNeg) rr qq (pl + 1)).1)))), (po, .inl (cL, 4, .inr (.inl ((mv_w fac (ops pl.toNatClampNeg) (nums pl.toNatClampNeg) rr qq (pl + 1)).2.1))))] H := hP
    have hD : va_D A [(pg, .inr (3, [.ref oa, .ref na, .int sz])), (oa, .inl (cI, 100, .inl ops)), (na, .inl (cI, 100, .inl nums)), (gv, .inl (cI, 4, .inl gg)), (cp, .inr (1, [.long fac, .ref rw, .ref po, .int ((mv_w fac (ops pl.toNatClampNeg) (nums pl.toNatClampNeg) rr qq (pl + 1)).2.2)])), (rw, .inl (cL, 18, .inr (.inl ((mv_w fac (ops pl.toNatClampNeg) (nums pl.toNatClampNeg) rr qq (pl + 1)).1)))), (po, .inl (cL, 4, .inr (.inl ((mv_w fac (ops pl.toNatClampNeg) (nums pl.toNatClampNeg) rr qq (pl + 1)).2.1))))] := hD
    refine lv_iconst (v := 0) hx hb d_Copy_doStep_227 (by decide) ?_
    exact rt_i (v := 0) ((mv_w fac (ops pl.toNatClampNeg) (nums pl.toNatClampNeg) rr qq (pl + 1)).1, (mv_w fac (ops pl.toNatClampNeg) (nums pl.toNatClampNeg) rr qq (pl + 1)).2.1, (mv_w fac (ops pl.toNatClampNeg) (nums pl.toNatClampNeg) rr qq (pl + 1)).2.2) hx hb hr hlocks (show (0 : Int32) = (ds_w fac ops nums sz gg rr qq pl).1 ∧ ((mv_w fac (ops pl.toNatClampNeg) (nums pl.toNatClampNeg) rr qq (pl + 1)).1) = (ds_w fac ops nums sz gg rr qq pl).2.1 ∧ ((mv_w fac (ops pl.toNatClampNeg) (nums pl.toNatClampNeg) rr qq (pl + 1)).2.1) = (ds_w fac ops nums sz gg rr qq pl).2.2.1 ∧ ((mv_w fac (ops pl.toNatClampNeg) (nums pl.toNatClampNeg) rr qq (pl + 1)).2.2) = (ds_w fac ops nums sz gg rr qq pl).2.2.2 from (by simp only [ds_w, de_w, pk_uLs, if_neg c_3, if_neg c_4, if_neg c_7, if_neg c_10, if_neg c_14, if_neg c_17, if_neg c_20, if_neg c_21, and_self])) (hP.sub (ws' := [(cp, .inr (1, [.long fac, .ref rw, .ref po, .int ((mv_w fac (ops pl.toNatClampNeg) (nums pl.toNatClampNeg) rr qq (pl + 1)).2.2)])), (rw, .inl (cL, 18, .inr (.inl ((mv_w fac (ops pl.toNatClampNeg) (nums pl.toNatClampNeg) rr qq (pl + 1)).1)))), (po, .inl (cL, 4, .inr (.inl ((mv_w fac (ops pl.toNatClampNeg) (nums pl.toNatClampNeg) rr qq (pl + 1)).2.1)))), (pg, .inr (3, [.ref oa, .ref na, .int sz])), (oa, .inl (cI, 100, .inl ops)), (na, .inl (cI, 100, .inl nums)), (gv, .inl (cI, 4, .inl gg))]) [4, 5, 6, 0, 1, 2, 3] rfl) (hD.sub (ws' := [(cp, .inr (1, [.long fac, .ref rw, .ref po, .int ((mv_w fac (ops pl.toNatClampNeg) (nums pl.toNatClampNeg) rr qq (pl + 1)).2.2)])), (rw, .inl (cL, 18, .inr (.inl ((mv_w fac (ops pl.toNatClampNeg) (nums pl.toNatClampNeg) rr qq (pl + 1)).1)))), (po, .inl (cL, 4, .inr (.inl ((mv_w fac (ops pl.toNatClampNeg) (nums pl.toNatClampNeg) rr qq (pl + 1)).2.1)))), (pg, .inr (3, [.ref oa, .ref na, .int sz])), (oa, .inl (cI, 100, .inl ops)), (na, .inl (cI, 100, .inl nums)), (gv, .inl (cI, 4, .inl gg))]) [4, 5, 6, 0, 1, 2, 3] (by decide) rfl) hS d_Copy_doStep_228
  · have c_3 : (bl_w pl sz) = 0 := c_3
    refine lv_iconst (v := 2) hx hb d_Copy_doStep_14 (by decide) ?_
    exact rt_i (v := 2) (rr, qq, pl) hx hb hr hlocks (show (2 : Int32) = (ds_w fac ops nums sz gg rr qq pl).1 ∧ rr = (ds_w fac ops nums sz gg rr qq pl).2.1 ∧ qq = (ds_w fac ops nums sz gg rr qq pl).2.2.1 ∧ pl = (ds_w fac ops nums sz gg rr qq pl).2.2.2 from (by simp only [ds_w, de_w, pk_uLs, if_pos c_3, and_self])) (hP.sub (ws' := [(cp, .inr (1, [.long fac, .ref rw, .ref po, .int pl])), (rw, .inl (cL, 18, .inr (.inl rr))), (po, .inl (cL, 4, .inr (.inl qq))), (pg, .inr (3, [.ref oa, .ref na, .int sz])), (oa, .inl (cI, 100, .inl ops)), (na, .inl (cI, 100, .inl nums)), (gv, .inl (cI, 4, .inl gg))]) [0, 1, 2, 3, 4, 5, 6] rfl) (hD.sub (ws' := [(cp, .inr (1, [.long fac, .ref rw, .ref po, .int pl])), (rw, .inl (cL, 18, .inr (.inl rr))), (po, .inl (cL, 4, .inr (.inl qq))), (pg, .inr (3, [.ref oa, .ref na, .int sz])), (oa, .inl (cI, 100, .inl ops)), (na, .inl (cI, 100, .inl nums)), (gv, .inl (cI, 4, .inl gg))]) [0, 1, 2, 3, 4, 5, 6] (by decide) rfl) hS d_Copy_doStep_15
end
section
theorem tw_188 : (Cond.code y_Arrs_fill_l b_Arrs_fill_l 5 none) ∈ TB_w := List.mem_filter.mpr ⟨List.mem_of_getElem? (i := 188) rfl, by decide +kernel⟩
theorem tw_31 : (Cond.initialized R_Arrs) ∈ TB_w := List.mem_filter.mpr ⟨List.mem_of_getElem? (i := 31) (by decide +kernel), by decide +kernel⟩
theorem tw_186 : (Cond.methodLink R_Copy 26 y_Arrs_fill_l) ∈ TB_w := List.mem_filter.mpr ⟨List.mem_of_getElem? (i := 186) (by decide +kernel), by decide +kernel⟩
theorem tw_187 : (Cond.static y_Arrs_fill_l) ∈ TB_w := List.mem_filter.mpr ⟨List.mem_of_getElem? (i := 187) (by decide +kernel), by decide +kernel⟩
theorem tw_120 : (Cond.fieldLink R_Gate 21 "TwinGate" "first" "LTwinGate$Copy;") ∈ TB_w := List.mem_filter.mpr ⟨List.mem_of_getElem? (i := 120) (by decide +kernel), by decide +kernel⟩
theorem tw_121 : (Cond.fieldLink R_Gate 27 "TwinGate" "second" "LTwinGate$Copy;") ∈ TB_w := List.mem_filter.mpr ⟨List.mem_of_getElem? (i := 121) (by decide +kernel), by decide +kernel⟩
theorem tw_122 : (Cond.fieldLink R_Gate 33 "TwinGate" "plan" "LTwinGate$FlipPlan;") ∈ TB_w := List.mem_filter.mpr ⟨List.mem_of_getElem? (i := 122) (by decide +kernel), by decide +kernel⟩
theorem tw_100 : (Cond.fieldLink R_Gate 149 "TwinGate$FlipPlan" "size" "I") ∈ TB_w := List.mem_filter.mpr ⟨List.mem_of_getElem? (i := 100) (by decide +kernel), by decide +kernel⟩
theorem tw_98 : (Cond.fieldLink R_Gate 169 "TwinGate$FlipPlan" "steps" "[I") ∈ TB_w := List.mem_filter.mpr ⟨List.mem_of_getElem? (i := 98) (by decide +kernel), by decide +kernel⟩
theorem tw_128 : (Cond.fieldLink R_Gate 55 "TwinGate" "steps" "I") ∈ TB_w := List.mem_filter.mpr ⟨List.mem_of_getElem? (i := 128) (by decide +kernel), by decide +kernel⟩
theorem tw_92 : (Cond.fieldLink R_Gate 171 "TwinGate$FlipPlan" "copies" "[I") ∈ TB_w := List.mem_filter.mpr ⟨List.mem_of_getElem? (i := 92) (by decide +kernel), by decide +kernel⟩
theorem tw_196 : (Cond.code y_Gate_copyOf b_Gate_copyOf 2 (some (.object "TwinGate$Copy"))) ∈ TB_w := List.mem_filter.mpr ⟨List.mem_of_getElem? (i := 196) rfl, by decide +kernel⟩
theorem tw_193 : (Cond.methodLink R_Gate 141 y_Gate_copyOf) ∈ TB_w := List.mem_filter.mpr ⟨List.mem_of_getElem? (i := 193) (by decide +kernel), by decide +kernel⟩
theorem tw_195 : (Cond.instanceMethod y_Gate_copyOf) ∈ TB_w := List.mem_filter.mpr ⟨List.mem_of_getElem? (i := 195) (by decide +kernel), by decide +kernel⟩
theorem tw_3 : (Cond.selects R_Gate y_Gate_copyOf y_Gate_copyOf) ∈ TB_w := List.mem_filter.mpr ⟨List.mem_of_getElem? (i := 3) (by decide +kernel), by decide +kernel⟩
theorem tw_70 : (Cond.fieldLink R_Gate 145 "TwinGate$Copy" "row" "[J") ∈ TB_w := List.mem_filter.mpr ⟨List.mem_of_getElem? (i := 70) (by decide +kernel), by decide +kernel⟩
theorem tw_94 : (Cond.fieldLink R_Gate 174 "TwinGate$FlipPlan" "cells" "[I") ∈ TB_w := List.mem_filter.mpr ⟨List.mem_of_getElem? (i := 94) (by decide +kernel), by decide +kernel⟩
theorem tw_96 : (Cond.fieldLink R_Gate 177 "TwinGate$FlipPlan" "bits" "[I") ∈ TB_w := List.mem_filter.mpr ⟨List.mem_of_getElem? (i := 96) (by decide +kernel), by decide +kernel⟩
theorem tw_129 : (Cond.fieldLink R_Gate 58 "TwinGate" "flipsDone" "I") ∈ TB_w := List.mem_filter.mpr ⟨List.mem_of_getElem? (i := 129) (by decide +kernel), by decide +kernel⟩
set_option maxHeartbeats 4000000 in
set_option maxRecDepth 100000 in
theorem c_Arrs_fill_l (l : Launch) (dC : Nat → ClassId) (dI : Nat → Nat → Nat) (cI cL : ClassId) (hs0 : Nat) (qa : Nat) (ff : Nat → Int64) (v0 : Int64)  : ct_v l y_Arrs_fill_l b_Arrs_fill_l 5 none ({ frames := 0, cells := 0, slots := 0, locals := 0 }) (dC, dI) cI cL [.ref qa, .long v0] [(qa, .inl (cL, 4, .inr (.inl ff)))] hs0 (fun (u : (Nat → Int64)) => u = f4_w ff v0) (fun u => [(qa, .inl (cL, 4, .inr (.inl u)))]) 0 0 := by
  refine st_w (Qc := fun A => va_Qv (fun (u : (Nat → Int64)) => u = f4_w ff v0) (fun (u : (Nat → Int64)) t => pos_w (dC, dI) A [(qa, .inl (cL, 4, .inr (.inl u)))] t) A) (by decide) (Nat.le_of_ble_eq_true rfl) ?_
  intro p e s m below meth c A ls hfx hK hA hP hD hS hl
  obtain ⟨hx, hb, hml, hown, htb, hr, hlocks, hin⟩ := hfx
  have hl : lv_has ls 5 [(0, .ref qa), (1, .long v0)] := hl
  refine lv_iconst (v := 0) hx hb d_Arrs_fill_l_0 (by decide) ?_
  refine lv_istore_n (lv' := [(3, .int 0), (0, .ref qa), (1, .long v0)]) hx hb d_Arrs_fill_l_1 rfl hl (by decide) rfl (fun ls hl => ?_)
  refine lv_aload_n hx hb d_Arrs_fill_l_2 rfl (lv_at hl 1 rfl) ?_
  refine va_alen (v := 4) (cA := cL) hx hb hK.1 hP 0 1 rfl rfl rfl d_Arrs_fill_l_3 ?_
  refine lv_istore (lv' := [(4, .int 4), (3, .int 0), (0, .ref qa), (1, .long v0)]) hx hb d_Arrs_fill_l_4 hl (by decide) rfl (fun ls hl => ?_)
  refine lv_iload_n hx hb d_Arrs_fill_l_6 rfl (lv_at hl 1 rfl) ?_
  refine lv_iload hx hb d_Arrs_fill_l_7 (lv_at hl 0 rfl) ?_
  refine lv_icmp_ge (tgt := 22) hx hb d_Arrs_fill_l_9 (by decide) (fun c_1 => ?_) (fun c_1 => ?_)
  · exact absurd c_1 (by decide)
  · skip
    refine lv_aload_n hx hb d_Arrs_fill_l_12 rfl (lv_at hl 2 rfl) ?_
    refine lv_iload_n hx hb d_Arrs_fill_l_13 rfl (lv_at hl 1 rfl) ?_
    refine lv_lload_n hx hb d_Arrs_fill_l_14 rfl (lv_at hl 3 rfl) ?_
    refine sd_l (g := vp_updL ff 0 v0) (cA := cL) hx hb hK.1 hP hD hS 0 1 rfl rfl (show ¬ (_ ∨ _) by decide) rfl d_Arrs_fill_l_15 (fun H locs hP hD hS => ?_)
    have hP : va_P (dC, dI) classes [(qa, .inl (cL, 4, .inr (.inl (vp_updL ff 0 v0))))] H := hP
    have hD : va_D A [(qa, .inl (cL, 4, .inr (.inl (vp_updL ff 0 v0))))] := hD
    refine lv_iinc (v := 1) (lv' := [(3, .int 1), (4, .int 4), (0, .ref qa), (1, .long v0)]) hx hb d_Arrs_fill_l_16 hl (k := 1) rfl (by first | rfl | decide) (by decide) rfl (fun ls hl => ?_)
    refine lv_goto (tgt := 6) hx hb d_Arrs_fill_l_19 (by decide) ?_
    refine lv_iload_n hx hb d_Arrs_fill_l_6 rfl (lv_at hl 0 rfl) ?_
    refine lv_iload hx hb d_Arrs_fill_l_7 (lv_at hl 1 rfl) ?_
    refine lv_icmp_ge (tgt := 22) hx hb d_Arrs_fill_l_9 (by decide) (fun c_2 => ?_) (fun c_2 => ?_)
    · exact absurd c_2 (by decide)
    · skip
      refine lv_aload_n hx hb d_Arrs_fill_l_12 rfl (lv_at hl 2 rfl) ?_
      refine lv_iload_n hx hb d_Arrs_fill_l_13 rfl (lv_at hl 0 rfl) ?_
      refine lv_lload_n hx hb d_Arrs_fill_l_14 rfl (lv_at hl 3 rfl) ?_
      refine sd_l (g := vp_updL (vp_updL ff 0 v0) 1 v0) (cA := cL) hx hb hK.1 hP hD hS 0 1 rfl rfl (show ¬ (_ ∨ _) by decide) rfl d_Arrs_fill_l_15 (fun H locs hP hD hS => ?_)
      have hP : va_P (dC, dI) classes [(qa, .inl (cL, 4, .inr (.inl (vp_updL (vp_updL ff 0 v0) 1 v0))))] H := hP
      have hD : va_D A [(qa, .inl (cL, 4, .inr (.inl (vp_updL (vp_updL ff 0 v0) 1 v0))))] := hD
      refine lv_iinc (v := 2) (lv' := [(3, .int 2), (4, .int 4), (0, .ref qa), (1, .long v0)]) hx hb d_Arrs_fill_l_16 hl (k := 0) rfl (by first | rfl | decide) (by decide) rfl (fun ls hl => ?_)
      refine lv_goto (tgt := 6) hx hb d_Arrs_fill_l_19 (by decide) ?_
      refine lv_iload_n hx hb d_Arrs_fill_l_6 rfl (lv_at hl 0 rfl) ?_
      refine lv_iload hx hb d_Arrs_fill_l_7 (lv_at hl 1 rfl) ?_
      refine lv_icmp_ge (tgt := 22) hx hb d_Arrs_fill_l_9 (by decide) (fun c_3 => ?_) (fun c_3 => ?_)
      · exact absurd c_3 (by decide)
      · skip
        refine lv_aload_n hx hb d_Arrs_fill_l_12 rfl (lv_at hl 2 rfl) ?_
        refine lv_iload_n hx hb d_Arrs_fill_l_13 rfl (lv_at hl 0 rfl) ?_
        refine lv_lload_n hx hb d_Arrs_fill_l_14 rfl (lv_at hl 3 rfl) ?_
        refine sd_l (g := vp_updL (vp_updL (vp_updL ff 0 v0) 1 v0) 2 v0) (cA := cL) hx hb hK.1 hP hD hS 0 1 rfl rfl (show ¬ (_ ∨ _) by decide) rfl d_Arrs_fill_l_15 (fun H locs hP hD hS => ?_)
        have hP : va_P (dC, dI) classes [(qa, .inl (cL, 4, .inr (.inl (vp_updL (vp_updL (vp_updL ff 0 v0) 1 v0) 2 v0))))] H := hP
        have hD : va_D A [(qa, .inl (cL, 4, .inr (.inl (vp_updL (vp_updL (vp_updL ff 0 v0) 1 v0) 2 v0))))] := hD
        refine lv_iinc (v := 3) (lv' := [(3, .int 3), (4, .int 4), (0, .ref qa), (1, .long v0)]) hx hb d_Arrs_fill_l_16 hl (k := 0) rfl (by first | rfl | decide) (by decide) rfl (fun ls hl => ?_)
        refine lv_goto (tgt := 6) hx hb d_Arrs_fill_l_19 (by decide) ?_
        refine lv_iload_n hx hb d_Arrs_fill_l_6 rfl (lv_at hl 0 rfl) ?_
        refine lv_iload hx hb d_Arrs_fill_l_7 (lv_at hl 1 rfl) ?_
        refine lv_icmp_ge (tgt := 22) hx hb d_Arrs_fill_l_9 (by decide) (fun c_4 => ?_) (fun c_4 => ?_)
        · exact absurd c_4 (by decide)
        · skip
          refine lv_aload_n hx hb d_Arrs_fill_l_12 rfl (lv_at hl 2 rfl) ?_
          refine lv_iload_n hx hb d_Arrs_fill_l_13 rfl (lv_at hl 0 rfl) ?_
          refine lv_lload_n hx hb d_Arrs_fill_l_14 rfl (lv_at hl 3 rfl) ?_
          refine sd_l (g := vp_updL (vp_updL (vp_updL (vp_updL ff 0 v0) 1 v0) 2 v0) 3 v0) (cA := cL) hx hb hK.1 hP hD hS 0 1 rfl rfl (show ¬ (_ ∨ _) by decide) rfl d_Arrs_fill_l_15 (fun H locs hP hD hS => ?_)
          have hP : va_P (dC, dI) classes [(qa, .inl (cL, 4, .inr (.inl (vp_updL (vp_updL (vp_updL (vp_updL ff 0 v0) 1 v0) 2 v0) 3 v0))))] H := hP
          have hD : va_D A [(qa, .inl (cL, 4, .inr (.inl (vp_updL (vp_updL (vp_updL (vp_updL ff 0 v0) 1 v0) 2 v0) 3 v0))))] := hD
          refine lv_iinc (v := 4) (lv' := [(3, .int 4), (4, .int 4), (0, .ref qa), (1, .long v0)]) hx hb d_Arrs_fill_l_16 hl (k := 0) rfl (by first | rfl | decide) (by decide) rfl (fun ls hl => ?_)
          refine lv_goto (tgt := 6) hx hb d_Arrs_fill_l_19 (by decide) ?_
          refine lv_iload_n hx hb d_Arrs_fill_l_6 rfl (lv_at hl 0 rfl) ?_
          refine lv_iload hx hb d_Arrs_fill_l_7 (lv_at hl 1 rfl) ?_
          refine lv_icmp_ge (tgt := 22) hx hb d_Arrs_fill_l_9 (by decide) (fun c_5 => ?_) (fun c_5 => ?_)
          · skip
            exact rt_v (vp_updL (vp_updL (vp_updL (vp_updL ff 0 v0) 1 v0) 2 v0) 3 v0) hx hb hr hlocks (show (vp_updL (vp_updL (vp_updL (vp_updL ff 0 v0) 1 v0) 2 v0) 3 v0) = f4_w ff v0 from (by simp only [f4_w, and_self])) (hP.sub (ws' := [(qa, .inl (cL, 4, .inr (.inl (vp_updL (vp_updL (vp_updL (vp_updL ff 0 v0) 1 v0) 2 v0) 3 v0))))]) [0] rfl) (hD.sub (ws' := [(qa, .inl (cL, 4, .inr (.inl (vp_updL (vp_updL (vp_updL (vp_updL ff 0 v0) 1 v0) 2 v0) 3 v0))))]) [0] (by decide) rfl) hS d_Arrs_fill_l_22
          · exact absurd (by decide) c_5

set_option maxHeartbeats 4000000 in
set_option maxRecDepth 100000 in
theorem c_Arrs_fill_i (l : Launch) (dC : Nat → ClassId) (dI : Nat → Nat → Nat) (cI cL : ClassId) (hs0 : Nat) (qa : Nat) (ff : Nat → Int32) (v0 : Int32)  : ct_v l y_Arrs_fill_i b_Arrs_fill_i 4 none ({ frames := 0, cells := 0, slots := 0, locals := 0 }) (dC, dI) cI cL [.ref qa, .int v0] [(qa, .inl (cI, 4, .inl ff))] hs0 (fun (u : (Nat → Int32)) => u = g4_w ff v0) (fun u => [(qa, .inl (cI, 4, .inl u))]) 0 0 := by
  refine st_w (Qc := fun A => va_Qv (fun (u : (Nat → Int32)) => u = g4_w ff v0) (fun (u : (Nat → Int32)) t => pos_w (dC, dI) A [(qa, .inl (cI, 4, .inl u))] t) A) (by decide) (Nat.le_of_ble_eq_true rfl) ?_
  intro p e s m below meth c A ls hfx hK hA hP hD hS hl
  obtain ⟨hx, hb, hml, hown, htb, hr, hlocks, hin⟩ := hfx
  have hl : lv_has ls 4 [(0, .ref qa), (1, .int v0)] := hl
  refine lv_iconst (v := 0) hx hb d_Arrs_fill_i_0 (by decide) ?_
  refine lv_istore_n (lv' := [(2, .int 0), (0, .ref qa), (1, .int v0)]) hx hb d_Arrs_fill_i_1 rfl hl (by decide) rfl (fun ls hl => ?_)
  refine lv_aload_n hx hb d_Arrs_fill_i_2 rfl (lv_at hl 1 rfl) ?_
  refine va_alen (v := 4) (cA := cI) hx hb hK.1 hP 0 0 rfl rfl rfl d_Arrs_fill_i_3 ?_
  refine lv_istore_n (lv' := [(3, .int 4), (2, .int 0), (0, .ref qa), (1, .int v0)]) hx hb d_Arrs_fill_i_4 rfl hl (by decide) rfl (fun ls hl => ?_)
  refine lv_iload_n hx hb d_Arrs_fill_i_5 rfl (lv_at hl 1 rfl) ?_
  refine lv_iload_n hx hb d_Arrs_fill_i_6 rfl (lv_at hl 0 rfl) ?_
  refine lv_icmp_ge (tgt := 20) hx hb d_Arrs_fill_i_7 (by decide) (fun c_1 => ?_) (fun c_1 => ?_)
  · exact absurd c_1 (by decide)
  · skip
    refine lv_aload_n hx hb d_Arrs_fill_i_10 rfl (lv_at hl 2 rfl) ?_
    refine lv_iload_n hx hb d_Arrs_fill_i_11 rfl (lv_at hl 1 rfl) ?_
    refine lv_iload_n hx hb d_Arrs_fill_i_12 rfl (lv_at hl 3 rfl) ?_
    refine sd_i (g := upd ff 0 v0) (cA := cI) hx hb hK.1 hP hD hS 0 0 rfl rfl (show ¬ (_ ∨ _) by decide) rfl d_Arrs_fill_i_13 (fun H locs hP hD hS => ?_)
    have hP : va_P (dC, dI) classes [(qa, .inl (cI, 4, .inl (upd ff 0 v0)))] H := hP
    have hD : va_D A [(qa, .inl (cI, 4, .inl (upd ff 0 v0)))] := hD
    refine lv_iinc (v := 1) (lv' := [(2, .int 1), (3, .int 4), (0, .ref qa), (1, .int v0)]) hx hb d_Arrs_fill_i_14 hl (k := 1) rfl (by first | rfl | decide) (by decide) rfl (fun ls hl => ?_)
    refine lv_goto (tgt := 5) hx hb d_Arrs_fill_i_17 (by decide) ?_
    refine lv_iload_n hx hb d_Arrs_fill_i_5 rfl (lv_at hl 0 rfl) ?_
    refine lv_iload_n hx hb d_Arrs_fill_i_6 rfl (lv_at hl 1 rfl) ?_
    refine lv_icmp_ge (tgt := 20) hx hb d_Arrs_fill_i_7 (by decide) (fun c_2 => ?_) (fun c_2 => ?_)
    · exact absurd c_2 (by decide)
    · skip
      refine lv_aload_n hx hb d_Arrs_fill_i_10 rfl (lv_at hl 2 rfl) ?_
      refine lv_iload_n hx hb d_Arrs_fill_i_11 rfl (lv_at hl 0 rfl) ?_
      refine lv_iload_n hx hb d_Arrs_fill_i_12 rfl (lv_at hl 3 rfl) ?_
      refine sd_i (g := upd (upd ff 0 v0) 1 v0) (cA := cI) hx hb hK.1 hP hD hS 0 0 rfl rfl (show ¬ (_ ∨ _) by decide) rfl d_Arrs_fill_i_13 (fun H locs hP hD hS => ?_)
      have hP : va_P (dC, dI) classes [(qa, .inl (cI, 4, .inl (upd (upd ff 0 v0) 1 v0)))] H := hP
      have hD : va_D A [(qa, .inl (cI, 4, .inl (upd (upd ff 0 v0) 1 v0)))] := hD
      refine lv_iinc (v := 2) (lv' := [(2, .int 2), (3, .int 4), (0, .ref qa), (1, .int v0)]) hx hb d_Arrs_fill_i_14 hl (k := 0) rfl (by first | rfl | decide) (by decide) rfl (fun ls hl => ?_)
      refine lv_goto (tgt := 5) hx hb d_Arrs_fill_i_17 (by decide) ?_
      refine lv_iload_n hx hb d_Arrs_fill_i_5 rfl (lv_at hl 0 rfl) ?_
      refine lv_iload_n hx hb d_Arrs_fill_i_6 rfl (lv_at hl 1 rfl) ?_
      refine lv_icmp_ge (tgt := 20) hx hb d_Arrs_fill_i_7 (by decide) (fun c_3 => ?_) (fun c_3 => ?_)
      · exact absurd c_3 (by decide)
      · skip
        refine lv_aload_n hx hb d_Arrs_fill_i_10 rfl (lv_at hl 2 rfl) ?_
        refine lv_iload_n hx hb d_Arrs_fill_i_11 rfl (lv_at hl 0 rfl) ?_
        refine lv_iload_n hx hb d_Arrs_fill_i_12 rfl (lv_at hl 3 rfl) ?_
        refine sd_i (g := upd (upd (upd ff 0 v0) 1 v0) 2 v0) (cA := cI) hx hb hK.1 hP hD hS 0 0 rfl rfl (show ¬ (_ ∨ _) by decide) rfl d_Arrs_fill_i_13 (fun H locs hP hD hS => ?_)
        have hP : va_P (dC, dI) classes [(qa, .inl (cI, 4, .inl (upd (upd (upd ff 0 v0) 1 v0) 2 v0)))] H := hP
        have hD : va_D A [(qa, .inl (cI, 4, .inl (upd (upd (upd ff 0 v0) 1 v0) 2 v0)))] := hD
        refine lv_iinc (v := 3) (lv' := [(2, .int 3), (3, .int 4), (0, .ref qa), (1, .int v0)]) hx hb d_Arrs_fill_i_14 hl (k := 0) rfl (by first | rfl | decide) (by decide) rfl (fun ls hl => ?_)
        refine lv_goto (tgt := 5) hx hb d_Arrs_fill_i_17 (by decide) ?_
        refine lv_iload_n hx hb d_Arrs_fill_i_5 rfl (lv_at hl 0 rfl) ?_
        refine lv_iload_n hx hb d_Arrs_fill_i_6 rfl (lv_at hl 1 rfl) ?_
        refine lv_icmp_ge (tgt := 20) hx hb d_Arrs_fill_i_7 (by decide) (fun c_4 => ?_) (fun c_4 => ?_)
        · exact absurd c_4 (by decide)
        · skip
          refine lv_aload_n hx hb d_Arrs_fill_i_10 rfl (lv_at hl 2 rfl) ?_
          refine lv_iload_n hx hb d_Arrs_fill_i_11 rfl (lv_at hl 0 rfl) ?_
          refine lv_iload_n hx hb d_Arrs_fill_i_12 rfl (lv_at hl 3 rfl) ?_
          refine sd_i (g := upd (upd (upd (upd ff 0 v0) 1 v0) 2 v0) 3 v0) (cA := cI) hx hb hK.1 hP hD hS 0 0 rfl rfl (show ¬ (_ ∨ _) by decide) rfl d_Arrs_fill_i_13 (fun H locs hP hD hS => ?_)
          have hP : va_P (dC, dI) classes [(qa, .inl (cI, 4, .inl (upd (upd (upd (upd ff 0 v0) 1 v0) 2 v0) 3 v0)))] H := hP
          have hD : va_D A [(qa, .inl (cI, 4, .inl (upd (upd (upd (upd ff 0 v0) 1 v0) 2 v0) 3 v0)))] := hD
          refine lv_iinc (v := 4) (lv' := [(2, .int 4), (3, .int 4), (0, .ref qa), (1, .int v0)]) hx hb d_Arrs_fill_i_14 hl (k := 0) rfl (by first | rfl | decide) (by decide) rfl (fun ls hl => ?_)
          refine lv_goto (tgt := 5) hx hb d_Arrs_fill_i_17 (by decide) ?_
          refine lv_iload_n hx hb d_Arrs_fill_i_5 rfl (lv_at hl 0 rfl) ?_
          refine lv_iload_n hx hb d_Arrs_fill_i_6 rfl (lv_at hl 1 rfl) ?_
          refine lv_icmp_ge (tgt := 20) hx hb d_Arrs_fill_i_7 (by decide) (fun c_5 => ?_) (fun c_5 => ?_)
          · skip
            exact rt_v (upd (upd (upd (upd ff 0 v0) 1 v0) 2 v0) 3 v0) hx hb hr hlocks (show (upd (upd (upd (upd ff 0 v0) 1 v0) 2 v0) 3 v0) = g4_w ff v0 from (by simp only [g4_w, and_self])) (hP.sub (ws' := [(qa, .inl (cI, 4, .inl (upd (upd (upd (upd ff 0 v0) 1 v0) 2 v0) 3 v0)))]) [0] rfl) (hD.sub (ws' := [(qa, .inl (cI, 4, .inl (upd (upd (upd (upd ff 0 v0) 1 v0) 2 v0) 3 v0)))]) [0] (by decide) rfl) hS d_Arrs_fill_i_20
          · exact absurd (by decide) c_5

set_option maxHeartbeats 4000000 in
set_option maxRecDepth 100000 in
theorem c_Copy_begin (l : Launch) (dC : Nat → ClassId) (dI : Nat → Nat → Nat) (cI cL : ClassId) (hs0 : Nat) (cp : Nat) (rw : Nat) (po : Nat) (fac : Int64) (rr : Nat → Int64) (qq : Nat → Int64) (pl : Int32)  : ct_v l y_Copy_begin b_Copy_begin 1 none ({ frames := 1, cells := 0, slots := 0, locals := 40 }) (dC, dI) cI cL [.ref cp] [(cp, .inr (1, [.long fac, .ref rw, .ref po, .int pl])), (rw, .inl (cL, 18, .inr (.inl rr))), (po, .inl (cL, 4, .inr (.inl qq)))] hs0 (fun (u : (Nat → Int64) × (Nat → Int64)) => u.1 = bg_w rr ∧ u.2 = f4_w qq 0) (fun u => [(cp, .inr (1, [.long fac, .ref rw, .ref po, .int 0])), (rw, .inl (cL, 18, .inr (.inl u.1))), (po, .inl (cL, 4, .inr (.inl u.2)))]) 0 0 := by
  refine st_w (Qc := fun A => va_Qv (fun (u : (Nat → Int64) × (Nat → Int64)) => u.1 = bg_w rr ∧ u.2 = f4_w qq 0) (fun (u : (Nat → Int64) × (Nat → Int64)) t => pos_w (dC, dI) A [(cp, .inr (1, [.long fac, .ref rw, .ref po, .int 0])), (rw, .inl (cL, 18, .inr (.inl u.1))), (po, .inl (cL, 4, .inr (.inl u.2)))] t) A) (by decide) (Nat.le_of_ble_eq_true rfl) ?_
  intro p e s m below meth c A ls hfx hK hA hP hD hS hl
  obtain ⟨hx, hb, hml, hown, htb, hr, hlocks, hin⟩ := hfx
  have hl : lv_has ls 1 [(0, .ref cp)] := hl
  refine lv_aload_n hx hb d_Copy_begin_0 rfl (lv_at hl 0 rfl) ?_
  refine lv_iconst (v := 0) hx hb d_Copy_begin_1 (by decide) ?_
  refine va_put (D := (dC, dI)) (ci := 1) (v := .int 0) (ty := .int) (C := R_Copy) (T := F_Copy) (N := 4) hx hb htb iw_Copy t_Copy t_Copy_ok n_Copy hown hK.1 hP hD hS 0 rfl rfl 3 (by decide) (htb _ tw_73) (fun _ h9 => h9) rfl (by decide +kernel) rfl rfl (Nat.le_of_ble_eq_true rfl) d_Copy_begin_2 (fun H locs hP hD hS => ?_)
  have hP : va_P (dC, dI) classes [(cp, .inr (1, [.long fac, .ref rw, .ref po, .int 0])), (rw, .inl (cL, 18, .inr (.inl rr))), (po, .inl (cL, 4, .inr (.inl qq)))] H := hP
  have hD : va_D A [(cp, .inr (1, [.long fac, .ref rw, .ref po, .int 0])), (rw, .inl (cL, 18, .inr (.inl rr))), (po, .inl (cL, 4, .inr (.inl qq)))] := hD
  refine lv_aload_n hx hb d_Copy_begin_5 rfl (lv_at hl 0 rfl) ?_
  refine va_get (D := (dC, dI)) (ci := 1) (v := .ref rw) (C := R_Copy) (T := F_Copy) (N := 4) hx hb htb iw_Copy hown hK.1 hP 0 rfl rfl 1 (by decide) (htb _ tw_69) (fun _ h9 => h9) rfl d_Copy_begin_6 ?_
  refine lv_bipush (v := 16) hx hb d_Copy_begin_9 (by decide) ?_
  refine lv_lconst (v := 0) hx hb d_Copy_begin_11 (by decide) ?_
  refine sd_l (g := vp_updL rr 16 0) (cA := cL) hx hb hK.1 hP hD hS 1 1 rfl rfl (show ¬ (_ ∨ _) by decide) rfl d_Copy_begin_12 (fun H locs hP hD hS => ?_)
  have hP : va_P (dC, dI) classes [(cp, .inr (1, [.long fac, .ref rw, .ref po, .int 0])), (rw, .inl (cL, 18, .inr (.inl (vp_updL rr 16 0)))), (po, .inl (cL, 4, .inr (.inl qq)))] H := hP
  have hD : va_D A [(cp, .inr (1, [.long fac, .ref rw, .ref po, .int 0])), (rw, .inl (cL, 18, .inr (.inl (vp_updL rr 16 0)))), (po, .inl (cL, 4, .inr (.inl qq)))] := hD
  refine lv_aload_n hx hb d_Copy_begin_13 rfl (lv_at hl 0 rfl) ?_
  refine va_get (D := (dC, dI)) (ci := 1) (v := .ref rw) (C := R_Copy) (T := F_Copy) (N := 4) hx hb htb iw_Copy hown hK.1 hP 0 rfl rfl 1 (by decide) (htb _ tw_69) (fun _ h9 => h9) rfl d_Copy_begin_14 ?_
  refine lv_bipush (v := 17) hx hb d_Copy_begin_17 (by decide) ?_
  refine lv_lconst (v := 0) hx hb d_Copy_begin_19 (by decide) ?_
  refine sd_l (g := vp_updL (vp_updL rr 16 0) 17 0) (cA := cL) hx hb hK.1 hP hD hS 1 1 rfl rfl (show ¬ (_ ∨ _) by decide) rfl d_Copy_begin_20 (fun H locs hP hD hS => ?_)
  have hP : va_P (dC, dI) classes [(cp, .inr (1, [.long fac, .ref rw, .ref po, .int 0])), (rw, .inl (cL, 18, .inr (.inl (vp_updL (vp_updL rr 16 0) 17 0)))), (po, .inl (cL, 4, .inr (.inl qq)))] H := hP
  have hD : va_D A [(cp, .inr (1, [.long fac, .ref rw, .ref po, .int 0])), (rw, .inl (cL, 18, .inr (.inl (vp_updL (vp_updL rr 16 0) 17 0)))), (po, .inl (cL, 4, .inr (.inl qq)))] := hD
  refine lv_aload_n hx hb d_Copy_begin_21 rfl (lv_at hl 0 rfl) ?_
  refine va_get (D := (dC, dI)) (ci := 1) (v := .ref po) (C := R_Copy) (T := F_Copy) (N := 4) hx hb htb iw_Copy hown hK.1 hP 0 rfl rfl 2 (by decide) (htb _ tw_71) (fun _ h9 => h9) rfl d_Copy_begin_22 ?_
  refine lv_lconst (v := 0) hx hb d_Copy_begin_25 (by decide) ?_
  refine af_v (wr := [(cp, .inr (1, [.long fac, .ref rw, .ref po, .int 0])), (rw, .inl (cL, 18, .inr (.inl (vp_updL (vp_updL rr 16 0) 17 0))))]) (va_runS (As := [.ref po, .long 0]) (rest := []) ⟨hx, hb, hml, hown, htb⟩ (c_Arrs_fill_l l dC dI cI cL H.size po qq 0 ) ⟨callB_of 2 htb (gd_w tw_188) rfl rfl rfl (htb _ tw_31) (htb _ tw_186) (by decide +kernel) ⟨Nat.le_of_ble_eq_true rfl, Nat.le_of_ble_eq_true rfl⟩, htb _ tw_187⟩ (pv_S hK (hP.sub (ws' := [(po, .inl (cL, 4, .inr (.inl qq)))]) [2] rfl) (hD.sub (ws' := [(po, .inl (cL, 4, .inr (.inl qq)))]) [2] (by decide) rfl)) rfl rfl hl.1 rfl (lv_room (Nat.le_of_ble_eq_true rfl)) d_Copy_begin_26 ⟨Nat.le_of_ble_eq_true rfl, Nat.le_of_ble_eq_true rfl⟩) hP hD hS hA [2] [0, 1] rfl rfl (by decide) (by decide) (fun u_2 H locs hw hP hD hS => ?_)
  obtain ⟨z_3, rfl⟩ : ∃ z, z = u_2 := ⟨_, rfl⟩
  try dsimp only at hw
  subst hw
  have hP : va_P (dC, dI) classes [(cp, .inr (1, [.long fac, .ref rw, .ref po, .int 0])), (rw, .inl (cL, 18, .inr (.inl (vp_updL (vp_updL rr 16 0) 17 0)))), (po, .inl (cL, 4, .inr (.inl (f4_w qq 0))))] H := hP
  have hD : va_D A [(cp, .inr (1, [.long fac, .ref rw, .ref po, .int 0])), (rw, .inl (cL, 18, .inr (.inl (vp_updL (vp_updL rr 16 0) 17 0)))), (po, .inl (cL, 4, .inr (.inl (f4_w qq 0))))] := hD
  exact rt_v ((vp_updL (vp_updL rr 16 0) 17 0), f4_w qq 0) hx hb hr hlocks (show (vp_updL (vp_updL rr 16 0) 17 0) = bg_w rr ∧ (f4_w qq 0) = f4_w qq 0 from (by simp only [bg_w, and_self])) (hP.sub (ws' := [(cp, .inr (1, [.long fac, .ref rw, .ref po, .int 0])), (rw, .inl (cL, 18, .inr (.inl (vp_updL (vp_updL rr 16 0) 17 0)))), (po, .inl (cL, 4, .inr (.inl (f4_w qq 0))))]) [0, 1, 2] rfl) (hD.sub (ws' := [(cp, .inr (1, [.long fac, .ref rw, .ref po, .int 0])), (rw, .inl (cL, 18, .inr (.inl (vp_updL (vp_updL rr 16 0) 17 0)))), (po, .inl (cL, 4, .inr (.inl (f4_w qq 0))))]) [0, 1, 2] (by decide) rfl) hS d_Copy_begin_29

set_option maxHeartbeats 4000000 in
set_option maxRecDepth 100000 in
theorem c_Gate_copyOf0 (l : Launch) (dC : Nat → ClassId) (dI : Nat → Nat → Nat) (cI cL : ClassId) (hs0 : Nat) (x0 : Nat) (lm : Nat) (pg : Nat) (a_cp : Nat) (b_cp : Nat) (pn : Nat) (gv : Nat) (sh : Nat) (bg : Int32) (lt : Int32) (em : Int32) (sp : Int32) (fd : Int32) (k0 : Int32) (hk : k0 = 0) : ct_r l y_Gate_copyOf b_Gate_copyOf 2 (some (.object "TwinGate$Copy")) ({ frames := 0, cells := 0, slots := 0, locals := 0 }) (dC, dI) cI cL [.ref x0, .int k0] [(x0, .inr (0, [.int (nI lm), .ref pg, .ref a_cp, .ref b_cp, .ref pn, .ref gv, .ref sh, .int bg, .int lt, .int em, .int sp, .int fd]))] hs0 (fun (u : Unit) (x : Nat) => x = a_cp) (fun u => [(x0, .inr (0, [.int (nI lm), .ref pg, .ref a_cp, .ref b_cp, .ref pn, .ref gv, .ref sh, .int bg, .int lt, .int em, .int sp, .int fd]))]) 0 0 := by
  refine st_w (Qc := fun A => va_Qr (fun _ => True) (fun (u : Unit) x t => (fun (u : Unit) (x : Nat) => x = a_cp) u x ∧ pos_w (dC, dI) A [(x0, .inr (0, [.int (nI lm), .ref pg, .ref a_cp, .ref b_cp, .ref pn, .ref gv, .ref sh, .int bg, .int lt, .int em, .int sp, .int fd]))] t) A) (by decide) (Nat.le_of_ble_eq_true rfl) ?_
  intro p e s m below meth c A ls hfx hK hA hP hD hS hl
  obtain ⟨hx, hb, hml, hown, htb, hr, hlocks, hin⟩ := hfx
  have hl : lv_has ls 2 [(0, .ref x0), (1, .int k0)] := hl
  refine lv_iload_n hx hb d_Gate_copyOf_0 rfl (lv_at hl 1 rfl) ?_
  refine lv_if_ne (tgt := 11) hx hb d_Gate_copyOf_1 (by decide) (fun c_1 => ?_) (fun c_1 => ?_)
  · exact absurd (hk) c_1
  · skip
    refine lv_aload_n hx hb d_Gate_copyOf_4 rfl (lv_at hl 0 rfl) ?_
    refine va_get (D := (dC, dI)) (ci := 0) (v := .ref a_cp) (C := R_Gate) (T := F_Gate) (N := 12) hx hb htb iw_Gate hown hK.1 hP 0 rfl rfl 2 (by decide) (htb _ tw_120) (fun _ h9 => h9) rfl d_Gate_copyOf_5 ?_
    refine lv_goto (tgt := 15) hx hb d_Gate_copyOf_8 (by decide) ?_
    exact rt_r () hx hb hr (Or.inl ⟨_, rfl⟩) hlocks rfl (hP.sub (ws' := [(x0, .inr (0, [.int (nI lm), .ref pg, .ref a_cp, .ref b_cp, .ref pn, .ref gv, .ref sh, .int bg, .int lt, .int em, .int sp, .int fd]))]) [0] rfl) (hD.sub (ws' := [(x0, .inr (0, [.int (nI lm), .ref pg, .ref a_cp, .ref b_cp, .ref pn, .ref gv, .ref sh, .int bg, .int lt, .int em, .int sp, .int fd]))]) [0] (by decide) rfl) hS d_Gate_copyOf_15

set_option maxHeartbeats 4000000 in
set_option maxRecDepth 100000 in
theorem c_Gate_copyOf1 (l : Launch) (dC : Nat → ClassId) (dI : Nat → Nat → Nat) (cI cL : ClassId) (hs0 : Nat) (x0 : Nat) (lm : Nat) (pg : Nat) (a_cp : Nat) (b_cp : Nat) (pn : Nat) (gv : Nat) (sh : Nat) (bg : Int32) (lt : Int32) (em : Int32) (sp : Int32) (fd : Int32) (k0 : Int32) (hk : ¬ k0 = 0) : ct_r l y_Gate_copyOf b_Gate_copyOf 2 (some (.object "TwinGate$Copy")) ({ frames := 0, cells := 0, slots := 0, locals := 0 }) (dC, dI) cI cL [.ref x0, .int k0] [(x0, .inr (0, [.int (nI lm), .ref pg, .ref a_cp, .ref b_cp, .ref pn, .ref gv, .ref sh, .int bg, .int lt, .int em, .int sp, .int fd]))] hs0 (fun (u : Unit) (x : Nat) => x = b_cp) (fun u => [(x0, .inr (0, [.int (nI lm), .ref pg, .ref a_cp, .ref b_cp, .ref pn, .ref gv, .ref sh, .int bg, .int lt, .int em, .int sp, .int fd]))]) 0 0 := by
  refine st_w (Qc := fun A => va_Qr (fun _ => True) (fun (u : Unit) x t => (fun (u : Unit) (x : Nat) => x = b_cp) u x ∧ pos_w (dC, dI) A [(x0, .inr (0, [.int (nI lm), .ref pg, .ref a_cp, .ref b_cp, .ref pn, .ref gv, .ref sh, .int bg, .int lt, .int em, .int sp, .int fd]))] t) A) (by decide) (Nat.le_of_ble_eq_true rfl) ?_
  intro p e s m below meth c A ls hfx hK hA hP hD hS hl
  obtain ⟨hx, hb, hml, hown, htb, hr, hlocks, hin⟩ := hfx
  have hl : lv_has ls 2 [(0, .ref x0), (1, .int k0)] := hl
  refine lv_iload_n hx hb d_Gate_copyOf_0 rfl (lv_at hl 1 rfl) ?_
  refine lv_if_ne (tgt := 11) hx hb d_Gate_copyOf_1 (by decide) (fun c_1 => ?_) (fun c_1 => ?_)
  · skip
    refine lv_aload_n hx hb d_Gate_copyOf_11 rfl (lv_at hl 0 rfl) ?_
    refine va_get (D := (dC, dI)) (ci := 0) (v := .ref b_cp) (C := R_Gate) (T := F_Gate) (N := 12) hx hb htb iw_Gate hown hK.1 hP 0 rfl rfl 3 (by decide) (htb _ tw_121) (fun _ h9 => h9) rfl d_Gate_copyOf_12 ?_
    exact rt_r () hx hb hr (Or.inl ⟨_, rfl⟩) hlocks rfl (hP.sub (ws' := [(x0, .inr (0, [.int (nI lm), .ref pg, .ref a_cp, .ref b_cp, .ref pn, .ref gv, .ref sh, .int bg, .int lt, .int em, .int sp, .int fd]))]) [0] rfl) (hD.sub (ws' := [(x0, .inr (0, [.int (nI lm), .ref pg, .ref a_cp, .ref b_cp, .ref pn, .ref gv, .ref sh, .int bg, .int lt, .int em, .int sp, .int fd]))]) [0] (by decide) rfl) hS d_Gate_copyOf_15
  · exact absurd c_1 (hk)

set_option maxHeartbeats 4000000 in
set_option maxRecDepth 100000 in
theorem c_Gate_doFlipsAhead (l : Launch) (dC : Nat → ClassId) (dI : Nat → Nat → Nat) (cI cL : ClassId) (hs0 : Nat) (x0 : Nat) (lm : Nat) (pg : Nat) (a_cp : Nat) (b_cp : Nat) (pn : Nat) (gv : Nat) (sh : Nat) (bg : Int32) (lt : Int32) (em : Int32) (sp : Int32) (fd : Int32) (a_rw : Nat) (a_po : Nat) (a_rr : Nat → Int64) (a_pl : Int32) (b_rw : Nat) (b_po : Nat) (b_rr : Nat → Int64) (b_pl : Int32) (ka : Nat) (kb : Nat) (kc : Nat) (kd : Nat) (fc : Nat → Int32) (fl : Nat → Int32) (fb : Nat → Int32) (fs : Nat → Int32) (np : Nat) (hnp : np ≤ 4) (hpl : pl_ok fl np) : ct_v l y_Gate_doFlipsAhead b_Gate_doFlipsAhead 2 none ({ frames := 1, cells := 0, slots := 0, locals := 40 }) (dC, dI) cI cL [.ref x0] [(x0, .inr (0, [.int (nI lm), .ref pg, .ref a_cp, .ref b_cp, .ref pn, .ref gv, .ref sh, .int bg, .int lt, .int em, .int sp, .int fd])), (a_cp, .inr (1, [.long 1, .ref a_rw, .ref a_po, .int a_pl])), (a_rw, .inl (cL, 18, .inr (.inl a_rr))), (b_cp, .inr (1, [.long 58659, .ref b_rw, .ref b_po, .int b_pl])), (b_rw, .inl (cL, 18, .inr (.inl b_rr))), (pn, .inr (2, [.ref ka, .ref kb, .ref kc, .ref kd, .int (nI np)])), (ka, .inl (cI, 4, .inl fc)), (kb, .inl (cI, 4, .inl fl)), (kc, .inl (cI, 4, .inl fb)), (kd, .inl (cI, 4, .inl fs))] hs0 (fun (u : (Nat → Int64) × (Nat → Int64) × Int32) => u.1 = (fl_w fc fl fb fs sp np 0 a_rr b_rr fd).1 ∧ u.2.1 = (fl_w fc fl fb fs sp np 0 a_rr b_rr fd).2.1 ∧ u.2.2 = (fl_w fc fl fb fs sp np 0 a_rr b_rr fd).2.2) (fun u => [(x0, .inr (0, [.int (nI lm), .ref pg, .ref a_cp, .ref b_cp, .ref pn, .ref gv, .ref sh, .int bg, .int lt, .int em, .int sp, .int u.2.2])), (a_cp, .inr (1, [.long 1, .ref a_rw, .ref a_po, .int a_pl])), (a_rw, .inl (cL, 18, .inr (.inl u.1))), (b_cp, .inr (1, [.long 58659, .ref b_rw, .ref b_po, .int b_pl])), (b_rw, .inl (cL, 18, .inr (.inl u.2.1))), (pn, .inr (2, [.ref ka, .ref kb, .ref kc, .ref kd, .int (nI np)])), (ka, .inl (cI, 4, .inl fc)), (kb, .inl (cI, 4, .inl fl)), (kc, .inl (cI, 4, .inl fb)), (kd, .inl (cI, 4, .inl fs))]) 0 0 := by
  refine st_w (Qc := fun A => va_Qv (fun (u : (Nat → Int64) × (Nat → Int64) × Int32) => u.1 = (fl_w fc fl fb fs sp np 0 a_rr b_rr fd).1 ∧ u.2.1 = (fl_w fc fl fb fs sp np 0 a_rr b_rr fd).2.1 ∧ u.2.2 = (fl_w fc fl fb fs sp np 0 a_rr b_rr fd).2.2) (fun (u : (Nat → Int64) × (Nat → Int64) × Int32) t => pos_w (dC, dI) A [(x0, .inr (0, [.int (nI lm), .ref pg, .ref a_cp, .ref b_cp, .ref pn, .ref gv, .ref sh, .int bg, .int lt, .int em, .int sp, .int u.2.2])), (a_cp, .inr (1, [.long 1, .ref a_rw, .ref a_po, .int a_pl])), (a_rw, .inl (cL, 18, .inr (.inl u.1))), (b_cp, .inr (1, [.long 58659, .ref b_rw, .ref b_po, .int b_pl])), (b_rw, .inl (cL, 18, .inr (.inl u.2.1))), (pn, .inr (2, [.ref ka, .ref kb, .ref kc, .ref kd, .int (nI np)])), (ka, .inl (cI, 4, .inl fc)), (kb, .inl (cI, 4, .inl fl)), (kc, .inl (cI, 4, .inl fb)), (kd, .inl (cI, 4, .inl fs))] t) A) (by decide) (Nat.le_of_ble_eq_true rfl) ?_
  intro p e s m below meth c A ls hfx hK hA hP hD hS hl
  obtain ⟨hx, hb, hml, hown, htb, hr, hlocks, hin⟩ := hfx
  have hl : lv_has ls 2 [(0, .ref x0)] := hl
  refine lv_iconst (v := 0) hx hb d_Gate_doFlipsAhead_0 (by decide) ?_
  refine lv_istore_n (lv' := [(1, .int 0), (0, .ref x0)]) hx hb d_Gate_doFlipsAhead_1 rfl hl (by decide) rfl (fun ls hl => ?_)
  have lp_0 : ∀ (n : Nat) (k : Nat) (ra : Nat → Int64) (rb : Nat → Int64) (fv : Int32) (H : Heap) (locs : List Loc) (ls : Array Slot), (k + n = np) → (fl_w fc fl fb fs sp n k ra rb fv = fl_w fc fl fb fs sp np 0 a_rr b_rr fd) → va_P (dC, dI) classes [(x0, .inr (0, [.int (nI lm), .ref pg, .ref a_cp, .ref b_cp, .ref pn, .ref gv, .ref sh, .int bg, .int lt, .int em, .int sp, .int fv])), (a_cp, .inr (1, [.long 1, .ref a_rw, .ref a_po, .int a_pl])), (a_rw, .inl (cL, 18, .inr (.inl ra))), (b_cp, .inr (1, [.long 58659, .ref b_rw, .ref b_po, .int b_pl])), (b_rw, .inl (cL, 18, .inr (.inl rb))), (pn, .inr (2, [.ref ka, .ref kb, .ref kc, .ref kd, .int (nI np)])), (ka, .inl (cI, 4, .inl fc)), (kb, .inl (cI, 4, .inl fl)), (kc, .inl (cI, 4, .inl fb)), (kd, .inl (cI, 4, .inl fs))] H → va_D A [(x0, .inr (0, [.int (nI lm), .ref pg, .ref a_cp, .ref b_cp, .ref pn, .ref gv, .ref sh, .int bg, .int lt, .int em, .int sp, .int fv])), (a_cp, .inr (1, [.long 1, .ref a_rw, .ref a_po, .int a_pl])), (a_rw, .inl (cL, 18, .inr (.inl ra))), (b_cp, .inr (1, [.long 58659, .ref b_rw, .ref b_po, .int b_pl])), (b_rw, .inl (cL, 18, .inr (.inl rb))), (pn, .inr (2, [.ref ka, .ref kb, .ref kc, .ref kd, .int (nI np)])), (ka, .inl (cI, 4, .inl fc)), (kb, .inl (cI, 4, .inl fl)), (kc, .inl (cI, 4, .inl fb)), (kd, .inl (cI, 4, .inl fs))] → va_S A s.heap H locs → lv_has ls 2 [(0, .ref x0), (1, .int (nI k))] → W p l e ({ frames := 1, cells := 0, slots := 0, locals := 40 }) s m ([.ref x0].toArray) below meth c H locs 0 0 (MQ below (va_Qv (fun (u : (Nat → Int64) × (Nat → Int64) × Int32) => u.1 = (fl_w fc fl fb fs sp np 0 a_rr b_rr fd).1 ∧ u.2.1 = (fl_w fc fl fb fs sp np 0 a_rr b_rr fd).2.1 ∧ u.2.2 = (fl_w fc fl fb fs sp np 0 a_rr b_rr fd).2.2) (fun (u : (Nat → Int64) × (Nat → Int64) × Int32) t => pos_w (dC, dI) A [(x0, .inr (0, [.int (nI lm), .ref pg, .ref a_cp, .ref b_cp, .ref pn, .ref gv, .ref sh, .int bg, .int lt, .int em, .int sp, .int u.2.2])), (a_cp, .inr (1, [.long 1, .ref a_rw, .ref a_po, .int a_pl])), (a_rw, .inl (cL, 18, .inr (.inl u.1))), (b_cp, .inr (1, [.long 58659, .ref b_rw, .ref b_po, .int b_pl])), (b_rw, .inl (cL, 18, .inr (.inl u.2.1))), (pn, .inr (2, [.ref ka, .ref kb, .ref kc, .ref kd, .int (nI np)])), (ka, .inl (cI, 4, .inl fc)), (kb, .inl (cI, 4, .inl fl)), (kc, .inl (cI, 4, .inl fb)), (kd, .inl (cI, 4, .inl fs))] t) A) ([.ref x0].toArray) s 0 0 A) (F0 m 2 ls []) := by
    intro n
    induction n with
    | zero =>
      intro k ra rb fv H locs ls hn hF hP hD hS hl
      refine lv_iload_n hx hb d_Gate_doFlipsAhead_2 rfl (lv_at hl 1 rfl) ?_
      refine lv_aload_n hx hb d_Gate_doFlipsAhead_3 rfl (lv_at hl 0 rfl) ?_
      refine va_get (D := (dC, dI)) (ci := 0) (v := .ref pn) (C := R_Gate) (T := F_Gate) (N := 12) hx hb htb iw_Gate hown hK.1 hP 0 rfl rfl 4 (by decide) (htb _ tw_122) (fun _ h9 => h9) rfl d_Gate_doFlipsAhead_4 ?_
      refine va_get (D := (dC, dI)) (ci := 2) (v := .int (nI np)) (C := R_Plan) (T := F_Plan) (N := 5) hx hb htb iw_Plan hown hK.1 hP 5 rfl rfl 4 (by decide) (htb _ tw_100) (fun _ h9 => h9) rfl d_Gate_doFlipsAhead_7 ?_
      refine lv_icmp_ge (tgt := 85) hx hb d_Gate_doFlipsAhead_10 (by decide) (fun c_1 => ?_) (fun c_1 => ?_)
      · skip
        exact rt_v (ra, rb, fv) hx hb hr hlocks (show ra = (fl_w fc fl fb fs sp np 0 a_rr b_rr fd).1 ∧ rb = (fl_w fc fl fb fs sp np 0 a_rr b_rr fd).2.1 ∧ fv = (fl_w fc fl fb fs sp np 0 a_rr b_rr fd).2.2 from (by rw [← hF]; simp only [fl_w, and_self])) (hP.sub (ws' := [(x0, .inr (0, [.int (nI lm), .ref pg, .ref a_cp, .ref b_cp, .ref pn, .ref gv, .ref sh, .int bg, .int lt, .int em, .int sp, .int fv])), (a_cp, .inr (1, [.long 1, .ref a_rw, .ref a_po, .int a_pl])), (a_rw, .inl (cL, 18, .inr (.inl ra))), (b_cp, .inr (1, [.long 58659, .ref b_rw, .ref b_po, .int b_pl])), (b_rw, .inl (cL, 18, .inr (.inl rb))), (pn, .inr (2, [.ref ka, .ref kb, .ref kc, .ref kd, .int (nI np)])), (ka, .inl (cI, 4, .inl fc)), (kb, .inl (cI, 4, .inl fl)), (kc, .inl (cI, 4, .inl fb)), (kd, .inl (cI, 4, .inl fs))]) [0, 1, 2, 3, 4, 5, 6, 7, 8, 9] rfl) (hD.sub (ws' := [(x0, .inr (0, [.int (nI lm), .ref pg, .ref a_cp, .ref b_cp, .ref pn, .ref gv, .ref sh, .int bg, .int lt, .int em, .int sp, .int fv])), (a_cp, .inr (1, [.long 1, .ref a_rw, .ref a_po, .int a_pl])), (a_rw, .inl (cL, 18, .inr (.inl ra))), (b_cp, .inr (1, [.long 58659, .ref b_rw, .ref b_po, .int b_pl])), (b_rw, .inl (cL, 18, .inr (.inl rb))), (pn, .inr (2, [.ref ka, .ref kb, .ref kc, .ref kd, .int (nI np)])), (ka, .inl (cI, 4, .inl fc)), (kb, .inl (cI, 4, .inl fl)), (kc, .inl (cI, 4, .inl fb)), (kd, .inl (cI, 4, .inl fs))]) [0, 1, 2, 3, 4, 5, 6, 7, 8, 9] (by decide) rfl) hS d_Gate_doFlipsAhead_85
      · exact absurd (nI_le (by omega) (by omega)) c_1
    | succ n ih =>
      intro k ra rb fv H locs ls hn hF hP hD hS hl
      refine lv_iload_n hx hb d_Gate_doFlipsAhead_2 rfl (lv_at hl 1 rfl) ?_
      refine lv_aload_n hx hb d_Gate_doFlipsAhead_3 rfl (lv_at hl 0 rfl) ?_
      refine va_get (D := (dC, dI)) (ci := 0) (v := .ref pn) (C := R_Gate) (T := F_Gate) (N := 12) hx hb htb iw_Gate hown hK.1 hP 0 rfl rfl 4 (by decide) (htb _ tw_122) (fun _ h9 => h9) rfl d_Gate_doFlipsAhead_4 ?_
      refine va_get (D := (dC, dI)) (ci := 2) (v := .int (nI np)) (C := R_Plan) (T := F_Plan) (N := 5) hx hb htb iw_Plan hown hK.1 hP 5 rfl rfl 4 (by decide) (htb _ tw_100) (fun _ h9 => h9) rfl d_Gate_doFlipsAhead_7 ?_
      refine lv_icmp_ge (tgt := 85) hx hb d_Gate_doFlipsAhead_10 (by decide) (fun c_2 => ?_) (fun c_2 => ?_)
      · exact absurd c_2 (nI_ge (by omega) (by omega))
      · skip
        refine lv_aload_n hx hb d_Gate_doFlipsAhead_13 rfl (lv_at hl 0 rfl) ?_
        refine va_get (D := (dC, dI)) (ci := 0) (v := .ref pn) (C := R_Gate) (T := F_Gate) (N := 12) hx hb htb iw_Gate hown hK.1 hP 0 rfl rfl 4 (by decide) (htb _ tw_122) (fun _ h9 => h9) rfl d_Gate_doFlipsAhead_14 ?_
        refine va_get (D := (dC, dI)) (ci := 2) (v := .ref kd) (C := R_Plan) (T := F_Plan) (N := 5) hx hb htb iw_Plan hown hK.1 hP 5 rfl rfl 3 (by decide) (htb _ tw_98) (fun _ h9 => h9) rfl d_Gate_doFlipsAhead_17 ?_
        refine lv_iload_n hx hb d_Gate_doFlipsAhead_20 rfl (lv_at hl 1 rfl) ?_
        refine ld_i (v := fs k) (cA := cI) hx hb hK.1 hP 9 0 rfl rfl (vp_in_nI (by omega) (by decide)) (congrArg fs (nI_clamp (by omega))) d_Gate_doFlipsAhead_21 ?_
        refine lv_aload_n hx hb d_Gate_doFlipsAhead_22 rfl (lv_at hl 0 rfl) ?_
        refine va_get (D := (dC, dI)) (ci := 0) (v := .int sp) (C := R_Gate) (T := F_Gate) (N := 12) hx hb htb iw_Gate hown hK.1 hP 0 rfl rfl 10 (by decide) (htb _ tw_128) (fun _ h9 => h9) rfl d_Gate_doFlipsAhead_23 ?_
        refine lv_icmp_ne (tgt := 79) hx hb d_Gate_doFlipsAhead_26 (by decide) (fun c_3 => ?_) (fun c_3 => ?_)
        · have c_3 : ¬ (fs k) = sp := c_3
          refine lv_iinc (v := nI (k + 1)) (lv' := [(1, .int (nI (k + 1))), (0, .ref x0)]) hx hb d_Gate_doFlipsAhead_79 hl (k := 1) rfl (nI_1 k) (by decide) rfl (fun ls hl => ?_)
          refine lv_goto (tgt := 2) hx hb d_Gate_doFlipsAhead_82 (by decide) ?_
          exact ih (k + 1) ra rb fv H locs ls (by omega) (by rw [← hF]; simp only [fl_w, if_neg c_3]) (hP.sub (ws' := [(x0, .inr (0, [.int (nI lm), .ref pg, .ref a_cp, .ref b_cp, .ref pn, .ref gv, .ref sh, .int bg, .int lt, .int em, .int sp, .int fv])), (a_cp, .inr (1, [.long 1, .ref a_rw, .ref a_po, .int a_pl])), (a_rw, .inl (cL, 18, .inr (.inl ra))), (b_cp, .inr (1, [.long 58659, .ref b_rw, .ref b_po, .int b_pl])), (b_rw, .inl (cL, 18, .inr (.inl rb))), (pn, .inr (2, [.ref ka, .ref kb, .ref kc, .ref kd, .int (nI np)])), (ka, .inl (cI, 4, .inl fc)), (kb, .inl (cI, 4, .inl fl)), (kc, .inl (cI, 4, .inl fb)), (kd, .inl (cI, 4, .inl fs))]) [0, 1, 2, 3, 4, 5, 6, 7, 8, 9] rfl) (hD.sub (ws' := [(x0, .inr (0, [.int (nI lm), .ref pg, .ref a_cp, .ref b_cp, .ref pn, .ref gv, .ref sh, .int bg, .int lt, .int em, .int sp, .int fv])), (a_cp, .inr (1, [.long 1, .ref a_rw, .ref a_po, .int a_pl])), (a_rw, .inl (cL, 18, .inr (.inl ra))), (b_cp, .inr (1, [.long 58659, .ref b_rw, .ref b_po, .int b_pl])), (b_rw, .inl (cL, 18, .inr (.inl rb))), (pn, .inr (2, [.ref ka, .ref kb, .ref kc, .ref kd, .int (nI np)])), (ka, .inl (cI, 4, .inl fc)), (kb, .inl (cI, 4, .inl fl)), (kc, .inl (cI, 4, .inl fb)), (kd, .inl (cI, 4, .inl fs))]) [0, 1, 2, 3, 4, 5, 6, 7, 8, 9] (by decide) rfl) hS (lv_sub hl [1, 0] rfl)
        · have c_3 : (fs k) = sp := c_3
          refine lv_aload_n hx hb d_Gate_doFlipsAhead_29 rfl (lv_at hl 0 rfl) ?_
          refine lv_aload_n hx hb d_Gate_doFlipsAhead_30 rfl (lv_at hl 0 rfl) ?_
          refine va_get (D := (dC, dI)) (ci := 0) (v := .ref pn) (C := R_Gate) (T := F_Gate) (N := 12) hx hb htb iw_Gate hown hK.1 hP 0 rfl rfl 4 (by decide) (htb _ tw_122) (fun _ h9 => h9) rfl d_Gate_doFlipsAhead_31 ?_
          refine va_get (D := (dC, dI)) (ci := 2) (v := .ref ka) (C := R_Plan) (T := F_Plan) (N := 5) hx hb htb iw_Plan hown hK.1 hP 5 rfl rfl 0 (by decide) (htb _ tw_92) (fun _ h9 => h9) rfl d_Gate_doFlipsAhead_34 ?_
          refine lv_iload_n hx hb d_Gate_doFlipsAhead_37 rfl (lv_at hl 1 rfl) ?_
          refine ld_i (v := fc k) (cA := cI) hx hb hK.1 hP 6 0 rfl rfl (vp_in_nI (by omega) (by decide)) (congrArg fc (nI_clamp (by omega))) d_Gate_doFlipsAhead_38 ?_
          by_cases c_4 : fc k = 0
          · skip
            refine af_r (wr := [(a_cp, .inr (1, [.long 1, .ref a_rw, .ref a_po, .int a_pl])), (a_rw, .inl (cL, 18, .inr (.inl ra))), (b_cp, .inr (1, [.long 58659, .ref b_rw, .ref b_po, .int b_pl])), (b_rw, .inl (cL, 18, .inr (.inl rb))), (pn, .inr (2, [.ref ka, .ref kb, .ref kc, .ref kd, .int (nI np)])), (ka, .inl (cI, 4, .inl fc)), (kb, .inl (cI, 4, .inl fl)), (kc, .inl (cI, 4, .inl fb)), (kd, .inl (cI, 4, .inl fs))]) (va_runV (As := [.int (fc k)]) (rest := []) ⟨hx, hb, hml, hown, htb⟩ (c_Gate_copyOf0 l dC dI cI cL H.size x0 lm pg a_cp b_cp pn gv sh bg lt em sp fv (fc k) c_4) ⟨callB_of 1 htb (gd_w tw_196) rfl rfl rfl (htb _ tw_20) (htb _ tw_193) (by decide +kernel) ⟨Nat.le_of_ble_eq_true rfl, Nat.le_of_ble_eq_true rfl⟩, htb _ tw_195, htb _ tw_3⟩ (pv_V hK (hP.sub (ws' := [(x0, .inr (0, [.int (nI lm), .ref pg, .ref a_cp, .ref b_cp, .ref pn, .ref gv, .ref sh, .int bg, .int lt, .int em, .int sp, .int fv]))]) [0] rfl) (hD.sub (ws' := [(x0, .inr (0, [.int (nI lm), .ref pg, .ref a_cp, .ref b_cp, .ref pn, .ref gv, .ref sh, .int bg, .int lt, .int em, .int sp, .int fv]))]) [0] (by decide) rfl) (ci := 0) (q0 := 0) rfl rfl) rfl rfl hl.1 rfl (lv_room (Nat.le_of_ble_eq_true rfl)) d_Gate_doFlipsAhead_39 ⟨Nat.le_of_ble_eq_true rfl, Nat.le_of_ble_eq_true rfl⟩) hP hD hS hA [0] [1, 2, 3, 4, 5, 6, 7, 8, 9] rfl rfl (by decide) (by decide) (fun u_6 r_5 H locs hw hP hD hS => ?_)
            have hw : a_cp = r_5 := Eq.symm hw
            subst hw
            have hP : va_P (dC, dI) classes [(a_cp, .inr (1, [.long 1, .ref a_rw, .ref a_po, .int a_pl])), (a_rw, .inl (cL, 18, .inr (.inl ra))), (b_cp, .inr (1, [.long 58659, .ref b_rw, .ref b_po, .int b_pl])), (b_rw, .inl (cL, 18, .inr (.inl rb))), (pn, .inr (2, [.ref ka, .ref kb, .ref kc, .ref kd, .int (nI np)])), (ka, .inl (cI, 4, .inl fc)), (kb, .inl (cI, 4, .inl fl)), (kc, .inl (cI, 4, .inl fb)), (kd, .inl (cI, 4, .inl fs)), (x0, .inr (0, [.int (nI lm), .ref pg, .ref a_cp, .ref b_cp, .ref pn, .ref gv, .ref sh, .int bg, .int lt, .int em, .int sp, .int fv]))] H := hP
            have hD : va_D A [(a_cp, .inr (1, [.long 1, .ref a_rw, .ref a_po, .int a_pl])), (a_rw, .inl (cL, 18, .inr (.inl ra))), (b_cp, .inr (1, [.long 58659, .ref b_rw, .ref b_po, .int b_pl])), (b_rw, .inl (cL, 18, .inr (.inl rb))), (pn, .inr (2, [.ref ka, .ref kb, .ref kc, .ref kd, .int (nI np)])), (ka, .inl (cI, 4, .inl fc)), (kb, .inl (cI, 4, .inl fl)), (kc, .inl (cI, 4, .inl fb)), (kd, .inl (cI, 4, .inl fs)), (x0, .inr (0, [.int (nI lm), .ref pg, .ref a_cp, .ref b_cp, .ref pn, .ref gv, .ref sh, .int bg, .int lt, .int em, .int sp, .int fv]))] := hD
            refine va_get (D := (dC, dI)) (ci := 1) (v := .ref a_rw) (C := R_Copy) (T := F_Copy) (N := 4) hx hb htb iw_Copy hown hK.1 hP 0 rfl rfl 1 (by decide) (htb _ tw_70) (fun _ h9 => h9) rfl d_Gate_doFlipsAhead_42 ?_
            refine lv_aload_n hx hb d_Gate_doFlipsAhead_45 rfl (lv_at hl 0 rfl) ?_
            refine va_get (D := (dC, dI)) (ci := 0) (v := .ref pn) (C := R_Gate) (T := F_Gate) (N := 12) hx hb htb iw_Gate hown hK.1 hP 9 rfl rfl 4 (by decide) (htb _ tw_122) (fun _ h9 => h9) rfl d_Gate_doFlipsAhead_46 ?_
            refine va_get (D := (dC, dI)) (ci := 2) (v := .ref kb) (C := R_Plan) (T := F_Plan) (N := 5) hx hb htb iw_Plan hown hK.1 hP 4 rfl rfl 1 (by decide) (htb _ tw_94) (fun _ h9 => h9) rfl d_Gate_doFlipsAhead_49 ?_
            refine lv_iload_n hx hb d_Gate_doFlipsAhead_52 rfl (lv_at hl 1 rfl) ?_
            refine ld_i (v := fl k) (cA := cI) hx hb hK.1 hP 6 0 rfl rfl (vp_in_nI (by omega) (by decide)) (congrArg fl (nI_clamp (by omega))) d_Gate_doFlipsAhead_53 ?_
            refine lv_dup2_11 hx hb d_Gate_doFlipsAhead_54 rfl rfl ?_
            refine ld_l (v := ra ((fl k).toNatClampNeg)) (cA := cL) hx hb hK.1 hP 1 1 rfl rfl (hpl k (by omega)) rfl d_Gate_doFlipsAhead_55 ?_
            refine lv_lconst (v := 1) hx hb d_Gate_doFlipsAhead_56 (by decide) ?_
            refine lv_aload_n hx hb d_Gate_doFlipsAhead_57 rfl (lv_at hl 0 rfl) ?_
            refine va_get (D := (dC, dI)) (ci := 0) (v := .ref pn) (C := R_Gate) (T := F_Gate) (N := 12) hx hb htb iw_Gate hown hK.1 hP 9 rfl rfl 4 (by decide) (htb _ tw_122) (fun _ h9 => h9) rfl d_Gate_doFlipsAhead_58 ?_
            refine va_get (D := (dC, dI)) (ci := 2) (v := .ref kc) (C := R_Plan) (T := F_Plan) (N := 5) hx hb htb iw_Plan hown hK.1 hP 4 rfl rfl 2 (by decide) (htb _ tw_96) (fun _ h9 => h9) rfl d_Gate_doFlipsAhead_61 ?_
            refine lv_iload_n hx hb d_Gate_doFlipsAhead_64 rfl (lv_at hl 1 rfl) ?_
            refine ld_i (v := fb k) (cA := cI) hx hb hK.1 hP 7 0 rfl rfl (vp_in_nI (by omega) (by decide)) (congrArg fb (nI_clamp (by omega))) d_Gate_doFlipsAhead_65 ?_
            refine lv_lshl (v := 1 <<< ((fb k).toInt64 &&& 63)) hx hb d_Gate_doFlipsAhead_66 rfl ?_
            refine lv_lxor hx hb d_Gate_doFlipsAhead_67 ?_
            refine sd_l (g := vp_updL ra ((fl k).toNatClampNeg) ((ra ((fl k).toNatClampNeg)) ^^^ (1 <<< ((fb k).toInt64 &&& 63)))) (cA := cL) hx hb hK.1 hP hD hS 1 1 rfl rfl (hpl k (by omega)) rfl d_Gate_doFlipsAhead_68 (fun H locs hP hD hS => ?_)
            have hP : va_P (dC, dI) classes [(a_cp, .inr (1, [.long 1, .ref a_rw, .ref a_po, .int a_pl])), (a_rw, .inl (cL, 18, .inr (.inl (vp_updL ra ((fl k).toNatClampNeg) ((ra ((fl k).toNatClampNeg)) ^^^ (1 <<< ((fb k).toInt64 &&& 63))))))), (b_cp, .inr (1, [.long 58659, .ref b_rw, .ref b_po, .int b_pl])), (b_rw, .inl (cL, 18, .inr (.inl rb))), (pn, .inr (2, [.ref ka, .ref kb, .ref kc, .ref kd, .int (nI np)])), (ka, .inl (cI, 4, .inl fc)), (kb, .inl (cI, 4, .inl fl)), (kc, .inl (cI, 4, .inl fb)), (kd, .inl (cI, 4, .inl fs)), (x0, .inr (0, [.int (nI lm), .ref pg, .ref a_cp, .ref b_cp, .ref pn, .ref gv, .ref sh, .int bg, .int lt, .int em, .int sp, .int fv]))] H := hP
            have hD : va_D A [(a_cp, .inr (1, [.long 1, .ref a_rw, .ref a_po, .int a_pl])), (a_rw, .inl (cL, 18, .inr (.inl (vp_updL ra ((fl k).toNatClampNeg) ((ra ((fl k).toNatClampNeg)) ^^^ (1 <<< ((fb k).toInt64 &&& 63))))))), (b_cp, .inr (1, [.long 58659, .ref b_rw, .ref b_po, .int b_pl])), (b_rw, .inl (cL, 18, .inr (.inl rb))), (pn, .inr (2, [.ref ka, .ref kb, .ref kc, .ref kd, .int (nI np)])), (ka, .inl (cI, 4, .inl fc)), (kb, .inl (cI, 4, .inl fl)), (kc, .inl (cI, 4, .inl fb)), (kd, .inl (cI, 4, .inl fs)), (x0, .inr (0, [.int (nI lm), .ref pg, .ref a_cp, .ref b_cp, .ref pn, .ref gv, .ref sh, .int bg, .int lt, .int em, .int sp, .int fv]))] := hD
            refine lv_aload_n hx hb d_Gate_doFlipsAhead_69 rfl (lv_at hl 0 rfl) ?_
            refine lv_dup hx hb d_Gate_doFlipsAhead_70 rfl ?_
            refine va_get (D := (dC, dI)) (ci := 0) (v := .int fv) (C := R_Gate) (T := F_Gate) (N := 12) hx hb htb iw_Gate hown hK.1 hP 9 rfl rfl 11 (by decide) (htb _ tw_129) (fun _ h9 => h9) rfl d_Gate_doFlipsAhead_71 ?_
            refine lv_iconst (v := 1) hx hb d_Gate_doFlipsAhead_74 (by decide) ?_
            refine lv_iadd hx hb d_Gate_doFlipsAhead_75 ?_
            refine va_put (D := (dC, dI)) (ci := 0) (v := .int (fv + 1)) (ty := .int) (C := R_Gate) (T := F_Gate) (N := 12) hx hb htb iw_Gate t_Gate t_Gate_ok n_Gate hown hK.1 hP hD hS 9 rfl rfl 11 (by decide) (htb _ tw_129) (fun _ h9 => h9) rfl (by decide +kernel) rfl rfl (Nat.le_of_ble_eq_true rfl) d_Gate_doFlipsAhead_76 (fun H locs hP hD hS => ?_)
            have hP : va_P (dC, dI) classes [(a_cp, .inr (1, [.long 1, .ref a_rw, .ref a_po, .int a_pl])), (a_rw, .inl (cL, 18, .inr (.inl (vp_updL ra ((fl k).toNatClampNeg) ((ra ((fl k).toNatClampNeg)) ^^^ (1 <<< ((fb k).toInt64 &&& 63))))))), (b_cp, .inr (1, [.long 58659, .ref b_rw, .ref b_po, .int b_pl])), (b_rw, .inl (cL, 18, .inr (.inl rb))), (pn, .inr (2, [.ref ka, .ref kb, .ref kc, .ref kd, .int (nI np)])), (ka, .inl (cI, 4, .inl fc)), (kb, .inl (cI, 4, .inl fl)), (kc, .inl (cI, 4, .inl fb)), (kd, .inl (cI, 4, .inl fs)), (x0, .inr (0, [.int (nI lm), .ref pg, .ref a_cp, .ref b_cp, .ref pn, .ref gv, .ref sh, .int bg, .int lt, .int em, .int sp, .int (fv + 1)]))] H := hP
            have hD : va_D A [(a_cp, .inr (1, [.long 1, .ref a_rw, .ref a_po, .int a_pl])), (a_rw, .inl (cL, 18, .inr (.inl (vp_updL ra ((fl k).toNatClampNeg) ((ra ((fl k).toNatClampNeg)) ^^^ (1 <<< ((fb k).toInt64 &&& 63))))))), (b_cp, .inr (1, [.long 58659, .ref b_rw, .ref b_po, .int b_pl])), (b_rw, .inl (cL, 18, .inr (.inl rb))), (pn, .inr (2, [.ref ka, .ref kb, .ref kc, .ref kd, .int (nI np)])), (ka, .inl (cI, 4, .inl fc)), (kb, .inl (cI, 4, .inl fl)), (kc, .inl (cI, 4, .inl fb)), (kd, .inl (cI, 4, .inl fs)), (x0, .inr (0, [.int (nI lm), .ref pg, .ref a_cp, .ref b_cp, .ref pn, .ref gv, .ref sh, .int bg, .int lt, .int em, .int sp, .int (fv + 1)]))] := hD
            refine lv_iinc (v := nI (k + 1)) (lv' := [(1, .int (nI (k + 1))), (0, .ref x0)]) hx hb d_Gate_doFlipsAhead_79 hl (k := 1) rfl (nI_1 k) (by decide) rfl (fun ls hl => ?_)
            refine lv_goto (tgt := 2) hx hb d_Gate_doFlipsAhead_82 (by decide) ?_
            exact ih (k + 1) (vp_updL ra ((fl k).toNatClampNeg) ((ra ((fl k).toNatClampNeg)) ^^^ (1 <<< ((fb k).toInt64 &&& 63)))) rb (fv + 1) H locs ls (by omega) (by rw [← hF]; simp only [fl_w, if_pos c_3, if_pos c_4]) (hP.sub (ws' := [(x0, .inr (0, [.int (nI lm), .ref pg, .ref a_cp, .ref b_cp, .ref pn, .ref gv, .ref sh, .int bg, .int lt, .int em, .int sp, .int (fv + 1)])), (a_cp, .inr (1, [.long 1, .ref a_rw, .ref a_po, .int a_pl])), (a_rw, .inl (cL, 18, .inr (.inl (vp_updL ra ((fl k).toNatClampNeg) ((ra ((fl k).toNatClampNeg)) ^^^ (1 <<< ((fb k).toInt64 &&& 63))))))), (b_cp, .inr (1, [.long 58659, .ref b_rw, .ref b_po, .int b_pl])), (b_rw, .inl (cL, 18, .inr (.inl rb))), (pn, .inr (2, [.ref ka, .ref kb, .ref kc, .ref kd, .int (nI np)])), (ka, .inl (cI, 4, .inl fc)), (kb, .inl (cI, 4, .inl fl)), (kc, .inl (cI, 4, .inl fb)), (kd, .inl (cI, 4, .inl fs))]) [9, 0, 1, 2, 3, 4, 5, 6, 7, 8] rfl) (hD.sub (ws' := [(x0, .inr (0, [.int (nI lm), .ref pg, .ref a_cp, .ref b_cp, .ref pn, .ref gv, .ref sh, .int bg, .int lt, .int em, .int sp, .int (fv + 1)])), (a_cp, .inr (1, [.long 1, .ref a_rw, .ref a_po, .int a_pl])), (a_rw, .inl (cL, 18, .inr (.inl (vp_updL ra ((fl k).toNatClampNeg) ((ra ((fl k).toNatClampNeg)) ^^^ (1 <<< ((fb k).toInt64 &&& 63))))))), (b_cp, .inr (1, [.long 58659, .ref b_rw, .ref b_po, .int b_pl])), (b_rw, .inl (cL, 18, .inr (.inl rb))), (pn, .inr (2, [.ref ka, .ref kb, .ref kc, .ref kd, .int (nI np)])), (ka, .inl (cI, 4, .inl fc)), (kb, .inl (cI, 4, .inl fl)), (kc, .inl (cI, 4, .inl fb)), (kd, .inl (cI, 4, .inl fs))]) [9, 0, 1, 2, 3, 4, 5, 6, 7, 8] (by decide) rfl) hS (lv_sub hl [1, 0] rfl)
          · skip
            refine af_r (wr := [(a_cp, .inr (1, [.long 1, .ref a_rw, .ref a_po, .int a_pl])), (a_rw, .inl (cL, 18, .inr (.inl ra))), (b_cp, .inr (1, [.long 58659, .ref b_rw, .ref b_po, .int b_pl])), (b_rw, .inl (cL, 18, .inr (.inl rb))), (pn, .inr (2, [.ref ka, .ref kb, .ref kc, .ref kd, .int (nI np)])), (ka, .inl (cI, 4, .inl fc)), (kb, .inl (cI, 4, .inl fl)), (kc, .inl (cI, 4, .inl fb)), (kd, .inl (cI, 4, .inl fs))]) (va_runV (As := [.int (fc k)]) (rest := []) ⟨hx, hb, hml, hown, htb⟩ (c_Gate_copyOf1 l dC dI cI cL H.size x0 lm pg a_cp b_cp pn gv sh bg lt em sp fv (fc k) c_4) ⟨callB_of 1 htb (gd_w tw_196) rfl rfl rfl (htb _ tw_20) (htb _ tw_193) (by decide +kernel) ⟨Nat.le_of_ble_eq_true rfl, Nat.le_of_ble_eq_true rfl⟩, htb _ tw_195, htb _ tw_3⟩ (pv_V hK (hP.sub (ws' := [(x0, .inr (0, [.int (nI lm), .ref pg, .ref a_cp, .ref b_cp, .ref pn, .ref gv, .ref sh, .int bg, .int lt, .int em, .int sp, .int fv]))]) [0] rfl) (hD.sub (ws' := [(x0, .inr (0, [.int (nI lm), .ref pg, .ref a_cp, .ref b_cp, .ref pn, .ref gv, .ref sh, .int bg, .int lt, .int em, .int sp, .int fv]))]) [0] (by decide) rfl) (ci := 0) (q0 := 0) rfl rfl) rfl rfl hl.1 rfl (lv_room (Nat.le_of_ble_eq_true rfl)) d_Gate_doFlipsAhead_39 ⟨Nat.le_of_ble_eq_true rfl, Nat.le_of_ble_eq_true rfl⟩) hP hD hS hA [0] [1, 2, 3, 4, 5, 6, 7, 8, 9] rfl rfl (by decide) (by decide) (fun u_8 r_7 H locs hw hP hD hS => ?_)
            have hw : b_cp = r_7 := Eq.symm hw
            subst hw
            have hP : va_P (dC, dI) classes [(a_cp, .inr (1, [.long 1, .ref a_rw, .ref a_po, .int a_pl])), (a_rw, .inl (cL, 18, .inr (.inl ra))), (b_cp, .inr (1, [.long 58659, .ref b_rw, .ref b_po, .int b_pl])), (b_rw, .inl (cL, 18, .inr (.inl rb))), (pn, .inr (2, [.ref ka, .ref kb, .ref kc, .ref kd, .int (nI np)])), (ka, .inl (cI, 4, .inl fc)), (kb, .inl (cI, 4, .inl fl)), (kc, .inl (cI, 4, .inl fb)), (kd, .inl (cI, 4, .inl fs)), (x0, .inr (0, [.int (nI lm), .ref pg, .ref a_cp, .ref b_cp, .ref pn, .ref gv, .ref sh, .int bg, .int lt, .int em, .int sp, .int fv]))] H := hP
            have hD : va_D A [(a_cp, .inr (1, [.long 1, .ref a_rw, .ref a_po, .int a_pl])), (a_rw, .inl (cL, 18, .inr (.inl ra))), (b_cp, .inr (1, [.long 58659, .ref b_rw, .ref b_po, .int b_pl])), (b_rw, .inl (cL, 18, .inr (.inl rb))), (pn, .inr (2, [.ref ka, .ref kb, .ref kc, .ref kd, .int (nI np)])), (ka, .inl (cI, 4, .inl fc)), (kb, .inl (cI, 4, .inl fl)), (kc, .inl (cI, 4, .inl fb)), (kd, .inl (cI, 4, .inl fs)), (x0, .inr (0, [.int (nI lm), .ref pg, .ref a_cp, .ref b_cp, .ref pn, .ref gv, .ref sh, .int bg, .int lt, .int em, .int sp, .int fv]))] := hD
            refine va_get (D := (dC, dI)) (ci := 1) (v := .ref b_rw) (C := R_Copy) (T := F_Copy) (N := 4) hx hb htb iw_Copy hown hK.1 hP 2 rfl rfl 1 (by decide) (htb _ tw_70) (fun _ h9 => h9) rfl d_Gate_doFlipsAhead_42 ?_
            refine lv_aload_n hx hb d_Gate_doFlipsAhead_45 rfl (lv_at hl 0 rfl) ?_
            refine va_get (D := (dC, dI)) (ci := 0) (v := .ref pn) (C := R_Gate) (T := F_Gate) (N := 12) hx hb htb iw_Gate hown hK.1 hP 9 rfl rfl 4 (by decide) (htb _ tw_122) (fun _ h9 => h9) rfl d_Gate_doFlipsAhead_46 ?_
            refine va_get (D := (dC, dI)) (ci := 2) (v := .ref kb) (C := R_Plan) (T := F_Plan) (N := 5) hx hb htb iw_Plan hown hK.1 hP 4 rfl rfl 1 (by decide) (htb _ tw_94) (fun _ h9 => h9) rfl d_Gate_doFlipsAhead_49 ?_
            refine lv_iload_n hx hb d_Gate_doFlipsAhead_52 rfl (lv_at hl 1 rfl) ?_
            refine ld_i (v := fl k) (cA := cI) hx hb hK.1 hP 6 0 rfl rfl (vp_in_nI (by omega) (by decide)) (congrArg fl (nI_clamp (by omega))) d_Gate_doFlipsAhead_53 ?_
            refine lv_dup2_11 hx hb d_Gate_doFlipsAhead_54 rfl rfl ?_
            refine ld_l (v := rb ((fl k).toNatClampNeg)) (cA := cL) hx hb hK.1 hP 3 1 rfl rfl (hpl k (by omega)) rfl d_Gate_doFlipsAhead_55 ?_
            refine lv_lconst (v := 1) hx hb d_Gate_doFlipsAhead_56 (by decide) ?_
            refine lv_aload_n hx hb d_Gate_doFlipsAhead_57 rfl (lv_at hl 0 rfl) ?_
            refine va_get (D := (dC, dI)) (ci := 0) (v := .ref pn) (C := R_Gate) (T := F_Gate) (N := 12) hx hb htb iw_Gate hown hK.1 hP 9 rfl rfl 4 (by decide) (htb _ tw_122) (fun _ h9 => h9) rfl d_Gate_doFlipsAhead_58 ?_
            refine va_get (D := (dC, dI)) (ci := 2) (v := .ref kc) (C := R_Plan) (T := F_Plan) (N := 5) hx hb htb iw_Plan hown hK.1 hP 4 rfl rfl 2 (by decide) (htb _ tw_96) (fun _ h9 => h9) rfl d_Gate_doFlipsAhead_61 ?_
            refine lv_iload_n hx hb d_Gate_doFlipsAhead_64 rfl (lv_at hl 1 rfl) ?_
            refine ld_i (v := fb k) (cA := cI) hx hb hK.1 hP 7 0 rfl rfl (vp_in_nI (by omega) (by decide)) (congrArg fb (nI_clamp (by omega))) d_Gate_doFlipsAhead_65 ?_
            refine lv_lshl (v := 1 <<< ((fb k).toInt64 &&& 63)) hx hb d_Gate_doFlipsAhead_66 rfl ?_
            refine lv_lxor hx hb d_Gate_doFlipsAhead_67 ?_
            refine sd_l (g := vp_updL rb ((fl k).toNatClampNeg) ((rb ((fl k).toNatClampNeg)) ^^^ (1 <<< ((fb k).toInt64 &&& 63)))) (cA := cL) hx hb hK.1 hP hD hS 3 1 rfl rfl (hpl k (by omega)) rfl d_Gate_doFlipsAhead_68 (fun H locs hP hD hS => ?_)
            have hP : va_P (dC, dI) classes [(a_cp, .inr (1, [.long 1, .ref a_rw, .ref a_po, .int a_pl])), (a_rw, .inl (cL, 18, .inr (.inl ra))), (b_cp, .inr (1, [.long 58659, .ref b_rw, .ref b_po, .int b_pl])), (b_rw, .inl (cL, 18, .inr (.inl (vp_updL rb ((fl k).toNatClampNeg) ((rb ((fl k).toNatClampNeg)) ^^^ (1 <<< ((fb k).toInt64 &&& 63))))))), (pn, .inr (2, [.ref ka, .ref kb, .ref kc, .ref kd, .int (nI np)])), (ka, .inl (cI, 4, .inl fc)), (kb, .inl (cI, 4, .inl fl)), (kc, .inl (cI, 4, .inl fb)), (kd, .inl (cI, 4, .inl fs)), (x0, .inr (0, [.int (nI lm), .ref pg, .ref a_cp, .ref b_cp, .ref pn, .ref gv, .ref sh, .int bg, .int lt, .int em, .int sp, .int fv]))] H := hP
            have hD : va_D A [(a_cp, .inr (1, [.long 1, .ref a_rw, .ref a_po, .int a_pl])), (a_rw, .inl (cL, 18, .inr (.inl ra))), (b_cp, .inr (1, [.long 58659, .ref b_rw, .ref b_po, .int b_pl])), (b_rw, .inl (cL, 18, .inr (.inl (vp_updL rb ((fl k).toNatClampNeg) ((rb ((fl k).toNatClampNeg)) ^^^ (1 <<< ((fb k).toInt64 &&& 63))))))), (pn, .inr (2, [.ref ka, .ref kb, .ref kc, .ref kd, .int (nI np)])), (ka, .inl (cI, 4, .inl fc)), (kb, .inl (cI, 4, .inl fl)), (kc, .inl (cI, 4, .inl fb)), (kd, .inl (cI, 4, .inl fs)), (x0, .inr (0, [.int (nI lm), .ref pg, .ref a_cp, .ref b_cp, .ref pn, .ref gv, .ref sh, .int bg, .int lt, .int em, .int sp, .int fv]))] := hD
            refine lv_aload_n hx hb d_Gate_doFlipsAhead_69 rfl (lv_at hl 0 rfl) ?_
            refine lv_dup hx hb d_Gate_doFlipsAhead_70 rfl ?_
            refine va_get (D := (dC, dI)) (ci := 0) (v := .int fv) (C := R_Gate) (T := F_Gate) (N := 12) hx hb htb iw_Gate hown hK.1 hP 9 rfl rfl 11 (by decide) (htb _ tw_129) (fun _ h9 => h9) rfl d_Gate_doFlipsAhead_71 ?_
            refine lv_iconst (v := 1) hx hb d_Gate_doFlipsAhead_74 (by decide) ?_
            refine lv_iadd hx hb d_Gate_doFlipsAhead_75 ?_
            refine va_put (D := (dC, dI)) (ci := 0) (v := .int (fv + 1)) (ty := .int) (C := R_Gate) (T := F_Gate) (N := 12) hx hb htb iw_Gate t_Gate t_Gate_ok n_Gate hown hK.1 hP hD hS 9 rfl rfl 11 (by decide) (htb _ tw_129) (fun _ h9 => h9) rfl (by decide +kernel) rfl rfl (Nat.le_of_ble_eq_true rfl) d_Gate_doFlipsAhead_76 (fun H locs hP hD hS => ?_)
            have hP : va_P (dC, dI) classes [(a_cp, .inr (1, [.long 1, .ref a_rw, .ref a_po, .int a_pl])), (a_rw, .inl (cL, 18, .inr (.inl ra))), (b_cp, .inr (1, [.long 58659, .ref b_rw, .ref b_po, .int b_pl])), (b_rw, .inl (cL, 18, .inr (.inl (vp_updL rb ((fl k).toNatClampNeg) ((rb ((fl k).toNatClampNeg)) ^^^ (1 <<< ((fb k).toInt64 &&& 63))))))), (pn, .inr (2, [.ref ka, .ref kb, .ref kc, .ref kd, .int (nI np)])), (ka, .inl (cI, 4, .inl fc)), (kb, .inl (cI, 4, .inl fl)), (kc, .inl (cI, 4, .inl fb)), (kd, .inl (cI, 4, .inl fs)), (x0, .inr (0, [.int (nI lm), .ref pg, .ref a_cp, .ref b_cp, .ref pn, .ref gv, .ref sh, .int bg, .int lt, .int em, .int sp, .int (fv + 1)]))] H := hP
            have hD : va_D A [(a_cp, .inr (1, [.long 1, .ref a_rw, .ref a_po, .int a_pl])), (a_rw, .inl (cL, 18, .inr (.inl ra))), (b_cp, .inr (1, [.long 58659, .ref b_rw, .ref b_po, .int b_pl])), (b_rw, .inl (cL, 18, .inr (.inl (vp_updL rb ((fl k).toNatClampNeg) ((rb ((fl k).toNatClampNeg)) ^^^ (1 <<< ((fb k).toInt64 &&& 63))))))), (pn, .inr (2, [.ref ka, .ref kb, .ref kc, .ref kd, .int (nI np)])), (ka, .inl (cI, 4, .inl fc)), (kb, .inl (cI, 4, .inl fl)), (kc, .inl (cI, 4, .inl fb)), (kd, .inl (cI, 4, .inl fs)), (x0, .inr (0, [.int (nI lm), .ref pg, .ref a_cp, .ref b_cp, .ref pn, .ref gv, .ref sh, .int bg, .int lt, .int em, .int sp, .int (fv + 1)]))] := hD
            refine lv_iinc (v := nI (k + 1)) (lv' := [(1, .int (nI (k + 1))), (0, .ref x0)]) hx hb d_Gate_doFlipsAhead_79 hl (k := 1) rfl (nI_1 k) (by decide) rfl (fun ls hl => ?_)
            refine lv_goto (tgt := 2) hx hb d_Gate_doFlipsAhead_82 (by decide) ?_
            exact ih (k + 1) ra (vp_updL rb ((fl k).toNatClampNeg) ((rb ((fl k).toNatClampNeg)) ^^^ (1 <<< ((fb k).toInt64 &&& 63)))) (fv + 1) H locs ls (by omega) (by rw [← hF]; simp only [fl_w, if_pos c_3, if_neg c_4]) (hP.sub (ws' := [(x0, .inr (0, [.int (nI lm), .ref pg, .ref a_cp, .ref b_cp, .ref pn, .ref gv, .ref sh, .int bg, .int lt, .int em, .int sp, .int (fv + 1)])), (a_cp, .inr (1, [.long 1, .ref a_rw, .ref a_po, .int a_pl])), (a_rw, .inl (cL, 18, .inr (.inl ra))), (b_cp, .inr (1, [.long 58659, .ref b_rw, .ref b_po, .int b_pl])), (b_rw, .inl (cL, 18, .inr (.inl (vp_updL rb ((fl k).toNatClampNeg) ((rb ((fl k).toNatClampNeg)) ^^^ (1 <<< ((fb k).toInt64 &&& 63))))))), (pn, .inr (2, [.ref ka, .ref kb, .ref kc, .ref kd, .int (nI np)])), (ka, .inl (cI, 4, .inl fc)), (kb, .inl (cI, 4, .inl fl)), (kc, .inl (cI, 4, .inl fb)), (kd, .inl (cI, 4, .inl fs))]) [9, 0, 1, 2, 3, 4, 5, 6, 7, 8] rfl) (hD.sub (ws' := [(x0, .inr (0, [.int (nI lm), .ref pg, .ref a_cp, .ref b_cp, .ref pn, .ref gv, .ref sh, .int bg, .int lt, .int em, .int sp, .int (fv + 1)])), (a_cp, .inr (1, [.long 1, .ref a_rw, .ref a_po, .int a_pl])), (a_rw, .inl (cL, 18, .inr (.inl ra))), (b_cp, .inr (1, [.long 58659, .ref b_rw, .ref b_po, .int b_pl])), (b_rw, .inl (cL, 18, .inr (.inl (vp_updL rb ((fl k).toNatClampNeg) ((rb ((fl k).toNatClampNeg)) ^^^ (1 <<< ((fb k).toInt64 &&& 63))))))), (pn, .inr (2, [.ref ka, .ref kb, .ref kc, .ref kd, .int (nI np)])), (ka, .inl (cI, 4, .inl fc)), (kb, .inl (cI, 4, .inl fl)), (kc, .inl (cI, 4, .inl fb)), (kd, .inl (cI, 4, .inl fs))]) [9, 0, 1, 2, 3, 4, 5, 6, 7, 8] (by decide) rfl) hS (lv_sub hl [1, 0] rfl)
  exact lp_0 np 0 a_rr b_rr fd s.heap _ ls (by omega) rfl (hP.sub (ws' := [(x0, .inr (0, [.int (nI lm), .ref pg, .ref a_cp, .ref b_cp, .ref pn, .ref gv, .ref sh, .int bg, .int lt, .int em, .int sp, .int fd])), (a_cp, .inr (1, [.long 1, .ref a_rw, .ref a_po, .int a_pl])), (a_rw, .inl (cL, 18, .inr (.inl a_rr))), (b_cp, .inr (1, [.long 58659, .ref b_rw, .ref b_po, .int b_pl])), (b_rw, .inl (cL, 18, .inr (.inl b_rr))), (pn, .inr (2, [.ref ka, .ref kb, .ref kc, .ref kd, .int (nI np)])), (ka, .inl (cI, 4, .inl fc)), (kb, .inl (cI, 4, .inl fl)), (kc, .inl (cI, 4, .inl fb)), (kd, .inl (cI, 4, .inl fs))]) [0, 1, 2, 3, 4, 5, 6, 7, 8, 9] rfl) (hD.sub (ws' := [(x0, .inr (0, [.int (nI lm), .ref pg, .ref a_cp, .ref b_cp, .ref pn, .ref gv, .ref sh, .int bg, .int lt, .int em, .int sp, .int fd])), (a_cp, .inr (1, [.long 1, .ref a_rw, .ref a_po, .int a_pl])), (a_rw, .inl (cL, 18, .inr (.inl a_rr))), (b_cp, .inr (1, [.long 58659, .ref b_rw, .ref b_po, .int b_pl])), (b_rw, .inl (cL, 18, .inr (.inl b_rr))), (pn, .inr (2, [.ref ka, .ref kb, .ref kc, .ref kd, .int (nI np)])), (ka, .inl (cI, 4, .inl fc)), (kb, .inl (cI, 4, .inl fl)), (kc, .inl (cI, 4, .inl fb)), (kd, .inl (cI, 4, .inl fs))]) [0, 1, 2, 3, 4, 5, 6, 7, 8, 9] (by decide) rfl) hS (lv_sub hl [1, 0] rfl)
end
section
theorem tw_185 : (Cond.code y_Copy_begin b_Copy_begin 1 none) ∈ TB_w := List.mem_filter.mpr ⟨List.mem_of_getElem? (i := 185) rfl, by decide +kernel⟩
theorem tw_182 : (Cond.methodLink R_Gate 159 y_Copy_begin) ∈ TB_w := List.mem_filter.mpr ⟨List.mem_of_getElem? (i := 182) (by decide +kernel), by decide +kernel⟩
theorem tw_183 : (Cond.instanceMethod y_Copy_begin) ∈ TB_w := List.mem_filter.mpr ⟨List.mem_of_getElem? (i := 183) (by decide +kernel), by decide +kernel⟩
theorem tw_184 : (Cond.selects R_Copy y_Copy_begin y_Copy_begin) ∈ TB_w := List.mem_filter.mpr ⟨List.mem_of_getElem? (i := 184) (by decide +kernel), by decide +kernel⟩
theorem tw_118 : (Cond.fieldLink R_Gate 70 "TwinGate" "limit" "I") ∈ TB_w := List.mem_filter.mpr ⟨List.mem_of_getElem? (i := 118) (by decide +kernel), by decide +kernel⟩
theorem tw_192 : (Cond.code y_Gate_doFlipsAhead b_Gate_doFlipsAhead 2 none) ∈ TB_w := List.mem_filter.mpr ⟨List.mem_of_getElem? (i := 192) rfl, by decide +kernel⟩
theorem tw_189 : (Cond.methodLink R_Gate 162 y_Gate_doFlipsAhead) ∈ TB_w := List.mem_filter.mpr ⟨List.mem_of_getElem? (i := 189) (by decide +kernel), by decide +kernel⟩
theorem tw_191 : (Cond.instanceMethod y_Gate_doFlipsAhead) ∈ TB_w := List.mem_filter.mpr ⟨List.mem_of_getElem? (i := 191) (by decide +kernel), by decide +kernel⟩
theorem tw_2 : (Cond.selects R_Gate y_Gate_doFlipsAhead y_Gate_doFlipsAhead) ∈ TB_w := List.mem_filter.mpr ⟨List.mem_of_getElem? (i := 2) (by decide +kernel), by decide +kernel⟩
theorem tw_119 : (Cond.fieldLink R_Gate 10 "TwinGate" "program" "LTwinGate$Program;") ∈ TB_w := List.mem_filter.mpr ⟨List.mem_of_getElem? (i := 119) (by decide +kernel), by decide +kernel⟩
theorem tw_123 : (Cond.fieldLink R_Gate 37 "TwinGate" "given" "[I") ∈ TB_w := List.mem_filter.mpr ⟨List.mem_of_getElem? (i := 123) (by decide +kernel), by decide +kernel⟩
theorem tw_200 : (Cond.code y_Copy_doStep b_Copy_doStep 5 (some .int)) ∈ TB_w := List.mem_filter.mpr ⟨List.mem_of_getElem? (i := 200) rfl, by decide +kernel⟩
theorem tw_197 : (Cond.methodLink R_Gate 165 y_Copy_doStep) ∈ TB_w := List.mem_filter.mpr ⟨List.mem_of_getElem? (i := 197) (by decide +kernel), by decide +kernel⟩
theorem tw_198 : (Cond.instanceMethod y_Copy_doStep) ∈ TB_w := List.mem_filter.mpr ⟨List.mem_of_getElem? (i := 198) (by decide +kernel), by decide +kernel⟩
theorem tw_199 : (Cond.selects R_Copy y_Copy_doStep y_Copy_doStep) ∈ TB_w := List.mem_filter.mpr ⟨List.mem_of_getElem? (i := 199) (by decide +kernel), by decide +kernel⟩
set_option maxHeartbeats 4000000 in
set_option maxRecDepth 100000 in
theorem c_Gate_runToItsEnd0 (l : Launch) (dC : Nat → ClassId) (dI : Nat → Nat → Nat) (cI cL : ClassId) (hs0 : Nat) (x0 : Nat) (lm : Nat) (pg : Nat) (a_cp : Nat) (b_cp : Nat) (pn : Nat) (gv : Nat) (sh : Nat) (bg : Int32) (lt : Int32) (em : Int32) (sp : Int32) (fd : Int32) (oa : Nat) (na : Nat) (ops : Nat → Int32) (nums : Nat → Int32) (sz : Int32) (a_rw : Nat) (a_po : Nat) (a_rr : Nat → Int64) (a_qq : Nat → Int64) (a_pl : Int32) (b_rw : Nat) (b_po : Nat) (b_rr : Nat → Int64) (b_pl : Int32) (ka : Nat) (kb : Nat) (kc : Nat) (kd : Nat) (fc : Nat → Int32) (fl : Nat → Int32) (fb : Nat → Int32) (fs : Nat → Int32) (np : Nat) (gg : Nat → Int32) (hz : sz ≤ 100) (hok : pg_ok ops nums sz) (hnp : np ≤ 4) (hpl : pl_ok fl np) (hlm : lm ≤ 5000) : ct_i l y_Gate_runToItsEnd b_Gate_runToItsEnd 4 (some .int) ({ frames := 3, cells := 0, slots := 0, locals := 120 }) (dC, dI) cI cL [.ref x0, .ref a_cp] [(x0, .inr (0, [.int (nI lm), .ref pg, .ref a_cp, .ref b_cp, .ref pn, .ref gv, .ref sh, .int bg, .int lt, .int em, .int sp, .int fd])), (pg, .inr (3, [.ref oa, .ref na, .int sz])), (oa, .inl (cI, 100, .inl ops)), (na, .inl (cI, 100, .inl nums)), (a_cp, .inr (1, [.long 1, .ref a_rw, .ref a_po, .int a_pl])), (a_rw, .inl (cL, 18, .inr (.inl a_rr))), (a_po, .inl (cL, 4, .inr (.inl a_qq))), (b_cp, .inr (1, [.long 58659, .ref b_rw, .ref b_po, .int b_pl])), (b_rw, .inl (cL, 18, .inr (.inl b_rr))), (pn, .inr (2, [.ref ka, .ref kb, .ref kc, .ref kd, .int (nI np)])), (ka, .inl (cI, 4, .inl fc)), (kb, .inl (cI, 4, .inl fl)), (kc, .inl (cI, 4, .inl fb)), (kd, .inl (cI, 4, .inl fs)), (gv, .inl (cI, 4, .inl gg))] hs0 (fun (r : Int32) (u : (Nat → Int64) × (Nat → Int64) × (Nat → Int64) × Int32 × Int32 × Int32) => r = (rn_w (sa_w ops nums sz gg fc fl fb fs np) lm (bg_w a_rr, b_rr, f4_w a_qq 0, 0, sp, fd)).1 ∧ u.1 = (rn_w (sa_w ops nums sz gg fc fl fb fs np) lm (bg_w a_rr, b_rr, f4_w a_qq 0, 0, sp, fd)).2.1 ∧ u.2.1 = (rn_w (sa_w ops nums sz gg fc fl fb fs np) lm (bg_w a_rr, b_rr, f4_w a_qq 0, 0, sp, fd)).2.2.1 ∧ u.2.2.1 = (rn_w (sa_w ops nums sz gg fc fl fb fs np) lm (bg_w a_rr, b_rr, f4_w a_qq 0, 0, sp, fd)).2.2.2.1 ∧ u.2.2.2.1 = (rn_w (sa_w ops nums sz gg fc fl fb fs np) lm (bg_w a_rr, b_rr, f4_w a_qq 0, 0, sp, fd)).2.2.2.2.1 ∧ u.2.2.2.2.1 = (rn_w (sa_w ops nums sz gg fc fl fb fs np) lm (bg_w a_rr, b_rr, f4_w a_qq 0, 0, sp, fd)).2.2.2.2.2.1 ∧ u.2.2.2.2.2 = (rn_w (sa_w ops nums sz gg fc fl fb fs np) lm (bg_w a_rr, b_rr, f4_w a_qq 0, 0, sp, fd)).2.2.2.2.2.2) (fun u => [(x0, .inr (0, [.int (nI lm), .ref pg, .ref a_cp, .ref b_cp, .ref pn, .ref gv, .ref sh, .int bg, .int lt, .int em, .int u.2.2.2.2.1, .int u.2.2.2.2.2])), (pg, .inr (3, [.ref oa, .ref na, .int sz])), (oa, .inl (cI, 100, .inl ops)), (na, .inl (cI, 100, .inl nums)), (a_cp, .inr (1, [.long 1, .ref a_rw, .ref a_po, .int u.2.2.2.1])), (a_rw, .inl (cL, 18, .inr (.inl u.1))), (a_po, .inl (cL, 4, .inr (.inl u.2.2.1))), (b_cp, .inr (1, [.long 58659, .ref b_rw, .ref b_po, .int b_pl])), (b_rw, .inl (cL, 18, .inr (.inl u.2.1))), (pn, .inr (2, [.ref ka, .ref kb, .ref kc, .ref kd, .int (nI np)])), (ka, .inl (cI, 4, .inl fc)), (kb, .inl (cI, 4, .inl fl)), (kc, .inl (cI, 4, .inl fb)), (kd, .inl (cI, 4, .inl fs)), (gv, .inl (cI, 4, .inl gg))]) 0 0 := by
  refine st_w (Qc := fun A => va_Qi (fun (r : Int32) (u : (Nat → Int64) × (Nat → Int64) × (Nat → Int64) × Int32 × Int32 × Int32) => r = (rn_w (sa_w ops nums sz gg fc fl fb fs np) lm (bg_w a_rr, b_rr, f4_w a_qq 0, 0, sp, fd)).1 ∧ u.1 = (rn_w (sa_w ops nums sz gg fc fl fb fs np) lm (bg_w a_rr, b_rr, f4_w a_qq 0, 0, sp, fd)).2.1 ∧ u.2.1 = (rn_w (sa_w ops nums sz gg fc fl fb fs np) lm (bg_w a_rr, b_rr, f4_w a_qq 0, 0, sp, fd)).2.2.1 ∧ u.2.2.1 = (rn_w (sa_w ops nums sz gg fc fl fb fs np) lm (bg_w a_rr, b_rr, f4_w a_qq 0, 0, sp, fd)).2.2.2.1 ∧ u.2.2.2.1 = (rn_w (sa_w ops nums sz gg fc fl fb fs np) lm (bg_w a_rr, b_rr, f4_w a_qq 0, 0, sp, fd)).2.2.2.2.1 ∧ u.2.2.2.2.1 = (rn_w (sa_w ops nums sz gg fc fl fb fs np) lm (bg_w a_rr, b_rr, f4_w a_qq 0, 0, sp, fd)).2.2.2.2.2.1 ∧ u.2.2.2.2.2 = (rn_w (sa_w ops nums sz gg fc fl fb fs np) lm (bg_w a_rr, b_rr, f4_w a_qq 0, 0, sp, fd)).2.2.2.2.2.2) (fun (u : (Nat → Int64) × (Nat → Int64) × (Nat → Int64) × Int32 × Int32 × Int32) t => pos_w (dC, dI) A [(x0, .inr (0, [.int (nI lm), .ref pg, .ref a_cp, .ref b_cp, .ref pn, .ref gv, .ref sh, .int bg, .int lt, .int em, .int u.2.2.2.2.1, .int u.2.2.2.2.2])), (pg, .inr (3, [.ref oa, .ref na, .int sz])), (oa, .inl (cI, 100, .inl ops)), (na, .inl (cI, 100, .inl nums)), (a_cp, .inr (1, [.long 1, .ref a_rw, .ref a_po, .int u.2.2.2.1])), (a_rw, .inl (cL, 18, .inr (.inl u.1))), (a_po, .inl (cL, 4, .inr (.inl u.2.2.1))), (b_cp, .inr (1, [.long 58659, .ref b_rw, .ref b_po, .int b_pl])), (b_rw, .inl (cL, 18, .inr (.inl u.2.1))), (pn, .inr (2, [.ref ka, .ref kb, .ref kc, .ref kd, .int (nI np)])), (ka, .inl (cI, 4, .inl fc)), (kb, .inl (cI, 4, .inl fl)), (kc, .inl (cI, 4, .inl fb)), (kd, .inl (cI, 4, .inl fs)), (gv, .inl (cI, 4, .inl gg))] t) A) (by decide) (Nat.le_of_ble_eq_true rfl) ?_
  intro p e s m below meth c A ls hfx hK hA hP hD hS hl
  obtain ⟨hx, hb, hml, hown, htb, hr, hlocks, hin⟩ := hfx
  have hl : lv_has ls 4 [(0, .ref x0), (1, .ref a_cp)] := hl
  refine lv_aload_n hx hb d_Gate_runToItsEnd_0 rfl (lv_at hl 1 rfl) ?_
  refine af_v (wr := [(x0, .inr (0, [.int (nI lm), .ref pg, .ref a_cp, .ref b_cp, .ref pn, .ref gv, .ref sh, .int bg, .int lt, .int em, .int sp, .int fd])), (pg, .inr (3, [.ref oa, .ref na, .int sz])), (oa, .inl (cI, 100, .inl ops)), (na, .inl (cI, 100, .inl nums)), (b_cp, .inr (1, [.long 58659, .ref b_rw, .ref b_po, .int b_pl])), (b_rw, .inl (cL, 18, .inr (.inl b_rr))), (pn, .inr (2, [.ref ka, .ref kb, .ref kc, .ref kd, .int (nI np)])), (ka, .inl (cI, 4, .inl fc)), (kb, .inl (cI, 4, .inl fl)), (kc, .inl (cI, 4, .inl fb)), (kd, .inl (cI, 4, .inl fs)), (gv, .inl (cI, 4, .inl gg))]) (va_runV (As := []) (rest := []) ⟨hx, hb, hml, hown, htb⟩ (c_Copy_begin l dC dI cI cL s.heap.size a_cp a_rw a_po 1 a_rr a_qq a_pl ) ⟨callB_of 0 htb (gd_w tw_185) rfl rfl rfl (htb _ tw_22) (htb _ tw_182) (by decide +kernel) ⟨Nat.le_of_ble_eq_true rfl, Nat.le_of_ble_eq_true rfl⟩, htb _ tw_183, htb _ tw_184⟩ (pv_V hK (hP.sub (ws' := [(a_cp, .inr (1, [.long 1, .ref a_rw, .ref a_po, .int a_pl])), (a_rw, .inl (cL, 18, .inr (.inl a_rr))), (a_po, .inl (cL, 4, .inr (.inl a_qq)))]) [4, 5, 6] rfl) (hD.sub (ws' := [(a_cp, .inr (1, [.long 1, .ref a_rw, .ref a_po, .int a_pl])), (a_rw, .inl (cL, 18, .inr (.inl a_rr))), (a_po, .inl (cL, 4, .inr (.inl a_qq)))]) [4, 5, 6] (by decide) rfl) (ci := 1) (q0 := 0) rfl rfl) rfl rfl hl.1 rfl (lv_room (Nat.le_of_ble_eq_true rfl)) d_Gate_runToItsEnd_1 ⟨Nat.le_of_ble_eq_true rfl, Nat.le_of_ble_eq_true rfl⟩) hP hD hS hA [4, 5, 6] [0, 1, 2, 3, 7, 8, 9, 10, 11, 12, 13, 14] rfl rfl (by decide) (by decide) (fun u_2 H locs hw hP hD hS => ?_)
  obtain ⟨z_3, z_4⟩ := u_2
  try dsimp only at hw
  obtain ⟨rfl, rfl⟩ := hw
  have hP : va_P (dC, dI) classes [(x0, .inr (0, [.int (nI lm), .ref pg, .ref a_cp, .ref b_cp, .ref pn, .ref gv, .ref sh, .int bg, .int lt, .int em, .int sp, .int fd])), (pg, .inr (3, [.ref oa, .ref na, .int sz])), (oa, .inl (cI, 100, .inl ops)), (na, .inl (cI, 100, .inl nums)), (b_cp, .inr (1, [.long 58659, .ref b_rw, .ref b_po, .int b_pl])), (b_rw, .inl (cL, 18, .inr (.inl b_rr))), (pn, .inr (2, [.ref ka, .ref kb, .ref kc, .ref kd, .int (nI np)])), (ka, .inl (cI, 4, .inl fc)), (kb, .inl (cI, 4, .inl fl)), (kc, .inl (cI, 4, .inl fb)), (kd, .inl (cI, 4, .inl fs)), (gv, .inl (cI, 4, .inl gg)), (a_cp, .inr (1, [.long 1, .ref a_rw, .ref a_po, .int 0])), (a_rw, .inl (cL, 18, .inr (.inl (bg_w a_rr)))), (a_po, .inl (cL, 4, .inr (.inl (f4_w a_qq 0))))] H := hP
  have hD : va_D A [(x0, .inr (0, [.int (nI lm), .ref pg, .ref a_cp, .ref b_cp, .ref pn, .ref gv, .ref sh, .int bg, .int lt, .int em, .int sp, .int fd])), (pg, .inr (3, [.ref oa, .ref na, .int sz])), (oa, .inl (cI, 100, .inl ops)), (na, .inl (cI, 100, .inl nums)), (b_cp, .inr (1, [.long 58659, .ref b_rw, .ref b_po, .int b_pl])), (b_rw, .inl (cL, 18, .inr (.inl b_rr))), (pn, .inr (2, [.ref ka, .ref kb, .ref kc, .ref kd, .int (nI np)])), (ka, .inl (cI, 4, .inl fc)), (kb, .inl (cI, 4, .inl fl)), (kc, .inl (cI, 4, .inl fb)), (kd, .inl (cI, 4, .inl fs)), (gv, .inl (cI, 4, .inl gg)), (a_cp, .inr (1, [.long 1, .ref a_rw, .ref a_po, .int 0])), (a_rw, .inl (cL, 18, .inr (.inl (bg_w a_rr)))), (a_po, .inl (cL, 4, .inr (.inl (f4_w a_qq 0))))] := hD
  refine lv_iconst (v := 0) hx hb d_Gate_runToItsEnd_4 (by decide) ?_
  refine lv_istore_n (lv' := [(2, .int 0), (0, .ref x0), (1, .ref a_cp)]) hx hb d_Gate_runToItsEnd_5 rfl hl (by decide) rfl (fun ls hl => ?_)
  have lp_0 : ∀ (n : Nat) (k : Nat) (ra : Nat → Int64) (rb : Nat → Int64) (qv : Nat → Int64) (pv : Int32) (sv : Int32) (fv : Int32) (H : Heap) (locs : List Loc) (ls : Array Slot), (k + n = lm) → (rn_w (sa_w ops nums sz gg fc fl fb fs np) n (ra, rb, qv, pv, sv, fv) = rn_w (sa_w ops nums sz gg fc fl fb fs np) lm (bg_w a_rr, b_rr, f4_w a_qq 0, 0, sp, fd)) → va_P (dC, dI) classes [(x0, .inr (0, [.int (nI lm), .ref pg, .ref a_cp, .ref b_cp, .ref pn, .ref gv, .ref sh, .int bg, .int lt, .int em, .int sv, .int fv])), (pg, .inr (3, [.ref oa, .ref na, .int sz])), (oa, .inl (cI, 100, .inl ops)), (na, .inl (cI, 100, .inl nums)), (b_cp, .inr (1, [.long 58659, .ref b_rw, .ref b_po, .int b_pl])), (b_rw, .inl (cL, 18, .inr (.inl rb))), (pn, .inr (2, [.ref ka, .ref kb, .ref kc, .ref kd, .int (nI np)])), (ka, .inl (cI, 4, .inl fc)), (kb, .inl (cI, 4, .inl fl)), (kc, .inl (cI, 4, .inl fb)), (kd, .inl (cI, 4, .inl fs)), (gv, .inl (cI, 4, .inl gg)), (a_cp, .inr (1, [.long 1, .ref a_rw, .ref a_po, .int pv])), (a_rw, .inl (cL, 18, .inr (.inl ra))), (a_po, .inl (cL, 4, .inr (.inl qv)))] H → va_D A [(x0, .inr (0, [.int (nI lm), .ref pg, .ref a_cp, .ref b_cp, .ref pn, .ref gv, .ref sh, .int bg, .int lt, .int em, .int sv, .int fv])), (pg, .inr (3, [.ref oa, .ref na, .int sz])), (oa, .inl (cI, 100, .inl ops)), (na, .inl (cI, 100, .inl nums)), (b_cp, .inr (1, [.long 58659, .ref b_rw, .ref b_po, .int b_pl])), (b_rw, .inl (cL, 18, .inr (.inl rb))), (pn, .inr (2, [.ref ka, .ref kb, .ref kc, .ref kd, .int (nI np)])), (ka, .inl (cI, 4, .inl fc)), (kb, .inl (cI, 4, .inl fl)), (kc, .inl (cI, 4, .inl fb)), (kd, .inl (cI, 4, .inl fs)), (gv, .inl (cI, 4, .inl gg)), (a_cp, .inr (1, [.long 1, .ref a_rw, .ref a_po, .int pv])), (a_rw, .inl (cL, 18, .inr (.inl ra))), (a_po, .inl (cL, 4, .inr (.inl qv)))] → va_S A s.heap H locs → lv_has ls 4 [(0, .ref x0), (1, .ref a_cp), (2, .int (nI k))] → W p l e ({ frames := 3, cells := 0, slots := 0, locals := 120 }) s m ([.ref x0, .ref a_cp].toArray) below meth c H locs 0 0 (MQ below (va_Qi (fun (r : Int32) (u : (Nat → Int64) × (Nat → Int64) × (Nat → Int64) × Int32 × Int32 × Int32) => r = (rn_w (sa_w ops nums sz gg fc fl fb fs np) lm (bg_w a_rr, b_rr, f4_w a_qq 0, 0, sp, fd)).1 ∧ u.1 = (rn_w (sa_w ops nums sz gg fc fl fb fs np) lm (bg_w a_rr, b_rr, f4_w a_qq 0, 0, sp, fd)).2.1 ∧ u.2.1 = (rn_w (sa_w ops nums sz gg fc fl fb fs np) lm (bg_w a_rr, b_rr, f4_w a_qq 0, 0, sp, fd)).2.2.1 ∧ u.2.2.1 = (rn_w (sa_w ops nums sz gg fc fl fb fs np) lm (bg_w a_rr, b_rr, f4_w a_qq 0, 0, sp, fd)).2.2.2.1 ∧ u.2.2.2.1 = (rn_w (sa_w ops nums sz gg fc fl fb fs np) lm (bg_w a_rr, b_rr, f4_w a_qq 0, 0, sp, fd)).2.2.2.2.1 ∧ u.2.2.2.2.1 = (rn_w (sa_w ops nums sz gg fc fl fb fs np) lm (bg_w a_rr, b_rr, f4_w a_qq 0, 0, sp, fd)).2.2.2.2.2.1 ∧ u.2.2.2.2.2 = (rn_w (sa_w ops nums sz gg fc fl fb fs np) lm (bg_w a_rr, b_rr, f4_w a_qq 0, 0, sp, fd)).2.2.2.2.2.2) (fun (u : (Nat → Int64) × (Nat → Int64) × (Nat → Int64) × Int32 × Int32 × Int32) t => pos_w (dC, dI) A [(x0, .inr (0, [.int (nI lm), .ref pg, .ref a_cp, .ref b_cp, .ref pn, .ref gv, .ref sh, .int bg, .int lt, .int em, .int u.2.2.2.2.1, .int u.2.2.2.2.2])), (pg, .inr (3, [.ref oa, .ref na, .int sz])), (oa, .inl (cI, 100, .inl ops)), (na, .inl (cI, 100, .inl nums)), (a_cp, .inr (1, [.long 1, .ref a_rw, .ref a_po, .int u.2.2.2.1])), (a_rw, .inl (cL, 18, .inr (.inl u.1))), (a_po, .inl (cL, 4, .inr (.inl u.2.2.1))), (b_cp, .inr (1, [.long 58659, .ref b_rw, .ref b_po, .int b_pl])), (b_rw, .inl (cL, 18, .inr (.inl u.2.1))), (pn, .inr (2, [.ref ka, .ref kb, .ref kc, .ref kd, .int (nI np)])), (ka, .inl (cI, 4, .inl fc)), (kb, .inl (cI, 4, .inl fl)), (kc, .inl (cI, 4, .inl fb)), (kd, .inl (cI, 4, .inl fs)), (gv, .inl (cI, 4, .inl gg))] t) A) ([.ref x0, .ref a_cp].toArray) s 0 0 A) (F0 m 6 ls []) := by
    intro n
    induction n with
    | zero =>
      intro k ra rb qv pv sv fv H locs ls hn hF hP hD hS hl
      refine lv_iload_n hx hb d_Gate_runToItsEnd_6 rfl (lv_at hl 2 rfl) ?_
      refine lv_aload_n hx hb d_Gate_runToItsEnd_7 rfl (lv_at hl 0 rfl) ?_
      refine va_get (D := (dC, dI)) (ci := 0) (v := .int (nI lm)) (C := R_Gate) (T := F_Gate) (N := 12) hx hb htb iw_Gate hown hK.1 hP 0 rfl rfl 0 (by decide) (htb _ tw_118) (fun _ h9 => h9) rfl d_Gate_runToItsEnd_8 ?_
      refine lv_icmp_ge (tgt := 61) hx hb d_Gate_runToItsEnd_11 (by decide) (fun c_5 => ?_) (fun c_5 => ?_)
      · skip
        refine lv_iconst (v := 2) hx hb d_Gate_runToItsEnd_61 (by decide) ?_
        exact rt_i (v := 2) (ra, rb, qv, pv, sv, fv) hx hb hr hlocks (show (2 : Int32) = (rn_w (sa_w ops nums sz gg fc fl fb fs np) lm (bg_w a_rr, b_rr, f4_w a_qq 0, 0, sp, fd)).1 ∧ ra = (rn_w (sa_w ops nums sz gg fc fl fb fs np) lm (bg_w a_rr, b_rr, f4_w a_qq 0, 0, sp, fd)).2.1 ∧ rb = (rn_w (sa_w ops nums sz gg fc fl fb fs np) lm (bg_w a_rr, b_rr, f4_w a_qq 0, 0, sp, fd)).2.2.1 ∧ qv = (rn_w (sa_w ops nums sz gg fc fl fb fs np) lm (bg_w a_rr, b_rr, f4_w a_qq 0, 0, sp, fd)).2.2.2.1 ∧ pv = (rn_w (sa_w ops nums sz gg fc fl fb fs np) lm (bg_w a_rr, b_rr, f4_w a_qq 0, 0, sp, fd)).2.2.2.2.1 ∧ sv = (rn_w (sa_w ops nums sz gg fc fl fb fs np) lm (bg_w a_rr, b_rr, f4_w a_qq 0, 0, sp, fd)).2.2.2.2.2.1 ∧ fv = (rn_w (sa_w ops nums sz gg fc fl fb fs np) lm (bg_w a_rr, b_rr, f4_w a_qq 0, 0, sp, fd)).2.2.2.2.2.2 from (by rw [← hF]; exact ⟨rfl, rfl, rfl, rfl, rfl, rfl, rfl⟩)) (hP.sub (ws' := [(x0, .inr (0, [.int (nI lm), .ref pg, .ref a_cp, .ref b_cp, .ref pn, .ref gv, .ref sh, .int bg, .int lt, .int em, .int sv, .int fv])), (pg, .inr (3, [.ref oa, .ref na, .int sz])), (oa, .inl (cI, 100, .inl ops)), (na, .inl (cI, 100, .inl nums)), (a_cp, .inr (1, [.long 1, .ref a_rw, .ref a_po, .int pv])), (a_rw, .inl (cL, 18, .inr (.inl ra))), (a_po, .inl (cL, 4, .inr (.inl qv))), (b_cp, .inr (1, [.long 58659, .ref b_rw, .ref b_po, .int b_pl])), (b_rw, .inl (cL, 18, .inr (.inl rb))), (pn, .inr (2, [.ref ka, .ref kb, .ref kc, .ref kd, .int (nI np)])), (ka, .inl (cI, 4, .inl fc)), (kb, .inl (cI, 4, .inl fl)), (kc, .inl (cI, 4, .inl fb)), (kd, .inl (cI, 4, .inl fs)), (gv, .inl (cI, 4, .inl gg))]) [0, 1, 2, 3, 12, 13, 14, 4, 5, 6, 7, 8, 9, 10, 11] rfl) (hD.sub (ws' := [(x0, .inr (0, [.int (nI lm), .ref pg, .ref a_cp, .ref b_cp, .ref pn, .ref gv, .ref sh, .int bg, .int lt, .int em, .int sv, .int fv])), (pg, .inr (3, [.ref oa, .ref na, .int sz])), (oa, .inl (cI, 100, .inl ops)), (na, .inl (cI, 100, .inl nums)), (a_cp, .inr (1, [.long 1, .ref a_rw, .ref a_po, .int pv])), (a_rw, .inl (cL, 18, .inr (.inl ra))), (a_po, .inl (cL, 4, .inr (.inl qv))), (b_cp, .inr (1, [.long 58659, .ref b_rw, .ref b_po, .int b_pl])), (b_rw, .inl (cL, 18, .inr (.inl rb))), (pn, .inr (2, [.ref ka, .ref kb, .ref kc, .ref kd, .int (nI np)])), (ka, .inl (cI, 4, .inl fc)), (kb, .inl (cI, 4, .inl fl)), (kc, .inl (cI, 4, .inl fb)), (kd, .inl (cI, 4, .inl fs)), (gv, .inl (cI, 4, .inl gg))]) [0, 1, 2, 3, 12, 13, 14, 4, 5, 6, 7, 8, 9, 10, 11] (by decide) rfl) hS d_Gate_runToItsEnd_62
      · exact absurd (nI_le (by omega) (by omega)) c_5
    | succ n ih =>
      intro k ra rb qv pv sv fv H locs ls hn hF hP hD hS hl
      refine lv_iload_n hx hb d_Gate_runToItsEnd_6 rfl (lv_at hl 2 rfl) ?_
      refine lv_aload_n hx hb d_Gate_runToItsEnd_7 rfl (lv_at hl 0 rfl) ?_
      refine va_get (D := (dC, dI)) (ci := 0) (v := .int (nI lm)) (C := R_Gate) (T := F_Gate) (N := 12) hx hb htb iw_Gate hown hK.1 hP 0 rfl rfl 0 (by decide) (htb _ tw_118) (fun _ h9 => h9) rfl d_Gate_runToItsEnd_8 ?_
      refine lv_icmp_ge (tgt := 61) hx hb d_Gate_runToItsEnd_11 (by decide) (fun c_6 => ?_) (fun c_6 => ?_)
      · exact absurd c_6 (nI_ge (by omega) (by omega))
      · skip
        refine lv_aload_n hx hb d_Gate_runToItsEnd_14 rfl (lv_at hl 0 rfl) ?_
        refine af_v (wr := [(pg, .inr (3, [.ref oa, .ref na, .int sz])), (oa, .inl (cI, 100, .inl ops)), (na, .inl (cI, 100, .inl nums)), (gv, .inl (cI, 4, .inl gg)), (a_po, .inl (cL, 4, .inr (.inl qv)))]) (va_runV (As := []) (rest := []) ⟨hx, hb, hml, hown, htb⟩ (c_Gate_doFlipsAhead l dC dI cI cL H.size x0 lm pg a_cp b_cp pn gv sh bg lt em sv fv a_rw a_po ra pv b_rw b_po rb b_pl ka kb kc kd fc fl fb fs np hnp hpl) ⟨callB_of 0 htb (gd_w tw_192) rfl rfl rfl (htb _ tw_20) (htb _ tw_189) (by decide +kernel) ⟨Nat.le_of_ble_eq_true rfl, Nat.le_of_ble_eq_true rfl⟩, htb _ tw_191, htb _ tw_2⟩ (pv_V hK (hP.sub (ws' := [(x0, .inr (0, [.int (nI lm), .ref pg, .ref a_cp, .ref b_cp, .ref pn, .ref gv, .ref sh, .int bg, .int lt, .int em, .int sv, .int fv])), (a_cp, .inr (1, [.long 1, .ref a_rw, .ref a_po, .int pv])), (a_rw, .inl (cL, 18, .inr (.inl ra))), (b_cp, .inr (1, [.long 58659, .ref b_rw, .ref b_po, .int b_pl])), (b_rw, .inl (cL, 18, .inr (.inl rb))), (pn, .inr (2, [.ref ka, .ref kb, .ref kc, .ref kd, .int (nI np)])), (ka, .inl (cI, 4, .inl fc)), (kb, .inl (cI, 4, .inl fl)), (kc, .inl (cI, 4, .inl fb)), (kd, .inl (cI, 4, .inl fs))]) [0, 12, 13, 4, 5, 6, 7, 8, 9, 10] rfl) (hD.sub (ws' := [(x0, .inr (0, [.int (nI lm), .ref pg, .ref a_cp, .ref b_cp, .ref pn, .ref gv, .ref sh, .int bg, .int lt, .int em, .int sv, .int fv])), (a_cp, .inr (1, [.long 1, .ref a_rw, .ref a_po, .int pv])), (a_rw, .inl (cL, 18, .inr (.inl ra))), (b_cp, .inr (1, [.long 58659, .ref b_rw, .ref b_po, .int b_pl])), (b_rw, .inl (cL, 18, .inr (.inl rb))), (pn, .inr (2, [.ref ka, .ref kb, .ref kc, .ref kd, .int (nI np)])), (ka, .inl (cI, 4, .inl fc)), (kb, .inl (cI, 4, .inl fl)), (kc, .inl (cI, 4, .inl fb)), (kd, .inl (cI, 4, .inl fs))]) [0, 12, 13, 4, 5, 6, 7, 8, 9, 10] (by decide) rfl) (ci := 0) (q0 := 0) rfl rfl) rfl rfl hl.1 rfl (lv_room (Nat.le_of_ble_eq_true rfl)) d_Gate_runToItsEnd_15 ⟨Nat.le_of_ble_eq_true rfl, Nat.le_of_ble_eq_true rfl⟩) hP hD hS hA [0, 12, 13, 4, 5, 6, 7, 8, 9, 10] [1, 2, 3, 11, 14] rfl rfl (by decide) (by decide) (fun u_8 H locs hw hP hD hS => ?_)
        obtain ⟨z_9, z_10, z_11⟩ := u_8
        try dsimp only at hw
        obtain ⟨rfl, rfl, rfl⟩ := hw
        have hP : va_P (dC, dI) classes [(pg, .inr (3, [.ref oa, .ref na, .int sz])), (oa, .inl (cI, 100, .inl ops)), (na, .inl (cI, 100, .inl nums)), (gv, .inl (cI, 4, .inl gg)), (a_po, .inl (cL, 4, .inr (.inl qv))), (x0, .inr (0, [.int (nI lm), .ref pg, .ref a_cp, .ref b_cp, .ref pn, .ref gv, .ref sh, .int bg, .int lt, .int em, .int sv, .int ((fl_w fc fl fb fs sv np 0 ra rb fv).2.2)])), (a_cp, .inr (1, [.long 1, .ref a_rw, .ref a_po, .int pv])), (a_rw, .inl (cL, 18, .inr (.inl ((fl_w fc fl fb fs sv np 0 ra rb fv).1)))), (b_cp, .inr (1, [.long 58659, .ref b_rw, .ref b_po, .int b_pl])), (b_rw, .inl (cL, 18, .inr (.inl ((fl_w fc fl fb fs sv np 0 ra rb fv).2.1)))), (pn, .inr (2, [.ref ka, .ref kb, .ref kc, .ref kd, .int (nI np)])), (ka, .inl (cI, 4, .inl fc)), (kb, .inl (cI, 4, .inl fl)), (kc, .inl (cI, 4, .inl fb)), (kd, .inl (cI, 4, .inl fs))] H := hP
        have hD : va_D A [(pg, .inr (3, [.ref oa, .ref na, .int sz])), (oa, .inl (cI, 100, .inl ops)), (na, .inl (cI, 100, .inl nums)), (gv, .inl (cI, 4, .inl gg)), (a_po, .inl (cL, 4, .inr (.inl qv))), (x0, .inr (0, [.int (nI lm), .ref pg, .ref a_cp, .ref b_cp, .ref pn, .ref gv, .ref sh, .int bg, .int lt, .int em, .int sv, .int ((fl_w fc fl fb fs sv np 0 ra rb fv).2.2)])), (a_cp, .inr (1, [.long 1, .ref a_rw, .ref a_po, .int pv])), (a_rw, .inl (cL, 18, .inr (.inl ((fl_w fc fl fb fs sv np 0 ra rb fv).1)))), (b_cp, .inr (1, [.long 58659, .ref b_rw, .ref b_po, .int b_pl])), (b_rw, .inl (cL, 18, .inr (.inl ((fl_w fc fl fb fs sv np 0 ra rb fv).2.1)))), (pn, .inr (2, [.ref ka, .ref kb, .ref kc, .ref kd, .int (nI np)])), (ka, .inl (cI, 4, .inl fc)), (kb, .inl (cI, 4, .inl fl)), (kc, .inl (cI, 4, .inl fb)), (kd, .inl (cI, 4, .inl fs))] := hD
        refine lv_aload_n hx hb d_Gate_runToItsEnd_18 rfl (lv_at hl 0 rfl) ?_
        refine lv_dup hx hb d_Gate_runToItsEnd_19 rfl ?_
        refine va_get (D := (dC, dI)) (ci := 0) (v := .int sv) (C := R_Gate) (T := F_Gate) (N := 12) hx hb htb iw_Gate hown hK.1 hP 5 rfl rfl 10 (by decide) (htb _ tw_128) (fun _ h9 => h9) rfl d_Gate_runToItsEnd_20 ?_
        refine lv_iconst (v := 1) hx hb d_Gate_runToItsEnd_23 (by decide) ?_
        refine lv_iadd hx hb d_Gate_runToItsEnd_24 ?_
        refine va_put (D := (dC, dI)) (ci := 0) (v := .int (sv + 1)) (ty := .int) (C := R_Gate) (T := F_Gate) (N := 12) hx hb htb iw_Gate t_Gate t_Gate_ok n_Gate hown hK.1 hP hD hS 5 rfl rfl 10 (by decide) (htb _ tw_128) (fun _ h9 => h9) rfl (by decide +kernel) rfl rfl (Nat.le_of_ble_eq_true rfl) d_Gate_runToItsEnd_25 (fun H locs hP hD hS => ?_)
        have hP : va_P (dC, dI) classes [(pg, .inr (3, [.ref oa, .ref na, .int sz])), (oa, .inl (cI, 100, .inl ops)), (na, .inl (cI, 100, .inl nums)), (gv, .inl (cI, 4, .inl gg)), (a_po, .inl (cL, 4, .inr (.inl qv))), (x0, .inr (0, [.int (nI lm), .ref pg, .ref a_cp, .ref b_cp, .ref pn, .ref gv, .ref sh, .int bg, .int lt, .int em, .int (sv + 1), .int ((fl_w fc fl fb fs sv np 0 ra rb fv).2.2)])), (a_cp, .inr (1, [.long 1, .ref a_rw, .ref a_po, .int pv])), (a_rw, .inl (cL, 18, .inr (.inl ((fl_w fc fl fb fs sv np 0 ra rb fv).1)))), (b_cp, .inr (1, [.long 58659, .ref b_rw, .ref b_po, .int b_pl])), (b_rw, .inl (cL, 18, .inr (.inl ((fl_w fc fl fb fs sv np 0 ra rb fv).2.1)))), (pn, .inr (2, [.ref ka, .ref kb, .ref kc, .ref kd, .int (nI np)])), (ka, .inl (cI, 4, .inl fc)), (kb, .inl (cI, 4, .inl fl)), (kc, .inl (cI, 4, .inl fb)), (kd, .inl (cI, 4, .inl fs))] H := hP
        have hD : va_D A [(pg, .inr (3, [.ref oa, .ref na, .int sz])), (oa, .inl (cI, 100, .inl ops)), (na, .inl (cI, 100, .inl nums)), (gv, .inl (cI, 4, .inl gg)), (a_po, .inl (cL, 4, .inr (.inl qv))), (x0, .inr (0, [.int (nI lm), .ref pg, .ref a_cp, .ref b_cp, .ref pn, .ref gv, .ref sh, .int bg, .int lt, .int em, .int (sv + 1), .int ((fl_w fc fl fb fs sv np 0 ra rb fv).2.2)])), (a_cp, .inr (1, [.long 1, .ref a_rw, .ref a_po, .int pv])), (a_rw, .inl (cL, 18, .inr (.inl ((fl_w fc fl fb fs sv np 0 ra rb fv).1)))), (b_cp, .inr (1, [.long 58659, .ref b_rw, .ref b_po, .int b_pl])), (b_rw, .inl (cL, 18, .inr (.inl ((fl_w fc fl fb fs sv np 0 ra rb fv).2.1)))), (pn, .inr (2, [.ref ka, .ref kb, .ref kc, .ref kd, .int (nI np)])), (ka, .inl (cI, 4, .inl fc)), (kb, .inl (cI, 4, .inl fl)), (kc, .inl (cI, 4, .inl fb)), (kd, .inl (cI, 4, .inl fs))] := hD
        refine lv_aload_n hx hb d_Gate_runToItsEnd_28 rfl (lv_at hl 1 rfl) ?_
        refine lv_aload_n hx hb d_Gate_runToItsEnd_29 rfl (lv_at hl 0 rfl) ?_
        refine va_get (D := (dC, dI)) (ci := 0) (v := .ref pg) (C := R_Gate) (T := F_Gate) (N := 12) hx hb htb iw_Gate hown hK.1 hP 5 rfl rfl 1 (by decide) (htb _ tw_119) (fun _ h9 => h9) rfl d_Gate_runToItsEnd_30 ?_
        refine lv_aload_n hx hb d_Gate_runToItsEnd_33 rfl (lv_at hl 0 rfl) ?_
        refine va_get (D := (dC, dI)) (ci := 0) (v := .ref gv) (C := R_Gate) (T := F_Gate) (N := 12) hx hb htb iw_Gate hown hK.1 hP 5 rfl rfl 5 (by decide) (htb _ tw_123) (fun _ h9 => h9) rfl d_Gate_runToItsEnd_34 ?_
        refine af_i (wr := [(x0, .inr (0, [.int (nI lm), .ref pg, .ref a_cp, .ref b_cp, .ref pn, .ref gv, .ref sh, .int bg, .int lt, .int em, .int (sv + 1), .int ((fl_w fc fl fb fs sv np 0 ra rb fv).2.2)])), (b_cp, .inr (1, [.long 58659, .ref b_rw, .ref b_po, .int b_pl])), (b_rw, .inl (cL, 18, .inr (.inl ((fl_w fc fl fb fs sv np 0 ra rb fv).2.1)))), (pn, .inr (2, [.ref ka, .ref kb, .ref kc, .ref kd, .int (nI np)])), (ka, .inl (cI, 4, .inl fc)), (kb, .inl (cI, 4, .inl fl)), (kc, .inl (cI, 4, .inl fb)), (kd, .inl (cI, 4, .inl fs))]) (va_runV (As := [.ref pg, .ref gv]) (rest := []) ⟨hx, hb, hml, hown, htb⟩ (c_Copy_doStep l dC dI cI cL H.size a_cp a_rw a_po 1 ((fl_w fc fl fb fs sv np 0 ra rb fv).1) qv pv pg oa na ops nums sz gv gg hz hok) ⟨callB_of 2 htb (gd_w tw_200) rfl rfl rfl (htb _ tw_22) (htb _ tw_197) (by decide +kernel) ⟨Nat.le_of_ble_eq_true rfl, Nat.le_of_ble_eq_true rfl⟩, htb _ tw_198, htb _ tw_199⟩ (pv_V hK (hP.sub (ws' := [(a_cp, .inr (1, [.long 1, .ref a_rw, .ref a_po, .int pv])), (a_rw, .inl (cL, 18, .inr (.inl ((fl_w fc fl fb fs sv np 0 ra rb fv).1)))), (a_po, .inl (cL, 4, .inr (.inl qv))), (pg, .inr (3, [.ref oa, .ref na, .int sz])), (oa, .inl (cI, 100, .inl ops)), (na, .inl (cI, 100, .inl nums)), (gv, .inl (cI, 4, .inl gg))]) [6, 7, 4, 0, 1, 2, 3] rfl) (hD.sub (ws' := [(a_cp, .inr (1, [.long 1, .ref a_rw, .ref a_po, .int pv])), (a_rw, .inl (cL, 18, .inr (.inl ((fl_w fc fl fb fs sv np 0 ra rb fv).1)))), (a_po, .inl (cL, 4, .inr (.inl qv))), (pg, .inr (3, [.ref oa, .ref na, .int sz])), (oa, .inl (cI, 100, .inl ops)), (na, .inl (cI, 100, .inl nums)), (gv, .inl (cI, 4, .inl gg))]) [6, 7, 4, 0, 1, 2, 3] (by decide) rfl) (ci := 1) (q0 := 0) rfl rfl) rfl rfl hl.1 rfl (lv_room (Nat.le_of_ble_eq_true rfl)) d_Gate_runToItsEnd_37 ⟨Nat.le_of_ble_eq_true rfl, Nat.le_of_ble_eq_true rfl⟩) hP hD hS hA [6, 7, 4, 0, 1, 2, 3] [5, 8, 9, 10, 11, 12, 13, 14] rfl rfl (by decide) (by decide) (fun r_12 u_13 H locs hw hP hD hS => ?_)
        obtain ⟨z_14, z_15, z_16⟩ := u_13
        try dsimp only at hw
        obtain ⟨rfl, rfl, rfl, rfl⟩ := hw
        have hP : va_P (dC, dI) classes [(x0, .inr (0, [.int (nI lm), .ref pg, .ref a_cp, .ref b_cp, .ref pn, .ref gv, .ref sh, .int bg, .int lt, .int em, .int (sv + 1), .int ((fl_w fc fl fb fs sv np 0 ra rb fv).2.2)])), (b_cp, .inr (1, [.long 58659, .ref b_rw, .ref b_po, .int b_pl])), (b_rw, .inl (cL, 18, .inr (.inl ((fl_w fc fl fb fs sv np 0 ra rb fv).2.1)))), (pn, .inr (2, [.ref ka, .ref kb, .ref kc, .ref kd, .int (nI np)])), (ka, .inl (cI, 4, .inl fc)), (kb, .inl (cI, 4, .inl fl)), (kc, .inl (cI, 4, .inl fb)), (kd, .inl (cI, 4, .inl fs)), (a_cp, .inr (1, [.long 1, .ref a_rw, .ref a_po, .int ((ds_w 1 ops nums sz gg ((fl_w fc fl fb fs sv np 0 ra rb fv).1) qv pv).2.2.2)])), (a_rw, .inl (cL, 18, .inr (.inl ((ds_w 1 ops nums sz gg ((fl_w fc fl fb fs sv np 0 ra rb fv).1) qv pv).2.1)))), (a_po, .inl (cL, 4, .inr (.inl ((ds_w 1 ops nums sz gg ((fl_w fc fl fb fs sv np 0 ra rb fv).1) qv pv).2.2.1)))), (pg, .inr (3, [.ref oa, .ref na, .int sz])), (oa, .inl (cI, 100, .inl ops)), (na, .inl (cI, 100, .inl nums)), (gv, .inl (cI, 4, .inl gg))] H := hP
        have hD : va_D A [(x0, .inr (0, [.int (nI lm), .ref pg, .ref a_cp, .ref b_cp, .ref pn, .ref gv, .ref sh, .int bg, .int lt, .int em, .int (sv + 1), .int ((fl_w fc fl fb fs sv np 0 ra rb fv).2.2)])), (b_cp, .inr (1, [.long 58659, .ref b_rw, .ref b_po, .int b_pl])), (b_rw, .inl (cL, 18, .inr (.inl ((fl_w fc fl fb fs sv np 0 ra rb fv).2.1)))), (pn, .inr (2, [.ref ka, .ref kb, .ref kc, .ref kd, .int (nI np)])), (ka, .inl (cI, 4, .inl fc)), (kb, .inl (cI, 4, .inl fl)), (kc, .inl (cI, 4, .inl fb)), (kd, .inl (cI, 4, .inl fs)), (a_cp, .inr (1, [.long 1, .ref a_rw, .ref a_po, .int ((ds_w 1 ops nums sz gg ((fl_w fc fl fb fs sv np 0 ra rb fv).1) qv pv).2.2.2)])), (a_rw, .inl (cL, 18, .inr (.inl ((ds_w 1 ops nums sz gg ((fl_w fc fl fb fs sv np 0 ra rb fv).1) qv pv).2.1)))), (a_po, .inl (cL, 4, .inr (.inl ((ds_w 1 ops nums sz gg ((fl_w fc fl fb fs sv np 0 ra rb fv).1) qv pv).2.2.1)))), (pg, .inr (3, [.ref oa, .ref na, .int sz])), (oa, .inl (cI, 100, .inl ops)), (na, .inl (cI, 100, .inl nums)), (gv, .inl (cI, 4, .inl gg))] := hD
        refine lv_istore_n (lv' := [(3, .int ((ds_w 1 ops nums sz gg ((fl_w fc fl fb fs sv np 0 ra rb fv).1) qv pv).1)), (0, .ref x0), (1, .ref a_cp), (2, .int (nI k))]) hx hb d_Gate_runToItsEnd_40 rfl hl (by decide) rfl (fun ls hl => ?_)
        refine lv_iload_n hx hb d_Gate_runToItsEnd_41 rfl (lv_at hl 0 rfl) ?_
        refine lv_iconst (v := 1) hx hb d_Gate_runToItsEnd_42 (by decide) ?_
        refine lv_icmp_ne (tgt := 48) hx hb d_Gate_runToItsEnd_43 (by decide) (fun c_17 => ?_) (fun c_17 => ?_)
        · have c_17 : ¬ ((ds_w 1 ops nums sz gg ((fl_w fc fl fb fs sv np 0 ra rb fv).1) qv pv).1) = 1 := c_17
          refine lv_iload_n hx hb d_Gate_runToItsEnd_48 rfl (lv_at hl 0 rfl) ?_
          refine lv_iconst (v := 2) hx hb d_Gate_runToItsEnd_49 (by decide) ?_
          refine lv_icmp_ne (tgt := 55) hx hb d_Gate_runToItsEnd_50 (by decide) (fun c_18 => ?_) (fun c_18 => ?_)
          · have c_18 : ¬ ((ds_w 1 ops nums sz gg ((fl_w fc fl fb fs sv np 0 ra rb fv).1) qv pv).1) = 2 := c_18
            refine lv_iinc (v := nI (k + 1)) (lv' := [(2, .int (nI (k + 1))), (3, .int ((ds_w 1 ops nums sz gg ((fl_w fc fl fb fs sv np 0 ra rb fv).1) qv pv).1)), (0, .ref x0), (1, .ref a_cp)]) hx hb d_Gate_runToItsEnd_55 hl (k := 3) rfl (nI_1 k) (by decide) rfl (fun ls hl => ?_)
            refine lv_goto (tgt := 6) hx hb d_Gate_runToItsEnd_58 (by decide) ?_
            exact ih (k + 1) ((ds_w 1 ops nums sz gg ((fl_w fc fl fb fs sv np 0 ra rb fv).1) qv pv).2.1) ((fl_w fc fl fb fs sv np 0 ra rb fv).2.1) ((ds_w 1 ops nums sz gg ((fl_w fc fl fb fs sv np 0 ra rb fv).1) qv pv).2.2.1) ((ds_w 1 ops nums sz gg ((fl_w fc fl fb fs sv np 0 ra rb fv).1) qv pv).2.2.2) (sv + 1) ((fl_w fc fl fb fs sv np 0 ra rb fv).2.2) H locs ls (by omega) (by rw [← hF, rn_3 (show ¬ ((sa_w ops nums sz gg fc fl fb fs np) (ra, rb, qv, pv, sv, fv)).1 = 1 from c_17) (show ¬ ((sa_w ops nums sz gg fc fl fb fs np) (ra, rb, qv, pv, sv, fv)).1 = 2 from c_18)]; rfl) (hP.sub (ws' := [(x0, .inr (0, [.int (nI lm), .ref pg, .ref a_cp, .ref b_cp, .ref pn, .ref gv, .ref sh, .int bg, .int lt, .int em, .int (sv + 1), .int ((fl_w fc fl fb fs sv np 0 ra rb fv).2.2)])), (pg, .inr (3, [.ref oa, .ref na, .int sz])), (oa, .inl (cI, 100, .inl ops)), (na, .inl (cI, 100, .inl nums)), (b_cp, .inr (1, [.long 58659, .ref b_rw, .ref b_po, .int b_pl])), (b_rw, .inl (cL, 18, .inr (.inl ((fl_w fc fl fb fs sv np 0 ra rb fv).2.1)))), (pn, .inr (2, [.ref ka, .ref kb, .ref kc, .ref kd, .int (nI np)])), (ka, .inl (cI, 4, .inl fc)), (kb, .inl (cI, 4, .inl fl)), (kc, .inl (cI, 4, .inl fb)), (kd, .inl (cI, 4, .inl fs)), (gv, .inl (cI, 4, .inl gg)), (a_cp, .inr (1, [.long 1, .ref a_rw, .ref a_po, .int ((ds_w 1 ops nums sz gg ((fl_w fc fl fb fs sv np 0 ra rb fv).1) qv pv).2.2.2)])), (a_rw, .inl (cL, 18, .inr (.inl ((ds_w 1 ops nums sz gg ((fl_w fc fl fb fs sv np 0 ra rb fv).1) qv pv).2.1)))), (a_po, .inl (cL, 4, .inr (.inl ((ds_w 1 ops nums sz gg ((fl_w fc fl fb fs sv np 0 ra rb fv).1) qv pv).2.2.1))))]) [0, 11, 12, 13, 1, 2, 3, 4, 5, 6, 7, 14, 8, 9, 10] rfl) (hD.sub (ws' := [(x0, .inr (0, [.int (nI lm), .ref pg, .ref a_cp, .ref b_cp, .ref pn, .ref gv, .ref sh, .int bg, .int lt, .int em, .int (sv + 1), .int ((fl_w fc fl fb fs sv np 0 ra rb fv).2.2)])), (pg, .inr (3, [.ref oa, .ref na, .int sz])), (oa, .inl (cI, 100, .inl ops)), (na, .inl (cI, 100, .inl nums)), (b_cp, .inr (1, [.long 58659, .ref b_rw, .ref b_po, .int b_pl])), (b_rw, .inl (cL, 18, .inr (.inl ((fl_w fc fl fb fs sv np 0 ra rb fv).2.1)))), (pn, .inr (2, [.ref ka, .ref kb, .ref kc, .ref kd, .int (nI np)])), (ka, .inl (cI, 4, .inl fc)), (kb, .inl (cI, 4, .inl fl)), (kc, .inl (cI, 4, .inl fb)), (kd, .inl (cI, 4, .inl fs)), (gv, .inl (cI, 4, .inl gg)), (a_cp, .inr (1, [.long 1, .ref a_rw, .ref a_po, .int ((ds_w 1 ops nums sz gg ((fl_w fc fl fb fs sv np 0 ra rb fv).1) qv pv).2.2.2)])), (a_rw, .inl (cL, 18, .inr (.inl ((ds_w 1 ops nums sz gg ((fl_w fc fl fb fs sv np 0 ra rb fv).1) qv pv).2.1)))), (a_po, .inl (cL, 4, .inr (.inl ((ds_w 1 ops nums sz gg ((fl_w fc fl fb fs sv np 0 ra rb fv).1) qv pv).2.2.1))))]) [0, 11, 12, 13, 1, 2, 3, 4, 5, 6, 7, 14, 8, 9, 10] (by decide) rfl) hS (lv_sub hl [2, 3, 0] rfl)
          · have c_18 : ((ds_w 1 ops nums sz gg ((fl_w fc fl fb fs sv np 0 ra rb fv).1) qv pv).1) = 2 := c_18
            refine lv_iconst (v := 1) hx hb d_Gate_runToItsEnd_53 (by decide) ?_
            exact rt_i (v := 1) ((ds_w 1 ops nums sz gg ((fl_w fc fl fb fs sv np 0 ra rb fv).1) qv pv).2.1, (fl_w fc fl fb fs sv np 0 ra rb fv).2.1, (ds_w 1 ops nums sz gg ((fl_w fc fl fb fs sv np 0 ra rb fv).1) qv pv).2.2.1, (ds_w 1 ops nums sz gg ((fl_w fc fl fb fs sv np 0 ra rb fv).1) qv pv).2.2.2, sv + 1, (fl_w fc fl fb fs sv np 0 ra rb fv).2.2) hx hb hr hlocks (show (1 : Int32) = (rn_w (sa_w ops nums sz gg fc fl fb fs np) lm (bg_w a_rr, b_rr, f4_w a_qq 0, 0, sp, fd)).1 ∧ ((ds_w 1 ops nums sz gg ((fl_w fc fl fb fs sv np 0 ra rb fv).1) qv pv).2.1) = (rn_w (sa_w ops nums sz gg fc fl fb fs np) lm (bg_w a_rr, b_rr, f4_w a_qq 0, 0, sp, fd)).2.1 ∧ ((fl_w fc fl fb fs sv np 0 ra rb fv).2.1) = (rn_w (sa_w ops nums sz gg fc fl fb fs np) lm (bg_w a_rr, b_rr, f4_w a_qq 0, 0, sp, fd)).2.2.1 ∧ ((ds_w 1 ops nums sz gg ((fl_w fc fl fb fs sv np 0 ra rb fv).1) qv pv).2.2.1) = (rn_w (sa_w ops nums sz gg fc fl fb fs np) lm (bg_w a_rr, b_rr, f4_w a_qq 0, 0, sp, fd)).2.2.2.1 ∧ ((ds_w 1 ops nums sz gg ((fl_w fc fl fb fs sv np 0 ra rb fv).1) qv pv).2.2.2) = (rn_w (sa_w ops nums sz gg fc fl fb fs np) lm (bg_w a_rr, b_rr, f4_w a_qq 0, 0, sp, fd)).2.2.2.2.1 ∧ (sv + 1) = (rn_w (sa_w ops nums sz gg fc fl fb fs np) lm (bg_w a_rr, b_rr, f4_w a_qq 0, 0, sp, fd)).2.2.2.2.2.1 ∧ ((fl_w fc fl fb fs sv np 0 ra rb fv).2.2) = (rn_w (sa_w ops nums sz gg fc fl fb fs np) lm (bg_w a_rr, b_rr, f4_w a_qq 0, 0, sp, fd)).2.2.2.2.2.2 from (by rw [← hF, rn_2 (show ¬ ((sa_w ops nums sz gg fc fl fb fs np) (ra, rb, qv, pv, sv, fv)).1 = 1 from c_17) (show ((sa_w ops nums sz gg fc fl fb fs np) (ra, rb, qv, pv, sv, fv)).1 = 2 from c_18)]; exact ⟨rfl, rfl, rfl, rfl, rfl, rfl, rfl⟩)) (hP.sub (ws' := [(x0, .inr (0, [.int (nI lm), .ref pg, .ref a_cp, .ref b_cp, .ref pn, .ref gv, .ref sh, .int bg, .int lt, .int em, .int (sv + 1), .int ((fl_w fc fl fb fs sv np 0 ra rb fv).2.2)])), (pg, .inr (3, [.ref oa, .ref na, .int sz])), (oa, .inl (cI, 100, .inl ops)), (na, .inl (cI, 100, .inl nums)), (a_cp, .inr (1, [.long 1, .ref a_rw, .ref a_po, .int ((ds_w 1 ops nums sz gg ((fl_w fc fl fb fs sv np 0 ra rb fv).1) qv pv).2.2.2)])), (a_rw, .inl (cL, 18, .inr (.inl ((ds_w 1 ops nums sz gg ((fl_w fc fl fb fs sv np 0 ra rb fv).1) qv pv).2.1)))), (a_po, .inl (cL, 4, .inr (.inl ((ds_w 1 ops nums sz gg ((fl_w fc fl fb fs sv np 0 ra rb fv).1) qv pv).2.2.1)))), (b_cp, .inr (1, [.long 58659, .ref b_rw, .ref b_po, .int b_pl])), (b_rw, .inl (cL, 18, .inr (.inl ((fl_w fc fl fb fs sv np 0 ra rb fv).2.1)))), (pn, .inr (2, [.ref ka, .ref kb, .ref kc, .ref kd, .int (nI np)])), (ka, .inl (cI, 4, .inl fc)), (kb, .inl (cI, 4, .inl fl)), (kc, .inl (cI, 4, .inl fb)), (kd, .inl (cI, 4, .inl fs)), (gv, .inl (cI, 4, .inl gg))]) [0, 11, 12, 13, 8, 9, 10, 1, 2, 3, 4, 5, 6, 7, 14] rfl) (hD.sub (ws' := [(x0, .inr (0, [.int (nI lm), .ref pg, .ref a_cp, .ref b_cp, .ref pn, .ref gv, .ref sh, .int bg, .int lt, .int em, .int (sv + 1), .int ((fl_w fc fl fb fs sv np 0 ra rb fv).2.2)])), (pg, .inr (3, [.ref oa, .ref na, .int sz])), (oa, .inl (cI, 100, .inl ops)), (na, .inl (cI, 100, .inl nums)), (a_cp, .inr (1, [.long 1, .ref a_rw, .ref a_po, .int ((ds_w 1 ops nums sz gg ((fl_w fc fl fb fs sv np 0 ra rb fv).1) qv pv).2.2.2)])), (a_rw, .inl (cL, 18, .inr (.inl ((ds_w 1 ops nums sz gg ((fl_w fc fl fb fs sv np 0 ra rb fv).1) qv pv).2.1)))), (a_po, .inl (cL, 4, .inr (.inl ((ds_w 1 ops nums sz gg ((fl_w fc fl fb fs sv np 0 ra rb fv).1) qv pv).2.2.1)))), (b_cp, .inr (1, [.long 58659, .ref b_rw, .ref b_po, .int b_pl])), (b_rw, .inl (cL, 18, .inr (.inl ((fl_w fc fl fb fs sv np 0 ra rb fv).2.1)))), (pn, .inr (2, [.ref ka, .ref kb, .ref kc, .ref kd, .int (nI np)])), (ka, .inl (cI, 4, .inl fc)), (kb, .inl (cI, 4, .inl fl)), (kc, .inl (cI, 4, .inl fb)), (kd, .inl (cI, 4, .inl fs)), (gv, .inl (cI, 4, .inl gg))]) [0, 11, 12, 13, 8, 9, 10, 1, 2, 3, 4, 5, 6, 7, 14] (by decide) rfl) hS d_Gate_runToItsEnd_54
        · have c_17 : ((ds_w 1 ops nums sz gg ((fl_w fc fl fb fs sv np 0 ra rb fv).1) qv pv).1) = 1 := c_17
          refine lv_iconst (v := 0) hx hb d_Gate_runToItsEnd_46 (by decide) ?_
          exact rt_i (v := 0) ((ds_w 1 ops nums sz gg ((fl_w fc fl fb fs sv np 0 ra rb fv).1) qv pv).2.1, (fl_w fc fl fb fs sv np 0 ra rb fv).2.1, (ds_w 1 ops nums sz gg ((fl_w fc fl fb fs sv np 0 ra rb fv).1) qv pv).2.2.1, (ds_w 1 ops nums sz gg ((fl_w fc fl fb fs sv np 0 ra rb fv).1) qv pv).2.2.2, sv + 1, (fl_w fc fl fb fs sv np 0 ra rb fv).2.2) hx hb hr hlocks (show (0 : Int32) = (rn_w (sa_w ops nums sz gg fc fl fb fs np) lm (bg_w a_rr, b_rr, f4_w a_qq 0, 0, sp, fd)).1 ∧ ((ds_w 1 ops nums sz gg ((fl_w fc fl fb fs sv np 0 ra rb fv).1) qv pv).2.1) = (rn_w (sa_w ops nums sz gg fc fl fb fs np) lm (bg_w a_rr, b_rr, f4_w a_qq 0, 0, sp, fd)).2.1 ∧ ((fl_w fc fl fb fs sv np 0 ra rb fv).2.1) = (rn_w (sa_w ops nums sz gg fc fl fb fs np) lm (bg_w a_rr, b_rr, f4_w a_qq 0, 0, sp, fd)).2.2.1 ∧ ((ds_w 1 ops nums sz gg ((fl_w fc fl fb fs sv np 0 ra rb fv).1) qv pv).2.2.1) = (rn_w (sa_w ops nums sz gg fc fl fb fs np) lm (bg_w a_rr, b_rr, f4_w a_qq 0, 0, sp, fd)).2.2.2.1 ∧ ((ds_w 1 ops nums sz gg ((fl_w fc fl fb fs sv np 0 ra rb fv).1) qv pv).2.2.2) = (rn_w (sa_w ops nums sz gg fc fl fb fs np) lm (bg_w a_rr, b_rr, f4_w a_qq 0, 0, sp, fd)).2.2.2.2.1 ∧ (sv + 1) = (rn_w (sa_w ops nums sz gg fc fl fb fs np) lm (bg_w a_rr, b_rr, f4_w a_qq 0, 0, sp, fd)).2.2.2.2.2.1 ∧ ((fl_w fc fl fb fs sv np 0 ra rb fv).2.2) = (rn_w (sa_w ops nums sz gg fc fl fb fs np) lm (bg_w a_rr, b_rr, f4_w a_qq 0, 0, sp, fd)).2.2.2.2.2.2 from (by rw [← hF, rn_1 (show ((sa_w ops nums sz gg fc fl fb fs np) (ra, rb, qv, pv, sv, fv)).1 = 1 from c_17)]; exact ⟨rfl, rfl, rfl, rfl, rfl, rfl, rfl⟩)) (hP.sub (ws' := [(x0, .inr (0, [.int (nI lm), .ref pg, .ref a_cp, .ref b_cp, .ref pn, .ref gv, .ref sh, .int bg, .int lt, .int em, .int (sv + 1), .int ((fl_w fc fl fb fs sv np 0 ra rb fv).2.2)])), (pg, .inr (3, [.ref oa, .ref na, .int sz])), (oa, .inl (cI, 100, .inl ops)), (na, .inl (cI, 100, .inl nums)), (a_cp, .inr (1, [.long 1, .ref a_rw, .ref a_po, .int ((ds_w 1 ops nums sz gg ((fl_w fc fl fb fs sv np 0 ra rb fv).1) qv pv).2.2.2)])), (a_rw, .inl (cL, 18, .inr (.inl ((ds_w 1 ops nums sz gg ((fl_w fc fl fb fs sv np 0 ra rb fv).1) qv pv).2.1)))), (a_po, .inl (cL, 4, .inr (.inl ((ds_w 1 ops nums sz gg ((fl_w fc fl fb fs sv np 0 ra rb fv).1) qv pv).2.2.1)))), (b_cp, .inr (1, [.long 58659, .ref b_rw, .ref b_po, .int b_pl])), (b_rw, .inl (cL, 18, .inr (.inl ((fl_w fc fl fb fs sv np 0 ra rb fv).2.1)))), (pn, .inr (2, [.ref ka, .ref kb, .ref kc, .ref kd, .int (nI np)])), (ka, .inl (cI, 4, .inl fc)), (kb, .inl (cI, 4, .inl fl)), (kc, .inl (cI, 4, .inl fb)), (kd, .inl (cI, 4, .inl fs)), (gv, .inl (cI, 4, .inl gg))]) [0, 11, 12, 13, 8, 9, 10, 1, 2, 3, 4, 5, 6, 7, 14] rfl) (hD.sub (ws' := [(x0, .inr (0, [.int (nI lm), .ref pg, .ref a_cp, .ref b_cp, .ref pn, .ref gv, .ref sh, .int bg, .int lt, .int em, .int (sv + 1), .int ((fl_w fc fl fb fs sv np 0 ra rb fv).2.2)])), (pg, .inr (3, [.ref oa, .ref na, .int sz])), (oa, .inl (cI, 100, .inl ops)), (na, .inl (cI, 100, .inl nums)), (a_cp, .inr (1, [.long 1, .ref a_rw, .ref a_po, .int ((ds_w 1 ops nums sz gg ((fl_w fc fl fb fs sv np 0 ra rb fv).1) qv pv).2.2.2)])), (a_rw, .inl (cL, 18, .inr (.inl ((ds_w 1 ops nums sz gg ((fl_w fc fl fb fs sv np 0 ra rb fv).1) qv pv).2.1)))), (a_po, .inl (cL, 4, .inr (.inl ((ds_w 1 ops nums sz gg ((fl_w fc fl fb fs sv np 0 ra rb fv).1) qv pv).2.2.1)))), (b_cp, .inr (1, [.long 58659, .ref b_rw, .ref b_po, .int b_pl])), (b_rw, .inl (cL, 18, .inr (.inl ((fl_w fc fl fb fs sv np 0 ra rb fv).2.1)))), (pn, .inr (2, [.ref ka, .ref kb, .ref kc, .ref kd, .int (nI np)])), (ka, .inl (cI, 4, .inl fc)), (kb, .inl (cI, 4, .inl fl)), (kc, .inl (cI, 4, .inl fb)), (kd, .inl (cI, 4, .inl fs)), (gv, .inl (cI, 4, .inl gg))]) [0, 11, 12, 13, 8, 9, 10, 1, 2, 3, 4, 5, 6, 7, 14] (by decide) rfl) hS d_Gate_runToItsEnd_47
  exact lp_0 lm 0 (bg_w a_rr) b_rr (f4_w a_qq 0) 0 sp fd H _ ls (by omega) rfl (hP.sub (ws' := [(x0, .inr (0, [.int (nI lm), .ref pg, .ref a_cp, .ref b_cp, .ref pn, .ref gv, .ref sh, .int bg, .int lt, .int em, .int sp, .int fd])), (pg, .inr (3, [.ref oa, .ref na, .int sz])), (oa, .inl (cI, 100, .inl ops)), (na, .inl (cI, 100, .inl nums)), (b_cp, .inr (1, [.long 58659, .ref b_rw, .ref b_po, .int b_pl])), (b_rw, .inl (cL, 18, .inr (.inl b_rr))), (pn, .inr (2, [.ref ka, .ref kb, .ref kc, .ref kd, .int (nI np)])), (ka, .inl (cI, 4, .inl fc)), (kb, .inl (cI, 4, .inl fl)), (kc, .inl (cI, 4, .inl fb)), (kd, .inl (cI, 4, .inl fs)), (gv, .inl (cI, 4, .inl gg)), (a_cp, .inr (1, [.long 1, .ref a_rw, .ref a_po, .int 0])), (a_rw, .inl (cL, 18, .inr (.inl (bg_w a_rr)))), (a_po, .inl (cL, 4, .inr (.inl (f4_w a_qq 0))))]) [0, 1, 2, 3, 4, 5, 6, 7, 8, 9, 10, 11, 12, 13, 14] rfl) (hD.sub (ws' := [(x0, .inr (0, [.int (nI lm), .ref pg, .ref a_cp, .ref b_cp, .ref pn, .ref gv, .ref sh, .int bg, .int lt, .int em, .int sp, .int fd])), (pg, .inr (3, [.ref oa, .ref na, .int sz])), (oa, .inl (cI, 100, .inl ops)), (na, .inl (cI, 100, .inl nums)), (b_cp, .inr (1, [.long 58659, .ref b_rw, .ref b_po, .int b_pl])), (b_rw, .inl (cL, 18, .inr (.inl b_rr))), (pn, .inr (2, [.ref ka, .ref kb, .ref kc, .ref kd, .int (nI np)])), (ka, .inl (cI, 4, .inl fc)), (kb, .inl (cI, 4, .inl fl)), (kc, .inl (cI, 4, .inl fb)), (kd, .inl (cI, 4, .inl fs)), (gv, .inl (cI, 4, .inl gg)), (a_cp, .inr (1, [.long 1, .ref a_rw, .ref a_po, .int 0])), (a_rw, .inl (cL, 18, .inr (.inl (bg_w a_rr)))), (a_po, .inl (cL, 4, .inr (.inl (f4_w a_qq 0))))]) [0, 1, 2, 3, 4, 5, 6, 7, 8, 9, 10, 11, 12, 13, 14] (by decide) rfl) hS (lv_sub hl [1, 2, 0] rfl)

set_option maxHeartbeats 4000000 in
set_option maxRecDepth 100000 in
theorem c_Gate_runToItsEnd1 (l : Launch) (dC : Nat → ClassId) (dI : Nat → Nat → Nat) (cI cL : ClassId) (hs0 : Nat) (x0 : Nat) (lm : Nat) (pg : Nat) (a_cp : Nat) (b_cp : Nat) (pn : Nat) (gv : Nat) (sh : Nat) (bg : Int32) (lt : Int32) (em : Int32) (sp : Int32) (fd : Int32) (oa : Nat) (na : Nat) (ops : Nat → Int32) (nums : Nat → Int32) (sz : Int32) (a_rw : Nat) (a_po : Nat) (a_rr : Nat → Int64) (a_pl : Int32) (b_rw : Nat) (b_po : Nat) (b_rr : Nat → Int64) (b_qq : Nat → Int64) (b_pl : Int32) (ka : Nat) (kb : Nat) (kc : Nat) (kd : Nat) (fc : Nat → Int32) (fl : Nat → Int32) (fb : Nat → Int32) (fs : Nat → Int32) (np : Nat) (gg : Nat → Int32) (hz : sz ≤ 100) (hok : pg_ok ops nums sz) (hnp : np ≤ 4) (hpl : pl_ok fl np) (hlm : lm ≤ 5000) : ct_i l y_Gate_runToItsEnd b_Gate_runToItsEnd 4 (some .int) ({ frames := 3, cells := 0, slots := 0, locals := 120 }) (dC, dI) cI cL [.ref x0, .ref b_cp] [(x0, .inr (0, [.int (nI lm), .ref pg, .ref a_cp, .ref b_cp, .ref pn, .ref gv, .ref sh, .int bg, .int lt, .int em, .int sp, .int fd])), (pg, .inr (3, [.ref oa, .ref na, .int sz])), (oa, .inl (cI, 100, .inl ops)), (na, .inl (cI, 100, .inl nums)), (b_cp, .inr (1, [.long 58659, .ref b_rw, .ref b_po, .int b_pl])), (b_rw, .inl (cL, 18, .inr (.inl b_rr))), (b_po, .inl (cL, 4, .inr (.inl b_qq))), (a_cp, .inr (1, [.long 1, .ref a_rw, .ref a_po, .int a_pl])), (a_rw, .inl (cL, 18, .inr (.inl a_rr))), (pn, .inr (2, [.ref ka, .ref kb, .ref kc, .ref kd, .int (nI np)])), (ka, .inl (cI, 4, .inl fc)), (kb, .inl (cI, 4, .inl fl)), (kc, .inl (cI, 4, .inl fb)), (kd, .inl (cI, 4, .inl fs)), (gv, .inl (cI, 4, .inl gg))] hs0 (fun (r : Int32) (u : (Nat → Int64) × (Nat → Int64) × (Nat → Int64) × Int32 × Int32 × Int32) => r = (rn_w (sb_w ops nums sz gg fc fl fb fs np) lm (a_rr, bg_w b_rr, f4_w b_qq 0, 0, sp, fd)).1 ∧ u.1 = (rn_w (sb_w ops nums sz gg fc fl fb fs np) lm (a_rr, bg_w b_rr, f4_w b_qq 0, 0, sp, fd)).2.1 ∧ u.2.1 = (rn_w (sb_w ops nums sz gg fc fl fb fs np) lm (a_rr, bg_w b_rr, f4_w b_qq 0, 0, sp, fd)).2.2.1 ∧ u.2.2.1 = (rn_w (sb_w ops nums sz gg fc fl fb fs np) lm (a_rr, bg_w b_rr, f4_w b_qq 0, 0, sp, fd)).2.2.2.1 ∧ u.2.2.2.1 = (rn_w (sb_w ops nums sz gg fc fl fb fs np) lm (a_rr, bg_w b_rr, f4_w b_qq 0, 0, sp, fd)).2.2.2.2.1 ∧ u.2.2.2.2.1 = (rn_w (sb_w ops nums sz gg fc fl fb fs np) lm (a_rr, bg_w b_rr, f4_w b_qq 0, 0, sp, fd)).2.2.2.2.2.1 ∧ u.2.2.2.2.2 = (rn_w (sb_w ops nums sz gg fc fl fb fs np) lm (a_rr, bg_w b_rr, f4_w b_qq 0, 0, sp, fd)).2.2.2.2.2.2) (fun u => [(x0, .inr (0, [.int (nI lm), .ref pg, .ref a_cp, .ref b_cp, .ref pn, .ref gv, .ref sh, .int bg, .int lt, .int em, .int u.2.2.2.2.1, .int u.2.2.2.2.2])), (pg, .inr (3, [.ref oa, .ref na, .int sz])), (oa, .inl (cI, 100, .inl ops)), (na, .inl (cI, 100, .inl nums)), (b_cp, .inr (1, [.long 58659, .ref b_rw, .ref b_po, .int u.2.2.2.1])), (b_rw, .inl (cL, 18, .inr (.inl u.2.1))), (b_po, .inl (cL, 4, .inr (.inl u.2.2.1))), (a_cp, .inr (1, [.long 1, .ref a_rw, .ref a_po, .int a_pl])), (a_rw, .inl (cL, 18, .inr (.inl u.1))), (pn, .inr (2, [.ref ka, .ref kb, .ref kc, .ref kd, .int (nI np)])), (ka, .inl (cI, 4, .inl fc)), (kb, .inl (cI, 4, .inl fl)), (kc, .inl (cI, 4, .inl fb)), (kd, .inl (cI, 4, .inl fs)), (gv, .inl (cI, 4, .inl gg))]) 0 0 := by
  refine st_w (Qc := fun A => va_Qi (fun (r : Int32) (u : (Nat → Int64) × (Nat → Int64) × (Nat → Int64) × Int32 × Int32 × Int32) => r = (rn_w (sb_w ops nums sz gg fc fl fb fs np) lm (a_rr, bg_w b_rr, f4_w b_qq 0, 0, sp, fd)).1 ∧ u.1 = (rn_w (sb_w ops nums sz gg fc fl fb fs np) lm (a_rr, bg_w b_rr, f4_w b_qq 0, 0, sp, fd)).2.1 ∧ u.2.1 = (rn_w (sb_w ops nums sz gg fc fl fb fs np) lm (a_rr, bg_w b_rr, f4_w b_qq 0, 0, sp, fd)).2.2.1 ∧ u.2.2.1 = (rn_w (sb_w ops nums sz gg fc fl fb fs np) lm (a_rr, bg_w b_rr, f4_w b_qq 0, 0, sp, fd)).2.2.2.1 ∧ u.2.2.2.1 = (rn_w (sb_w ops nums sz gg fc fl fb fs np) lm (a_rr, bg_w b_rr, f4_w b_qq 0, 0, sp, fd)).2.2.2.2.1 ∧ u.2.2.2.2.1 = (rn_w (sb_w ops nums sz gg fc fl fb fs np) lm (a_rr, bg_w b_rr, f4_w b_qq 0, 0, sp, fd)).2.2.2.2.2.1 ∧ u.2.2.2.2.2 = (rn_w (sb_w ops nums sz gg fc fl fb fs np) lm (a_rr, bg_w b_rr, f4_w b_qq 0, 0, sp, fd)).2.2.2.2.2.2) (fun (u : (Nat → Int64) × (Nat → Int64) × (Nat → Int64) × Int32 × Int32 × Int32) t => pos_w (dC, dI) A [(x0, .inr (0, [.int (nI lm), .ref pg, .ref a_cp, .ref b_cp, .ref pn, .ref gv, .ref sh, .int bg, .int lt, .int em, .int u.2.2.2.2.1, .int u.2.2.2.2.2])), (pg, .inr (3, [.ref oa, .ref na, .int sz])), (oa, .inl (cI, 100, .inl ops)), (na, .inl (cI, 100, .inl nums)), (b_cp, .inr (1, [.long 58659, .ref b_rw, .ref b_po, .int u.2.2.2.1])), (b_rw, .inl (cL, 18, .inr (.inl u.2.1))), (b_po, .inl (cL, 4, .inr (.inl u.2.2.1))), (a_cp, .inr (1, [.long 1, .ref a_rw, .ref a_po, .int a_pl])), (a_rw, .inl (cL, 18, .inr (.inl u.1))), (pn, .inr (2, [.ref ka, .ref kb, .ref kc, .ref kd, .int (nI np)])), (ka, .inl (cI, 4, .inl fc)), (kb, .inl (cI, 4, .inl fl)), (kc, .inl (cI, 4, .inl fb)), (kd, .inl (cI, 4, .inl fs)), (gv, .inl (cI, 4, .inl gg))] t) A) (by decide) (Nat.le_of_ble_eq_true rfl) ?_
  intro p e s m below meth c A ls hfx hK hA hP hD hS hl
  obtain ⟨hx, hb, hml, hown, htb, hr, hlocks, hin⟩ := hfx
  have hl : lv_has ls 4 [(0, .ref x0), (1, .ref b_cp)] := hl
  refine lv_aload_n hx hb d_Gate_runToItsEnd_0 rfl (lv_at hl 1 rfl) ?_
  refine af_v (wr := [(x0, .inr (0, [.int (nI lm), .ref pg, .ref a_cp, .ref b_cp, .ref pn, .ref gv, .ref sh, .int bg, .int lt, .int em, .int sp, .int fd])), (pg, .inr (3, [.ref oa, .ref na, .int sz])), (oa, .inl (cI, 100, .inl ops)), (na, .inl (cI, 100, .inl nums)), (a_cp, .inr (1, [.long 1, .ref a_rw, .ref a_po, .int a_pl])), (a_rw, .inl (cL, 18, .inr (.inl a_rr))), (pn, .inr (2, [.ref ka, .ref kb, .ref kc, .ref kd, .int (nI np)])), (ka, .inl (cI, 4, .inl fc)), (kb, .inl (cI, 4, .inl fl)), (kc, .inl (cI, 4, .inl fb)), (kd, .inl (cI, 4, .inl fs)), (gv, .inl (cI, 4, .inl gg))]) (va_runV (As := []) (rest := []) ⟨hx, hb, hml, hown, htb⟩ (c_Copy_begin l dC dI cI cL s.heap.size b_cp b_rw b_po 58659 b_rr b_qq b_pl ) ⟨callB_of 0 htb (gd_w tw_185) rfl rfl rfl (htb _ tw_22) (htb _ tw_182) (by decide +kernel) ⟨Nat.le_of_ble_eq_true rfl, Nat.le_of_ble_eq_true rfl⟩, htb _ tw_183, htb _ tw_184⟩ (pv_V hK (hP.sub (ws' := [(b_cp, .inr (1, [.long 58659, .ref b_rw, .ref b_po, .int b_pl])), (b_rw, .inl (cL, 18, .inr (.inl b_rr))), (b_po, .inl (cL, 4, .inr (.inl b_qq)))]) [4, 5, 6] rfl) (hD.sub (ws' := [(b_cp, .inr (1, [.long 58659, .ref b_rw, .ref b_po, .int b_pl])), (b_rw, .inl (cL, 18, .inr (.inl b_rr))), (b_po, .inl (cL, 4, .inr (.inl b_qq)))]) [4, 5, 6] (by decide) rfl) (ci := 1) (q0 := 0) rfl rfl) rfl rfl hl.1 rfl (lv_room (Nat.le_of_ble_eq_true rfl)) d_Gate_runToItsEnd_1 ⟨Nat.le_of_ble_eq_true rfl, Nat.le_of_ble_eq_true rfl⟩) hP hD hS hA [4, 5, 6] [0, 1, 2, 3, 7, 8, 9, 10, 11, 12, 13, 14] rfl rfl (by decide) (by decide) (fun u_2 H locs hw hP hD hS => ?_)
  obtain ⟨z_3, z_4⟩ := u_2
  try dsimp only at hw
  obtain ⟨rfl, rfl⟩ := hw
  have hP : va_P (dC, dI) classes [(x0, .inr (0, [.int (nI lm), .ref pg, .ref a_cp, .ref b_cp, .ref pn, .ref gv, .ref sh, .int bg, .int lt, .int em, .int sp, .int fd])), (pg, .inr (3, [.ref oa, .ref na, .int sz])), (oa, .inl (cI, 100, .inl ops)), (na, .inl (cI, 100, .inl nums)), (a_cp, .inr (1, [.long 1, .ref a_rw, .ref a_po, .int a_pl])), (a_rw, .inl (cL, 18, .inr (.inl a_rr))), (pn, .inr (2, [.ref ka, .ref kb, .ref kc, .ref kd, .int (nI np)])), (ka, .inl (cI, 4, .inl fc)), (kb, .inl (cI, 4, .inl fl)), (kc, .inl (cI, 4, .inl fb)), (kd, .inl (cI, 4, .inl fs)), (gv, .inl (cI, 4, .inl gg)), (b_cp, .inr (1, [.long 58659, .ref b_rw, .ref b_po, .int 0])), (b_rw, .inl (cL, 18, .inr (.inl (bg_w b_rr)))), (b_po, .inl (cL, 4, .inr (.inl (f4_w b_qq 0))))] H := hP
  have hD : va_D A [(x0, .inr (0, [.int (nI lm), .ref pg, .ref a_cp, .ref b_cp, .ref pn, .ref gv, .ref sh, .int bg, .int lt, .int em, .int sp, .int fd])), (pg, .inr (3, [.ref oa, .ref na, .int sz])), (oa, .inl (cI, 100, .inl ops)), (na, .inl (cI, 100, .inl nums)), (a_cp, .inr (1, [.long 1, .ref a_rw, .ref a_po, .int a_pl])), (a_rw, .inl (cL, 18, .inr (.inl a_rr))), (pn, .inr (2, [.ref ka, .ref kb, .ref kc, .ref kd, .int (nI np)])), (ka, .inl (cI, 4, .inl fc)), (kb, .inl (cI, 4, .inl fl)), (kc, .inl (cI, 4, .inl fb)), (kd, .inl (cI, 4, .inl fs)), (gv, .inl (cI, 4, .inl gg)), (b_cp, .inr (1, [.long 58659, .ref b_rw, .ref b_po, .int 0])), (b_rw, .inl (cL, 18, .inr (.inl (bg_w b_rr)))), (b_po, .inl (cL, 4, .inr (.inl (f4_w b_qq 0))))] := hD
  refine lv_iconst (v := 0) hx hb d_Gate_runToItsEnd_4 (by decide) ?_
  refine lv_istore_n (lv' := [(2, .int 0), (0, .ref x0), (1, .ref b_cp)]) hx hb d_Gate_runToItsEnd_5 rfl hl (by decide) rfl (fun ls hl => ?_)
  have lp_0 : ∀ (n : Nat) (k : Nat) (ra : Nat → Int64) (rb : Nat → Int64) (qv : Nat → Int64) (pv : Int32) (sv : Int32) (fv : Int32) (H : Heap) (locs : List Loc) (ls : Array Slot), (k + n = lm) → (rn_w (sb_w ops nums sz gg fc fl fb fs np) n (ra, rb, qv, pv, sv, fv) = rn_w (sb_w ops nums sz gg fc fl fb fs np) lm (a_rr, bg_w b_rr, f4_w b_qq 0, 0, sp, fd)) → va_P (dC, dI) classes [(x0, .inr (0, [.int (nI lm), .ref pg, .ref a_cp, .ref b_cp, .ref pn, .ref gv, .ref sh, .int bg, .int lt, .int em, .int sv, .int fv])), (pg, .inr (3, [.ref oa, .ref na, .int sz])), (oa, .inl (cI, 100, .inl ops)), (na, .inl (cI, 100, .inl nums)), (a_cp, .inr (1, [.long 1, .ref a_rw, .ref a_po, .int a_pl])), (a_rw, .inl (cL, 18, .inr (.inl ra))), (pn, .inr (2, [.ref ka, .ref kb, .ref kc, .ref kd, .int (nI np)])), (ka, .inl (cI, 4, .inl fc)), (kb, .inl (cI, 4, .inl fl)), (kc, .inl (cI, 4, .inl fb)), (kd, .inl (cI, 4, .inl fs)), (gv, .inl (cI, 4, .inl gg)), (b_cp, .inr (1, [.long 58659, .ref b_rw, .ref b_po, .int pv])), (b_rw, .inl (cL, 18, .inr (.inl rb))), (b_po, .inl (cL, 4, .inr (.inl qv)))] H → va_D A [(x0, .inr (0, [.int (nI lm), .ref pg, .ref a_cp, .ref b_cp, .ref pn, .ref gv, .ref sh, .int bg, .int lt, .int em, .int sv, .int fv])), (pg, .inr (3, [.ref oa, .ref na, .int sz])), (oa, .inl (cI, 100, .inl ops)), (na, .inl (cI, 100, .inl nums)), (a_cp, .inr (1, [.long 1, .ref a_rw, .ref a_po, .int a_pl])), (a_rw, .inl (cL, 18, .inr (.inl ra))), (pn, .inr (2, [.ref ka, .ref kb, .ref kc, .ref kd, .int (nI np)])), (ka, .inl (cI, 4, .inl fc)), (kb, .inl (cI, 4, .inl fl)), (kc, .inl (cI, 4, .inl fb)), (kd, .inl (cI, 4, .inl fs)), (gv, .inl (cI, 4, .inl gg)), (b_cp, .inr (1, [.long 58659, .ref b_rw, .ref b_po, .int pv])), (b_rw, .inl (cL, 18, .inr (.inl rb))), (b_po, .inl (cL, 4, .inr (.inl qv)))] → va_S A s.heap H locs → lv_has ls 4 [(0, .ref x0), (1, .ref b_cp), (2, .int (nI k))] → W p l e ({ frames := 3, cells := 0, slots := 0, locals := 120 }) s m ([.ref x0, .ref b_cp].toArray) below meth c H locs 0 0 (MQ below (va_Qi (fun (r : Int32) (u : (Nat → Int64) × (Nat → Int64) × (Nat → Int64) × Int32 × Int32 × Int32) => r = (rn_w (sb_w ops nums sz gg fc fl fb fs np) lm (a_rr, bg_w b_rr, f4_w b_qq 0, 0, sp, fd)).1 ∧ u.1 = (rn_w (sb_w ops nums sz gg fc fl fb fs np) lm (a_rr, bg_w b_rr, f4_w b_qq 0, 0, sp, fd)).2.1 ∧ u.2.1 = (rn_w (sb_w ops nums sz gg fc fl fb fs np) lm (a_rr, bg_w b_rr, f4_w b_qq 0, 0, sp, fd)).2.2.1 ∧ u.2.2.1 = (rn_w (sb_w ops nums sz gg fc fl fb fs np) lm (a_rr, bg_w b_rr, f4_w b_qq 0, 0, sp, fd)).2.2.2.1 ∧ u.2.2.2.1 = (rn_w (sb_w ops nums sz gg fc fl fb fs np) lm (a_rr, bg_w b_rr, f4_w b_qq 0, 0, sp, fd)).2.2.2.2.1 ∧ u.2.2.2.2.1 = (rn_w (sb_w ops nums sz gg fc fl fb fs np) lm (a_rr, bg_w b_rr, f4_w b_qq 0, 0, sp, fd)).2.2.2.2.2.1 ∧ u.2.2.2.2.2 = (rn_w (sb_w ops nums sz gg fc fl fb fs np) lm (a_rr, bg_w b_rr, f4_w b_qq 0, 0, sp, fd)).2.2.2.2.2.2) (fun (u : (Nat → Int64) × (Nat → Int64) × (Nat → Int64) × Int32 × Int32 × Int32) t => pos_w (dC, dI) A [(x0, .inr (0, [.int (nI lm), .ref pg, .ref a_cp, .ref b_cp, .ref pn, .ref gv, .ref sh, .int bg, .int lt, .int em, .int u.2.2.2.2.1, .int u.2.2.2.2.2])), (pg, .inr (3, [.ref oa, .ref na, .int sz])), (oa, .inl (cI, 100, .inl ops)), (na, .inl (cI, 100, .inl nums)), (b_cp, .inr (1, [.long 58659, .ref b_rw, .ref b_po, .int u.2.2.2.1])), (b_rw, .inl (cL, 18, .inr (.inl u.2.1))), (b_po, .inl (cL, 4, .inr (.inl u.2.2.1))), (a_cp, .inr (1, [.long 1, .ref a_rw, .ref a_po, .int a_pl])), (a_rw, .inl (cL, 18, .inr (.inl u.1))), (pn, .inr (2, [.ref ka, .ref kb, .ref kc, .ref kd, .int (nI np)])), (ka, .inl (cI, 4, .inl fc)), (kb, .inl (cI, 4, .inl fl)), (kc, .inl (cI, 4, .inl fb)), (kd, .inl (cI, 4, .inl fs)), (gv, .inl (cI, 4, .inl gg))] t) A) ([.ref x0, .ref b_cp].toArray) s 0 0 A) (F0 m 6 ls []) := by
    intro n
    induction n with
    | zero =>
      intro k ra rb qv pv sv fv H locs ls hn hF hP hD hS hl
      refine lv_iload_n hx hb d_Gate_runToItsEnd_6 rfl (lv_at hl 2 rfl) ?_
      refine lv_aload_n hx hb d_Gate_runToItsEnd_7 rfl (lv_at hl 0 rfl) ?_
      refine va_get (D := (dC, dI)) (ci := 0) (v := .int (nI lm)) (C := R_Gate) (T := F_Gate) (N := 12) hx hb htb iw_Gate hown hK.1 hP 0 rfl rfl 0 (by decide) (htb _ tw_118) (fun _ h9 => h9) rfl d_Gate_runToItsEnd_8 ?_
      refine lv_icmp_ge (tgt := 61) hx hb d_Gate_runToItsEnd_11 (by decide) (fun c_5 => ?_) (fun c_5 => ?_)
      · skip
        refine lv_iconst (v := 2) hx hb d_Gate_runToItsEnd_61 (by decide) ?_
        exact rt_i (v := 2) (ra, rb, qv, pv, sv, fv) hx hb hr hlocks (show (2 : Int32) = (rn_w (sb_w ops nums sz gg fc fl fb fs np) lm (a_rr, bg_w b_rr, f4_w b_qq 0, 0, sp, fd)).1 ∧ ra = (rn_w (sb_w ops nums sz gg fc fl fb fs np) lm (a_rr, bg_w b_rr, f4_w b_qq 0, 0, sp, fd)).2.1 ∧ rb = (rn_w (sb_w ops nums sz gg fc fl fb fs np) lm (a_rr, bg_w b_rr, f4_w b_qq 0, 0, sp, fd)).2.2.1 ∧ qv = (rn_w (sb_w ops nums sz gg fc fl fb fs np) lm (a_rr, bg_w b_rr, f4_w b_qq 0, 0, sp, fd)).2.2.2.1 ∧ pv = (rn_w (sb_w ops nums sz gg fc fl fb fs np) lm (a_rr, bg_w b_rr, f4_w b_qq 0, 0, sp, fd)).2.2.2.2.1 ∧ sv = (rn_w (sb_w ops nums sz gg fc fl fb fs np) lm (a_rr, bg_w b_rr, f4_w b_qq 0, 0, sp, fd)).2.2.2.2.2.1 ∧ fv = (rn_w (sb_w ops nums sz gg fc fl fb fs np) lm (a_rr, bg_w b_rr, f4_w b_qq 0, 0, sp, fd)).2.2.2.2.2.2 from (by rw [← hF]; exact ⟨rfl, rfl, rfl, rfl, rfl, rfl, rfl⟩)) (hP.sub (ws' := [(x0, .inr (0, [.int (nI lm), .ref pg, .ref a_cp, .ref b_cp, .ref pn, .ref gv, .ref sh, .int bg, .int lt, .int em, .int sv, .int fv])), (pg, .inr (3, [.ref oa, .ref na, .int sz])), (oa, .inl (cI, 100, .inl ops)), (na, .inl (cI, 100, .inl nums)), (b_cp, .inr (1, [.long 58659, .ref b_rw, .ref b_po, .int pv])), (b_rw, .inl (cL, 18, .inr (.inl rb))), (b_po, .inl (cL, 4, .inr (.inl qv))), (a_cp, .inr (1, [.long 1, .ref a_rw, .ref a_po, .int a_pl])), (a_rw, .inl (cL, 18, .inr (.inl ra))), (pn, .inr (2, [.ref ka, .ref kb, .ref kc, .ref kd, .int (nI np)])), (ka, .inl (cI, 4, .inl fc)), (kb, .inl (cI, 4, .inl fl)), (kc, .inl (cI, 4, .inl fb)), (kd, .inl (cI, 4, .inl fs)), (gv, .inl (cI, 4, .inl gg))]) [0, 1, 2, 3, 12, 13, 14, 4, 5, 6, 7, 8, 9, 10, 11] rfl) (hD.sub (ws' := [(x0, .inr (0, [.int (nI lm), .ref pg, .ref a_cp, .ref b_cp, .ref pn, .ref gv, .ref sh, .int bg, .int lt, .int em, .int sv, .int fv])), (pg, .inr (3, [.ref oa, .ref na, .int sz])), (oa, .inl (cI, 100, .inl ops)), (na, .inl (cI, 100, .inl nums)), (b_cp, .inr (1, [.long 58659, .ref b_rw, .ref b_po, .int pv])), (b_rw, .inl (cL, 18, .inr (.inl rb))), (b_po, .inl (cL, 4, .inr (.inl qv))), (a_cp, .inr (1, [.long 1, .ref a_rw, .ref a_po, .int a_pl])), (a_rw, .inl (cL, 18, .inr (.inl ra))), (pn, .inr (2, [.ref ka, .ref kb, .ref kc, .ref kd, .int (nI np)])), (ka, .inl (cI, 4, .inl fc)), (kb, .inl (cI, 4, .inl fl)), (kc, .inl (cI, 4, .inl fb)), (kd, .inl (cI, 4, .inl fs)), (gv, .inl (cI, 4, .inl gg))]) [0, 1, 2, 3, 12, 13, 14, 4, 5, 6, 7, 8, 9, 10, 11] (by decide) rfl) hS d_Gate_runToItsEnd_62
      · exact absurd (nI_le (by omega) (by omega)) c_5
    | succ n ih =>
      intro k ra rb qv pv sv fv H locs ls hn hF hP hD hS hl
      refine lv_iload_n hx hb d_Gate_runToItsEnd_6 rfl (lv_at hl 2 rfl) ?_
      refine lv_aload_n hx hb d_Gate_runToItsEnd_7 rfl (lv_at hl 0 rfl) ?_
      refine va_get (D := (dC, dI)) (ci := 0) (v := .int (nI lm)) (C := R_Gate) (T := F_Gate) (N := 12) hx hb htb iw_Gate hown hK.1 hP 0 rfl rfl 0 (by decide) (htb _ tw_118) (fun _ h9 => h9) rfl d_Gate_runToItsEnd_8 ?_
      refine lv_icmp_ge (tgt := 61) hx hb d_Gate_runToItsEnd_11 (by decide) (fun c_6 => ?_) (fun c_6 => ?_)
      · exact absurd c_6 (nI_ge (by omega) (by omega))
      · skip
        refine lv_aload_n hx hb d_Gate_runToItsEnd_14 rfl (lv_at hl 0 rfl) ?_
        refine af_v (wr := [(pg, .inr (3, [.ref oa, .ref na, .int sz])), (oa, .inl (cI, 100, .inl ops)), (na, .inl (cI, 100, .inl nums)), (gv, .inl (cI, 4, .inl gg)), (b_po, .inl (cL, 4, .inr (.inl qv)))]) (va_runV (As := []) (rest := []) ⟨hx, hb, hml, hown, htb⟩ (c_Gate_doFlipsAhead l dC dI cI cL H.size x0 lm pg a_cp b_cp pn gv sh bg lt em sv fv a_rw a_po ra a_pl b_rw b_po rb pv ka kb kc kd fc fl fb fs np hnp hpl) ⟨callB_of 0 htb (gd_w tw_192) rfl rfl rfl (htb _ tw_20) (htb _ tw_189) (by decide +kernel) ⟨Nat.le_of_ble_eq_true rfl, Nat.le_of_ble_eq_true rfl⟩, htb _ tw_191, htb _ tw_2⟩ (pv_V hK (hP.sub (ws' := [(x0, .inr (0, [.int (nI lm), .ref pg, .ref a_cp, .ref b_cp, .ref pn, .ref gv, .ref sh, .int bg, .int lt, .int em, .int sv, .int fv])), (a_cp, .inr (1, [.long 1, .ref a_rw, .ref a_po, .int a_pl])), (a_rw, .inl (cL, 18, .inr (.inl ra))), (b_cp, .inr (1, [.long 58659, .ref b_rw, .ref b_po, .int pv])), (b_rw, .inl (cL, 18, .inr (.inl rb))), (pn, .inr (2, [.ref ka, .ref kb, .ref kc, .ref kd, .int (nI np)])), (ka, .inl (cI, 4, .inl fc)), (kb, .inl (cI, 4, .inl fl)), (kc, .inl (cI, 4, .inl fb)), (kd, .inl (cI, 4, .inl fs))]) [0, 4, 5, 12, 13, 6, 7, 8, 9, 10] rfl) (hD.sub (ws' := [(x0, .inr (0, [.int (nI lm), .ref pg, .ref a_cp, .ref b_cp, .ref pn, .ref gv, .ref sh, .int bg, .int lt, .int em, .int sv, .int fv])), (a_cp, .inr (1, [.long 1, .ref a_rw, .ref a_po, .int a_pl])), (a_rw, .inl (cL, 18, .inr (.inl ra))), (b_cp, .inr (1, [.long 58659, .ref b_rw, .ref b_po, .int pv])), (b_rw, .inl (cL, 18, .inr (.inl rb))), (pn, .inr (2, [.ref ka, .ref kb, .ref kc, .ref kd, .int (nI np)])), (ka, .inl (cI, 4, .inl fc)), (kb, .inl (cI, 4, .inl fl)), (kc, .inl (cI, 4, .inl fb)), (kd, .inl (cI, 4, .inl fs))]) [0, 4, 5, 12, 13, 6, 7, 8, 9, 10] (by decide) rfl) (ci := 0) (q0 := 0) rfl rfl) rfl rfl hl.1 rfl (lv_room (Nat.le_of_ble_eq_true rfl)) d_Gate_runToItsEnd_15 ⟨Nat.le_of_ble_eq_true rfl, Nat.le_of_ble_eq_true rfl⟩) hP hD hS hA [0, 4, 5, 12, 13, 6, 7, 8, 9, 10] [1, 2, 3, 11, 14] rfl rfl (by decide) (by decide) (fun u_8 H locs hw hP hD hS => ?_)
        obtain ⟨z_9, z_10, z_11⟩ := u_8
        try dsimp only at hw
        obtain ⟨rfl, rfl, rfl⟩ := hw
        have hP : va_P (dC, dI) classes [(pg, .inr (3, [.ref oa, .ref na, .int sz])), (oa, .inl (cI, 100, .inl ops)), (na, .inl (cI, 100, .inl nums)), (gv, .inl (cI, 4, .inl gg)), (b_po, .inl (cL, 4, .inr (.inl qv))), (x0, .inr (0, [.int (nI lm), .ref pg, .ref a_cp, .ref b_cp, .ref pn, .ref gv, .ref sh, .int bg, .int lt, .int em, .int sv, .int ((fl_w fc fl fb fs sv np 0 ra rb fv).2.2)])), (a_cp, .inr (1, [.long 1, .ref a_rw, .ref a_po, .int a_pl])), (a_rw, .inl (cL, 18, .inr (.inl ((fl_w fc fl fb fs sv np 0 ra rb fv).1)))), (b_cp, .inr (1, [.long 58659, .ref b_rw, .ref b_po, .int pv])), (b_rw, .inl (cL, 18, .inr (.inl ((fl_w fc fl fb fs sv np 0 ra rb fv).2.1)))), (pn, .inr (2, [.ref ka, .ref kb, .ref kc, .ref kd, .int (nI np)])), (ka, .inl (cI, 4, .inl fc)), (kb, .inl (cI, 4, .inl fl)), (kc, .inl (cI, 4, .inl fb)), (kd, .inl (cI, 4, .inl fs))] H := hP
        have hD : va_D A [(pg, .inr (3, [.ref oa, .ref na, .int sz])), (oa, .inl (cI, 100, .inl ops)), (na, .inl (cI, 100, .inl nums)), (gv, .inl (cI, 4, .inl gg)), (b_po, .inl (cL, 4, .inr (.inl qv))), (x0, .inr (0, [.int (nI lm), .ref pg, .ref a_cp, .ref b_cp, .ref pn, .ref gv, .ref sh, .int bg, .int lt, .int em, .int sv, .int ((fl_w fc fl fb fs sv np 0 ra rb fv).2.2)])), (a_cp, .inr (1, [.long 1, .ref a_rw, .ref a_po, .int a_pl])), (a_rw, .inl (cL, 18, .inr (.inl ((fl_w fc fl fb fs sv np 0 ra rb fv).1)))), (b_cp, .inr (1, [.long 58659, .ref b_rw, .ref b_po, .int pv])), (b_rw, .inl (cL, 18, .inr (.inl ((fl_w fc fl fb fs sv np 0 ra rb fv).2.1)))), (pn, .inr (2, [.ref ka, .ref kb, .ref kc, .ref kd, .int (nI np)])), (ka, .inl (cI, 4, .inl fc)), (kb, .inl (cI, 4, .inl fl)), (kc, .inl (cI, 4, .inl fb)), (kd, .inl (cI, 4, .inl fs))] := hD
        refine lv_aload_n hx hb d_Gate_runToItsEnd_18 rfl (lv_at hl 0 rfl) ?_
        refine lv_dup hx hb d_Gate_runToItsEnd_19 rfl ?_
        refine va_get (D := (dC, dI)) (ci := 0) (v := .int sv) (C := R_Gate) (T := F_Gate) (N := 12) hx hb htb iw_Gate hown hK.1 hP 5 rfl rfl 10 (by decide) (htb _ tw_128) (fun _ h9 => h9) rfl d_Gate_runToItsEnd_20 ?_
        refine lv_iconst (v := 1) hx hb d_Gate_runToItsEnd_23 (by decide) ?_
        refine lv_iadd hx hb d_Gate_runToItsEnd_24 ?_
        refine va_put (D := (dC, dI)) (ci := 0) (v := .int (sv + 1)) (ty := .int) (C := R_Gate) (T := F_Gate) (N := 12) hx hb htb iw_Gate t_Gate t_Gate_ok n_Gate hown hK.1 hP hD hS 5 rfl rfl 10 (by decide) (htb _ tw_128) (fun _ h9 => h9) rfl (by decide +kernel) rfl rfl (Nat.le_of_ble_eq_true rfl) d_Gate_runToItsEnd_25 (fun H locs hP hD hS => ?_)
        have hP : va_P (dC, dI) classes [(pg, .inr (3, [.ref oa, .ref na, .int sz])), (oa, .inl (cI, 100, .inl ops)), (na, .inl (cI, 100, .inl nums)), (gv, .inl (cI, 4, .inl gg)), (b_po, .inl (cL, 4, .inr (.inl qv))), (x0, .inr (0, [.int (nI lm), .ref pg, .ref a_cp, .ref b_cp, .ref pn, .ref gv, .ref sh, .int bg, .int lt, .int em, .int (sv + 1), .int ((fl_w fc fl fb fs sv np 0 ra rb fv).2.2)])), (a_cp, .inr (1, [.long 1, .ref a_rw, .ref a_po, .int a_pl])), (a_rw, .inl (cL, 18, .inr (.inl ((fl_w fc fl fb fs sv np 0 ra rb fv).1)))), (b_cp, .inr (1, [.long 58659, .ref b_rw, .ref b_po, .int pv])), (b_rw, .inl (cL, 18, .inr (.inl ((fl_w fc fl fb fs sv np 0 ra rb fv).2.1)))), (pn, .inr (2, [.ref ka, .ref kb, .ref kc, .ref kd, .int (nI np)])), (ka, .inl (cI, 4, .inl fc)), (kb, .inl (cI, 4, .inl fl)), (kc, .inl (cI, 4, .inl fb)), (kd, .inl (cI, 4, .inl fs))] H := hP
        have hD : va_D A [(pg, .inr (3, [.ref oa, .ref na, .int sz])), (oa, .inl (cI, 100, .inl ops)), (na, .inl (cI, 100, .inl nums)), (gv, .inl (cI, 4, .inl gg)), (b_po, .inl (cL, 4, .inr (.inl qv))), (x0, .inr (0, [.int (nI lm), .ref pg, .ref a_cp, .ref b_cp, .ref pn, .ref gv, .ref sh, .int bg, .int lt, .int em, .int (sv + 1), .int ((fl_w fc fl fb fs sv np 0 ra rb fv).2.2)])), (a_cp, .inr (1, [.long 1, .ref a_rw, .ref a_po, .int a_pl])), (a_rw, .inl (cL, 18, .inr (.inl ((fl_w fc fl fb fs sv np 0 ra rb fv).1)))), (b_cp, .inr (1, [.long 58659, .ref b_rw, .ref b_po, .int pv])), (b_rw, .inl (cL, 18, .inr (.inl ((fl_w fc fl fb fs sv np 0 ra rb fv).2.1)))), (pn, .inr (2, [.ref ka, .ref kb, .ref kc, .ref kd, .int (nI np)])), (ka, .inl (cI, 4, .inl fc)), (kb, .inl (cI, 4, .inl fl)), (kc, .inl (cI, 4, .inl fb)), (kd, .inl (cI, 4, .inl fs))] := hD
        refine lv_aload_n hx hb d_Gate_runToItsEnd_28 rfl (lv_at hl 1 rfl) ?_
        refine lv_aload_n hx hb d_Gate_runToItsEnd_29 rfl (lv_at hl 0 rfl) ?_
        refine va_get (D := (dC, dI)) (ci := 0) (v := .ref pg) (C := R_Gate) (T := F_Gate) (N := 12) hx hb htb iw_Gate hown hK.1 hP 5 rfl rfl 1 (by decide) (htb _ tw_119) (fun _ h9 => h9) rfl d_Gate_runToItsEnd_30 ?_
        refine lv_aload_n hx hb d_Gate_runToItsEnd_33 rfl (lv_at hl 0 rfl) ?_
        refine va_get (D := (dC, dI)) (ci := 0) (v := .ref gv) (C := R_Gate) (T := F_Gate) (N := 12) hx hb htb iw_Gate hown hK.1 hP 5 rfl rfl 5 (by decide) (htb _ tw_123) (fun _ h9 => h9) rfl d_Gate_runToItsEnd_34 ?_
        refine af_i (wr := [(x0, .inr (0, [.int (nI lm), .ref pg, .ref a_cp, .ref b_cp, .ref pn, .ref gv, .ref sh, .int bg, .int lt, .int em, .int (sv + 1), .int ((fl_w fc fl fb fs sv np 0 ra rb fv).2.2)])), (a_cp, .inr (1, [.long 1, .ref a_rw, .ref a_po, .int a_pl])), (a_rw, .inl (cL, 18, .inr (.inl ((fl_w fc fl fb fs sv np 0 ra rb fv).1)))), (pn, .inr (2, [.ref ka, .ref kb, .ref kc, .ref kd, .int (nI np)])), (ka, .inl (cI, 4, .inl fc)), (kb, .inl (cI, 4, .inl fl)), (kc, .inl (cI, 4, .inl fb)), (kd, .inl (cI, 4, .inl fs))]) (va_runV (As := [.ref pg, .ref gv]) (rest := []) ⟨hx, hb, hml, hown, htb⟩ (c_Copy_doStep l dC dI cI cL H.size b_cp b_rw b_po 58659 ((fl_w fc fl fb fs sv np 0 ra rb fv).2.1) qv pv pg oa na ops nums sz gv gg hz hok) ⟨callB_of 2 htb (gd_w tw_200) rfl rfl rfl (htb _ tw_22) (htb _ tw_197) (by decide +kernel) ⟨Nat.le_of_ble_eq_true rfl, Nat.le_of_ble_eq_true rfl⟩, htb _ tw_198, htb _ tw_199⟩ (pv_V hK (hP.sub (ws' := [(b_cp, .inr (1, [.long 58659, .ref b_rw, .ref b_po, .int pv])), (b_rw, .inl (cL, 18, .inr (.inl ((fl_w fc fl fb fs sv np 0 ra rb fv).2.1)))), (b_po, .inl (cL, 4, .inr (.inl qv))), (pg, .inr (3, [.ref oa, .ref na, .int sz])), (oa, .inl (cI, 100, .inl ops)), (na, .inl (cI, 100, .inl nums)), (gv, .inl (cI, 4, .inl gg))]) [8, 9, 4, 0, 1, 2, 3] rfl) (hD.sub (ws' := [(b_cp, .inr (1, [.long 58659, .ref b_rw, .ref b_po, .int pv])), (b_rw, .inl (cL, 18, .inr (.inl ((fl_w fc fl fb fs sv np 0 ra rb fv).2.1)))), (b_po, .inl (cL, 4, .inr (.inl qv))), (pg, .inr (3, [.ref oa, .ref na, .int sz])), (oa, .inl (cI, 100, .inl ops)), (na, .inl (cI, 100, .inl nums)), (gv, .inl (cI, 4, .inl gg))]) [8, 9, 4, 0, 1, 2, 3] (by decide) rfl) (ci := 1) (q0 := 0) rfl rfl) rfl rfl hl.1 rfl (lv_room (Nat.le_of_ble_eq_true rfl)) d_Gate_runToItsEnd_37 ⟨Nat.le_of_ble_eq_true rfl, Nat.le_of_ble_eq_true rfl⟩) hP hD hS hA [8, 9, 4, 0, 1, 2, 3] [5, 6, 7, 10, 11, 12, 13, 14] rfl rfl (by decide) (by decide) (fun r_12 u_13 H locs hw hP hD hS => ?_)
        obtain ⟨z_14, z_15, z_16⟩ := u_13
        try dsimp only at hw
        obtain ⟨rfl, rfl, rfl, rfl⟩ := hw
        have hP : va_P (dC, dI) classes [(x0, .inr (0, [.int (nI lm), .ref pg, .ref a_cp, .ref b_cp, .ref pn, .ref gv, .ref sh, .int bg, .int lt, .int em, .int (sv + 1), .int ((fl_w fc fl fb fs sv np 0 ra rb fv).2.2)])), (a_cp, .inr (1, [.long 1, .ref a_rw, .ref a_po, .int a_pl])), (a_rw, .inl (cL, 18, .inr (.inl ((fl_w fc fl fb fs sv np 0 ra rb fv).1)))), (pn, .inr (2, [.ref ka, .ref kb, .ref kc, .ref kd, .int (nI np)])), (ka, .inl (cI, 4, .inl fc)), (kb, .inl (cI, 4, .inl fl)), (kc, .inl (cI, 4, .inl fb)), (kd, .inl (cI, 4, .inl fs)), (b_cp, .inr (1, [.long 58659, .ref b_rw, .ref b_po, .int ((ds_w 58659 ops nums sz gg ((fl_w fc fl fb fs sv np 0 ra rb fv).2.1) qv pv).2.2.2)])), (b_rw, .inl (cL, 18, .inr (.inl ((ds_w 58659 ops nums sz gg ((fl_w fc fl fb fs sv np 0 ra rb fv).2.1) qv pv).2.1)))), (b_po, .inl (cL, 4, .inr (.inl ((ds_w 58659 ops nums sz gg ((fl_w fc fl fb fs sv np 0 ra rb fv).2.1) qv pv).2.2.1)))), (pg, .inr (3, [.ref oa, .ref na, .int sz])), (oa, .inl (cI, 100, .inl ops)), (na, .inl (cI, 100, .inl nums)), (gv, .inl (cI, 4, .inl gg))] H := hP
        have hD : va_D A [(x0, .inr (0, [.int (nI lm), .ref pg, .ref a_cp, .ref b_cp, .ref pn, .ref gv, .ref sh, .int bg, .int lt, .int em, .int (sv + 1), .int ((fl_w fc fl fb fs sv np 0 ra rb fv).2.2)])), (a_cp, .inr (1, [.long 1, .ref a_rw, .ref a_po, .int a_pl])), (a_rw, .inl (cL, 18, .inr (.inl ((fl_w fc fl fb fs sv np 0 ra rb fv).1)))), (pn, .inr (2, [.ref ka, .ref kb, .ref kc, .ref kd, .int (nI np)])), (ka, .inl (cI, 4, .inl fc)), (kb, .inl (cI, 4, .inl fl)), (kc, .inl (cI, 4, .inl fb)), (kd, .inl (cI, 4, .inl fs)), (b_cp, .inr (1, [.long 58659, .ref b_rw, .ref b_po, .int ((ds_w 58659 ops nums sz gg ((fl_w fc fl fb fs sv np 0 ra rb fv).2.1) qv pv).2.2.2)])), (b_rw, .inl (cL, 18, .inr (.inl ((ds_w 58659 ops nums sz gg ((fl_w fc fl fb fs sv np 0 ra rb fv).2.1) qv pv).2.1)))), (b_po, .inl (cL, 4, .inr (.inl ((ds_w 58659 ops nums sz gg ((fl_w fc fl fb fs sv np 0 ra rb fv).2.1) qv pv).2.2.1)))), (pg, .inr (3, [.ref oa, .ref na, .int sz])), (oa, .inl (cI, 100, .inl ops)), (na, .inl (cI, 100, .inl nums)), (gv, .inl (cI, 4, .inl gg))] := hD
        refine lv_istore_n (lv' := [(3, .int ((ds_w 58659 ops nums sz gg ((fl_w fc fl fb fs sv np 0 ra rb fv).2.1) qv pv).1)), (0, .ref x0), (1, .ref b_cp), (2, .int (nI k))]) hx hb d_Gate_runToItsEnd_40 rfl hl (by decide) rfl (fun ls hl => ?_)
        refine lv_iload_n hx hb d_Gate_runToItsEnd_41 rfl (lv_at hl 0 rfl) ?_
        refine lv_iconst (v := 1) hx hb d_Gate_runToItsEnd_42 (by decide) ?_
        refine lv_icmp_ne (tgt := 48) hx hb d_Gate_runToItsEnd_43 (by decide) (fun c_17 => ?_) (fun c_17 => ?_)
        · have c_17 : ¬ ((ds_w 58659 ops nums sz gg ((fl_w fc fl fb fs sv np 0 ra rb fv).2.1) qv pv).1) = 1 := c_17
          refine lv_iload_n hx hb d_Gate_runToItsEnd_48 rfl (lv_at hl 0 rfl) ?_
          refine lv_iconst (v := 2) hx hb d_Gate_runToItsEnd_49 (by decide) ?_
          refine lv_icmp_ne (tgt := 55) hx hb d_Gate_runToItsEnd_50 (by decide) (fun c_18 => ?_) (fun c_18 => ?_)
          · have c_18 : ¬ ((ds_w 58659 ops nums sz gg ((fl_w fc fl fb fs sv np 0 ra rb fv).2.1) qv pv).1) = 2 := c_18
            refine lv_iinc (v := nI (k + 1)) (lv' := [(2, .int (nI (k + 1))), (3, .int ((ds_w 58659 ops nums sz gg ((fl_w fc fl fb fs sv np 0 ra rb fv).2.1) qv pv).1)), (0, .ref x0), (1, .ref b_cp)]) hx hb d_Gate_runToItsEnd_55 hl (k := 3) rfl (nI_1 k) (by decide) rfl (fun ls hl => ?_)
            refine lv_goto (tgt := 6) hx hb d_Gate_runToItsEnd_58 (by decide) ?_
            exact ih (k + 1) ((fl_w fc fl fb fs sv np 0 ra rb fv).1) ((ds_w 58659 ops nums sz gg ((fl_w fc fl fb fs sv np 0 ra rb fv).2.1) qv pv).2.1) ((ds_w 58659 ops nums sz gg ((fl_w fc fl fb fs sv np 0 ra rb fv).2.1) qv pv).2.2.1) ((ds_w 58659 ops nums sz gg ((fl_w fc fl fb fs sv np 0 ra rb fv).2.1) qv pv).2.2.2) (sv + 1) ((fl_w fc fl fb fs sv np 0 ra rb fv).2.2) H locs ls (by omega) (by rw [← hF, rn_3 (show ¬ ((sb_w ops nums sz gg fc fl fb fs np) (ra, rb, qv, pv, sv, fv)).1 = 1 from c_17) (show ¬ ((sb_w ops nums sz gg fc fl fb fs np) (ra, rb, qv, pv, sv, fv)).1 = 2 from c_18)]; rfl) (hP.sub (ws' := [(x0, .inr (0, [.int (nI lm), .ref pg, .ref a_cp, .ref b_cp, .ref pn, .ref gv, .ref sh, .int bg, .int lt, .int em, .int (sv + 1), .int ((fl_w fc fl fb fs sv np 0 ra rb fv).2.2)])), (pg, .inr (3, [.ref oa, .ref na, .int sz])), (oa, .inl (cI, 100, .inl ops)), (na, .inl (cI, 100, .inl nums)), (a_cp, .inr (1, [.long 1, .ref a_rw, .ref a_po, .int a_pl])), (a_rw, .inl (cL, 18, .inr (.inl ((fl_w fc fl fb fs sv np 0 ra rb fv).1)))), (pn, .inr (2, [.ref ka, .ref kb, .ref kc, .ref kd, .int (nI np)])), (ka, .inl (cI, 4, .inl fc)), (kb, .inl (cI, 4, .inl fl)), (kc, .inl (cI, 4, .inl fb)), (kd, .inl (cI, 4, .inl fs)), (gv, .inl (cI, 4, .inl gg)), (b_cp, .inr (1, [.long 58659, .ref b_rw, .ref b_po, .int ((ds_w 58659 ops nums sz gg ((fl_w fc fl fb fs sv np 0 ra rb fv).2.1) qv pv).2.2.2)])), (b_rw, .inl (cL, 18, .inr (.inl ((ds_w 58659 ops nums sz gg ((fl_w fc fl fb fs sv np 0 ra rb fv).2.1) qv pv).2.1)))), (b_po, .inl (cL, 4, .inr (.inl ((ds_w 58659 ops nums sz gg ((fl_w fc fl fb fs sv np 0 ra rb fv).2.1) qv pv).2.2.1))))]) [0, 11, 12, 13, 1, 2, 3, 4, 5, 6, 7, 14, 8, 9, 10] rfl) (hD.sub (ws' := [(x0, .inr (0, [.int (nI lm), .ref pg, .ref a_cp, .ref b_cp, .ref pn, .ref gv, .ref sh, .int bg, .int lt, .int em, .int (sv + 1), .int ((fl_w fc fl fb fs sv np 0 ra rb fv).2.2)])), (pg, .inr (3, [.ref oa, .ref na, .int sz])), (oa, .inl (cI, 100, .inl ops)), (na, .inl (cI, 100, .inl nums)), (a_cp, .inr (1, [.long 1, .ref a_rw, .ref a_po, .int a_pl])), (a_rw, .inl (cL, 18, .inr (.inl ((fl_w fc fl fb fs sv np 0 ra rb fv).1)))), (pn, .inr (2, [.ref ka, .ref kb, .ref kc, .ref kd, .int (nI np)])), (ka, .inl (cI, 4, .inl fc)), (kb, .inl (cI, 4, .inl fl)), (kc, .inl (cI, 4, .inl fb)), (kd, .inl (cI, 4, .inl fs)), (gv, .inl (cI, 4, .inl gg)), (b_cp, .inr (1, [.long 58659, .ref b_rw, .ref b_po, .int ((ds_w 58659 ops nums sz gg ((fl_w fc fl fb fs sv np 0 ra rb fv).2.1) qv pv).2.2.2)])), (b_rw, .inl (cL, 18, .inr (.inl ((ds_w 58659 ops nums sz gg ((fl_w fc fl fb fs sv np 0 ra rb fv).2.1) qv pv).2.1)))), (b_po, .inl (cL, 4, .inr (.inl ((ds_w 58659 ops nums sz gg ((fl_w fc fl fb fs sv np 0 ra rb fv).2.1) qv pv).2.2.1))))]) [0, 11, 12, 13, 1, 2, 3, 4, 5, 6, 7, 14, 8, 9, 10] (by decide) rfl) hS (lv_sub hl [2, 3, 0] rfl)
          · have c_18 : ((ds_w 58659 ops nums sz gg ((fl_w fc fl fb fs sv np 0 ra rb fv).2.1) qv pv).1) = 2 := c_18
            refine lv_iconst (v := 1) hx hb d_Gate_runToItsEnd_53 (by decide) ?_
            exact rt_i (v := 1) ((fl_w fc fl fb fs sv np 0 ra rb fv).1, (ds_w 58659 ops nums sz gg ((fl_w fc fl fb fs sv np 0 ra rb fv).2.1) qv pv).2.1, (ds_w 58659 ops nums sz gg ((fl_w fc fl fb fs sv np 0 ra rb fv).2.1) qv pv).2.2.1, (ds_w 58659 ops nums sz gg ((fl_w fc fl fb fs sv np 0 ra rb fv).2.1) qv pv).2.2.2, sv + 1, (fl_w fc fl fb fs sv np 0 ra rb fv).2.2) hx hb hr hlocks (show (1 : Int32) = (rn_w (sb_w ops nums sz gg fc fl fb fs np) lm (a_rr, bg_w b_rr, f4_w b_qq 0, 0, sp, fd)).1 ∧ ((fl_w fc fl fb fs sv np 0 ra rb fv).1) = (rn_w (sb_w ops nums sz gg fc fl fb fs np) lm (a_rr, bg_w b_rr, f4_w b_qq 0, 0, sp, fd)).2.1 ∧ ((ds_w 58659 ops nums sz gg ((fl_w fc fl fb fs sv np 0 ra rb fv).2.1) qv pv).2.1) = (rn_w (sb_w ops nums sz gg fc fl fb fs np) lm (a_rr, bg_w b_rr, f4_w b_qq 0, 0, sp, fd)).2.2.1 ∧ ((ds_w 58659 ops nums sz gg ((fl_w fc fl fb fs sv np 0 ra rb fv).2.1) qv pv).2.2.1) = (rn_w (sb_w ops nums sz gg fc fl fb fs np) lm (a_rr, bg_w b_rr, f4_w b_qq 0, 0, sp, fd)).2.2.2.1 ∧ ((ds_w 58659 ops nums sz gg ((fl_w fc fl fb fs sv np 0 ra rb fv).2.1) qv pv).2.2.2) = (rn_w (sb_w ops nums sz gg fc fl fb fs np) lm (a_rr, bg_w b_rr, f4_w b_qq 0, 0, sp, fd)).2.2.2.2.1 ∧ (sv + 1) = (rn_w (sb_w ops nums sz gg fc fl fb fs np) lm (a_rr, bg_w b_rr, f4_w b_qq 0, 0, sp, fd)).2.2.2.2.2.1 ∧ ((fl_w fc fl fb fs sv np 0 ra rb fv).2.2) = (rn_w (sb_w ops nums sz gg fc fl fb fs np) lm (a_rr, bg_w b_rr, f4_w b_qq 0, 0, sp, fd)).2.2.2.2.2.2 from (by rw [← hF, rn_2 (show ¬ ((sb_w ops nums sz gg fc fl fb fs np) (ra, rb, qv, pv, sv, fv)).1 = 1 from c_17) (show ((sb_w ops nums sz gg fc fl fb fs np) (ra, rb, qv, pv, sv, fv)).1 = 2 from c_18)]; exact ⟨rfl, rfl, rfl, rfl, rfl, rfl, rfl⟩)) (hP.sub (ws' := [(x0, .inr (0, [.int (nI lm), .ref pg, .ref a_cp, .ref b_cp, .ref pn, .ref gv, .ref sh, .int bg, .int lt, .int em, .int (sv + 1), .int ((fl_w fc fl fb fs sv np 0 ra rb fv).2.2)])), (pg, .inr (3, [.ref oa, .ref na, .int sz])), (oa, .inl (cI, 100, .inl ops)), (na, .inl (cI, 100, .inl nums)), (b_cp, .inr (1, [.long 58659, .ref b_rw, .ref b_po, .int ((ds_w 58659 ops nums sz gg ((fl_w fc fl fb fs sv np 0 ra rb fv).2.1) qv pv).2.2.2)])), (b_rw, .inl (cL, 18, .inr (.inl ((ds_w 58659 ops nums sz gg ((fl_w fc fl fb fs sv np 0 ra rb fv).2.1) qv pv).2.1)))), (b_po, .inl (cL, 4, .inr (.inl ((ds_w 58659 ops nums sz gg ((fl_w fc fl fb fs sv np 0 ra rb fv).2.1) qv pv).2.2.1)))), (a_cp, .inr (1, [.long 1, .ref a_rw, .ref a_po, .int a_pl])), (a_rw, .inl (cL, 18, .inr (.inl ((fl_w fc fl fb fs sv np 0 ra rb fv).1)))), (pn, .inr (2, [.ref ka, .ref kb, .ref kc, .ref kd, .int (nI np)])), (ka, .inl (cI, 4, .inl fc)), (kb, .inl (cI, 4, .inl fl)), (kc, .inl (cI, 4, .inl fb)), (kd, .inl (cI, 4, .inl fs)), (gv, .inl (cI, 4, .inl gg))]) [0, 11, 12, 13, 8, 9, 10, 1, 2, 3, 4, 5, 6, 7, 14] rfl) (hD.sub (ws' := [(x0, .inr (0, [.int (nI lm), .ref pg, .ref a_cp, .ref b_cp, .ref pn, .ref gv, .ref sh, .int bg, .int lt, .int em, .int (sv + 1), .int ((fl_w fc fl fb fs sv np 0 ra rb fv).2.2)])), (pg, .inr (3, [.ref oa, .ref na, .int sz])), (oa, .inl (cI, 100, .inl ops)), (na, .inl (cI, 100, .inl nums)), (b_cp, .inr (1, [.long 58659, .ref b_rw, .ref b_po, .int ((ds_w 58659 ops nums sz gg ((fl_w fc fl fb fs sv np 0 ra rb fv).2.1) qv pv).2.2.2)])), (b_rw, .inl (cL, 18, .inr (.inl ((ds_w 58659 ops nums sz gg ((fl_w fc fl fb fs sv np 0 ra rb fv).2.1) qv pv).2.1)))), (b_po, .inl (cL, 4, .inr (.inl ((ds_w 58659 ops nums sz gg ((fl_w fc fl fb fs sv np 0 ra rb fv).2.1) qv pv).2.2.1)))), (a_cp, .inr (1, [.long 1, .ref a_rw, .ref a_po, .int a_pl])), (a_rw, .inl (cL, 18, .inr (.inl ((fl_w fc fl fb fs sv np 0 ra rb fv).1)))), (pn, .inr (2, [.ref ka, .ref kb, .ref kc, .ref kd, .int (nI np)])), (ka, .inl (cI, 4, .inl fc)), (kb, .inl (cI, 4, .inl fl)), (kc, .inl (cI, 4, .inl fb)), (kd, .inl (cI, 4, .inl fs)), (gv, .inl (cI, 4, .inl gg))]) [0, 11, 12, 13, 8, 9, 10, 1, 2, 3, 4, 5, 6, 7, 14] (by decide) rfl) hS d_Gate_runToItsEnd_54
        · have c_17 : ((ds_w 58659 ops nums sz gg ((fl_w fc fl fb fs sv np 0 ra rb fv).2.1) qv pv).1) = 1 := c_17
          refine lv_iconst (v := 0) hx hb d_Gate_runToItsEnd_46 (by decide) ?_
          exact rt_i (v := 0) ((fl_w fc fl fb fs sv np 0 ra rb fv).1, (ds_w 58659 ops nums sz gg ((fl_w fc fl fb fs sv np 0 ra rb fv).2.1) qv pv).2.1, (ds_w 58659 ops nums sz gg ((fl_w fc fl fb fs sv np 0 ra rb fv).2.1) qv pv).2.2.1, (ds_w 58659 ops nums sz gg ((fl_w fc fl fb fs sv np 0 ra rb fv).2.1) qv pv).2.2.2, sv + 1, (fl_w fc fl fb fs sv np 0 ra rb fv).2.2) hx hb hr hlocks (show (0 : Int32) = (rn_w (sb_w ops nums sz gg fc fl fb fs np) lm (a_rr, bg_w b_rr, f4_w b_qq 0, 0, sp, fd)).1 ∧ ((fl_w fc fl fb fs sv np 0 ra rb fv).1) = (rn_w (sb_w ops nums sz gg fc fl fb fs np) lm (a_rr, bg_w b_rr, f4_w b_qq 0, 0, sp, fd)).2.1 ∧ ((ds_w 58659 ops nums sz gg ((fl_w fc fl fb fs sv np 0 ra rb fv).2.1) qv pv).2.1) = (rn_w (sb_w ops nums sz gg fc fl fb fs np) lm (a_rr, bg_w b_rr, f4_w b_qq 0, 0, sp, fd)).2.2.1 ∧ ((ds_w 58659 ops nums sz gg ((fl_w fc fl fb fs sv np 0 ra rb fv).2.1) qv pv).2.2.1) = (rn_w (sb_w ops nums sz gg fc fl fb fs np) lm (a_rr, bg_w b_rr, f4_w b_qq 0, 0, sp, fd)).2.2.2.1 ∧ ((ds_w 58659 ops nums sz gg ((fl_w fc fl fb fs sv np 0 ra rb fv).2.1) qv pv).2.2.2) = (rn_w (sb_w ops nums sz gg fc fl fb fs np) lm (a_rr, bg_w b_rr, f4_w b_qq 0, 0, sp, fd)).2.2.2.2.1 ∧ (sv + 1) = (rn_w (sb_w ops nums sz gg fc fl fb fs np) lm (a_rr, bg_w b_rr, f4_w b_qq 0, 0, sp, fd)).2.2.2.2.2.1 ∧ ((fl_w fc fl fb fs sv np 0 ra rb fv).2.2) = (rn_w (sb_w ops nums sz gg fc fl fb fs np) lm (a_rr, bg_w b_rr, f4_w b_qq 0, 0, sp, fd)).2.2.2.2.2.2 from (by rw [← hF, rn_1 (show ((sb_w ops nums sz gg fc fl fb fs np) (ra, rb, qv, pv, sv, fv)).1 = 1 from c_17)]; exact ⟨rfl, rfl, rfl, rfl, rfl, rfl, rfl⟩)) (hP.sub (ws' := [(x0, .inr (0, [.int (nI lm), .ref pg, .ref a_cp, .ref b_cp, .ref pn, .ref gv, .ref sh, .int bg, .int lt, .int em, .int (sv + 1), .int ((fl_w fc fl fb fs sv np 0 ra rb fv).2.2)])), (pg, .inr (3, [.ref oa, .ref na, .int sz])), (oa, .inl (cI, 100, .inl ops)), (na, .inl (cI, 100, .inl nums)), (b_cp, .inr (1, [.long 58659, .ref b_rw, .ref b_po, .int ((ds_w 58659 ops nums sz gg ((fl_w fc fl fb fs sv np 0 ra rb fv).2.1) qv pv).2.2.2)])), (b_rw, .inl (cL, 18, .inr (.inl ((ds_w 58659 ops nums sz gg ((fl_w fc fl fb fs sv np 0 ra rb fv).2.1) qv pv).2.1)))), (b_po, .inl (cL, 4, .inr (.inl ((ds_w 58659 ops nums sz gg ((fl_w fc fl fb fs sv np 0 ra rb fv).2.1) qv pv).2.2.1)))), (a_cp, .inr (1, [.long 1, .ref a_rw, .ref a_po, .int a_pl])), (a_rw, .inl (cL, 18, .inr (.inl ((fl_w fc fl fb fs sv np 0 ra rb fv).1)))), (pn, .inr (2, [.ref ka, .ref kb, .ref kc, .ref kd, .int (nI np)])), (ka, .inl (cI, 4, .inl fc)), (kb, .inl (cI, 4, .inl fl)), (kc, .inl (cI, 4, .inl fb)), (kd, .inl (cI, 4, .inl fs)), (gv, .inl (cI, 4, .inl gg))]) [0, 11, 12, 13, 8, 9, 10, 1, 2, 3, 4, 5, 6, 7, 14] rfl) (hD.sub (ws' := [(x0, .inr (0, [.int (nI lm), .ref pg, .ref a_cp, .ref b_cp, .ref pn, .ref gv, .ref sh, .int bg, .int lt, .int em, .int (sv + 1), .int ((fl_w fc fl fb fs sv np 0 ra rb fv).2.2)])), (pg, .inr (3, [.ref oa, .ref na, .int sz])), (oa, .inl (cI, 100, .inl ops)), (na, .inl (cI, 100, .inl nums)), (b_cp, .inr (1, [.long 58659, .ref b_rw, .ref b_po, .int ((ds_w 58659 ops nums sz gg ((fl_w fc fl fb fs sv np 0 ra rb fv).2.1) qv pv).2.2.2)])), (b_rw, .inl (cL, 18, .inr (.inl ((ds_w 58659 ops nums sz gg ((fl_w fc fl fb fs sv np 0 ra rb fv).2.1) qv pv).2.1)))), (b_po, .inl (cL, 4, .inr (.inl ((ds_w 58659 ops nums sz gg ((fl_w fc fl fb fs sv np 0 ra rb fv).2.1) qv pv).2.2.1)))), (a_cp, .inr (1, [.long 1, .ref a_rw, .ref a_po, .int a_pl])), (a_rw, .inl (cL, 18, .inr (.inl ((fl_w fc fl fb fs sv np 0 ra rb fv).1)))), (pn, .inr (2, [.ref ka, .ref kb, .ref kc, .ref kd, .int (nI np)])), (ka, .inl (cI, 4, .inl fc)), (kb, .inl (cI, 4, .inl fl)), (kc, .inl (cI, 4, .inl fb)), (kd, .inl (cI, 4, .inl fs)), (gv, .inl (cI, 4, .inl gg))]) [0, 11, 12, 13, 8, 9, 10, 1, 2, 3, 4, 5, 6, 7, 14] (by decide) rfl) hS d_Gate_runToItsEnd_47
  exact lp_0 lm 0 a_rr (bg_w b_rr) (f4_w b_qq 0) 0 sp fd H _ ls (by omega) rfl (hP.sub (ws' := [(x0, .inr (0, [.int (nI lm), .ref pg, .ref a_cp, .ref b_cp, .ref pn, .ref gv, .ref sh, .int bg, .int lt, .int em, .int sp, .int fd])), (pg, .inr (3, [.ref oa, .ref na, .int sz])), (oa, .inl (cI, 100, .inl ops)), (na, .inl (cI, 100, .inl nums)), (a_cp, .inr (1, [.long 1, .ref a_rw, .ref a_po, .int a_pl])), (a_rw, .inl (cL, 18, .inr (.inl a_rr))), (pn, .inr (2, [.ref ka, .ref kb, .ref kc, .ref kd, .int (nI np)])), (ka, .inl (cI, 4, .inl fc)), (kb, .inl (cI, 4, .inl fl)), (kc, .inl (cI, 4, .inl fb)), (kd, .inl (cI, 4, .inl fs)), (gv, .inl (cI, 4, .inl gg)), (b_cp, .inr (1, [.long 58659, .ref b_rw, .ref b_po, .int 0])), (b_rw, .inl (cL, 18, .inr (.inl (bg_w b_rr)))), (b_po, .inl (cL, 4, .inr (.inl (f4_w b_qq 0))))]) [0, 1, 2, 3, 4, 5, 6, 7, 8, 9, 10, 11, 12, 13, 14] rfl) (hD.sub (ws' := [(x0, .inr (0, [.int (nI lm), .ref pg, .ref a_cp, .ref b_cp, .ref pn, .ref gv, .ref sh, .int bg, .int lt, .int em, .int sp, .int fd])), (pg, .inr (3, [.ref oa, .ref na, .int sz])), (oa, .inl (cI, 100, .inl ops)), (na, .inl (cI, 100, .inl nums)), (a_cp, .inr (1, [.long 1, .ref a_rw, .ref a_po, .int a_pl])), (a_rw, .inl (cL, 18, .inr (.inl a_rr))), (pn, .inr (2, [.ref ka, .ref kb, .ref kc, .ref kd, .int (nI np)])), (ka, .inl (cI, 4, .inl fc)), (kb, .inl (cI, 4, .inl fl)), (kc, .inl (cI, 4, .inl fb)), (kd, .inl (cI, 4, .inl fs)), (gv, .inl (cI, 4, .inl gg)), (b_cp, .inr (1, [.long 58659, .ref b_rw, .ref b_po, .int 0])), (b_rw, .inl (cL, 18, .inr (.inl (bg_w b_rr)))), (b_po, .inl (cL, 4, .inr (.inl (f4_w b_qq 0))))]) [0, 1, 2, 3, 4, 5, 6, 7, 8, 9, 10, 11, 12, 13, 14] (by decide) rfl) hS (lv_sub hl [1, 2, 0] rfl)
end
section
/-- a whole cycle: its answer; begun, latched, emitted, steps, flips done; rows; ports and place of both; plans; what is shown -/
abbrev sz_w : Type := Int32 × Int32 × Int32 × Int32 × Int32 × (Nat → Int64) × (Nat → Int64) × (Nat → Int64) × Int32 × (Nat → Int64) × Int32 × Nat × (Nat → Int32)
def cy_w (fa fb : sx_w → Int32 × sx_w) (lm : Nat) (bg lt em sp fd : Int32) (ra rb qa : Nat → Int64) (pla : Int32) (qb : Nat → Int64) (plb : Int32) (np : Nat) (ss : Nat → Int32) : Int32 × sz_w :=
  if lt = 0 then
    (if (rb_w fa fb lm ra rb qa qb plb 0 fd).1 = 0 then
      (1, 1, (rb_w fa fb lm ra rb qa qb plb 0 fd).1, em + 1, (rb_w fa fb lm ra rb qa qb plb 0 fd).2.2.2.2.2.2.2.1, (rb_w fa fb lm ra rb qa qb plb 0 fd).2.2.2.2.2.2.2.2, (rb_w fa fb lm ra rb qa qb plb 0 fd).2.1, (rb_w fa fb lm ra rb qa qb plb 0 fd).2.2.1, (rb_w fa fb lm ra rb qa qb plb 0 fd).2.2.2.1, (rb_w fa fb lm ra rb qa qb plb 0 fd).2.2.2.2.1, (rb_w fa fb lm ra rb qa qb plb 0 fd).2.2.2.2.2.1, (rb_w fa fb lm ra rb qa qb plb 0 fd).2.2.2.2.2.2.1, 0, e4_w ss (rb_w fa fb lm ra rb qa qb plb 0 fd).2.2.2.1)
    else
      (0, 1, (rb_w fa fb lm ra rb qa qb plb 0 fd).1, em, (rb_w fa fb lm ra rb qa qb plb 0 fd).2.2.2.2.2.2.2.1, (rb_w fa fb lm ra rb qa qb plb 0 fd).2.2.2.2.2.2.2.2, (rb_w fa fb lm ra rb qa qb plb 0 fd).2.1, (rb_w fa fb lm ra rb qa qb plb 0 fd).2.2.1, (rb_w fa fb lm ra rb qa qb plb 0 fd).2.2.2.1, (rb_w fa fb lm ra rb qa qb plb 0 fd).2.2.2.2.1, (rb_w fa fb lm ra rb qa qb plb 0 fd).2.2.2.2.2.1, (rb_w fa fb lm ra rb qa qb plb 0 fd).2.2.2.2.2.2.1, 0, g4_w ss 0))
  else (0, bg, lt, em, sp, fd, ra, rb, qa, pla, qb, plb, np, ss)
def fu_w (np : Nat) : Int32 := if nI np < 4 then 0 else 1
def gu_w (sz : Int32) : Int32 := if sz < 100 then 0 else 1
theorem fu_01 (np : Nat) : fu_w np = 0 ∨ fu_w np = 1 := by
  unfold fu_w
  split
  · exact Or.inl rfl
  · exact Or.inr rfl
theorem fu_lt {np : Nat} (h : fu_w np = 0) (hn : np ≤ 4) : np < 4 := by
  unfold fu_w at h
  by_cases h1 : nI np < 4
  · exact (nI_ltI (a := np) (b := 4) (by omega) (by decide)).mp h1
  · rw [if_neg h1] at h; exact absurd h (by decide)
/-- flip: its answer -/
def fp_w (c l b s lt : Int32) (np : Nat) : Int32 := if bl_w c 2 = 0 then 0 else if bl_w l 18 = 0 then 0 else if bl_w b 64 = 0 then 0 else if 0 ≤ s then (if lt = 0 then (if fu_w np = 0 then 1 else 0) else 0) else 0
def gi_w (p v : Int32) : Int32 := if bl_w p 4 = 0 then 0 else if wb_w v = 0 then 0 else 1
def ou_w (p : Int32) (ss : Nat → Int32) : Int32 := if bl_w p 4 = 0 then -1 else ss p.toNatClampNeg
def co_w (w : Int32) (sz em lt sp : Int32) (np : Nat) (fd : Int32) (lm : Nat) : Int32 := if w = 0 then sz else if w = 1 then em else if w = 2 then lt else if w = 3 then sp else if w = 4 then nI np else if w = 5 then fd else if w = 6 then nI lm else -1
theorem bl_use {x e : Int32} {N : Nat} (he : e.toInt = N) (h : ¬ bl_w x e = 0) : vp_in x N := bl_vp e he (by rcases bl_01 x e with q | q; exact absurd q h; exact q)
end
section
theorem tw_72 : (Cond.fieldLink R_Gate 180 "TwinGate$Copy" "ports" "[J") ∈ TB_w := List.mem_filter.mpr ⟨List.mem_of_getElem? (i := 72) (by decide +kernel), by decide +kernel⟩
theorem tw_84 : (Cond.constantLong R_Gate 25 58659) ∈ TB_w := List.mem_filter.mpr ⟨List.mem_of_getElem? (i := 84) (by decide +kernel), by decide +kernel⟩
theorem tw_124 : (Cond.fieldLink R_Gate 41 "TwinGate" "shown" "[I") ∈ TB_w := List.mem_filter.mpr ⟨List.mem_of_getElem? (i := 124) (by decide +kernel), by decide +kernel⟩
theorem tw_127 : (Cond.fieldLink R_Gate 52 "TwinGate" "emittedCycles" "I") ∈ TB_w := List.mem_filter.mpr ⟨List.mem_of_getElem? (i := 127) (by decide +kernel), by decide +kernel⟩
theorem tw_99 : (Cond.fieldLink R_Plan 24 "TwinGate$FlipPlan" "size" "I") ∈ TB_w := List.mem_filter.mpr ⟨List.mem_of_getElem? (i := 99) (by decide +kernel), by decide +kernel⟩
theorem tw_51 : (Cond.fieldLink R_Prog 18 "TwinGate$Program" "size" "I") ∈ TB_w := List.mem_filter.mpr ⟨List.mem_of_getElem? (i := 51) (by decide +kernel), by decide +kernel⟩
theorem tw_47 : (Cond.fieldLink R_Prog 9 "TwinGate$Program" "ops" "[I") ∈ TB_w := List.mem_filter.mpr ⟨List.mem_of_getElem? (i := 47) (by decide +kernel), by decide +kernel⟩
theorem tw_49 : (Cond.fieldLink R_Prog 15 "TwinGate$Program" "numbers" "[I") ∈ TB_w := List.mem_filter.mpr ⟨List.mem_of_getElem? (i := 49) (by decide +kernel), by decide +kernel⟩
theorem tw_91 : (Cond.fieldLink R_Plan 9 "TwinGate$FlipPlan" "copies" "[I") ∈ TB_w := List.mem_filter.mpr ⟨List.mem_of_getElem? (i := 91) (by decide +kernel), by decide +kernel⟩
theorem tw_93 : (Cond.fieldLink R_Plan 15 "TwinGate$FlipPlan" "cells" "[I") ∈ TB_w := List.mem_filter.mpr ⟨List.mem_of_getElem? (i := 93) (by decide +kernel), by decide +kernel⟩
theorem tw_95 : (Cond.fieldLink R_Plan 18 "TwinGate$FlipPlan" "bits" "[I") ∈ TB_w := List.mem_filter.mpr ⟨List.mem_of_getElem? (i := 95) (by decide +kernel), by decide +kernel⟩
theorem tw_97 : (Cond.fieldLink R_Plan 21 "TwinGate$FlipPlan" "steps" "[I") ∈ TB_w := List.mem_filter.mpr ⟨List.mem_of_getElem? (i := 97) (by decide +kernel), by decide +kernel⟩
set_option maxHeartbeats 4000000 in
set_option maxRecDepth 100000 in
theorem c_Gate_copiesAgree (l : Launch) (dC : Nat → ClassId) (dI : Nat → Nat → Nat) (cI cL : ClassId) (hs0 : Nat) (x0 : Nat) (lm : Nat) (pg : Nat) (a_cp : Nat) (b_cp : Nat) (pn : Nat) (gv : Nat) (sh : Nat) (bg : Int32) (lt : Int32) (em : Int32) (sp : Int32) (fd : Int32) (a_rw : Nat) (a_po : Nat) (a_qq : Nat → Int64) (a_pl : Int32) (b_rw : Nat) (b_po : Nat) (b_qq : Nat → Int64) (b_pl : Int32)  : ct_i l y_Gate_copiesAgree b_Gate_copiesAgree 4 (some .boolean) ({ frames := 0, cells := 0, slots := 0, locals := 0 }) (dC, dI) cI cL [.ref x0] [(x0, .inr (0, [.int (nI lm), .ref pg, .ref a_cp, .ref b_cp, .ref pn, .ref gv, .ref sh, .int bg, .int lt, .int em, .int sp, .int fd])), (a_cp, .inr (1, [.long 1, .ref a_rw, .ref a_po, .int a_pl])), (a_po, .inl (cL, 4, .inr (.inl a_qq))), (b_cp, .inr (1, [.long 58659, .ref b_rw, .ref b_po, .int b_pl])), (b_po, .inl (cL, 4, .inr (.inl b_qq)))] hs0 (fun (r : Int32) (u : Unit) => r = ca_w a_qq b_qq) (fun u => [(x0, .inr (0, [.int (nI lm), .ref pg, .ref a_cp, .ref b_cp, .ref pn, .ref gv, .ref sh, .int bg, .int lt, .int em, .int sp, .int fd])), (a_cp, .inr (1, [.long 1, .ref a_rw, .ref a_po, .int a_pl])), (a_po, .inl (cL, 4, .inr (.inl a_qq))), (b_cp, .inr (1, [.long 58659, .ref b_rw, .ref b_po, .int b_pl])), (b_po, .inl (cL, 4, .inr (.inl b_qq)))]) 0 0 := by
  refine st_w (Qc := fun A => va_Qi (fun (r : Int32) (u : Unit) => r = ca_w a_qq b_qq) (fun (u : Unit) t => pos_w (dC, dI) A [(x0, .inr (0, [.int (nI lm), .ref pg, .ref a_cp, .ref b_cp, .ref pn, .ref gv, .ref sh, .int bg, .int lt, .int em, .int sp, .int fd])), (a_cp, .inr (1, [.long 1, .ref a_rw, .ref a_po, .int a_pl])), (a_po, .inl (cL, 4, .inr (.inl a_qq))), (b_cp, .inr (1, [.long 58659, .ref b_rw, .ref b_po, .int b_pl])), (b_po, .inl (cL, 4, .inr (.inl b_qq)))] t) A) (by decide) (Nat.le_of_ble_eq_true rfl) ?_
  intro p e s m below meth c A ls hfx hK hA hP hD hS hl
  obtain ⟨hx, hb, hml, hown, htb, hr, hlocks, hin⟩ := hfx
  have hl : lv_has ls 4 [(0, .ref x0)] := hl
  refine lv_iconst (v := 0) hx hb d_Gate_copiesAgree_0 (by decide) ?_
  refine lv_istore_n (lv' := [(1, .int 0), (0, .ref x0)]) hx hb d_Gate_copiesAgree_1 rfl hl (by decide) rfl (fun ls hl => ?_)
  refine lv_iload_n hx hb d_Gate_copiesAgree_2 rfl (lv_at hl 0 rfl) ?_
  refine lv_iconst (v := 4) hx hb d_Gate_copiesAgree_3 (by decide) ?_
  refine lv_icmp_ge (tgt := 51) hx hb d_Gate_copiesAgree_4 (by decide) (fun c_1 => ?_) (fun c_1 => ?_)
  · exact absurd c_1 (by decide)
  · skip
    refine lv_aload_n hx hb d_Gate_copiesAgree_7 rfl (lv_at hl 1 rfl) ?_
    refine va_get (D := (dC, dI)) (ci := 0) (v := .ref a_cp) (C := R_Gate) (T := F_Gate) (N := 12) hx hb htb iw_Gate hown hK.1 hP 0 rfl rfl 2 (by decide) (htb _ tw_120) (fun _ h9 => h9) rfl d_Gate_copiesAgree_8 ?_
    refine va_get (D := (dC, dI)) (ci := 1) (v := .ref a_po) (C := R_Copy) (T := F_Copy) (N := 4) hx hb htb iw_Copy hown hK.1 hP 1 rfl rfl 2 (by decide) (htb _ tw_72) (fun _ h9 => h9) rfl d_Gate_copiesAgree_11 ?_
    refine lv_iload_n hx hb d_Gate_copiesAgree_14 rfl (lv_at hl 0 rfl) ?_
    refine ld_l (v := a_qq 0) (cA := cL) hx hb hK.1 hP 2 1 rfl rfl (show ¬ (_ ∨ _) by decide) rfl d_Gate_copiesAgree_15 ?_
    refine lv_lstore_n (lv' := [(2, .long (a_qq 0)), (1, .int 0), (0, .ref x0)]) hx hb d_Gate_copiesAgree_16 rfl hl (by decide) rfl (fun ls hl => ?_)
    refine lv_lload_n hx hb d_Gate_copiesAgree_17 rfl (lv_at hl 0 rfl) ?_
    refine lv_lload_n hx hb d_Gate_copiesAgree_18 rfl (lv_at hl 0 rfl) ?_
    refine lv_l2i (v := (a_qq 0).toInt32) hx hb d_Gate_copiesAgree_19 rfl ?_
    refine lv_i2l (v := ((a_qq 0).toInt32).toInt64) hx hb d_Gate_copiesAgree_20 (by first | rfl | decide) ?_
    refine W.lcmp hx hb d_Gate_copiesAgree_21 ?_
    refine lv_if_ne (tgt := 43) hx hb d_Gate_copiesAgree_22 (by decide) (fun c_2 => ?_) (fun c_2 => ?_)
    · have c_2 : ¬ (lg_cmp (a_qq 0) (((a_qq 0).toInt32).toInt64)) = 0 := c_2
      rw [lc_eq] at c_2
      refine lv_iconst (v := 0) hx hb d_Gate_copiesAgree_43 (by decide) ?_
      exact rt_z (v := 0) () hx hb hr hlocks (by decide) (show (0 : Int32) = ca_w a_qq b_qq from (by simp only [ca_w, if_neg c_2, and_self])) (hP.sub (ws' := [(x0, .inr (0, [.int (nI lm), .ref pg, .ref a_cp, .ref b_cp, .ref pn, .ref gv, .ref sh, .int bg, .int lt, .int em, .int sp, .int fd])), (a_cp, .inr (1, [.long 1, .ref a_rw, .ref a_po, .int a_pl])), (a_po, .inl (cL, 4, .inr (.inl a_qq))), (b_cp, .inr (1, [.long 58659, .ref b_rw, .ref b_po, .int b_pl])), (b_po, .inl (cL, 4, .inr (.inl b_qq)))]) [0, 1, 2, 3, 4] rfl) (hD.sub (ws' := [(x0, .inr (0, [.int (nI lm), .ref pg, .ref a_cp, .ref b_cp, .ref pn, .ref gv, .ref sh, .int bg, .int lt, .int em, .int sp, .int fd])), (a_cp, .inr (1, [.long 1, .ref a_rw, .ref a_po, .int a_pl])), (a_po, .inl (cL, 4, .inr (.inl a_qq))), (b_cp, .inr (1, [.long 58659, .ref b_rw, .ref b_po, .int b_pl])), (b_po, .inl (cL, 4, .inr (.inl b_qq)))]) [0, 1, 2, 3, 4] (by decide) rfl) hS d_Gate_copiesAgree_44
    · have c_2 : (lg_cmp (a_qq 0) (((a_qq 0).toInt32).toInt64)) = 0 := c_2
      rw [lc_eq] at c_2
      refine lv_lload_n hx hb d_Gate_copiesAgree_25 rfl (lv_at hl 0 rfl) ?_
      refine lv_ldc2 (v := 58659) hx hb hown (htb _ tw_84) d_Gate_copiesAgree_26 ?_
      refine lv_lmul hx hb d_Gate_copiesAgree_29 ?_
      refine lv_aload_n hx hb d_Gate_copiesAgree_30 rfl (lv_at hl 2 rfl) ?_
      refine va_get (D := (dC, dI)) (ci := 0) (v := .ref b_cp) (C := R_Gate) (T := F_Gate) (N := 12) hx hb htb iw_Gate hown hK.1 hP 0 rfl rfl 3 (by decide) (htb _ tw_121) (fun _ h9 => h9) rfl d_Gate_copiesAgree_31 ?_
      refine va_get (D := (dC, dI)) (ci := 1) (v := .ref b_po) (C := R_Copy) (T := F_Copy) (N := 4) hx hb htb iw_Copy hown hK.1 hP 3 rfl rfl 2 (by decide) (htb _ tw_72) (fun _ h9 => h9) rfl d_Gate_copiesAgree_34 ?_
      refine lv_iload_n hx hb d_Gate_copiesAgree_37 rfl (lv_at hl 1 rfl) ?_
      refine ld_l (v := b_qq 0) (cA := cL) hx hb hK.1 hP 4 1 rfl rfl (show ¬ (_ ∨ _) by decide) rfl d_Gate_copiesAgree_38 ?_
      refine W.lcmp hx hb d_Gate_copiesAgree_39 ?_
      refine lv_if_eq (tgt := 45) hx hb d_Gate_copiesAgree_40 (by decide) (fun c_3 => ?_) (fun c_3 => ?_)
      · have c_3 : (lg_cmp ((a_qq 0) * 58659) (b_qq 0)) = 0 := c_3
        rw [lc_eq] at c_3
        refine lv_iinc (v := 1) (lv' := [(1, .int 1), (2, .long (a_qq 0)), (0, .ref x0)]) hx hb d_Gate_copiesAgree_45 hl (k := 1) rfl (by first | rfl | decide) (by decide) rfl (fun ls hl => ?_)
        refine lv_goto (tgt := 2) hx hb d_Gate_copiesAgree_48 (by decide) ?_
        refine lv_iload_n hx hb d_Gate_copiesAgree_2 rfl (lv_at hl 0 rfl) ?_
        refine lv_iconst (v := 4) hx hb d_Gate_copiesAgree_3 (by decide) ?_
        refine lv_icmp_ge (tgt := 51) hx hb d_Gate_copiesAgree_4 (by decide) (fun c_4 => ?_) (fun c_4 => ?_)
        · exact absurd c_4 (by decide)
        · skip
          refine lv_aload_n hx hb d_Gate_copiesAgree_7 rfl (lv_at hl 2 rfl) ?_
          refine va_get (D := (dC, dI)) (ci := 0) (v := .ref a_cp) (C := R_Gate) (T := F_Gate) (N := 12) hx hb htb iw_Gate hown hK.1 hP 0 rfl rfl 2 (by decide) (htb _ tw_120) (fun _ h9 => h9) rfl d_Gate_copiesAgree_8 ?_
          refine va_get (D := (dC, dI)) (ci := 1) (v := .ref a_po) (C := R_Copy) (T := F_Copy) (N := 4) hx hb htb iw_Copy hown hK.1 hP 1 rfl rfl 2 (by decide) (htb _ tw_72) (fun _ h9 => h9) rfl d_Gate_copiesAgree_11 ?_
          refine lv_iload_n hx hb d_Gate_copiesAgree_14 rfl (lv_at hl 0 rfl) ?_
          refine ld_l (v := a_qq 1) (cA := cL) hx hb hK.1 hP 2 1 rfl rfl (show ¬ (_ ∨ _) by decide) rfl d_Gate_copiesAgree_15 ?_
          refine lv_lstore_n (lv' := [(2, .long (a_qq 1)), (1, .int 1), (0, .ref x0)]) hx hb d_Gate_copiesAgree_16 rfl hl (by decide) rfl (fun ls hl => ?_)
          refine lv_lload_n hx hb d_Gate_copiesAgree_17 rfl (lv_at hl 0 rfl) ?_
          refine lv_lload_n hx hb d_Gate_copiesAgree_18 rfl (lv_at hl 0 rfl) ?_
          refine lv_l2i (v := (a_qq 1).toInt32) hx hb d_Gate_copiesAgree_19 rfl ?_
          refine lv_i2l (v := ((a_qq 1).toInt32).toInt64) hx hb d_Gate_copiesAgree_20 (by first | rfl | decide) ?_
          refine W.lcmp hx hb d_Gate_copiesAgree_21 ?_
          refine lv_if_ne (tgt := 43) hx hb d_Gate_copiesAgree_22 (by decide) (fun c_5 => ?_) (fun c_5 => ?_)
          · have c_5 : ¬ (lg_cmp (a_qq 1) (((a_qq 1).toInt32).toInt64)) = 0 := c_5
            rw [lc_eq] at c_5
            refine lv_iconst (v := 0) hx hb d_Gate_copiesAgree_43 (by decide) ?_
            exact rt_z (v := 0) () hx hb hr hlocks (by decide) (show (0 : Int32) = ca_w a_qq b_qq from (by simp only [ca_w, if_pos c_2, if_pos c_3, if_neg c_5, and_self])) (hP.sub (ws' := [(x0, .inr (0, [.int (nI lm), .ref pg, .ref a_cp, .ref b_cp, .ref pn, .ref gv, .ref sh, .int bg, .int lt, .int em, .int sp, .int fd])), (a_cp, .inr (1, [.long 1, .ref a_rw, .ref a_po, .int a_pl])), (a_po, .inl (cL, 4, .inr (.inl a_qq))), (b_cp, .inr (1, [.long 58659, .ref b_rw, .ref b_po, .int b_pl])), (b_po, .inl (cL, 4, .inr (.inl b_qq)))]) [0, 1, 2, 3, 4] rfl) (hD.sub (ws' := [(x0, .inr (0, [.int (nI lm), .ref pg, .ref a_cp, .ref b_cp, .ref pn, .ref gv, .ref sh, .int bg, .int lt, .int em, .int sp, .int fd])), (a_cp, .inr (1, [.long 1, .ref a_rw, .ref a_po, .int a_pl])), (a_po, .inl (cL, 4, .inr (.inl a_qq))), (b_cp, .inr (1, [.long 58659, .ref b_rw, .ref b_po, .int b_pl])), (b_po, .inl (cL, 4, .inr (.inl b_qq)))]) [0, 1, 2, 3, 4] (by decide) rfl) hS d_Gate_copiesAgree_44
          · have c_5 : (lg_cmp (a_qq 1) (((a_qq 1).toInt32).toInt64)) = 0 := c_5
            rw [lc_eq] at c_5
            refine lv_lload_n hx hb d_Gate_copiesAgree_25 rfl (lv_at hl 0 rfl) ?_
            refine lv_ldc2 (v := 58659) hx hb hown (htb _ tw_84) d_Gate_copiesAgree_26 ?_
            refine lv_lmul hx hb d_Gate_copiesAgree_29 ?_
            refine lv_aload_n hx hb d_Gate_copiesAgree_30 rfl (lv_at hl 2 rfl) ?_
            refine va_get (D := (dC, dI)) (ci := 0) (v := .ref b_cp) (C := R_Gate) (T := F_Gate) (N := 12) hx hb htb iw_Gate hown hK.1 hP 0 rfl rfl 3 (by decide) (htb _ tw_121) (fun _ h9 => h9) rfl d_Gate_copiesAgree_31 ?_
            refine va_get (D := (dC, dI)) (ci := 1) (v := .ref b_po) (C := R_Copy) (T := F_Copy) (N := 4) hx hb htb iw_Copy hown hK.1 hP 3 rfl rfl 2 (by decide) (htb _ tw_72) (fun _ h9 => h9) rfl d_Gate_copiesAgree_34 ?_
            refine lv_iload_n hx hb d_Gate_copiesAgree_37 rfl (lv_at hl 1 rfl) ?_
            refine ld_l (v := b_qq 1) (cA := cL) hx hb hK.1 hP 4 1 rfl rfl (show ¬ (_ ∨ _) by decide) rfl d_Gate_copiesAgree_38 ?_
            refine W.lcmp hx hb d_Gate_copiesAgree_39 ?_
            refine lv_if_eq (tgt := 45) hx hb d_Gate_copiesAgree_40 (by decide) (fun c_6 => ?_) (fun c_6 => ?_)
            · have c_6 : (lg_cmp ((a_qq 1) * 58659) (b_qq 1)) = 0 := c_6
              rw [lc_eq] at c_6
              refine lv_iinc (v := 2) (lv' := [(1, .int 2), (2, .long (a_qq 1)), (0, .ref x0)]) hx hb d_Gate_copiesAgree_45 hl (k := 1) rfl (by first | rfl | decide) (by decide) rfl (fun ls hl => ?_)
              refine lv_goto (tgt := 2) hx hb d_Gate_copiesAgree_48 (by decide) ?_
              refine lv_iload_n hx hb d_Gate_copiesAgree_2 rfl (lv_at hl 0 rfl) ?_
              refine lv_iconst (v := 4) hx hb d_Gate_copiesAgree_3 (by decide) ?_
              refine lv_icmp_ge (tgt := 51) hx hb d_Gate_copiesAgree_4 (by decide) (fun c_7 => ?_) (fun c_7 => ?_)
              · exact absurd c_7 (by decide)
              · skip
                refine lv_aload_n hx hb d_Gate_copiesAgree_7 rfl (lv_at hl 2 rfl) ?_
                refine va_get (D := (dC, dI)) (ci := 0) (v := .ref a_cp) (C := R_Gate) (T := F_Gate) (N := 12) hx hb htb iw_Gate hown hK.1 hP 0 rfl rfl 2 (by decide) (htb _ tw_120) (fun _ h9 => h9) rfl d_Gate_copiesAgree_8 ?_
                refine va_get (D := (dC, dI)) (ci := 1) (v := .ref a_po) (C := R_Copy) (T := F_Copy) (N := 4) hx hb htb iw_Copy hown hK.1 hP 1 rfl rfl 2 (by decide) (htb _ tw_72) (fun _ h9 => h9) rfl d_Gate_copiesAgree_11 ?_
                refine lv_iload_n hx hb d_Gate_copiesAgree_14 rfl (lv_at hl 0 rfl) ?_
                refine ld_l (v := a_qq 2) (cA := cL) hx hb hK.1 hP 2 1 rfl rfl (show ¬ (_ ∨ _) by decide) rfl d_Gate_copiesAgree_15 ?_
                refine lv_lstore_n (lv' := [(2, .long (a_qq 2)), (1, .int 2), (0, .ref x0)]) hx hb d_Gate_copiesAgree_16 rfl hl (by decide) rfl (fun ls hl => ?_)
                refine lv_lload_n hx hb d_Gate_copiesAgree_17 rfl (lv_at hl 0 rfl) ?_
                refine lv_lload_n hx hb d_Gate_copiesAgree_18 rfl (lv_at hl 0 rfl) ?_
                refine lv_l2i (v := (a_qq 2).toInt32) hx hb d_Gate_copiesAgree_19 rfl ?_
                refine lv_i2l (v := ((a_qq 2).toInt32).toInt64) hx hb d_Gate_copiesAgree_20 (by first | rfl | decide) ?_
                refine W.lcmp hx hb d_Gate_copiesAgree_21 ?_
                refine lv_if_ne (tgt := 43) hx hb d_Gate_copiesAgree_22 (by decide) (fun c_8 => ?_) (fun c_8 => ?_)
                · have c_8 : ¬ (lg_cmp (a_qq 2) (((a_qq 2).toInt32).toInt64)) = 0 := c_8
                  rw [lc_eq] at c_8
                  refine lv_iconst (v := 0) hx hb d_Gate_copiesAgree_43 (by decide) ?_
                  exact rt_z (v := 0) () hx hb hr hlocks (by decide) (show (0 : Int32) = ca_w a_qq b_qq from (by simp only [ca_w, if_pos c_2, if_pos c_3, if_pos c_5, if_pos c_6, if_neg c_8, and_self])) (hP.sub (ws' := [(x0, .inr (0, [.int (nI lm), .ref pg, .ref a_cp, .ref b_cp, .ref pn, .ref gv, .ref sh, .int bg, .int lt, .int em, .int sp, .int fd])), (a_cp, .inr (1, [.long 1, .ref a_rw, .ref a_po, .int a_pl])), (a_po, .inl (cL, 4, .inr (.inl a_qq))), (b_cp, .inr (1, [.long 58659, .ref b_rw, .ref b_po, .int b_pl])), (b_po, .inl (cL, 4, .inr (.inl b_qq)))]) [0, 1, 2, 3, 4] rfl) (hD.sub (ws' := [(x0, .inr (0, [.int (nI lm), .ref pg, .ref a_cp, .ref b_cp, .ref pn, .ref gv, .ref sh, .int bg, .int lt, .int em, .int sp, .int fd])), (a_cp, .inr (1, [.long 1, .ref a_rw, .ref a_po, .int a_pl])), (a_po, .inl (cL, 4, .inr (.inl a_qq))), (b_cp, .inr (1, [.long 58659, .ref b_rw, .ref b_po, .int b_pl])), (b_po, .inl (cL, 4, .inr (.inl b_qq)))]) [0, 1, 2, 3, 4] (by decide) rfl) hS d_Gate_copiesAgree_44
                · have c_8 : (lg_cmp (a_qq 2) (((a_qq 2).toInt32).toInt64)) = 0 := c_8
                  rw [lc_eq] at c_8
                  refine lv_lload_n hx hb d_Gate_copiesAgree_25 rfl (lv_at hl 0 rfl) ?_
                  refine lv_ldc2 (v := 58659) hx hb hown (htb _ tw_84) d_Gate_copiesAgree_26 ?_
                  refine lv_lmul hx hb d_Gate_copiesAgree_29 ?_
                  refine lv_aload_n hx hb d_Gate_copiesAgree_30 rfl (lv_at hl 2 rfl) ?_
                  refine va_get (D := (dC, dI)) (ci := 0) (v := .ref b_cp) (C := R_Gate) (T := F_Gate) (N := 12) hx hb htb iw_Gate hown hK.1 hP 0 rfl rfl 3 (by decide) (htb _ tw_121) (fun _ h9 => h9) rfl d_Gate_copiesAgree_31 ?_
                  refine va_get (D := (dC, dI)) (ci := 1) (v := .ref b_po) (C := R_Copy) (T := F_Copy) (N := 4) hx hb htb iw_Copy hown hK.1 hP 3 rfl rfl 2 (by decide) (htb _ tw_72) (fun _ h9 => h9) rfl d_Gate_copiesAgree_34 ?_
                  refine lv_iload_n hx hb d_Gate_copiesAgree_37 rfl (lv_at hl 1 rfl) ?_
                  refine ld_l (v := b_qq 2) (cA := cL) hx hb hK.1 hP 4 1 rfl rfl (show ¬ (_ ∨ _) by decide) rfl d_Gate_copiesAgree_38 ?_
                  refine W.lcmp hx hb d_Gate_copiesAgree_39 ?_
                  refine lv_if_eq (tgt := 45) hx hb d_Gate_copiesAgree_40 (by decide) (fun c_9 => ?_) (fun c_9 => ?_)
                  · have c_9 : (lg_cmp ((a_qq 2) * 58659) (b_qq 2)) = 0 := c_9
                    rw [lc_eq] at c_9
                    refine lv_iinc (v := 3) (lv' := [(1, .int 3), (2, .long (a_qq 2)), (0, .ref x0)]) hx hb d_Gate_copiesAgree_45 hl (k := 1) rfl (by first | rfl | decide) (by decide) rfl (fun ls hl => ?_)
                    refine lv_goto (tgt := 2) hx hb d_Gate_copiesAgree_48 (by decide) ?_
                    refine lv_iload_n hx hb d_Gate_copiesAgree_2 rfl (lv_at hl 0 rfl) ?_
                    refine lv_iconst (v := 4) hx hb d_Gate_copiesAgree_3 (by decide) ?_
                    refine lv_icmp_ge (tgt := 51) hx hb d_Gate_copiesAgree_4 (by decide) (fun c_10 => ?_) (fun c_10 => ?_)
                    · exact absurd c_10 (by decide)
                    · skip
                      refine lv_aload_n hx hb d_Gate_copiesAgree_7 rfl (lv_at hl 2 rfl) ?_
                      refine va_get (D := (dC, dI)) (ci := 0) (v := .ref a_cp) (C := R_Gate) (T := F_Gate) (N := 12) hx hb htb iw_Gate hown hK.1 hP 0 rfl rfl 2 (by decide) (htb _ tw_120) (fun _ h9 => h9) rfl d_Gate_copiesAgree_8 ?_
                      refine va_get (D := (dC, dI)) (ci := 1) (v := .ref a_po) (C := R_Copy) (T := F_Copy) (N := 4) hx hb htb iw_Copy hown hK.1 hP 1 rfl rfl 2 (by decide) (htb _ tw_72) (fun _ h9 => h9) rfl d_Gate_copiesAgree_11 ?_
                      refine lv_iload_n hx hb d_Gate_copiesAgree_14 rfl (lv_at hl 0 rfl) ?_
                      refine ld_l (v := a_qq 3) (cA := cL) hx hb hK.1 hP 2 1 rfl rfl (show ¬ (_ ∨ _) by decide) rfl d_Gate_copiesAgree_15 ?_
                      refine lv_lstore_n (lv' := [(2, .long (a_qq 3)), (1, .int 3), (0, .ref x0)]) hx hb d_Gate_copiesAgree_16 rfl hl (by decide) rfl (fun ls hl => ?_)
                      refine lv_lload_n hx hb d_Gate_copiesAgree_17 rfl (lv_at hl 0 rfl) ?_
                      refine lv_lload_n hx hb d_Gate_copiesAgree_18 rfl (lv_at hl 0 rfl) ?_
                      refine lv_l2i (v := (a_qq 3).toInt32) hx hb d_Gate_copiesAgree_19 rfl ?_
                      refine lv_i2l (v := ((a_qq 3).toInt32).toInt64) hx hb d_Gate_copiesAgree_20 (by first | rfl | decide) ?_
                      refine W.lcmp hx hb d_Gate_copiesAgree_21 ?_
                      refine lv_if_ne (tgt := 43) hx hb d_Gate_copiesAgree_22 (by decide) (fun c_11 => ?_) (fun c_11 => ?_)
                      · have c_11 : ¬ (lg_cmp (a_qq 3) (((a_qq 3).toInt32).toInt64)) = 0 := c_11
                        rw [lc_eq] at c_11
                        refine lv_iconst (v := 0) hx hb d_Gate_copiesAgree_43 (by decide) ?_
                        exact rt_z (v := 0) () hx hb hr hlocks (by decide) (show (0 : Int32) = ca_w a_qq b_qq from (by simp only [ca_w, if_pos c_2, if_pos c_3, if_pos c_5, if_pos c_6, if_pos c_8, if_pos c_9, if_neg c_11, and_self])) (hP.sub (ws' := [(x0, .inr (0, [.int (nI lm), .ref pg, .ref a_cp, .ref b_cp, .ref pn, .ref gv, .ref sh, .int bg, .int lt, .int em, .int sp, .int fd])), (a_cp, .inr (1, [.long 1, .ref a_rw, .ref a_po, .int a_pl])), (a_po, .inl (cL, 4, .inr (.inl a_qq))), (b_cp, .inr (1, [.long 58659, .ref b_rw, .ref b_po, .int b_pl])), (b_po, .inl (cL, 4, .inr (.inl b_qq)))]) [0, 1, 2, 3, 4] rfl) (hD.sub (ws' := [(x0, .inr (0, [.int (nI lm), .ref pg, .ref a_cp, .ref b_cp, .ref pn, .ref gv, .ref sh, .int bg, .int lt, .int em, .int sp, .int fd])), (a_cp, .inr (1, [.long 1, .ref a_rw, .ref a_po, .int a_pl])), (a_po, .inl (cL, 4, .inr (.inl a_qq))), (b_cp, .inr (1, [.long 58659, .ref b_rw, .ref b_po, .int b_pl])), (b_po, .inl (cL, 4, .inr (.inl b_qq)))]) [0, 1, 2, 3, 4] (by decide) rfl) hS d_Gate_copiesAgree_44
                      · have c_11 : (lg_cmp (a_qq 3) (((a_qq 3).toInt32).toInt64)) = 0 := c_11
                        rw [lc_eq] at c_11
                        refine lv_lload_n hx hb d_Gate_copiesAgree_25 rfl (lv_at hl 0 rfl) ?_
                        refine lv_ldc2 (v := 58659) hx hb hown (htb _ tw_84) d_Gate_copiesAgree_26 ?_
                        refine lv_lmul hx hb d_Gate_copiesAgree_29 ?_
                        refine lv_aload_n hx hb d_Gate_copiesAgree_30 rfl (lv_at hl 2 rfl) ?_
                        refine va_get (D := (dC, dI)) (ci := 0) (v := .ref b_cp) (C := R_Gate) (T := F_Gate) (N := 12) hx hb htb iw_Gate hown hK.1 hP 0 rfl rfl 3 (by decide) (htb _ tw_121) (fun _ h9 => h9) rfl d_Gate_copiesAgree_31 ?_
                        refine va_get (D := (dC, dI)) (ci := 1) (v := .ref b_po) (C := R_Copy) (T := F_Copy) (N := 4) hx hb htb iw_Copy hown hK.1 hP 3 rfl rfl 2 (by decide) (htb _ tw_72) (fun _ h9 => h9) rfl d_Gate_copiesAgree_34 ?_
                        refine lv_iload_n hx hb d_Gate_copiesAgree_37 rfl (lv_at hl 1 rfl) ?_
                        refine ld_l (v := b_qq 3) (cA := cL) hx hb hK.1 hP 4 1 rfl rfl (show ¬ (_ ∨ _) by decide) rfl d_Gate_copiesAgree_38 ?_
                        refine W.lcmp hx hb d_Gate_copiesAgree_39 ?_
                        refine lv_if_eq (tgt := 45) hx hb d_Gate_copiesAgree_40 (by decide) (fun c_12 => ?_) (fun c_12 => ?_)
                        · have c_12 : (lg_cmp ((a_qq 3) * 58659) (b_qq 3)) = 0 := c_12
                          rw [lc_eq] at c_12
                          refine lv_iinc (v := 4) (lv' := [(1, .int 4), (2, .long (a_qq 3)), (0, .ref x0)]) hx hb d_Gate_copiesAgree_45 hl (k := 1) rfl (by first | rfl | decide) (by decide) rfl (fun ls hl => ?_)
                          refine lv_goto (tgt := 2) hx hb d_Gate_copiesAgree_48 (by decide) ?_
                          refine lv_iload_n hx hb d_Gate_copiesAgree_2 rfl (lv_at hl 0 rfl) ?_
                          refine lv_iconst (v := 4) hx hb d_Gate_copiesAgree_3 (by decide) ?_
                          refine lv_icmp_ge (tgt := 51) hx hb d_Gate_copiesAgree_4 (by decide) (fun c_13 => ?_) (fun c_13 => ?_)
                          · skip
                            refine lv_iconst (v := 1) hx hb d_Gate_copiesAgree_51 (by decide) ?_
                            exact rt_z (v := 1) () hx hb hr hlocks (by decide) (show (1 : Int32) = ca_w a_qq b_qq from (by simp only [ca_w, if_pos c_2, if_pos c_3, if_pos c_5, if_pos c_6, if_pos c_8, if_pos c_9, if_pos c_11, if_pos c_12, and_self])) (hP.sub (ws' := [(x0, .inr (0, [.int (nI lm), .ref pg, .ref a_cp, .ref b_cp, .ref pn, .ref gv, .ref sh, .int bg, .int lt, .int em, .int sp, .int fd])), (a_cp, .inr (1, [.long 1, .ref a_rw, .ref a_po, .int a_pl])), (a_po, .inl (cL, 4, .inr (.inl a_qq))), (b_cp, .inr (1, [.long 58659, .ref b_rw, .ref b_po, .int b_pl])), (b_po, .inl (cL, 4, .inr (.inl b_qq)))]) [0, 1, 2, 3, 4] rfl) (hD.sub (ws' := [(x0, .inr (0, [.int (nI lm), .ref pg, .ref a_cp, .ref b_cp, .ref pn, .ref gv, .ref sh, .int bg, .int lt, .int em, .int sp, .int fd])), (a_cp, .inr (1, [.long 1, .ref a_rw, .ref a_po, .int a_pl])), (a_po, .inl (cL, 4, .inr (.inl a_qq))), (b_cp, .inr (1, [.long 58659, .ref b_rw, .ref b_po, .int b_pl])), (b_po, .inl (cL, 4, .inr (.inl b_qq)))]) [0, 1, 2, 3, 4] (by decide) rfl) hS d_Gate_copiesAgree_52
                          · exact absurd (by decide) c_13
                        · have c_12 : ¬ (lg_cmp ((a_qq 3) * 58659) (b_qq 3)) = 0 := c_12
                          rw [lc_eq] at c_12
                          refine lv_iconst (v := 0) hx hb d_Gate_copiesAgree_43 (by decide) ?_
                          exact rt_z (v := 0) () hx hb hr hlocks (by decide) (show (0 : Int32) = ca_w a_qq b_qq from (by simp only [ca_w, if_pos c_2, if_pos c_3, if_pos c_5, if_pos c_6, if_pos c_8, if_pos c_9, if_pos c_11, if_neg c_12, and_self])) (hP.sub (ws' := [(x0, .inr (0, [.int (nI lm), .ref pg, .ref a_cp, .ref b_cp, .ref pn, .ref gv, .ref sh, .int bg, .int lt, .int em, .int sp, .int fd])), (a_cp, .inr (1, [.long 1, .ref a_rw, .ref a_po, .int a_pl])), (a_po, .inl (cL, 4, .inr (.inl a_qq))), (b_cp, .inr (1, [.long 58659, .ref b_rw, .ref b_po, .int b_pl])), (b_po, .inl (cL, 4, .inr (.inl b_qq)))]) [0, 1, 2, 3, 4] rfl) (hD.sub (ws' := [(x0, .inr (0, [.int (nI lm), .ref pg, .ref a_cp, .ref b_cp, .ref pn, .ref gv, .ref sh, .int bg, .int lt, .int em, .int sp, .int fd])), (a_cp, .inr (1, [.long 1, .ref a_rw, .ref a_po, .int a_pl])), (a_po, .inl (cL, 4, .inr (.inl a_qq))), (b_cp, .inr (1, [.long 58659, .ref b_rw, .ref b_po, .int b_pl])), (b_po, .inl (cL, 4, .inr (.inl b_qq)))]) [0, 1, 2, 3, 4] (by decide) rfl) hS d_Gate_copiesAgree_44
                  · have c_9 : ¬ (lg_cmp ((a_qq 2) * 58659) (b_qq 2)) = 0 := c_9
                    rw [lc_eq] at c_9
                    refine lv_iconst (v := 0) hx hb d_Gate_copiesAgree_43 (by decide) ?_
                    exact rt_z (v := 0) () hx hb hr hlocks (by decide) (show (0 : Int32) = ca_w a_qq b_qq from (by simp only [ca_w, if_pos c_2, if_pos c_3, if_pos c_5, if_pos c_6, if_pos c_8, if_neg c_9, and_self])) (hP.sub (ws' := [(x0, .inr (0, [.int (nI lm), .ref pg, .ref a_cp, .ref b_cp, .ref pn, .ref gv, .ref sh, .int bg, .int lt, .int em, .int sp, .int fd])), (a_cp, .inr (1, [.long 1, .ref a_rw, .ref a_po, .int a_pl])), (a_po, .inl (cL, 4, .inr (.inl a_qq))), (b_cp, .inr (1, [.long 58659, .ref b_rw, .ref b_po, .int b_pl])), (b_po, .inl (cL, 4, .inr (.inl b_qq)))]) [0, 1, 2, 3, 4] rfl) (hD.sub (ws' := [(x0, .inr (0, [.int (nI lm), .ref pg, .ref a_cp, .ref b_cp, .ref pn, .ref gv, .ref sh, .int bg, .int lt, .int em, .int sp, .int fd])), (a_cp, .inr (1, [.long 1, .ref a_rw, .ref a_po, .int a_pl])), (a_po, .inl (cL, 4, .inr (.inl a_qq))), (b_cp, .inr (1, [.long 58659, .ref b_rw, .ref b_po, .int b_pl])), (b_po, .inl (cL, 4, .inr (.inl b_qq)))]) [0, 1, 2, 3, 4] (by decide) rfl) hS d_Gate_copiesAgree_44
            · have c_6 : ¬ (lg_cmp ((a_qq 1) * 58659) (b_qq 1)) = 0 := c_6
              rw [lc_eq] at c_6
              refine lv_iconst (v := 0) hx hb d_Gate_copiesAgree_43 (by decide) ?_
              exact rt_z (v := 0) () hx hb hr hlocks (by decide) (show (0 : Int32) = ca_w a_qq b_qq from (by simp only [ca_w, if_pos c_2, if_pos c_3, if_pos c_5, if_neg c_6, and_self])) (hP.sub (ws' := [(x0, .inr (0, [.int (nI lm), .ref pg, .ref a_cp, .ref b_cp, .ref pn, .ref gv, .ref sh, .int bg, .int lt, .int em, .int sp, .int fd])), (a_cp, .inr (1, [.long 1, .ref a_rw, .ref a_po, .int a_pl])), (a_po, .inl (cL, 4, .inr (.inl a_qq))), (b_cp, .inr (1, [.long 58659, .ref b_rw, .ref b_po, .int b_pl])), (b_po, .inl (cL, 4, .inr (.inl b_qq)))]) [0, 1, 2, 3, 4] rfl) (hD.sub (ws' := [(x0, .inr (0, [.int (nI lm), .ref pg, .ref a_cp, .ref b_cp, .ref pn, .ref gv, .ref sh, .int bg, .int lt, .int em, .int sp, .int fd])), (a_cp, .inr (1, [.long 1, .ref a_rw, .ref a_po, .int a_pl])), (a_po, .inl (cL, 4, .inr (.inl a_qq))), (b_cp, .inr (1, [.long 58659, .ref b_rw, .ref b_po, .int b_pl])), (b_po, .inl (cL, 4, .inr (.inl b_qq)))]) [0, 1, 2, 3, 4] (by decide) rfl) hS d_Gate_copiesAgree_44
      · have c_3 : ¬ (lg_cmp ((a_qq 0) * 58659) (b_qq 0)) = 0 := c_3
        rw [lc_eq] at c_3
        refine lv_iconst (v := 0) hx hb d_Gate_copiesAgree_43 (by decide) ?_
        exact rt_z (v := 0) () hx hb hr hlocks (by decide) (show (0 : Int32) = ca_w a_qq b_qq from (by simp only [ca_w, if_pos c_2, if_neg c_3, and_self])) (hP.sub (ws' := [(x0, .inr (0, [.int (nI lm), .ref pg, .ref a_cp, .ref b_cp, .ref pn, .ref gv, .ref sh, .int bg, .int lt, .int em, .int sp, .int fd])), (a_cp, .inr (1, [.long 1, .ref a_rw, .ref a_po, .int a_pl])), (a_po, .inl (cL, 4, .inr (.inl a_qq))), (b_cp, .inr (1, [.long 58659, .ref b_rw, .ref b_po, .int b_pl])), (b_po, .inl (cL, 4, .inr (.inl b_qq)))]) [0, 1, 2, 3, 4] rfl) (hD.sub (ws' := [(x0, .inr (0, [.int (nI lm), .ref pg, .ref a_cp, .ref b_cp, .ref pn, .ref gv, .ref sh, .int bg, .int lt, .int em, .int sp, .int fd])), (a_cp, .inr (1, [.long 1, .ref a_rw, .ref a_po, .int a_pl])), (a_po, .inl (cL, 4, .inr (.inl a_qq))), (b_cp, .inr (1, [.long 58659, .ref b_rw, .ref b_po, .int b_pl])), (b_po, .inl (cL, 4, .inr (.inl b_qq)))]) [0, 1, 2, 3, 4] (by decide) rfl) hS d_Gate_copiesAgree_44

set_option maxHeartbeats 4000000 in
set_option maxRecDepth 100000 in
theorem c_Gate_emit (l : Launch) (dC : Nat → ClassId) (dI : Nat → Nat → Nat) (cI cL : ClassId) (hs0 : Nat) (x0 : Nat) (lm : Nat) (pg : Nat) (a_cp : Nat) (b_cp : Nat) (pn : Nat) (gv : Nat) (sh : Nat) (bg : Int32) (lt : Int32) (em : Int32) (sp : Int32) (fd : Int32) (a_rw : Nat) (a_po : Nat) (a_qq : Nat → Int64) (a_pl : Int32) (ss : Nat → Int32)  : ct_v l y_Gate_emit b_Gate_emit 2 none ({ frames := 0, cells := 0, slots := 0, locals := 0 }) (dC, dI) cI cL [.ref x0] [(x0, .inr (0, [.int (nI lm), .ref pg, .ref a_cp, .ref b_cp, .ref pn, .ref gv, .ref sh, .int bg, .int lt, .int em, .int sp, .int fd])), (sh, .inl (cI, 4, .inl ss)), (a_cp, .inr (1, [.long 1, .ref a_rw, .ref a_po, .int a_pl])), (a_po, .inl (cL, 4, .inr (.inl a_qq)))] hs0 (fun (u : (Nat → Int32) × Int32) => u.1 = e4_w ss a_qq ∧ u.2 = em + 1) (fun u => [(x0, .inr (0, [.int (nI lm), .ref pg, .ref a_cp, .ref b_cp, .ref pn, .ref gv, .ref sh, .int bg, .int lt, .int u.2, .int sp, .int fd])), (sh, .inl (cI, 4, .inl u.1)), (a_cp, .inr (1, [.long 1, .ref a_rw, .ref a_po, .int a_pl])), (a_po, .inl (cL, 4, .inr (.inl a_qq)))]) 0 0 := by
  refine st_w (Qc := fun A => va_Qv (fun (u : (Nat → Int32) × Int32) => u.1 = e4_w ss a_qq ∧ u.2 = em + 1) (fun (u : (Nat → Int32) × Int32) t => pos_w (dC, dI) A [(x0, .inr (0, [.int (nI lm), .ref pg, .ref a_cp, .ref b_cp, .ref pn, .ref gv, .ref sh, .int bg, .int lt, .int u.2, .int sp, .int fd])), (sh, .inl (cI, 4, .inl u.1)), (a_cp, .inr (1, [.long 1, .ref a_rw, .ref a_po, .int a_pl])), (a_po, .inl (cL, 4, .inr (.inl a_qq)))] t) A) (by decide) (Nat.le_of_ble_eq_true rfl) ?_
  intro p e s m below meth c A ls hfx hK hA hP hD hS hl
  obtain ⟨hx, hb, hml, hown, htb, hr, hlocks, hin⟩ := hfx
  have hl : lv_has ls 2 [(0, .ref x0)] := hl
  refine lv_iconst (v := 0) hx hb d_Gate_emit_0 (by decide) ?_
  refine lv_istore_n (lv' := [(1, .int 0), (0, .ref x0)]) hx hb d_Gate_emit_1 rfl hl (by decide) rfl (fun ls hl => ?_)
  refine lv_iload_n hx hb d_Gate_emit_2 rfl (lv_at hl 0 rfl) ?_
  refine lv_iconst (v := 4) hx hb d_Gate_emit_3 (by decide) ?_
  refine lv_icmp_ge (tgt := 29) hx hb d_Gate_emit_4 (by decide) (fun c_1 => ?_) (fun c_1 => ?_)
  · exact absurd c_1 (by decide)
  · skip
    refine lv_aload_n hx hb d_Gate_emit_7 rfl (lv_at hl 1 rfl) ?_
    refine va_get (D := (dC, dI)) (ci := 0) (v := .ref sh) (C := R_Gate) (T := F_Gate) (N := 12) hx hb htb iw_Gate hown hK.1 hP 0 rfl rfl 6 (by decide) (htb _ tw_124) (fun _ h9 => h9) rfl d_Gate_emit_8 ?_
    refine lv_iload_n hx hb d_Gate_emit_11 rfl (lv_at hl 0 rfl) ?_
    refine lv_aload_n hx hb d_Gate_emit_12 rfl (lv_at hl 1 rfl) ?_
    refine va_get (D := (dC, dI)) (ci := 0) (v := .ref a_cp) (C := R_Gate) (T := F_Gate) (N := 12) hx hb htb iw_Gate hown hK.1 hP 0 rfl rfl 2 (by decide) (htb _ tw_120) (fun _ h9 => h9) rfl d_Gate_emit_13 ?_
    refine va_get (D := (dC, dI)) (ci := 1) (v := .ref a_po) (C := R_Copy) (T := F_Copy) (N := 4) hx hb htb iw_Copy hown hK.1 hP 2 rfl rfl 2 (by decide) (htb _ tw_72) (fun _ h9 => h9) rfl d_Gate_emit_16 ?_
    refine lv_iload_n hx hb d_Gate_emit_19 rfl (lv_at hl 0 rfl) ?_
    refine ld_l (v := a_qq 0) (cA := cL) hx hb hK.1 hP 3 1 rfl rfl (show ¬ (_ ∨ _) by decide) rfl d_Gate_emit_20 ?_
    refine lv_l2i (v := (a_qq 0).toInt32) hx hb d_Gate_emit_21 rfl ?_
    refine sd_i (g := upd ss 0 ((a_qq 0).toInt32)) (cA := cI) hx hb hK.1 hP hD hS 1 0 rfl rfl (show ¬ (_ ∨ _) by decide) rfl d_Gate_emit_22 (fun H locs hP hD hS => ?_)
    have hP : va_P (dC, dI) classes [(x0, .inr (0, [.int (nI lm), .ref pg, .ref a_cp, .ref b_cp, .ref pn, .ref gv, .ref sh, .int bg, .int lt, .int em, .int sp, .int fd])), (sh, .inl (cI, 4, .inl (upd ss 0 ((a_qq 0).toInt32)))), (a_cp, .inr (1, [.long 1, .ref a_rw, .ref a_po, .int a_pl])), (a_po, .inl (cL, 4, .inr (.inl a_qq)))] H := hP
    have hD : va_D A [(x0, .inr (0, [.int (nI lm), .ref pg, .ref a_cp, .ref b_cp, .ref pn, .ref gv, .ref sh, .int bg, .int lt, .int em, .int sp, .int fd])), (sh, .inl (cI, 4, .inl (upd ss 0 ((a_qq 0).toInt32)))), (a_cp, .inr (1, [.long 1, .ref a_rw, .ref a_po, .int a_pl])), (a_po, .inl (cL, 4, .inr (.inl a_qq)))] := hD
    refine lv_iinc (v := 1) (lv' := [(1, .int 1), (0, .ref x0)]) hx hb d_Gate_emit_23 hl (k := 0) rfl (by first | rfl | decide) (by decide) rfl (fun ls hl => ?_)
    refine lv_goto (tgt := 2) hx hb d_Gate_emit_26 (by decide) ?_
    refine lv_iload_n hx hb d_Gate_emit_2 rfl (lv_at hl 0 rfl) ?_
    refine lv_iconst (v := 4) hx hb d_Gate_emit_3 (by decide) ?_
    refine lv_icmp_ge (tgt := 29) hx hb d_Gate_emit_4 (by decide) (fun c_2 => ?_) (fun c_2 => ?_)
    · exact absurd c_2 (by decide)
    · skip
      refine lv_aload_n hx hb d_Gate_emit_7 rfl (lv_at hl 1 rfl) ?_
      refine va_get (D := (dC, dI)) (ci := 0) (v := .ref sh) (C := R_Gate) (T := F_Gate) (N := 12) hx hb htb iw_Gate hown hK.1 hP 0 rfl rfl 6 (by decide) (htb _ tw_124) (fun _ h9 => h9) rfl d_Gate_emit_8 ?_
      refine lv_iload_n hx hb d_Gate_emit_11 rfl (lv_at hl 0 rfl) ?_
      refine lv_aload_n hx hb d_Gate_emit_12 rfl (lv_at hl 1 rfl) ?_
      refine va_get (D := (dC, dI)) (ci := 0) (v := .ref a_cp) (C := R_Gate) (T := F_Gate) (N := 12) hx hb htb iw_Gate hown hK.1 hP 0 rfl rfl 2 (by decide) (htb _ tw_120) (fun _ h9 => h9) rfl d_Gate_emit_13 ?_
      refine va_get (D := (dC, dI)) (ci := 1) (v := .ref a_po) (C := R_Copy) (T := F_Copy) (N := 4) hx hb htb iw_Copy hown hK.1 hP 2 rfl rfl 2 (by decide) (htb _ tw_72) (fun _ h9 => h9) rfl d_Gate_emit_16 ?_
      refine lv_iload_n hx hb d_Gate_emit_19 rfl (lv_at hl 0 rfl) ?_
      refine ld_l (v := a_qq 1) (cA := cL) hx hb hK.1 hP 3 1 rfl rfl (show ¬ (_ ∨ _) by decide) rfl d_Gate_emit_20 ?_
      refine lv_l2i (v := (a_qq 1).toInt32) hx hb d_Gate_emit_21 rfl ?_
      refine sd_i (g := upd (upd ss 0 ((a_qq 0).toInt32)) 1 ((a_qq 1).toInt32)) (cA := cI) hx hb hK.1 hP hD hS 1 0 rfl rfl (show ¬ (_ ∨ _) by decide) rfl d_Gate_emit_22 (fun H locs hP hD hS => ?_)
      have hP : va_P (dC, dI) classes [(x0, .inr (0, [.int (nI lm), .ref pg, .ref a_cp, .ref b_cp, .ref pn, .ref gv, .ref sh, .int bg, .int lt, .int em, .int sp, .int fd])), (sh, .inl (cI, 4, .inl (upd (upd ss 0 ((a_qq 0).toInt32)) 1 ((a_qq 1).toInt32)))), (a_cp, .inr (1, [.long 1, .ref a_rw, .ref a_po, .int a_pl])), (a_po, .inl (cL, 4, .inr (.inl a_qq)))] H := hP
      have hD : va_D A [(x0, .inr (0, [.int (nI lm), .ref pg, .ref a_cp, .ref b_cp, .ref pn, .ref gv, .ref sh, .int bg, .int lt, .int em, .int sp, .int fd])), (sh, .inl (cI, 4, .inl (upd (upd ss 0 ((a_qq 0).toInt32)) 1 ((a_qq 1).toInt32)))), (a_cp, .inr (1, [.long 1, .ref a_rw, .ref a_po, .int a_pl])), (a_po, .inl (cL, 4, .inr (.inl a_qq)))] := hD
      refine lv_iinc (v := 2) (lv' := [(1, .int 2), (0, .ref x0)]) hx hb d_Gate_emit_23 hl (k := 0) rfl (by first | rfl | decide) (by decide) rfl (fun ls hl => ?_)
      refine lv_goto (tgt := 2) hx hb d_Gate_emit_26 (by decide) ?_
      refine lv_iload_n hx hb d_Gate_emit_2 rfl (lv_at hl 0 rfl) ?_
      refine lv_iconst (v := 4) hx hb d_Gate_emit_3 (by decide) ?_
      refine lv_icmp_ge (tgt := 29) hx hb d_Gate_emit_4 (by decide) (fun c_3 => ?_) (fun c_3 => ?_)
      · exact absurd c_3 (by decide)
      · skip
        refine lv_aload_n hx hb d_Gate_emit_7 rfl (lv_at hl 1 rfl) ?_
        refine va_get (D := (dC, dI)) (ci := 0) (v := .ref sh) (C := R_Gate) (T := F_Gate) (N := 12) hx hb htb iw_Gate hown hK.1 hP 0 rfl rfl 6 (by decide) (htb _ tw_124) (fun _ h9 => h9) rfl d_Gate_emit_8 ?_
        refine lv_iload_n hx hb d_Gate_emit_11 rfl (lv_at hl 0 rfl) ?_
        refine lv_aload_n hx hb d_Gate_emit_12 rfl (lv_at hl 1 rfl) ?_
        refine va_get (D := (dC, dI)) (ci := 0) (v := .ref a_cp) (C := R_Gate) (T := F_Gate) (N := 12) hx hb htb iw_Gate hown hK.1 hP 0 rfl rfl 2 (by decide) (htb _ tw_120) (fun _ h9 => h9) rfl d_Gate_emit_13 ?_
        refine va_get (D := (dC, dI)) (ci := 1) (v := .ref a_po) (C := R_Copy) (T := F_Copy) (N := 4) hx hb htb iw_Copy hown hK.1 hP 2 rfl rfl 2 (by decide) (htb _ tw_72) (fun _ h9 => h9) rfl d_Gate_emit_16 ?_
        refine lv_iload_n hx hb d_Gate_emit_19 rfl (lv_at hl 0 rfl) ?_
        refine ld_l (v := a_qq 2) (cA := cL) hx hb hK.1 hP 3 1 rfl rfl (show ¬ (_ ∨ _) by decide) rfl d_Gate_emit_20 ?_
        refine lv_l2i (v := (a_qq 2).toInt32) hx hb d_Gate_emit_21 rfl ?_
        refine sd_i (g := upd (upd (upd ss 0 ((a_qq 0).toInt32)) 1 ((a_qq 1).toInt32)) 2 ((a_qq 2).toInt32)) (cA := cI) hx hb hK.1 hP hD hS 1 0 rfl rfl (show ¬ (_ ∨ _) by decide) rfl d_Gate_emit_22 (fun H locs hP hD hS => ?_)
        have hP : va_P (dC, dI) classes [(x0, .inr (0, [.int (nI lm), .ref pg, .ref a_cp, .ref b_cp, .ref pn, .ref gv, .ref sh, .int bg, .int lt, .int em, .int sp, .int fd])), (sh, .inl (cI, 4, .inl (upd (upd (upd ss 0 ((a_qq 0).toInt32)) 1 ((a_qq 1).toInt32)) 2 ((a_qq 2).toInt32)))), (a_cp, .inr (1, [.long 1, .ref a_rw, .ref a_po, .int a_pl])), (a_po, .inl (cL, 4, .inr (.inl a_qq)))] H := hP
        have hD : va_D A [(x0, .inr (0, [.int (nI lm), .ref pg, .ref a_cp, .ref b_cp, .ref pn, .ref gv, .ref sh, .int bg, .int lt, .int em, .int sp, .int fd])), (sh, .inl (cI, 4, .inl (upd (upd (upd ss 0 ((a_qq 0).toInt32)) 1 ((a_qq 1).toInt32)) 2 ((a_qq 2).toInt32)))), (a_cp, .inr (1, [.long 1, .ref a_rw, .ref a_po, .int a_pl])), (a_po, .inl (cL, 4, .inr (.inl a_qq)))] := hD
        refine lv_iinc (v := 3) (lv' := [(1, .int 3), (0, .ref x0)]) hx hb d_Gate_emit_23 hl (k := 0) rfl (by first | rfl | decide) (by decide) rfl (fun ls hl => ?_)
        refine lv_goto (tgt := 2) hx hb d_Gate_emit_26 (by decide) ?_
        refine lv_iload_n hx hb d_Gate_emit_2 rfl (lv_at hl 0 rfl) ?_
        refine lv_iconst (v := 4) hx hb d_Gate_emit_3 (by decide) ?_
        refine lv_icmp_ge (tgt := 29) hx hb d_Gate_emit_4 (by decide) (fun c_4 => ?_) (fun c_4 => ?_)
        · exact absurd c_4 (by decide)
        · skip
          refine lv_aload_n hx hb d_Gate_emit_7 rfl (lv_at hl 1 rfl) ?_
          refine va_get (D := (dC, dI)) (ci := 0) (v := .ref sh) (C := R_Gate) (T := F_Gate) (N := 12) hx hb htb iw_Gate hown hK.1 hP 0 rfl rfl 6 (by decide) (htb _ tw_124) (fun _ h9 => h9) rfl d_Gate_emit_8 ?_
          refine lv_iload_n hx hb d_Gate_emit_11 rfl (lv_at hl 0 rfl) ?_
          refine lv_aload_n hx hb d_Gate_emit_12 rfl (lv_at hl 1 rfl) ?_
          refine va_get (D := (dC, dI)) (ci := 0) (v := .ref a_cp) (C := R_Gate) (T := F_Gate) (N := 12) hx hb htb iw_Gate hown hK.1 hP 0 rfl rfl 2 (by decide) (htb _ tw_120) (fun _ h9 => h9) rfl d_Gate_emit_13 ?_
          refine va_get (D := (dC, dI)) (ci := 1) (v := .ref a_po) (C := R_Copy) (T := F_Copy) (N := 4) hx hb htb iw_Copy hown hK.1 hP 2 rfl rfl 2 (by decide) (htb _ tw_72) (fun _ h9 => h9) rfl d_Gate_emit_16 ?_
          refine lv_iload_n hx hb d_Gate_emit_19 rfl (lv_at hl 0 rfl) ?_
          refine ld_l (v := a_qq 3) (cA := cL) hx hb hK.1 hP 3 1 rfl rfl (show ¬ (_ ∨ _) by decide) rfl d_Gate_emit_20 ?_
          refine lv_l2i (v := (a_qq 3).toInt32) hx hb d_Gate_emit_21 rfl ?_
          refine sd_i (g := upd (upd (upd (upd ss 0 ((a_qq 0).toInt32)) 1 ((a_qq 1).toInt32)) 2 ((a_qq 2).toInt32)) 3 ((a_qq 3).toInt32)) (cA := cI) hx hb hK.1 hP hD hS 1 0 rfl rfl (show ¬ (_ ∨ _) by decide) rfl d_Gate_emit_22 (fun H locs hP hD hS => ?_)
          have hP : va_P (dC, dI) classes [(x0, .inr (0, [.int (nI lm), .ref pg, .ref a_cp, .ref b_cp, .ref pn, .ref gv, .ref sh, .int bg, .int lt, .int em, .int sp, .int fd])), (sh, .inl (cI, 4, .inl (upd (upd (upd (upd ss 0 ((a_qq 0).toInt32)) 1 ((a_qq 1).toInt32)) 2 ((a_qq 2).toInt32)) 3 ((a_qq 3).toInt32)))), (a_cp, .inr (1, [.long 1, .ref a_rw, .ref a_po, .int a_pl])), (a_po, .inl (cL, 4, .inr (.inl a_qq)))] H := hP
          have hD : va_D A [(x0, .inr (0, [.int (nI lm), .ref pg, .ref a_cp, .ref b_cp, .ref pn, .ref gv, .ref sh, .int bg, .int lt, .int em, .int sp, .int fd])), (sh, .inl (cI, 4, .inl (upd (upd (upd (upd ss 0 ((a_qq 0).toInt32)) 1 ((a_qq 1).toInt32)) 2 ((a_qq 2).toInt32)) 3 ((a_qq 3).toInt32)))), (a_cp, .inr (1, [.long 1, .ref a_rw, .ref a_po, .int a_pl])), (a_po, .inl (cL, 4, .inr (.inl a_qq)))] := hD
          refine lv_iinc (v := 4) (lv' := [(1, .int 4), (0, .ref x0)]) hx hb d_Gate_emit_23 hl (k := 0) rfl (by first | rfl | decide) (by decide) rfl (fun ls hl => ?_)
          refine lv_goto (tgt := 2) hx hb d_Gate_emit_26 (by decide) ?_
          refine lv_iload_n hx hb d_Gate_emit_2 rfl (lv_at hl 0 rfl) ?_
          refine lv_iconst (v := 4) hx hb d_Gate_emit_3 (by decide) ?_
          refine lv_icmp_ge (tgt := 29) hx hb d_Gate_emit_4 (by decide) (fun c_5 => ?_) (fun c_5 => ?_)
          · skip
            refine lv_aload_n hx hb d_Gate_emit_29 rfl (lv_at hl 1 rfl) ?_
            refine lv_dup hx hb d_Gate_emit_30 rfl ?_
            refine va_get (D := (dC, dI)) (ci := 0) (v := .int em) (C := R_Gate) (T := F_Gate) (N := 12) hx hb htb iw_Gate hown hK.1 hP 0 rfl rfl 9 (by decide) (htb _ tw_127) (fun _ h9 => h9) rfl d_Gate_emit_31 ?_
            refine lv_iconst (v := 1) hx hb d_Gate_emit_34 (by decide) ?_
            refine lv_iadd hx hb d_Gate_emit_35 ?_
            refine va_put (D := (dC, dI)) (ci := 0) (v := .int (em + 1)) (ty := .int) (C := R_Gate) (T := F_Gate) (N := 12) hx hb htb iw_Gate t_Gate t_Gate_ok n_Gate hown hK.1 hP hD hS 0 rfl rfl 9 (by decide) (htb _ tw_127) (fun _ h9 => h9) rfl (by decide +kernel) rfl rfl (Nat.le_of_ble_eq_true rfl) d_Gate_emit_36 (fun H locs hP hD hS => ?_)
            have hP : va_P (dC, dI) classes [(x0, .inr (0, [.int (nI lm), .ref pg, .ref a_cp, .ref b_cp, .ref pn, .ref gv, .ref sh, .int bg, .int lt, .int (em + 1), .int sp, .int fd])), (sh, .inl (cI, 4, .inl (upd (upd (upd (upd ss 0 ((a_qq 0).toInt32)) 1 ((a_qq 1).toInt32)) 2 ((a_qq 2).toInt32)) 3 ((a_qq 3).toInt32)))), (a_cp, .inr (1, [.long 1, .ref a_rw, .ref a_po, .int a_pl])), (a_po, .inl (cL, 4, .inr (.inl a_qq)))] H := hP
            have hD : va_D A [(x0, .inr (0, [.int (nI lm), .ref pg, .ref a_cp, .ref b_cp, .ref pn, .ref gv, .ref sh, .int bg, .int lt, .int (em + 1), .int sp, .int fd])), (sh, .inl (cI, 4, .inl (upd (upd (upd (upd ss 0 ((a_qq 0).toInt32)) 1 ((a_qq 1).toInt32)) 2 ((a_qq 2).toInt32)) 3 ((a_qq 3).toInt32)))), (a_cp, .inr (1, [.long 1, .ref a_rw, .ref a_po, .int a_pl])), (a_po, .inl (cL, 4, .inr (.inl a_qq)))] := hD
            exact rt_v ((upd (upd (upd (upd ss 0 ((a_qq 0).toInt32)) 1 ((a_qq 1).toInt32)) 2 ((a_qq 2).toInt32)) 3 ((a_qq 3).toInt32)), em + 1) hx hb hr hlocks (show (upd (upd (upd (upd ss 0 ((a_qq 0).toInt32)) 1 ((a_qq 1).toInt32)) 2 ((a_qq 2).toInt32)) 3 ((a_qq 3).toInt32)) = e4_w ss a_qq ∧ (em + 1) = em + 1 from (by simp only [e4_w, and_self])) (hP.sub (ws' := [(x0, .inr (0, [.int (nI lm), .ref pg, .ref a_cp, .ref b_cp, .ref pn, .ref gv, .ref sh, .int bg, .int lt, .int (em + 1), .int sp, .int fd])), (sh, .inl (cI, 4, .inl (upd (upd (upd (upd ss 0 ((a_qq 0).toInt32)) 1 ((a_qq 1).toInt32)) 2 ((a_qq 2).toInt32)) 3 ((a_qq 3).toInt32)))), (a_cp, .inr (1, [.long 1, .ref a_rw, .ref a_po, .int a_pl])), (a_po, .inl (cL, 4, .inr (.inl a_qq)))]) [0, 1, 2, 3] rfl) (hD.sub (ws' := [(x0, .inr (0, [.int (nI lm), .ref pg, .ref a_cp, .ref b_cp, .ref pn, .ref gv, .ref sh, .int bg, .int lt, .int (em + 1), .int sp, .int fd])), (sh, .inl (cI, 4, .inl (upd (upd (upd (upd ss 0 ((a_qq 0).toInt32)) 1 ((a_qq 1).toInt32)) 2 ((a_qq 2).toInt32)) 3 ((a_qq 3).toInt32)))), (a_cp, .inr (1, [.long 1, .ref a_rw, .ref a_po, .int a_pl])), (a_po, .inl (cL, 4, .inr (.inl a_qq)))]) [0, 1, 2, 3] (by decide) rfl) hS d_Gate_emit_39
          · exact absurd (by decide) c_5

set_option maxHeartbeats 4000000 in
set_option maxRecDepth 100000 in
theorem c_Plan_forgetAll (l : Launch) (dC : Nat → ClassId) (dI : Nat → Nat → Nat) (cI cL : ClassId) (hs0 : Nat) (pn : Nat) (ka : Nat) (kb : Nat) (kc : Nat) (kd : Nat) (fc : Nat → Int32) (fl : Nat → Int32) (fb : Nat → Int32) (fs : Nat → Int32) (np : Nat)  : ct_v l y_Plan_forgetAll b_Plan_forgetAll 1 none ({ frames := 0, cells := 0, slots := 0, locals := 0 }) (dC, dI) cI cL [.ref pn] [(pn, .inr (2, [.ref ka, .ref kb, .ref kc, .ref kd, .int (nI np)])), (ka, .inl (cI, 4, .inl fc)), (kb, .inl (cI, 4, .inl fl)), (kc, .inl (cI, 4, .inl fb)), (kd, .inl (cI, 4, .inl fs))] hs0 (fun (u : Unit) => True) (fun u => [(pn, .inr (2, [.ref ka, .ref kb, .ref kc, .ref kd, .int 0])), (ka, .inl (cI, 4, .inl fc)), (kb, .inl (cI, 4, .inl fl)), (kc, .inl (cI, 4, .inl fb)), (kd, .inl (cI, 4, .inl fs))]) 0 0 := by
  refine st_w (Qc := fun A => va_Qv (fun (u : Unit) => True) (fun (u : Unit) t => pos_w (dC, dI) A [(pn, .inr (2, [.ref ka, .ref kb, .ref kc, .ref kd, .int 0])), (ka, .inl (cI, 4, .inl fc)), (kb, .inl (cI, 4, .inl fl)), (kc, .inl (cI, 4, .inl fb)), (kd, .inl (cI, 4, .inl fs))] t) A) (by decide) (Nat.le_of_ble_eq_true rfl) ?_
  intro p e s m below meth c A ls hfx hK hA hP hD hS hl
  obtain ⟨hx, hb, hml, hown, htb, hr, hlocks, hin⟩ := hfx
  have hl : lv_has ls 1 [(0, .ref pn)] := hl
  refine lv_aload_n hx hb d_Plan_forgetAll_0 rfl (lv_at hl 0 rfl) ?_
  refine lv_iconst (v := 0) hx hb d_Plan_forgetAll_1 (by decide) ?_
  refine va_put (D := (dC, dI)) (ci := 2) (v := .int 0) (ty := .int) (C := R_Plan) (T := F_Plan) (N := 5) hx hb htb iw_Plan t_Plan t_Plan_ok n_Plan hown hK.1 hP hD hS 0 rfl rfl 4 (by decide) (htb _ tw_99) (fun _ h9 => h9) rfl (by decide +kernel) rfl rfl (Nat.le_of_ble_eq_true rfl) d_Plan_forgetAll_2 (fun H locs hP hD hS => ?_)
  have hP : va_P (dC, dI) classes [(pn, .inr (2, [.ref ka, .ref kb, .ref kc, .ref kd, .int 0])), (ka, .inl (cI, 4, .inl fc)), (kb, .inl (cI, 4, .inl fl)), (kc, .inl (cI, 4, .inl fb)), (kd, .inl (cI, 4, .inl fs))] H := hP
  have hD : va_D A [(pn, .inr (2, [.ref ka, .ref kb, .ref kc, .ref kd, .int 0])), (ka, .inl (cI, 4, .inl fc)), (kb, .inl (cI, 4, .inl fl)), (kc, .inl (cI, 4, .inl fb)), (kd, .inl (cI, 4, .inl fs))] := hD
  exact rt_v () hx hb hr hlocks (show True from trivial) (hP.sub (ws' := [(pn, .inr (2, [.ref ka, .ref kb, .ref kc, .ref kd, .int 0])), (ka, .inl (cI, 4, .inl fc)), (kb, .inl (cI, 4, .inl fl)), (kc, .inl (cI, 4, .inl fb)), (kd, .inl (cI, 4, .inl fs))]) [0, 1, 2, 3, 4] rfl) (hD.sub (ws' := [(pn, .inr (2, [.ref ka, .ref kb, .ref kc, .ref kd, .int 0])), (ka, .inl (cI, 4, .inl fc)), (kb, .inl (cI, 4, .inl fl)), (kc, .inl (cI, 4, .inl fb)), (kd, .inl (cI, 4, .inl fs))]) [0, 1, 2, 3, 4] (by decide) rfl) hS d_Plan_forgetAll_5

set_option maxHeartbeats 4000000 in
set_option maxRecDepth 100000 in
theorem c_Plan_isFull (l : Launch) (dC : Nat → ClassId) (dI : Nat → Nat → Nat) (cI cL : ClassId) (hs0 : Nat) (pn : Nat) (ka : Nat) (kb : Nat) (kc : Nat) (kd : Nat) (fc : Nat → Int32) (fl : Nat → Int32) (fb : Nat → Int32) (fs : Nat → Int32) (np : Nat)  : ct_i l y_Plan_isFull b_Plan_isFull 1 (some .boolean) ({ frames := 0, cells := 0, slots := 0, locals := 0 }) (dC, dI) cI cL [.ref pn] [(pn, .inr (2, [.ref ka, .ref kb, .ref kc, .ref kd, .int (nI np)])), (ka, .inl (cI, 4, .inl fc)), (kb, .inl (cI, 4, .inl fl)), (kc, .inl (cI, 4, .inl fb)), (kd, .inl (cI, 4, .inl fs))] hs0 (fun (r : Int32) (u : Unit) => r = fu_w np) (fun u => [(pn, .inr (2, [.ref ka, .ref kb, .ref kc, .ref kd, .int (nI np)])), (ka, .inl (cI, 4, .inl fc)), (kb, .inl (cI, 4, .inl fl)), (kc, .inl (cI, 4, .inl fb)), (kd, .inl (cI, 4, .inl fs))]) 0 0 := by
  refine st_w (Qc := fun A => va_Qi (fun (r : Int32) (u : Unit) => r = fu_w np) (fun (u : Unit) t => pos_w (dC, dI) A [(pn, .inr (2, [.ref ka, .ref kb, .ref kc, .ref kd, .int (nI np)])), (ka, .inl (cI, 4, .inl fc)), (kb, .inl (cI, 4, .inl fl)), (kc, .inl (cI, 4, .inl fb)), (kd, .inl (cI, 4, .inl fs))] t) A) (by decide) (Nat.le_of_ble_eq_true rfl) ?_
  intro p e s m below meth c A ls hfx hK hA hP hD hS hl
  obtain ⟨hx, hb, hml, hown, htb, hr, hlocks, hin⟩ := hfx
  have hl : lv_has ls 1 [(0, .ref pn)] := hl
  refine lv_aload_n hx hb d_Plan_isFull_0 rfl (lv_at hl 0 rfl) ?_
  refine va_get (D := (dC, dI)) (ci := 2) (v := .int (nI np)) (C := R_Plan) (T := F_Plan) (N := 5) hx hb htb iw_Plan hown hK.1 hP 0 rfl rfl 4 (by decide) (htb _ tw_99) (fun _ h9 => h9) rfl d_Plan_isFull_1 ?_
  refine lv_iconst (v := 4) hx hb d_Plan_isFull_4 (by decide) ?_
  refine lv_icmp_lt (tgt := 12) hx hb d_Plan_isFull_5 (by decide) (fun c_1 => ?_) (fun c_1 => ?_)
  · have c_1 : (nI np) < 4 := c_1
    refine lv_iconst (v := 0) hx hb d_Plan_isFull_12 (by decide) ?_
    exact rt_z (v := 0) () hx hb hr hlocks (by decide) (show (0 : Int32) = fu_w np from (by simp only [fu_w, if_pos c_1, and_self])) (hP.sub (ws' := [(pn, .inr (2, [.ref ka, .ref kb, .ref kc, .ref kd, .int (nI np)])), (ka, .inl (cI, 4, .inl fc)), (kb, .inl (cI, 4, .inl fl)), (kc, .inl (cI, 4, .inl fb)), (kd, .inl (cI, 4, .inl fs))]) [0, 1, 2, 3, 4] rfl) (hD.sub (ws' := [(pn, .inr (2, [.ref ka, .ref kb, .ref kc, .ref kd, .int (nI np)])), (ka, .inl (cI, 4, .inl fc)), (kb, .inl (cI, 4, .inl fl)), (kc, .inl (cI, 4, .inl fb)), (kd, .inl (cI, 4, .inl fs))]) [0, 1, 2, 3, 4] (by decide) rfl) hS d_Plan_isFull_13
  · have c_1 : ¬ (nI np) < 4 := c_1
    refine lv_iconst (v := 1) hx hb d_Plan_isFull_8 (by decide) ?_
    refine lv_goto (tgt := 13) hx hb d_Plan_isFull_9 (by decide) ?_
    exact rt_z (v := 1) () hx hb hr hlocks (by decide) (show (1 : Int32) = fu_w np from (by simp only [fu_w, if_neg c_1, and_self])) (hP.sub (ws' := [(pn, .inr (2, [.ref ka, .ref kb, .ref kc, .ref kd, .int (nI np)])), (ka, .inl (cI, 4, .inl fc)), (kb, .inl (cI, 4, .inl fl)), (kc, .inl (cI, 4, .inl fb)), (kd, .inl (cI, 4, .inl fs))]) [0, 1, 2, 3, 4] rfl) (hD.sub (ws' := [(pn, .inr (2, [.ref ka, .ref kb, .ref kc, .ref kd, .int (nI np)])), (ka, .inl (cI, 4, .inl fc)), (kb, .inl (cI, 4, .inl fl)), (kc, .inl (cI, 4, .inl fb)), (kd, .inl (cI, 4, .inl fs))]) [0, 1, 2, 3, 4] (by decide) rfl) hS d_Plan_isFull_13

set_option maxHeartbeats 4000000 in
set_option maxRecDepth 100000 in
theorem c_Prog_isFull (l : Launch) (dC : Nat → ClassId) (dI : Nat → Nat → Nat) (cI cL : ClassId) (hs0 : Nat) (pg : Nat) (oa : Nat) (na : Nat) (ops : Nat → Int32) (nums : Nat → Int32) (sz : Int32)  : ct_i l y_Prog_isFull b_Prog_isFull 1 (some .boolean) ({ frames := 0, cells := 0, slots := 0, locals := 0 }) (dC, dI) cI cL [.ref pg] [(pg, .inr (3, [.ref oa, .ref na, .int sz])), (oa, .inl (cI, 100, .inl ops)), (na, .inl (cI, 100, .inl nums))] hs0 (fun (r : Int32) (u : Unit) => r = gu_w sz) (fun u => [(pg, .inr (3, [.ref oa, .ref na, .int sz])), (oa, .inl (cI, 100, .inl ops)), (na, .inl (cI, 100, .inl nums))]) 0 0 := by
  refine st_w (Qc := fun A => va_Qi (fun (r : Int32) (u : Unit) => r = gu_w sz) (fun (u : Unit) t => pos_w (dC, dI) A [(pg, .inr (3, [.ref oa, .ref na, .int sz])), (oa, .inl (cI, 100, .inl ops)), (na, .inl (cI, 100, .inl nums))] t) A) (by decide) (Nat.le_of_ble_eq_true rfl) ?_
  intro p e s m below meth c A ls hfx hK hA hP hD hS hl
  obtain ⟨hx, hb, hml, hown, htb, hr, hlocks, hin⟩ := hfx
  have hl : lv_has ls 1 [(0, .ref pg)] := hl
  refine lv_aload_n hx hb d_Prog_isFull_0 rfl (lv_at hl 0 rfl) ?_
  refine va_get (D := (dC, dI)) (ci := 3) (v := .int sz) (C := R_Prog) (T := F_Prog) (N := 3) hx hb htb iw_Prog hown hK.1 hP 0 rfl rfl 2 (by decide) (htb _ tw_51) (fun _ h9 => h9) rfl d_Prog_isFull_1 ?_
  refine lv_bipush (v := 100) hx hb d_Prog_isFull_4 (by decide) ?_
  refine lv_icmp_lt (tgt := 13) hx hb d_Prog_isFull_6 (by decide) (fun c_1 => ?_) (fun c_1 => ?_)
  · have c_1 : sz < 100 := c_1
    refine lv_iconst (v := 0) hx hb d_Prog_isFull_13 (by decide) ?_
    exact rt_z (v := 0) () hx hb hr hlocks (by decide) (show (0 : Int32) = gu_w sz from (by simp only [gu_w, if_pos c_1, and_self])) (hP.sub (ws' := [(pg, .inr (3, [.ref oa, .ref na, .int sz])), (oa, .inl (cI, 100, .inl ops)), (na, .inl (cI, 100, .inl nums))]) [0, 1, 2] rfl) (hD.sub (ws' := [(pg, .inr (3, [.ref oa, .ref na, .int sz])), (oa, .inl (cI, 100, .inl ops)), (na, .inl (cI, 100, .inl nums))]) [0, 1, 2] (by decide) rfl) hS d_Prog_isFull_14
  · have c_1 : ¬ sz < 100 := c_1
    refine lv_iconst (v := 1) hx hb d_Prog_isFull_9 (by decide) ?_
    refine lv_goto (tgt := 14) hx hb d_Prog_isFull_10 (by decide) ?_
    exact rt_z (v := 1) () hx hb hr hlocks (by decide) (show (1 : Int32) = gu_w sz from (by simp only [gu_w, if_neg c_1, and_self])) (hP.sub (ws' := [(pg, .inr (3, [.ref oa, .ref na, .int sz])), (oa, .inl (cI, 100, .inl ops)), (na, .inl (cI, 100, .inl nums))]) [0, 1, 2] rfl) (hD.sub (ws' := [(pg, .inr (3, [.ref oa, .ref na, .int sz])), (oa, .inl (cI, 100, .inl ops)), (na, .inl (cI, 100, .inl nums))]) [0, 1, 2] (by decide) rfl) hS d_Prog_isFull_14

set_option maxHeartbeats 4000000 in
set_option maxRecDepth 100000 in
theorem c_Prog_append (l : Launch) (dC : Nat → ClassId) (dI : Nat → Nat → Nat) (cI cL : ClassId) (hs0 : Nat) (pg : Nat) (oa : Nat) (na : Nat) (ops : Nat → Int32) (nums : Nat → Int32) (sz : Int32) (o0 : Int32) (n0 : Int32) (hi : vp_in sz 100) : ct_v l y_Prog_append b_Prog_append 3 none ({ frames := 0, cells := 0, slots := 0, locals := 0 }) (dC, dI) cI cL [.ref pg, .int o0, .int n0] [(pg, .inr (3, [.ref oa, .ref na, .int sz])), (oa, .inl (cI, 100, .inl ops)), (na, .inl (cI, 100, .inl nums))] hs0 (fun (u : (Nat → Int32) × (Nat → Int32) × Int32) => u.1 = upd ops sz.toNatClampNeg o0 ∧ u.2.1 = upd nums sz.toNatClampNeg n0 ∧ u.2.2 = sz + 1) (fun u => [(pg, .inr (3, [.ref oa, .ref na, .int u.2.2])), (oa, .inl (cI, 100, .inl u.1)), (na, .inl (cI, 100, .inl u.2.1))]) 0 0 := by
  refine st_w (Qc := fun A => va_Qv (fun (u : (Nat → Int32) × (Nat → Int32) × Int32) => u.1 = upd ops sz.toNatClampNeg o0 ∧ u.2.1 = upd nums sz.toNatClampNeg n0 ∧ u.2.2 = sz + 1) (fun (u : (Nat → Int32) × (Nat → Int32) × Int32) t => pos_w (dC, dI) A [(pg, .inr (3, [.ref oa, .ref na, .int u.2.2])), (oa, .inl (cI, 100, .inl u.1)), (na, .inl (cI, 100, .inl u.2.1))] t) A) (by decide) (Nat.le_of_ble_eq_true rfl) ?_
  intro p e s m below meth c A ls hfx hK hA hP hD hS hl
  obtain ⟨hx, hb, hml, hown, htb, hr, hlocks, hin⟩ := hfx
  have hl : lv_has ls 3 [(0, .ref pg), (1, .int o0), (2, .int n0)] := hl
  refine lv_aload_n hx hb d_Prog_append_0 rfl (lv_at hl 0 rfl) ?_
  refine va_get (D := (dC, dI)) (ci := 3) (v := .ref oa) (C := R_Prog) (T := F_Prog) (N := 3) hx hb htb iw_Prog hown hK.1 hP 0 rfl rfl 0 (by decide) (htb _ tw_47) (fun _ h9 => h9) rfl d_Prog_append_1 ?_
  refine lv_aload_n hx hb d_Prog_append_4 rfl (lv_at hl 0 rfl) ?_
  refine va_get (D := (dC, dI)) (ci := 3) (v := .int sz) (C := R_Prog) (T := F_Prog) (N := 3) hx hb htb iw_Prog hown hK.1 hP 0 rfl rfl 2 (by decide) (htb _ tw_51) (fun _ h9 => h9) rfl d_Prog_append_5 ?_
  refine lv_iload_n hx hb d_Prog_append_8 rfl (lv_at hl 1 rfl) ?_
  refine sd_i (g := upd ops sz.toNatClampNeg o0) (cA := cI) hx hb hK.1 hP hD hS 1 0 rfl rfl hi rfl d_Prog_append_9 (fun H locs hP hD hS => ?_)
  have hP : va_P (dC, dI) classes [(pg, .inr (3, [.ref oa, .ref na, .int sz])), (oa, .inl (cI, 100, .inl (upd ops sz.toNatClampNeg o0))), (na, .inl (cI, 100, .inl nums))] H := hP
  have hD : va_D A [(pg, .inr (3, [.ref oa, .ref na, .int sz])), (oa, .inl (cI, 100, .inl (upd ops sz.toNatClampNeg o0))), (na, .inl (cI, 100, .inl nums))] := hD
  refine lv_aload_n hx hb d_Prog_append_10 rfl (lv_at hl 0 rfl) ?_
  refine va_get (D := (dC, dI)) (ci := 3) (v := .ref na) (C := R_Prog) (T := F_Prog) (N := 3) hx hb htb iw_Prog hown hK.1 hP 0 rfl rfl 1 (by decide) (htb _ tw_49) (fun _ h9 => h9) rfl d_Prog_append_11 ?_
  refine lv_aload_n hx hb d_Prog_append_14 rfl (lv_at hl 0 rfl) ?_
  refine va_get (D := (dC, dI)) (ci := 3) (v := .int sz) (C := R_Prog) (T := F_Prog) (N := 3) hx hb htb iw_Prog hown hK.1 hP 0 rfl rfl 2 (by decide) (htb _ tw_51) (fun _ h9 => h9) rfl d_Prog_append_15 ?_
  refine lv_iload_n hx hb d_Prog_append_18 rfl (lv_at hl 2 rfl) ?_
  refine sd_i (g := upd nums sz.toNatClampNeg n0) (cA := cI) hx hb hK.1 hP hD hS 2 0 rfl rfl hi rfl d_Prog_append_19 (fun H locs hP hD hS => ?_)
  have hP : va_P (dC, dI) classes [(pg, .inr (3, [.ref oa, .ref na, .int sz])), (oa, .inl (cI, 100, .inl (upd ops sz.toNatClampNeg o0))), (na, .inl (cI, 100, .inl (upd nums sz.toNatClampNeg n0)))] H := hP
  have hD : va_D A [(pg, .inr (3, [.ref oa, .ref na, .int sz])), (oa, .inl (cI, 100, .inl (upd ops sz.toNatClampNeg o0))), (na, .inl (cI, 100, .inl (upd nums sz.toNatClampNeg n0)))] := hD
  refine lv_aload_n hx hb d_Prog_append_20 rfl (lv_at hl 0 rfl) ?_
  refine lv_dup hx hb d_Prog_append_21 rfl ?_
  refine va_get (D := (dC, dI)) (ci := 3) (v := .int sz) (C := R_Prog) (T := F_Prog) (N := 3) hx hb htb iw_Prog hown hK.1 hP 0 rfl rfl 2 (by decide) (htb _ tw_51) (fun _ h9 => h9) rfl d_Prog_append_22 ?_
  refine lv_iconst (v := 1) hx hb d_Prog_append_25 (by decide) ?_
  refine lv_iadd hx hb d_Prog_append_26 ?_
  refine va_put (D := (dC, dI)) (ci := 3) (v := .int (sz + 1)) (ty := .int) (C := R_Prog) (T := F_Prog) (N := 3) hx hb htb iw_Prog t_Prog t_Prog_ok n_Prog hown hK.1 hP hD hS 0 rfl rfl 2 (by decide) (htb _ tw_51) (fun _ h9 => h9) rfl (by decide +kernel) rfl rfl (Nat.le_of_ble_eq_true rfl) d_Prog_append_27 (fun H locs hP hD hS => ?_)
  have hP : va_P (dC, dI) classes [(pg, .inr (3, [.ref oa, .ref na, .int (sz + 1)])), (oa, .inl (cI, 100, .inl (upd ops sz.toNatClampNeg o0))), (na, .inl (cI, 100, .inl (upd nums sz.toNatClampNeg n0)))] H := hP
  have hD : va_D A [(pg, .inr (3, [.ref oa, .ref na, .int (sz + 1)])), (oa, .inl (cI, 100, .inl (upd ops sz.toNatClampNeg o0))), (na, .inl (cI, 100, .inl (upd nums sz.toNatClampNeg n0)))] := hD
  exact rt_v ((upd ops sz.toNatClampNeg o0), (upd nums sz.toNatClampNeg n0), sz + 1) hx hb hr hlocks (show (upd ops sz.toNatClampNeg o0) = upd ops sz.toNatClampNeg o0 ∧ (upd nums sz.toNatClampNeg n0) = upd nums sz.toNatClampNeg n0 ∧ (sz + 1) = sz + 1 from (by simp only [and_self])) (hP.sub (ws' := [(pg, .inr (3, [.ref oa, .ref na, .int (sz + 1)])), (oa, .inl (cI, 100, .inl (upd ops sz.toNatClampNeg o0))), (na, .inl (cI, 100, .inl (upd nums sz.toNatClampNeg n0)))]) [0, 1, 2] rfl) (hD.sub (ws' := [(pg, .inr (3, [.ref oa, .ref na, .int (sz + 1)])), (oa, .inl (cI, 100, .inl (upd ops sz.toNatClampNeg o0))), (na, .inl (cI, 100, .inl (upd nums sz.toNatClampNeg n0)))]) [0, 1, 2] (by decide) rfl) hS d_Prog_append_30

set_option maxHeartbeats 4000000 in
set_option maxRecDepth 100000 in
theorem c_Plan_append (l : Launch) (dC : Nat → ClassId) (dI : Nat → Nat → Nat) (cI cL : ClassId) (hs0 : Nat) (pn : Nat) (ka : Nat) (kb : Nat) (kc : Nat) (kd : Nat) (fc : Nat → Int32) (fl : Nat → Int32) (fb : Nat → Int32) (fs : Nat → Int32) (np : Nat) (p1 : Int32) (p2 : Int32) (p3 : Int32) (p4 : Int32) (hi : np < 4) : ct_v l y_Plan_append b_Plan_append 5 none ({ frames := 0, cells := 0, slots := 0, locals := 0 }) (dC, dI) cI cL [.ref pn, .int p1, .int p2, .int p3, .int p4] [(pn, .inr (2, [.ref ka, .ref kb, .ref kc, .ref kd, .int (nI np)])), (ka, .inl (cI, 4, .inl fc)), (kb, .inl (cI, 4, .inl fl)), (kc, .inl (cI, 4, .inl fb)), (kd, .inl (cI, 4, .inl fs))] hs0 (fun (u : (Nat → Int32) × (Nat → Int32) × (Nat → Int32) × (Nat → Int32)) => u.1 = upd fc np p1 ∧ u.2.1 = upd fl np p2 ∧ u.2.2.1 = upd fb np p3 ∧ u.2.2.2 = upd fs np p4) (fun u => [(pn, .inr (2, [.ref ka, .ref kb, .ref kc, .ref kd, .int (nI (np + 1))])), (ka, .inl (cI, 4, .inl u.1)), (kb, .inl (cI, 4, .inl u.2.1)), (kc, .inl (cI, 4, .inl u.2.2.1)), (kd, .inl (cI, 4, .inl u.2.2.2))]) 0 0 := by
  refine st_w (Qc := fun A => va_Qv (fun (u : (Nat → Int32) × (Nat → Int32) × (Nat → Int32) × (Nat → Int32)) => u.1 = upd fc np p1 ∧ u.2.1 = upd fl np p2 ∧ u.2.2.1 = upd fb np p3 ∧ u.2.2.2 = upd fs np p4) (fun (u : (Nat → Int32) × (Nat → Int32) × (Nat → Int32) × (Nat → Int32)) t => pos_w (dC, dI) A [(pn, .inr (2, [.ref ka, .ref kb, .ref kc, .ref kd, .int (nI (np + 1))])), (ka, .inl (cI, 4, .inl u.1)), (kb, .inl (cI, 4, .inl u.2.1)), (kc, .inl (cI, 4, .inl u.2.2.1)), (kd, .inl (cI, 4, .inl u.2.2.2))] t) A) (by decide) (Nat.le_of_ble_eq_true rfl) ?_
  intro p e s m below meth c A ls hfx hK hA hP hD hS hl
  obtain ⟨hx, hb, hml, hown, htb, hr, hlocks, hin⟩ := hfx
  have hl : lv_has ls 5 [(0, .ref pn), (1, .int p1), (2, .int p2), (3, .int p3), (4, .int p4)] := hl
  refine lv_aload_n hx hb d_Plan_append_0 rfl (lv_at hl 0 rfl) ?_
  refine va_get (D := (dC, dI)) (ci := 2) (v := .ref ka) (C := R_Plan) (T := F_Plan) (N := 5) hx hb htb iw_Plan hown hK.1 hP 0 rfl rfl 0 (by decide) (htb _ tw_91) (fun _ h9 => h9) rfl d_Plan_append_1 ?_
  refine lv_aload_n hx hb d_Plan_append_4 rfl (lv_at hl 0 rfl) ?_
  refine va_get (D := (dC, dI)) (ci := 2) (v := .int (nI np)) (C := R_Plan) (T := F_Plan) (N := 5) hx hb htb iw_Plan hown hK.1 hP 0 rfl rfl 4 (by decide) (htb _ tw_99) (fun _ h9 => h9) rfl d_Plan_append_5 ?_
  refine lv_iload_n hx hb d_Plan_append_8 rfl (lv_at hl 1 rfl) ?_
  refine sd_i (g := upd fc np p1) (cA := cI) hx hb hK.1 hP hD hS 1 0 rfl rfl (vp_in_nI hi (by decide)) (by rw [(nI_clamp (by omega))]) d_Plan_append_9 (fun H locs hP hD hS => ?_)
  have hP : va_P (dC, dI) classes [(pn, .inr (2, [.ref ka, .ref kb, .ref kc, .ref kd, .int (nI np)])), (ka, .inl (cI, 4, .inl (upd fc np p1))), (kb, .inl (cI, 4, .inl fl)), (kc, .inl (cI, 4, .inl fb)), (kd, .inl (cI, 4, .inl fs))] H := hP
  have hD : va_D A [(pn, .inr (2, [.ref ka, .ref kb, .ref kc, .ref kd, .int (nI np)])), (ka, .inl (cI, 4, .inl (upd fc np p1))), (kb, .inl (cI, 4, .inl fl)), (kc, .inl (cI, 4, .inl fb)), (kd, .inl (cI, 4, .inl fs))] := hD
  refine lv_aload_n hx hb d_Plan_append_10 rfl (lv_at hl 0 rfl) ?_
  refine va_get (D := (dC, dI)) (ci := 2) (v := .ref kb) (C := R_Plan) (T := F_Plan) (N := 5) hx hb htb iw_Plan hown hK.1 hP 0 rfl rfl 1 (by decide) (htb _ tw_93) (fun _ h9 => h9) rfl d_Plan_append_11 ?_
  refine lv_aload_n hx hb d_Plan_append_14 rfl (lv_at hl 0 rfl) ?_
  refine va_get (D := (dC, dI)) (ci := 2) (v := .int (nI np)) (C := R_Plan) (T := F_Plan) (N := 5) hx hb htb iw_Plan hown hK.1 hP 0 rfl rfl 4 (by decide) (htb _ tw_99) (fun _ h9 => h9) rfl d_Plan_append_15 ?_
  refine lv_iload_n hx hb d_Plan_append_18 rfl (lv_at hl 2 rfl) ?_
  refine sd_i (g := upd fl np p2) (cA := cI) hx hb hK.1 hP hD hS 2 0 rfl rfl (vp_in_nI hi (by decide)) (by rw [(nI_clamp (by omega))]) d_Plan_append_19 (fun H locs hP hD hS => ?_)
  have hP : va_P (dC, dI) classes [(pn, .inr (2, [.ref ka, .ref kb, .ref kc, .ref kd, .int (nI np)])), (ka, .inl (cI, 4, .inl (upd fc np p1))), (kb, .inl (cI, 4, .inl (upd fl np p2))), (kc, .inl (cI, 4, .inl fb)), (kd, .inl (cI, 4, .inl fs))] H := hP
  have hD : va_D A [(pn, .inr (2, [.ref ka, .ref kb, .ref kc, .ref kd, .int (nI np)])), (ka, .inl (cI, 4, .inl (upd fc np p1))), (kb, .inl (cI, 4, .inl (upd fl np p2))), (kc, .inl (cI, 4, .inl fb)), (kd, .inl (cI, 4, .inl fs))] := hD
  refine lv_aload_n hx hb d_Plan_append_20 rfl (lv_at hl 0 rfl) ?_
  refine va_get (D := (dC, dI)) (ci := 2) (v := .ref kc) (C := R_Plan) (T := F_Plan) (N := 5) hx hb htb iw_Plan hown hK.1 hP 0 rfl rfl 2 (by decide) (htb _ tw_95) (fun _ h9 => h9) rfl d_Plan_append_21 ?_
  refine lv_aload_n hx hb d_Plan_append_24 rfl (lv_at hl 0 rfl) ?_
  refine va_get (D := (dC, dI)) (ci := 2) (v := .int (nI np)) (C := R_Plan) (T := F_Plan) (N := 5) hx hb htb iw_Plan hown hK.1 hP 0 rfl rfl 4 (by decide) (htb _ tw_99) (fun _ h9 => h9) rfl d_Plan_append_25 ?_
  refine lv_iload_n hx hb d_Plan_append_28 rfl (lv_at hl 3 rfl) ?_
  refine sd_i (g := upd fb np p3) (cA := cI) hx hb hK.1 hP hD hS 3 0 rfl rfl (vp_in_nI hi (by decide)) (by rw [(nI_clamp (by omega))]) d_Plan_append_29 (fun H locs hP hD hS => ?_)
  have hP : va_P (dC, dI) classes [(pn, .inr (2, [.ref ka, .ref kb, .ref kc, .ref kd, .int (nI np)])), (ka, .inl (cI, 4, .inl (upd fc np p1))), (kb, .inl (cI, 4, .inl (upd fl np p2))), (kc, .inl (cI, 4, .inl (upd fb np p3))), (kd, .inl (cI, 4, .inl fs))] H := hP
  have hD : va_D A [(pn, .inr (2, [.ref ka, .ref kb, .ref kc, .ref kd, .int (nI np)])), (ka, .inl (cI, 4, .inl (upd fc np p1))), (kb, .inl (cI, 4, .inl (upd fl np p2))), (kc, .inl (cI, 4, .inl (upd fb np p3))), (kd, .inl (cI, 4, .inl fs))] := hD
  refine lv_aload_n hx hb d_Plan_append_30 rfl (lv_at hl 0 rfl) ?_
  refine va_get (D := (dC, dI)) (ci := 2) (v := .ref kd) (C := R_Plan) (T := F_Plan) (N := 5) hx hb htb iw_Plan hown hK.1 hP 0 rfl rfl 3 (by decide) (htb _ tw_97) (fun _ h9 => h9) rfl d_Plan_append_31 ?_
  refine lv_aload_n hx hb d_Plan_append_34 rfl (lv_at hl 0 rfl) ?_
  refine va_get (D := (dC, dI)) (ci := 2) (v := .int (nI np)) (C := R_Plan) (T := F_Plan) (N := 5) hx hb htb iw_Plan hown hK.1 hP 0 rfl rfl 4 (by decide) (htb _ tw_99) (fun _ h9 => h9) rfl d_Plan_append_35 ?_
  refine lv_iload hx hb d_Plan_append_38 (lv_at hl 4 rfl) ?_
  refine sd_i (g := upd fs np p4) (cA := cI) hx hb hK.1 hP hD hS 4 0 rfl rfl (vp_in_nI hi (by decide)) (by rw [(nI_clamp (by omega))]) d_Plan_append_40 (fun H locs hP hD hS => ?_)
  have hP : va_P (dC, dI) classes [(pn, .inr (2, [.ref ka, .ref kb, .ref kc, .ref kd, .int (nI np)])), (ka, .inl (cI, 4, .inl (upd fc np p1))), (kb, .inl (cI, 4, .inl (upd fl np p2))), (kc, .inl (cI, 4, .inl (upd fb np p3))), (kd, .inl (cI, 4, .inl (upd fs np p4)))] H := hP
  have hD : va_D A [(pn, .inr (2, [.ref ka, .ref kb, .ref kc, .ref kd, .int (nI np)])), (ka, .inl (cI, 4, .inl (upd fc np p1))), (kb, .inl (cI, 4, .inl (upd fl np p2))), (kc, .inl (cI, 4, .inl (upd fb np p3))), (kd, .inl (cI, 4, .inl (upd fs np p4)))] := hD
  refine lv_aload_n hx hb d_Plan_append_41 rfl (lv_at hl 0 rfl) ?_
  refine lv_dup hx hb d_Plan_append_42 rfl ?_
  refine va_get (D := (dC, dI)) (ci := 2) (v := .int (nI np)) (C := R_Plan) (T := F_Plan) (N := 5) hx hb htb iw_Plan hown hK.1 hP 0 rfl rfl 4 (by decide) (htb _ tw_99) (fun _ h9 => h9) rfl d_Plan_append_43 ?_
  refine lv_iconst (v := 1) hx hb d_Plan_append_46 (by decide) ?_
  refine lv_iadd hx hb d_Plan_append_47 ?_
  refine tp_i (nI_1 np) ?_
  refine va_put (D := (dC, dI)) (ci := 2) (v := .int (nI (np + 1))) (ty := .int) (C := R_Plan) (T := F_Plan) (N := 5) hx hb htb iw_Plan t_Plan t_Plan_ok n_Plan hown hK.1 hP hD hS 0 rfl rfl 4 (by decide) (htb _ tw_99) (fun _ h9 => h9) rfl (by decide +kernel) rfl rfl (Nat.le_of_ble_eq_true rfl) d_Plan_append_48 (fun H locs hP hD hS => ?_)
  have hP : va_P (dC, dI) classes [(pn, .inr (2, [.ref ka, .ref kb, .ref kc, .ref kd, .int (nI (np + 1))])), (ka, .inl (cI, 4, .inl (upd fc np p1))), (kb, .inl (cI, 4, .inl (upd fl np p2))), (kc, .inl (cI, 4, .inl (upd fb np p3))), (kd, .inl (cI, 4, .inl (upd fs np p4)))] H := hP
  have hD : va_D A [(pn, .inr (2, [.ref ka, .ref kb, .ref kc, .ref kd, .int (nI (np + 1))])), (ka, .inl (cI, 4, .inl (upd fc np p1))), (kb, .inl (cI, 4, .inl (upd fl np p2))), (kc, .inl (cI, 4, .inl (upd fb np p3))), (kd, .inl (cI, 4, .inl (upd fs np p4)))] := hD
  exact rt_v ((upd fc np p1), (upd fl np p2), (upd fb np p3), (upd fs np p4)) hx hb hr hlocks (show (upd fc np p1) = upd fc np p1 ∧ (upd fl np p2) = upd fl np p2 ∧ (upd fb np p3) = upd fb np p3 ∧ (upd fs np p4) = upd fs np p4 from (by simp only [and_self])) (hP.sub (ws' := [(pn, .inr (2, [.ref ka, .ref kb, .ref kc, .ref kd, .int (nI (np + 1))])), (ka, .inl (cI, 4, .inl (upd fc np p1))), (kb, .inl (cI, 4, .inl (upd fl np p2))), (kc, .inl (cI, 4, .inl (upd fb np p3))), (kd, .inl (cI, 4, .inl (upd fs np p4)))]) [0, 1, 2, 3, 4] rfl) (hD.sub (ws' := [(pn, .inr (2, [.ref ka, .ref kb, .ref kc, .ref kd, .int (nI (np + 1))])), (ka, .inl (cI, 4, .inl (upd fc np p1))), (kb, .inl (cI, 4, .inl (upd fl np p2))), (kc, .inl (cI, 4, .inl (upd fb np p3))), (kd, .inl (cI, 4, .inl (upd fs np p4)))]) [0, 1, 2, 3, 4] (by decide) rfl) hS d_Plan_append_51
end
section
section RBE
variable {fa fb : sx_w → Int32 × sx_w} {lm : Nat} {ra rb qa qb : Nat → Int64} {plb sp fd : Int32}
theorem rb_e1 (h1 : (rn_w fa lm (xa_w ra rb qa sp fd)).1 = 0) (h2 : (rn_w fb lm (xb_w (rn_w fa lm (xa_w ra rb qa sp fd)).2 qb)).1 = 0) (h3 : ca_w (rn_w fa lm (xa_w ra rb qa sp fd)).2.2.2.1 (rn_w fb lm (xb_w (rn_w fa lm (xa_w ra rb qa sp fd)).2 qb)).2.2.2.1 = 0) :
    rb_w fa fb lm ra rb qa qb plb sp fd = (3, ab_w (rn_w fa lm (xa_w ra rb qa sp fd)).2 (rn_w fb lm (xb_w (rn_w fa lm (xa_w ra rb qa sp fd)).2 qb)).2) := (if_pos h1).trans ((if_pos h2).trans (if_pos h3))
theorem rb_e2 (h1 : (rn_w fa lm (xa_w ra rb qa sp fd)).1 = 0) (h2 : (rn_w fb lm (xb_w (rn_w fa lm (xa_w ra rb qa sp fd)).2 qb)).1 = 0) (h3 : ¬ ca_w (rn_w fa lm (xa_w ra rb qa sp fd)).2.2.2.1 (rn_w fb lm (xb_w (rn_w fa lm (xa_w ra rb qa sp fd)).2 qb)).2.2.2.1 = 0) :
    rb_w fa fb lm ra rb qa qb plb sp fd = ((rn_w fb lm (xb_w (rn_w fa lm (xa_w ra rb qa sp fd)).2 qb)).1, ab_w (rn_w fa lm (xa_w ra rb qa sp fd)).2 (rn_w fb lm (xb_w (rn_w fa lm (xa_w ra rb qa sp fd)).2 qb)).2) := (if_pos h1).trans ((if_pos h2).trans (if_neg h3))
theorem rb_e3 (h1 : (rn_w fa lm (xa_w ra rb qa sp fd)).1 = 0) (h2 : ¬ (rn_w fb lm (xb_w (rn_w fa lm (xa_w ra rb qa sp fd)).2 qb)).1 = 0) :
    rb_w fa fb lm ra rb qa qb plb sp fd = ((rn_w fb lm (xb_w (rn_w fa lm (xa_w ra rb qa sp fd)).2 qb)).1, ab_w (rn_w fa lm (xa_w ra rb qa sp fd)).2 (rn_w fb lm (xb_w (rn_w fa lm (xa_w ra rb qa sp fd)).2 qb)).2) := (if_pos h1).trans (if_neg h2)
theorem rb_e4 (h1 : ¬ (rn_w fa lm (xa_w ra rb qa sp fd)).1 = 0) :
    rb_w fa fb lm ra rb qa qb plb sp fd = ((rn_w fa lm (xa_w ra rb qa sp fd)).1, (rn_w fa lm (xa_w ra rb qa sp fd)).2.1, (rn_w fa lm (xa_w ra rb qa sp fd)).2.2.1, (rn_w fa lm (xa_w ra rb qa sp fd)).2.2.2.1, (rn_w fa lm (xa_w ra rb qa sp fd)).2.2.2.2.1, qb, plb, (rn_w fa lm (xa_w ra rb qa sp fd)).2.2.2.2.2.1, (rn_w fa lm (xa_w ra rb qa sp fd)).2.2.2.2.2.2) := if_neg h1
end RBE
section CYE
variable {fa fb : sx_w → Int32 × sx_w} {lm np : Nat} {bg lt em sp fd pla plb : Int32} {ra rb qa qb : Nat → Int64} {ss : Nat → Int32}
theorem cy_e1 (h1 : lt = 0) (h2 : (rb_w fa fb lm ra rb qa qb plb 0 fd).1 = 0) : cy_w fa fb lm bg lt em sp fd ra rb qa pla qb plb np ss = (1, 1, (rb_w fa fb lm ra rb qa qb plb 0 fd).1, em + 1, (rb_w fa fb lm ra rb qa qb plb 0 fd).2.2.2.2.2.2.2.1, (rb_w fa fb lm ra rb qa qb plb 0 fd).2.2.2.2.2.2.2.2, (rb_w fa fb lm ra rb qa qb plb 0 fd).2.1, (rb_w fa fb lm ra rb qa qb plb 0 fd).2.2.1, (rb_w fa fb lm ra rb qa qb plb 0 fd).2.2.2.1, (rb_w fa fb lm ra rb qa qb plb 0 fd).2.2.2.2.1, (rb_w fa fb lm ra rb qa qb plb 0 fd).2.2.2.2.2.1, (rb_w fa fb lm ra rb qa qb plb 0 fd).2.2.2.2.2.2.1, 0, e4_w ss (rb_w fa fb lm ra rb qa qb plb 0 fd).2.2.2.1) := (if_pos h1).trans (if_pos h2)
theorem cy_e2 (h1 : lt = 0) (h2 : ¬ (rb_w fa fb lm ra rb qa qb plb 0 fd).1 = 0) : cy_w fa fb lm bg lt em sp fd ra rb qa pla qb plb np ss = (0, 1, (rb_w fa fb lm ra rb qa qb plb 0 fd).1, em, (rb_w fa fb lm ra rb qa qb plb 0 fd).2.2.2.2.2.2.2.1, (rb_w fa fb lm ra rb qa qb plb 0 fd).2.2.2.2.2.2.2.2, (rb_w fa fb lm ra rb qa qb plb 0 fd).2.1, (rb_w fa fb lm ra rb qa qb plb 0 fd).2.2.1, (rb_w fa fb lm ra rb qa qb plb 0 fd).2.2.2.1, (rb_w fa fb lm ra rb qa qb plb 0 fd).2.2.2.2.1, (rb_w fa fb lm ra rb qa qb plb 0 fd).2.2.2.2.2.1, (rb_w fa fb lm ra rb qa qb plb 0 fd).2.2.2.2.2.2.1, 0, g4_w ss 0) := (if_pos h1).trans (if_neg h2)
theorem cy_e3 (h1 : ¬ lt = 0) : cy_w fa fb lm bg lt em sp fd ra rb qa pla qb plb np ss = (0, bg, lt, em, sp, fd, ra, rb, qa, pla, qb, plb, np, ss) := if_neg h1
end CYE
end
section
theorem tw_181 : (Cond.code y_Gate_runToItsEnd b_Gate_runToItsEnd 4 (some .int)) ∈ TB_w := List.mem_filter.mpr ⟨List.mem_of_getElem? (i := 181) rfl, by decide +kernel⟩
theorem tw_178 : (Cond.methodLink R_Gate 152 y_Gate_runToItsEnd) ∈ TB_w := List.mem_filter.mpr ⟨List.mem_of_getElem? (i := 178) (by decide +kernel), by decide +kernel⟩
theorem tw_180 : (Cond.instanceMethod y_Gate_runToItsEnd) ∈ TB_w := List.mem_filter.mpr ⟨List.mem_of_getElem? (i := 180) (by decide +kernel), by decide +kernel⟩
theorem tw_1 : (Cond.selects R_Gate y_Gate_runToItsEnd y_Gate_runToItsEnd) ∈ TB_w := List.mem_filter.mpr ⟨List.mem_of_getElem? (i := 1) (by decide +kernel), by decide +kernel⟩
theorem tw_236 : (Cond.code y_Gate_copiesAgree b_Gate_copiesAgree 4 (some .boolean)) ∈ TB_w := List.mem_filter.mpr ⟨List.mem_of_getElem? (i := 236) rfl, by decide +kernel⟩
theorem tw_233 : (Cond.methodLink R_Gate 156 y_Gate_copiesAgree) ∈ TB_w := List.mem_filter.mpr ⟨List.mem_of_getElem? (i := 233) (by decide +kernel), by decide +kernel⟩
theorem tw_235 : (Cond.instanceMethod y_Gate_copiesAgree) ∈ TB_w := List.mem_filter.mpr ⟨List.mem_of_getElem? (i := 235) (by decide +kernel), by decide +kernel⟩
theorem tw_10 : (Cond.selects R_Gate y_Gate_copiesAgree y_Gate_copiesAgree) ∈ TB_w := List.mem_filter.mpr ⟨List.mem_of_getElem? (i := 10) (by decide +kernel), by decide +kernel⟩
theorem tw_126 : (Cond.fieldLink R_Gate 48 "TwinGate" "latchedBy" "I") ∈ TB_w := List.mem_filter.mpr ⟨List.mem_of_getElem? (i := 126) (by decide +kernel), by decide +kernel⟩
theorem tw_125 : (Cond.fieldLink R_Gate 44 "TwinGate" "begun" "Z") ∈ TB_w := List.mem_filter.mpr ⟨List.mem_of_getElem? (i := 125) (by decide +kernel), by decide +kernel⟩
theorem tw_177 : (Cond.code y_Gate_runBothCopies b_Gate_runBothCopies 2 (some .int)) ∈ TB_w := List.mem_filter.mpr ⟨List.mem_of_getElem? (i := 177) rfl, by decide +kernel⟩
theorem tw_174 : (Cond.methodLink R_Gate 107 y_Gate_runBothCopies) ∈ TB_w := List.mem_filter.mpr ⟨List.mem_of_getElem? (i := 174) (by decide +kernel), by decide +kernel⟩
theorem tw_176 : (Cond.instanceMethod y_Gate_runBothCopies) ∈ TB_w := List.mem_filter.mpr ⟨List.mem_of_getElem? (i := 176) (by decide +kernel), by decide +kernel⟩
theorem tw_0 : (Cond.selects R_Gate y_Gate_runBothCopies y_Gate_runBothCopies) ∈ TB_w := List.mem_filter.mpr ⟨List.mem_of_getElem? (i := 0) (by decide +kernel), by decide +kernel⟩
theorem tw_240 : (Cond.code y_Plan_forgetAll b_Plan_forgetAll 1 none) ∈ TB_w := List.mem_filter.mpr ⟨List.mem_of_getElem? (i := 240) rfl, by decide +kernel⟩
theorem tw_23 : (Cond.initialized R_Plan) ∈ TB_w := List.mem_filter.mpr ⟨List.mem_of_getElem? (i := 23) (by decide +kernel), by decide +kernel⟩
theorem tw_237 : (Cond.methodLink R_Gate 111 y_Plan_forgetAll) ∈ TB_w := List.mem_filter.mpr ⟨List.mem_of_getElem? (i := 237) (by decide +kernel), by decide +kernel⟩
theorem tw_238 : (Cond.instanceMethod y_Plan_forgetAll) ∈ TB_w := List.mem_filter.mpr ⟨List.mem_of_getElem? (i := 238) (by decide +kernel), by decide +kernel⟩
theorem tw_239 : (Cond.selects R_Plan y_Plan_forgetAll y_Plan_forgetAll) ∈ TB_w := List.mem_filter.mpr ⟨List.mem_of_getElem? (i := 239) (by decide +kernel), by decide +kernel⟩
theorem tw_247 : (Cond.code y_Gate_emit b_Gate_emit 2 none) ∈ TB_w := List.mem_filter.mpr ⟨List.mem_of_getElem? (i := 247) rfl, by decide +kernel⟩
theorem tw_244 : (Cond.methodLink R_Gate 120 y_Gate_emit) ∈ TB_w := List.mem_filter.mpr ⟨List.mem_of_getElem? (i := 244) (by decide +kernel), by decide +kernel⟩
theorem tw_246 : (Cond.instanceMethod y_Gate_emit) ∈ TB_w := List.mem_filter.mpr ⟨List.mem_of_getElem? (i := 246) (by decide +kernel), by decide +kernel⟩
theorem tw_11 : (Cond.selects R_Gate y_Gate_emit y_Gate_emit) ∈ TB_w := List.mem_filter.mpr ⟨List.mem_of_getElem? (i := 11) (by decide +kernel), by decide +kernel⟩
theorem tw_243 : (Cond.code y_Arrs_fill_i b_Arrs_fill_i 4 none) ∈ TB_w := List.mem_filter.mpr ⟨List.mem_of_getElem? (i := 243) rfl, by decide +kernel⟩
theorem tw_241 : (Cond.methodLink R_Gate 114 y_Arrs_fill_i) ∈ TB_w := List.mem_filter.mpr ⟨List.mem_of_getElem? (i := 241) (by decide +kernel), by decide +kernel⟩
theorem tw_242 : (Cond.static y_Arrs_fill_i) ∈ TB_w := List.mem_filter.mpr ⟨List.mem_of_getElem? (i := 242) (by decide +kernel), by decide +kernel⟩
set_option maxHeartbeats 4000000 in
set_option maxRecDepth 100000 in
theorem c_Gate_runBothCopies (l : Launch) (dC : Nat → ClassId) (dI : Nat → Nat → Nat) (cI cL : ClassId) (hs0 : Nat) (x0 : Nat) (lm : Nat) (pg : Nat) (a_cp : Nat) (b_cp : Nat) (pn : Nat) (gv : Nat) (sh : Nat) (bg : Int32) (lt : Int32) (em : Int32) (sp : Int32) (fd : Int32) (oa : Nat) (na : Nat) (ops : Nat → Int32) (nums : Nat → Int32) (sz : Int32) (a_rw : Nat) (a_po : Nat) (a_rr : Nat → Int64) (a_qq : Nat → Int64) (a_pl : Int32) (b_rw : Nat) (b_po : Nat) (b_rr : Nat → Int64) (b_qq : Nat → Int64) (b_pl : Int32) (ka : Nat) (kb : Nat) (kc : Nat) (kd : Nat) (fc : Nat → Int32) (fl : Nat → Int32) (fb : Nat → Int32) (fs : Nat → Int32) (np : Nat) (gg : Nat → Int32) (hz : sz ≤ 100) (hok : pg_ok ops nums sz) (hnp : np ≤ 4) (hpl : pl_ok fl np) (hlm : lm ≤ 5000) : ct_i l y_Gate_runBothCopies b_Gate_runBothCopies 2 (some .int) ({ frames := 4, cells := 0, slots := 0, locals := 160 }) (dC, dI) cI cL [.ref x0] [(x0, .inr (0, [.int (nI lm), .ref pg, .ref a_cp, .ref b_cp, .ref pn, .ref gv, .ref sh, .int bg, .int lt, .int em, .int sp, .int fd])), (pg, .inr (3, [.ref oa, .ref na, .int sz])), (oa, .inl (cI, 100, .inl ops)), (na, .inl (cI, 100, .inl nums)), (a_cp, .inr (1, [.long 1, .ref a_rw, .ref a_po, .int a_pl])), (a_rw, .inl (cL, 18, .inr (.inl a_rr))), (a_po, .inl (cL, 4, .inr (.inl a_qq))), (b_cp, .inr (1, [.long 58659, .ref b_rw, .ref b_po, .int b_pl])), (b_rw, .inl (cL, 18, .inr (.inl b_rr))), (b_po, .inl (cL, 4, .inr (.inl b_qq))), (pn, .inr (2, [.ref ka, .ref kb, .ref kc, .ref kd, .int (nI np)])), (ka, .inl (cI, 4, .inl fc)), (kb, .inl (cI, 4, .inl fl)), (kc, .inl (cI, 4, .inl fb)), (kd, .inl (cI, 4, .inl fs)), (gv, .inl (cI, 4, .inl gg))] hs0 (fun (r : Int32) (u : (Nat → Int64) × (Nat → Int64) × (Nat → Int64) × Int32 × (Nat → Int64) × Int32 × Int32 × Int32) => r = (rb_w (sa_w ops nums sz gg fc fl fb fs np) (sb_w ops nums sz gg fc fl fb fs np) lm a_rr b_rr a_qq b_qq b_pl sp fd).1 ∧ u.1 = (rb_w (sa_w ops nums sz gg fc fl fb fs np) (sb_w ops nums sz gg fc fl fb fs np) lm a_rr b_rr a_qq b_qq b_pl sp fd).2.1 ∧ u.2.1 = (rb_w (sa_w ops nums sz gg fc fl fb fs np) (sb_w ops nums sz gg fc fl fb fs np) lm a_rr b_rr a_qq b_qq b_pl sp fd).2.2.1 ∧ u.2.2.1 = (rb_w (sa_w ops nums sz gg fc fl fb fs np) (sb_w ops nums sz gg fc fl fb fs np) lm a_rr b_rr a_qq b_qq b_pl sp fd).2.2.2.1 ∧ u.2.2.2.1 = (rb_w (sa_w ops nums sz gg fc fl fb fs np) (sb_w ops nums sz gg fc fl fb fs np) lm a_rr b_rr a_qq b_qq b_pl sp fd).2.2.2.2.1 ∧ u.2.2.2.2.1 = (rb_w (sa_w ops nums sz gg fc fl fb fs np) (sb_w ops nums sz gg fc fl fb fs np) lm a_rr b_rr a_qq b_qq b_pl sp fd).2.2.2.2.2.1 ∧ u.2.2.2.2.2.1 = (rb_w (sa_w ops nums sz gg fc fl fb fs np) (sb_w ops nums sz gg fc fl fb fs np) lm a_rr b_rr a_qq b_qq b_pl sp fd).2.2.2.2.2.2.1 ∧ u.2.2.2.2.2.2.1 = (rb_w (sa_w ops nums sz gg fc fl fb fs np) (sb_w ops nums sz gg fc fl fb fs np) lm a_rr b_rr a_qq b_qq b_pl sp fd).2.2.2.2.2.2.2.1 ∧ u.2.2.2.2.2.2.2 = (rb_w (sa_w ops nums sz gg fc fl fb fs np) (sb_w ops nums sz gg fc fl fb fs np) lm a_rr b_rr a_qq b_qq b_pl sp fd).2.2.2.2.2.2.2.2) (fun u => [(x0, .inr (0, [.int (nI lm), .ref pg, .ref a_cp, .ref b_cp, .ref pn, .ref gv, .ref sh, .int bg, .int lt, .int em, .int u.2.2.2.2.2.2.1, .int u.2.2.2.2.2.2.2])), (pg, .inr (3, [.ref oa, .ref na, .int sz])), (oa, .inl (cI, 100, .inl ops)), (na, .inl (cI, 100, .inl nums)), (a_cp, .inr (1, [.long 1, .ref a_rw, .ref a_po, .int u.2.2.2.1])), (a_rw, .inl (cL, 18, .inr (.inl u.1))), (a_po, .inl (cL, 4, .inr (.inl u.2.2.1))), (b_cp, .inr (1, [.long 58659, .ref b_rw, .ref b_po, .int u.2.2.2.2.2.1])), (b_rw, .inl (cL, 18, .inr (.inl u.2.1))), (b_po, .inl (cL, 4, .inr (.inl u.2.2.2.2.1))), (pn, .inr (2, [.ref ka, .ref kb, .ref kc, .ref kd, .int (nI np)])), (ka, .inl (cI, 4, .inl fc)), (kb, .inl (cI, 4, .inl fl)), (kc, .inl (cI, 4, .inl fb)), (kd, .inl (cI, 4, .inl fs)), (gv, .inl (cI, 4, .inl gg))]) 0 0 := by
  refine st_w (Qc := fun A => va_Qi (fun (r : Int32) (u : (Nat → Int64) × (Nat → Int64) × (Nat → Int64) × Int32 × (Nat → Int64) × Int32 × Int32 × Int32) => r = (rb_w (sa_w ops nums sz gg fc fl fb fs np) (sb_w ops nums sz gg fc fl fb fs np) lm a_rr b_rr a_qq b_qq b_pl sp fd).1 ∧ u.1 = (rb_w (sa_w ops nums sz gg fc fl fb fs np) (sb_w ops nums sz gg fc fl fb fs np) lm a_rr b_rr a_qq b_qq b_pl sp fd).2.1 ∧ u.2.1 = (rb_w (sa_w ops nums sz gg fc fl fb fs np) (sb_w ops nums sz gg fc fl fb fs np) lm a_rr b_rr a_qq b_qq b_pl sp fd).2.2.1 ∧ u.2.2.1 = (rb_w (sa_w ops nums sz gg fc fl fb fs np) (sb_w ops nums sz gg fc fl fb fs np) lm a_rr b_rr a_qq b_qq b_pl sp fd).2.2.2.1 ∧ u.2.2.2.1 = (rb_w (sa_w ops nums sz gg fc fl fb fs np) (sb_w ops nums sz gg fc fl fb fs np) lm a_rr b_rr a_qq b_qq b_pl sp fd).2.2.2.2.1 ∧ u.2.2.2.2.1 = (rb_w (sa_w ops nums sz gg fc fl fb fs np) (sb_w ops nums sz gg fc fl fb fs np) lm a_rr b_rr a_qq b_qq b_pl sp fd).2.2.2.2.2.1 ∧ u.2.2.2.2.2.1 = (rb_w (sa_w ops nums sz gg fc fl fb fs np) (sb_w ops nums sz gg fc fl fb fs np) lm a_rr b_rr a_qq b_qq b_pl sp fd).2.2.2.2.2.2.1 ∧ u.2.2.2.2.2.2.1 = (rb_w (sa_w ops nums sz gg fc fl fb fs np) (sb_w ops nums sz gg fc fl fb fs np) lm a_rr b_rr a_qq b_qq b_pl sp fd).2.2.2.2.2.2.2.1 ∧ u.2.2.2.2.2.2.2 = (rb_w (sa_w ops nums sz gg fc fl fb fs np) (sb_w ops nums sz gg fc fl fb fs np) lm a_rr b_rr a_qq b_qq b_pl sp fd).2.2.2.2.2.2.2.2) (fun (u : (Nat → Int64) × (Nat → Int64) × (Nat → Int64) × Int32 × (Nat → Int64) × Int32 × Int32 × Int32) t => pos_w (dC, dI) A [(x0, .inr (0, [.int (nI lm), .ref pg, .ref a_cp, .ref b_cp, .ref pn, .ref gv, .ref sh, .int bg, .int lt, .int em, .int u.2.2.2.2.2.2.1, .int u.2.2.2.2.2.2.2])), (pg, .inr (3, [.ref oa, .ref na, .int sz])), (oa, .inl (cI, 100, .inl ops)), (na, .inl (cI, 100, .inl nums)), (a_cp, .inr (1, [.long 1, .ref a_rw, .ref a_po, .int u.2.2.2.1])), (a_rw, .inl (cL, 18, .inr (.inl u.1))), (a_po, .inl (cL, 4, .inr (.inl u.2.2.1))), (b_cp, .inr (1, [.long 58659, .ref b_rw, .ref b_po, .int u.2.2.2.2.2.1])), (b_rw, .inl (cL, 18, .inr (.inl u.2.1))), (b_po, .inl (cL, 4, .inr (.inl u.2.2.2.2.1))), (pn, .inr (2, [.ref ka, .ref kb, .ref kc, .ref kd, .int (nI np)])), (ka, .inl (cI, 4, .inl fc)), (kb, .inl (cI, 4, .inl fl)), (kc, .inl (cI, 4, .inl fb)), (kd, .inl (cI, 4, .inl fs)), (gv, .inl (cI, 4, .inl gg))] t) A) (by decide) (Nat.le_of_ble_eq_true rfl) ?_
  intro p e s m below meth c A ls hfx hK hA hP hD hS hl
  obtain ⟨hx, hb, hml, hown, htb, hr, hlocks, hin⟩ := hfx
  have hl : lv_has ls 2 [(0, .ref x0)] := hl
  refine lv_aload_n hx hb d_Gate_runBothCopies_0 rfl (lv_at hl 0 rfl) ?_
  refine lv_aload_n hx hb d_Gate_runBothCopies_1 rfl (lv_at hl 0 rfl) ?_
  refine va_get (D := (dC, dI)) (ci := 0) (v := .ref a_cp) (C := R_Gate) (T := F_Gate) (N := 12) hx hb htb iw_Gate hown hK.1 hP 0 rfl rfl 2 (by decide) (htb _ tw_120) (fun _ h9 => h9) rfl d_Gate_runBothCopies_2 ?_
  refine af_i (wr := [(b_po, .inl (cL, 4, .inr (.inl b_qq)))]) (va_runV (As := [.ref a_cp]) (rest := []) ⟨hx, hb, hml, hown, htb⟩ (c_Gate_runToItsEnd0 l dC dI cI cL s.heap.size x0 lm pg a_cp b_cp pn gv sh bg lt em sp fd oa na ops nums sz a_rw a_po a_rr a_qq a_pl b_rw b_po b_rr b_pl ka kb kc kd fc fl fb fs np gg hz hok hnp hpl hlm) ⟨callB_of 1 htb (gd_w tw_181) rfl rfl rfl (htb _ tw_20) (htb _ tw_178) (by decide +kernel) ⟨Nat.le_of_ble_eq_true rfl, Nat.le_of_ble_eq_true rfl⟩, htb _ tw_180, htb _ tw_1⟩ (pv_V hK (hP.sub (ws' := [(x0, .inr (0, [.int (nI lm), .ref pg, .ref a_cp, .ref b_cp, .ref pn, .ref gv, .ref sh, .int bg, .int lt, .int em, .int sp, .int fd])), (pg, .inr (3, [.ref oa, .ref na, .int sz])), (oa, .inl (cI, 100, .inl ops)), (na, .inl (cI, 100, .inl nums)), (a_cp, .inr (1, [.long 1, .ref a_rw, .ref a_po, .int a_pl])), (a_rw, .inl (cL, 18, .inr (.inl a_rr))), (a_po, .inl (cL, 4, .inr (.inl a_qq))), (b_cp, .inr (1, [.long 58659, .ref b_rw, .ref b_po, .int b_pl])), (b_rw, .inl (cL, 18, .inr (.inl b_rr))), (pn, .inr (2, [.ref ka, .ref kb, .ref kc, .ref kd, .int (nI np)])), (ka, .inl (cI, 4, .inl fc)), (kb, .inl (cI, 4, .inl fl)), (kc, .inl (cI, 4, .inl fb)), (kd, .inl (cI, 4, .inl fs)), (gv, .inl (cI, 4, .inl gg))]) [0, 1, 2, 3, 4, 5, 6, 7, 8, 10, 11, 12, 13, 14, 15] rfl) (hD.sub (ws' := [(x0, .inr (0, [.int (nI lm), .ref pg, .ref a_cp, .ref b_cp, .ref pn, .ref gv, .ref sh, .int bg, .int lt, .int em, .int sp, .int fd])), (pg, .inr (3, [.ref oa, .ref na, .int sz])), (oa, .inl (cI, 100, .inl ops)), (na, .inl (cI, 100, .inl nums)), (a_cp, .inr (1, [.long 1, .ref a_rw, .ref a_po, .int a_pl])), (a_rw, .inl (cL, 18, .inr (.inl a_rr))), (a_po, .inl (cL, 4, .inr (.inl a_qq))), (b_cp, .inr (1, [.long 58659, .ref b_rw, .ref b_po, .int b_pl])), (b_rw, .inl (cL, 18, .inr (.inl b_rr))), (pn, .inr (2, [.ref ka, .ref kb, .ref kc, .ref kd, .int (nI np)])), (ka, .inl (cI, 4, .inl fc)), (kb, .inl (cI, 4, .inl fl)), (kc, .inl (cI, 4, .inl fb)), (kd, .inl (cI, 4, .inl fs)), (gv, .inl (cI, 4, .inl gg))]) [0, 1, 2, 3, 4, 5, 6, 7, 8, 10, 11, 12, 13, 14, 15] (by decide) rfl) (ci := 0) (q0 := 0) rfl rfl) rfl rfl hl.1 rfl (lv_room (Nat.le_of_ble_eq_true rfl)) d_Gate_runBothCopies_5 ⟨Nat.le_of_ble_eq_true rfl, Nat.le_of_ble_eq_true rfl⟩) hP hD hS hA [0, 1, 2, 3, 4, 5, 6, 7, 8, 10, 11, 12, 13, 14, 15] [9] rfl rfl (by decide) (by decide) (fun r_1 u_2 H locs hw hP hD hS => ?_)
  obtain ⟨z_3, z_4, z_5, z_6, z_7, z_8⟩ := u_2
  try dsimp only at hw
  obtain ⟨rfl, rfl, rfl, rfl, rfl, rfl, rfl⟩ := hw
  have hP : va_P (dC, dI) classes [(b_po, .inl (cL, 4, .inr (.inl b_qq))), (x0, .inr (0, [.int (nI lm), .ref pg, .ref a_cp, .ref b_cp, .ref pn, .ref gv, .ref sh, .int bg, .int lt, .int em, .int ((rn_w (sa_w ops nums sz gg fc fl fb fs np) lm (bg_w a_rr, b_rr, f4_w a_qq 0, 0, sp, fd)).2.2.2.2.2.1), .int ((rn_w (sa_w ops nums sz gg fc fl fb fs np) lm (bg_w a_rr, b_rr, f4_w a_qq 0, 0, sp, fd)).2.2.2.2.2.2)])), (pg, .inr (3, [.ref oa, .ref na, .int sz])), (oa, .inl (cI, 100, .inl ops)), (na, .inl (cI, 100, .inl nums)), (a_cp, .inr (1, [.long 1, .ref a_rw, .ref a_po, .int ((rn_w (sa_w ops nums sz gg fc fl fb fs np) lm (bg_w a_rr, b_rr, f4_w a_qq 0, 0, sp, fd)).2.2.2.2.1)])), (a_rw, .inl (cL, 18, .inr (.inl ((rn_w (sa_w ops nums sz gg fc fl fb fs np) lm (bg_w a_rr, b_rr, f4_w a_qq 0, 0, sp, fd)).2.1)))), (a_po, .inl (cL, 4, .inr (.inl ((rn_w (sa_w ops nums sz gg fc fl fb fs np) lm (bg_w a_rr, b_rr, f4_w a_qq 0, 0, sp, fd)).2.2.2.1)))), (b_cp, .inr (1, [.long 58659, .ref b_rw, .ref b_po, .int b_pl])), (b_rw, .inl (cL, 18, .inr (.inl ((rn_w (sa_w ops nums sz gg fc fl fb fs np) lm (bg_w a_rr, b_rr, f4_w a_qq 0, 0, sp, fd)).2.2.1)))), (pn, .inr (2, [.ref ka, .ref kb, .ref kc, .ref kd, .int (nI np)])), (ka, .inl (cI, 4, .inl fc)), (kb, .inl (cI, 4, .inl fl)), (kc, .inl (cI, 4, .inl fb)), (kd, .inl (cI, 4, .inl fs)), (gv, .inl (cI, 4, .inl gg))] H := hP
  have hD : va_D A [(b_po, .inl (cL, 4, .inr (.inl b_qq))), (x0, .inr (0, [.int (nI lm), .ref pg, .ref a_cp, .ref b_cp, .ref pn, .ref gv, .ref sh, .int bg, .int lt, .int em, .int ((rn_w (sa_w ops nums sz gg fc fl fb fs np) lm (bg_w a_rr, b_rr, f4_w a_qq 0, 0, sp, fd)).2.2.2.2.2.1), .int ((rn_w (sa_w ops nums sz gg fc fl fb fs np) lm (bg_w a_rr, b_rr, f4_w a_qq 0, 0, sp, fd)).2.2.2.2.2.2)])), (pg, .inr (3, [.ref oa, .ref na, .int sz])), (oa, .inl (cI, 100, .inl ops)), (na, .inl (cI, 100, .inl nums)), (a_cp, .inr (1, [.long 1, .ref a_rw, .ref a_po, .int ((rn_w (sa_w ops nums sz gg fc fl fb fs np) lm (bg_w a_rr, b_rr, f4_w a_qq 0, 0, sp, fd)).2.2.2.2.1)])), (a_rw, .inl (cL, 18, .inr (.inl ((rn_w (sa_w ops nums sz gg fc fl fb fs np) lm (bg_w a_rr, b_rr, f4_w a_qq 0, 0, sp, fd)).2.1)))), (a_po, .inl (cL, 4, .inr (.inl ((rn_w (sa_w ops nums sz gg fc fl fb fs np) lm (bg_w a_rr, b_rr, f4_w a_qq 0, 0, sp, fd)).2.2.2.1)))), (b_cp, .inr (1, [.long 58659, .ref b_rw, .ref b_po, .int b_pl])), (b_rw, .inl (cL, 18, .inr (.inl ((rn_w (sa_w ops nums sz gg fc fl fb fs np) lm (bg_w a_rr, b_rr, f4_w a_qq 0, 0, sp, fd)).2.2.1)))), (pn, .inr (2, [.ref ka, .ref kb, .ref kc, .ref kd, .int (nI np)])), (ka, .inl (cI, 4, .inl fc)), (kb, .inl (cI, 4, .inl fl)), (kc, .inl (cI, 4, .inl fb)), (kd, .inl (cI, 4, .inl fs)), (gv, .inl (cI, 4, .inl gg))] := hD
  refine lv_istore_n (lv' := [(1, .int ((rn_w (sa_w ops nums sz gg fc fl fb fs np) lm (bg_w a_rr, b_rr, f4_w a_qq 0, 0, sp, fd)).1)), (0, .ref x0)]) hx hb d_Gate_runBothCopies_8 rfl hl (by decide) rfl (fun ls hl => ?_)
  refine lv_iload_n hx hb d_Gate_runBothCopies_9 rfl (lv_at hl 0 rfl) ?_
  refine lv_if_ne (tgt := 22) hx hb d_Gate_runBothCopies_10 (by decide) (fun c_9 => ?_) (fun c_9 => ?_)
  · have c_9 : ¬ ((rn_w (sa_w ops nums sz gg fc fl fb fs np) lm (bg_w a_rr, b_rr, f4_w a_qq 0, 0, sp, fd)).1) = 0 := c_9
    refine lv_iload_n hx hb d_Gate_runBothCopies_22 rfl (lv_at hl 0 rfl) ?_
    refine lv_if_ne (tgt := 35) hx hb d_Gate_runBothCopies_23 (by decide) (fun c_10 => ?_) (fun c_10 => ?_)
    · skip
      refine lv_iload_n hx hb d_Gate_runBothCopies_35 rfl (lv_at hl 0 rfl) ?_
      exact rt_i (v := (rn_w (sa_w ops nums sz gg fc fl fb fs np) lm (bg_w a_rr, b_rr, f4_w a_qq 0, 0, sp, fd)).1) ((rn_w (sa_w ops nums sz gg fc fl fb fs np) lm (bg_w a_rr, b_rr, f4_w a_qq 0, 0, sp, fd)).2.1, (rn_w (sa_w ops nums sz gg fc fl fb fs np) lm (bg_w a_rr, b_rr, f4_w a_qq 0, 0, sp, fd)).2.2.1, (rn_w (sa_w ops nums sz gg fc fl fb fs np) lm (bg_w a_rr, b_rr, f4_w a_qq 0, 0, sp, fd)).2.2.2.1, (rn_w (sa_w ops nums sz gg fc fl fb fs np) lm (bg_w a_rr, b_rr, f4_w a_qq 0, 0, sp, fd)).2.2.2.2.1, b_qq, b_pl, (rn_w (sa_w ops nums sz gg fc fl fb fs np) lm (bg_w a_rr, b_rr, f4_w a_qq 0, 0, sp, fd)).2.2.2.2.2.1, (rn_w (sa_w ops nums sz gg fc fl fb fs np) lm (bg_w a_rr, b_rr, f4_w a_qq 0, 0, sp, fd)).2.2.2.2.2.2) hx hb hr hlocks (show ((rn_w (sa_w ops nums sz gg fc fl fb fs np) lm (bg_w a_rr, b_rr, f4_w a_qq 0, 0, sp, fd)).1) = (rb_w (sa_w ops nums sz gg fc fl fb fs np) (sb_w ops nums sz gg fc fl fb fs np) lm a_rr b_rr a_qq b_qq b_pl sp fd).1 ∧ ((rn_w (sa_w ops nums sz gg fc fl fb fs np) lm (bg_w a_rr, b_rr, f4_w a_qq 0, 0, sp, fd)).2.1) = (rb_w (sa_w ops nums sz gg fc fl fb fs np) (sb_w ops nums sz gg fc fl fb fs np) lm a_rr b_rr a_qq b_qq b_pl sp fd).2.1 ∧ ((rn_w (sa_w ops nums sz gg fc fl fb fs np) lm (bg_w a_rr, b_rr, f4_w a_qq 0, 0, sp, fd)).2.2.1) = (rb_w (sa_w ops nums sz gg fc fl fb fs np) (sb_w ops nums sz gg fc fl fb fs np) lm a_rr b_rr a_qq b_qq b_pl sp fd).2.2.1 ∧ ((rn_w (sa_w ops nums sz gg fc fl fb fs np) lm (bg_w a_rr, b_rr, f4_w a_qq 0, 0, sp, fd)).2.2.2.1) = (rb_w (sa_w ops nums sz gg fc fl fb fs np) (sb_w ops nums sz gg fc fl fb fs np) lm a_rr b_rr a_qq b_qq b_pl sp fd).2.2.2.1 ∧ ((rn_w (sa_w ops nums sz gg fc fl fb fs np) lm (bg_w a_rr, b_rr, f4_w a_qq 0, 0, sp, fd)).2.2.2.2.1) = (rb_w (sa_w ops nums sz gg fc fl fb fs np) (sb_w ops nums sz gg fc fl fb fs np) lm a_rr b_rr a_qq b_qq b_pl sp fd).2.2.2.2.1 ∧ b_qq = (rb_w (sa_w ops nums sz gg fc fl fb fs np) (sb_w ops nums sz gg fc fl fb fs np) lm a_rr b_rr a_qq b_qq b_pl sp fd).2.2.2.2.2.1 ∧ b_pl = (rb_w (sa_w ops nums sz gg fc fl fb fs np) (sb_w ops nums sz gg fc fl fb fs np) lm a_rr b_rr a_qq b_qq b_pl sp fd).2.2.2.2.2.2.1 ∧ ((rn_w (sa_w ops nums sz gg fc fl fb fs np) lm (bg_w a_rr, b_rr, f4_w a_qq 0, 0, sp, fd)).2.2.2.2.2.1) = (rb_w (sa_w ops nums sz gg fc fl fb fs np) (sb_w ops nums sz gg fc fl fb fs np) lm a_rr b_rr a_qq b_qq b_pl sp fd).2.2.2.2.2.2.2.1 ∧ ((rn_w (sa_w ops nums sz gg fc fl fb fs np) lm (bg_w a_rr, b_rr, f4_w a_qq 0, 0, sp, fd)).2.2.2.2.2.2) = (rb_w (sa_w ops nums sz gg fc fl fb fs np) (sb_w ops nums sz gg fc fl fb fs np) lm a_rr b_rr a_qq b_qq b_pl sp fd).2.2.2.2.2.2.2.2 from (by rw [rb_e4 (fa := (sa_w ops nums sz gg fc fl fb fs np)) (fb := (sb_w ops nums sz gg fc fl fb fs np)) (lm := lm) (ra := a_rr) (rb := b_rr) (qa := a_qq) (qb := b_qq) (plb := b_pl) (sp := sp) (fd := fd) c_9]; exact ⟨rfl, rfl, rfl, rfl, rfl, rfl, rfl, rfl, rfl⟩)) (hP.sub (ws' := [(x0, .inr (0, [.int (nI lm), .ref pg, .ref a_cp, .ref b_cp, .ref pn, .ref gv, .ref sh, .int bg, .int lt, .int em, .int ((rn_w (sa_w ops nums sz gg fc fl fb fs np) lm (bg_w a_rr, b_rr, f4_w a_qq 0, 0, sp, fd)).2.2.2.2.2.1), .int ((rn_w (sa_w ops nums sz gg fc fl fb fs np) lm (bg_w a_rr, b_rr, f4_w a_qq 0, 0, sp, fd)).2.2.2.2.2.2)])), (pg, .inr (3, [.ref oa, .ref na, .int sz])), (oa, .inl (cI, 100, .inl ops)), (na, .inl (cI, 100, .inl nums)), (a_cp, .inr (1, [.long 1, .ref a_rw, .ref a_po, .int ((rn_w (sa_w ops nums sz gg fc fl fb fs np) lm (bg_w a_rr, b_rr, f4_w a_qq 0, 0, sp, fd)).2.2.2.2.1)])), (a_rw, .inl (cL, 18, .inr (.inl ((rn_w (sa_w ops nums sz gg fc fl fb fs np) lm (bg_w a_rr, b_rr, f4_w a_qq 0, 0, sp, fd)).2.1)))), (a_po, .inl (cL, 4, .inr (.inl ((rn_w (sa_w ops nums sz gg fc fl fb fs np) lm (bg_w a_rr, b_rr, f4_w a_qq 0, 0, sp, fd)).2.2.2.1)))), (b_cp, .inr (1, [.long 58659, .ref b_rw, .ref b_po, .int b_pl])), (b_rw, .inl (cL, 18, .inr (.inl ((rn_w (sa_w ops nums sz gg fc fl fb fs np) lm (bg_w a_rr, b_rr, f4_w a_qq 0, 0, sp, fd)).2.2.1)))), (b_po, .inl (cL, 4, .inr (.inl b_qq))), (pn, .inr (2, [.ref ka, .ref kb, .ref kc, .ref kd, .int (nI np)])), (ka, .inl (cI, 4, .inl fc)), (kb, .inl (cI, 4, .inl fl)), (kc, .inl (cI, 4, .inl fb)), (kd, .inl (cI, 4, .inl fs)), (gv, .inl (cI, 4, .inl gg))]) [1, 2, 3, 4, 5, 6, 7, 8, 9, 0, 10, 11, 12, 13, 14, 15] rfl) (hD.sub (ws' := [(x0, .inr (0, [.int (nI lm), .ref pg, .ref a_cp, .ref b_cp, .ref pn, .ref gv, .ref sh, .int bg, .int lt, .int em, .int ((rn_w (sa_w ops nums sz gg fc fl fb fs np) lm (bg_w a_rr, b_rr, f4_w a_qq 0, 0, sp, fd)).2.2.2.2.2.1), .int ((rn_w (sa_w ops nums sz gg fc fl fb fs np) lm (bg_w a_rr, b_rr, f4_w a_qq 0, 0, sp, fd)).2.2.2.2.2.2)])), (pg, .inr (3, [.ref oa, .ref na, .int sz])), (oa, .inl (cI, 100, .inl ops)), (na, .inl (cI, 100, .inl nums)), (a_cp, .inr (1, [.long 1, .ref a_rw, .ref a_po, .int ((rn_w (sa_w ops nums sz gg fc fl fb fs np) lm (bg_w a_rr, b_rr, f4_w a_qq 0, 0, sp, fd)).2.2.2.2.1)])), (a_rw, .inl (cL, 18, .inr (.inl ((rn_w (sa_w ops nums sz gg fc fl fb fs np) lm (bg_w a_rr, b_rr, f4_w a_qq 0, 0, sp, fd)).2.1)))), (a_po, .inl (cL, 4, .inr (.inl ((rn_w (sa_w ops nums sz gg fc fl fb fs np) lm (bg_w a_rr, b_rr, f4_w a_qq 0, 0, sp, fd)).2.2.2.1)))), (b_cp, .inr (1, [.long 58659, .ref b_rw, .ref b_po, .int b_pl])), (b_rw, .inl (cL, 18, .inr (.inl ((rn_w (sa_w ops nums sz gg fc fl fb fs np) lm (bg_w a_rr, b_rr, f4_w a_qq 0, 0, sp, fd)).2.2.1)))), (b_po, .inl (cL, 4, .inr (.inl b_qq))), (pn, .inr (2, [.ref ka, .ref kb, .ref kc, .ref kd, .int (nI np)])), (ka, .inl (cI, 4, .inl fc)), (kb, .inl (cI, 4, .inl fl)), (kc, .inl (cI, 4, .inl fb)), (kd, .inl (cI, 4, .inl fs)), (gv, .inl (cI, 4, .inl gg))]) [1, 2, 3, 4, 5, 6, 7, 8, 9, 0, 10, 11, 12, 13, 14, 15] (by decide) rfl) hS d_Gate_runBothCopies_36
    · exact absurd c_10 (c_9)
  · have c_9 : ((rn_w (sa_w ops nums sz gg fc fl fb fs np) lm (bg_w a_rr, b_rr, f4_w a_qq 0, 0, sp, fd)).1) = 0 := c_9
    refine lv_aload_n hx hb d_Gate_runBothCopies_13 rfl (lv_at hl 1 rfl) ?_
    refine lv_aload_n hx hb d_Gate_runBothCopies_14 rfl (lv_at hl 1 rfl) ?_
    refine va_get (D := (dC, dI)) (ci := 0) (v := .ref b_cp) (C := R_Gate) (T := F_Gate) (N := 12) hx hb htb iw_Gate hown hK.1 hP 1 rfl rfl 3 (by decide) (htb _ tw_121) (fun _ h9 => h9) rfl d_Gate_runBothCopies_15 ?_
    refine af_i (wr := [(a_po, .inl (cL, 4, .inr (.inl ((rn_w (sa_w ops nums sz gg fc fl fb fs np) lm (bg_w a_rr, b_rr, f4_w a_qq 0, 0, sp, fd)).2.2.2.1))))]) (va_runV (As := [.ref b_cp]) (rest := []) ⟨hx, hb, hml, hown, htb⟩ (c_Gate_runToItsEnd1 l dC dI cI cL H.size x0 lm pg a_cp b_cp pn gv sh bg lt em ((rn_w (sa_w ops nums sz gg fc fl fb fs np) lm (bg_w a_rr, b_rr, f4_w a_qq 0, 0, sp, fd)).2.2.2.2.2.1) ((rn_w (sa_w ops nums sz gg fc fl fb fs np) lm (bg_w a_rr, b_rr, f4_w a_qq 0, 0, sp, fd)).2.2.2.2.2.2) oa na ops nums sz a_rw a_po ((rn_w (sa_w ops nums sz gg fc fl fb fs np) lm (bg_w a_rr, b_rr, f4_w a_qq 0, 0, sp, fd)).2.1) ((rn_w (sa_w ops nums sz gg fc fl fb fs np) lm (bg_w a_rr, b_rr, f4_w a_qq 0, 0, sp, fd)).2.2.2.2.1) b_rw b_po ((rn_w (sa_w ops nums sz gg fc fl fb fs np) lm (bg_w a_rr, b_rr, f4_w a_qq 0, 0, sp, fd)).2.2.1) b_qq b_pl ka kb kc kd fc fl fb fs np gg hz hok hnp hpl hlm) ⟨callB_of 1 htb (gd_w tw_181) rfl rfl rfl (htb _ tw_20) (htb _ tw_178) (by decide +kernel) ⟨Nat.le_of_ble_eq_true rfl, Nat.le_of_ble_eq_true rfl⟩, htb _ tw_180, htb _ tw_1⟩ (pv_V hK (hP.sub (ws' := [(x0, .inr (0, [.int (nI lm), .ref pg, .ref a_cp, .ref b_cp, .ref pn, .ref gv, .ref sh, .int bg, .int lt, .int em, .int ((rn_w (sa_w ops nums sz gg fc fl fb fs np) lm (bg_w a_rr, b_rr, f4_w a_qq 0, 0, sp, fd)).2.2.2.2.2.1), .int ((rn_w (sa_w ops nums sz gg fc fl fb fs np) lm (bg_w a_rr, b_rr, f4_w a_qq 0, 0, sp, fd)).2.2.2.2.2.2)])), (pg, .inr (3, [.ref oa, .ref na, .int sz])), (oa, .inl (cI, 100, .inl ops)), (na, .inl (cI, 100, .inl nums)), (b_cp, .inr (1, [.long 58659, .ref b_rw, .ref b_po, .int b_pl])), (b_rw, .inl (cL, 18, .inr (.inl ((rn_w (sa_w ops nums sz gg fc fl fb fs np) lm (bg_w a_rr, b_rr, f4_w a_qq 0, 0, sp, fd)).2.2.1)))), (b_po, .inl (cL, 4, .inr (.inl b_qq))), (a_cp, .inr (1, [.long 1, .ref a_rw, .ref a_po, .int ((rn_w (sa_w ops nums sz gg fc fl fb fs np) lm (bg_w a_rr, b_rr, f4_w a_qq 0, 0, sp, fd)).2.2.2.2.1)])), (a_rw, .inl (cL, 18, .inr (.inl ((rn_w (sa_w ops nums sz gg fc fl fb fs np) lm (bg_w a_rr, b_rr, f4_w a_qq 0, 0, sp, fd)).2.1)))), (pn, .inr (2, [.ref ka, .ref kb, .ref kc, .ref kd, .int (nI np)])), (ka, .inl (cI, 4, .inl fc)), (kb, .inl (cI, 4, .inl fl)), (kc, .inl (cI, 4, .inl fb)), (kd, .inl (cI, 4, .inl fs)), (gv, .inl (cI, 4, .inl gg))]) [1, 2, 3, 4, 8, 9, 0, 5, 6, 10, 11, 12, 13, 14, 15] rfl) (hD.sub (ws' := [(x0, .inr (0, [.int (nI lm), .ref pg, .ref a_cp, .ref b_cp, .ref pn, .ref gv, .ref sh, .int bg, .int lt, .int em, .int ((rn_w (sa_w ops nums sz gg fc fl fb fs np) lm (bg_w a_rr, b_rr, f4_w a_qq 0, 0, sp, fd)).2.2.2.2.2.1), .int ((rn_w (sa_w ops nums sz gg fc fl fb fs np) lm (bg_w a_rr, b_rr, f4_w a_qq 0, 0, sp, fd)).2.2.2.2.2.2)])), (pg, .inr (3, [.ref oa, .ref na, .int sz])), (oa, .inl (cI, 100, .inl ops)), (na, .inl (cI, 100, .inl nums)), (b_cp, .inr (1, [.long 58659, .ref b_rw, .ref b_po, .int b_pl])), (b_rw, .inl (cL, 18, .inr (.inl ((rn_w (sa_w ops nums sz gg fc fl fb fs np) lm (bg_w a_rr, b_rr, f4_w a_qq 0, 0, sp, fd)).2.2.1)))), (b_po, .inl (cL, 4, .inr (.inl b_qq))), (a_cp, .inr (1, [.long 1, .ref a_rw, .ref a_po, .int ((rn_w (sa_w ops nums sz gg fc fl fb fs np) lm (bg_w a_rr, b_rr, f4_w a_qq 0, 0, sp, fd)).2.2.2.2.1)])), (a_rw, .inl (cL, 18, .inr (.inl ((rn_w (sa_w ops nums sz gg fc fl fb fs np) lm (bg_w a_rr, b_rr, f4_w a_qq 0, 0, sp, fd)).2.1)))), (pn, .inr (2, [.ref ka, .ref kb, .ref kc, .ref kd, .int (nI np)])), (ka, .inl (cI, 4, .inl fc)), (kb, .inl (cI, 4, .inl fl)), (kc, .inl (cI, 4, .inl fb)), (kd, .inl (cI, 4, .inl fs)), (gv, .inl (cI, 4, .inl gg))]) [1, 2, 3, 4, 8, 9, 0, 5, 6, 10, 11, 12, 13, 14, 15] (by decide) rfl) (ci := 0) (q0 := 0) rfl rfl) rfl rfl hl.1 rfl (lv_room (Nat.le_of_ble_eq_true rfl)) d_Gate_runBothCopies_18 ⟨Nat.le_of_ble_eq_true rfl, Nat.le_of_ble_eq_true rfl⟩) hP hD hS hA [1, 2, 3, 4, 8, 9, 0, 5, 6, 10, 11, 12, 13, 14, 15] [7] rfl rfl (by decide) (by decide) (fun r_11 u_12 H locs hw hP hD hS => ?_)
    obtain ⟨z_13, z_14, z_15, z_16, z_17, z_18⟩ := u_12
    try dsimp only at hw
    obtain ⟨rfl, rfl, rfl, rfl, rfl, rfl, rfl⟩ := hw
    have hP : va_P (dC, dI) classes [(a_po, .inl (cL, 4, .inr (.inl ((rn_w (sa_w ops nums sz gg fc fl fb fs np) lm (bg_w a_rr, b_rr, f4_w a_qq 0, 0, sp, fd)).2.2.2.1)))), (x0, .inr (0, [.int (nI lm), .ref pg, .ref a_cp, .ref b_cp, .ref pn, .ref gv, .ref sh, .int bg, .int lt, .int em, .int ((rn_w (sb_w ops nums sz gg fc fl fb fs np) lm (((rn_w (sa_w ops nums sz gg fc fl fb fs np) lm (bg_w a_rr, b_rr, f4_w a_qq 0, 0, sp, fd)).2.1), bg_w ((rn_w (sa_w ops nums sz gg fc fl fb fs np) lm (bg_w a_rr, b_rr, f4_w a_qq 0, 0, sp, fd)).2.2.1), f4_w b_qq 0, 0, ((rn_w (sa_w ops nums sz gg fc fl fb fs np) lm (bg_w a_rr, b_rr, f4_w a_qq 0, 0, sp, fd)).2.2.2.2.2.1), ((rn_w (sa_w ops nums sz gg fc fl fb fs np) lm (bg_w a_rr, b_rr, f4_w a_qq 0, 0, sp, fd)).2.2.2.2.2.2))).2.2.2.2.2.1), .int ((rn_w (sb_w ops nums sz gg fc fl fb fs np) lm (((rn_w (sa_w ops nums sz gg fc fl fb fs np) lm (bg_w a_rr, b_rr, f4_w a_qq 0, 0, sp, fd)).2.1), bg_w ((rn_w (sa_w ops nums sz gg fc fl fb fs np) lm (bg_w a_rr, b_rr, f4_w a_qq 0, 0, sp, fd)).2.2.1), f4_w b_qq 0, 0, ((rn_w (sa_w ops nums sz gg fc fl fb fs np) lm (bg_w a_rr, b_rr, f4_w a_qq 0, 0, sp, fd)).2.2.2.2.2.1), ((rn_w (sa_w ops nums sz gg fc fl fb fs np) lm (bg_w a_rr, b_rr, f4_w a_qq 0, 0, sp, fd)).2.2.2.2.2.2))).2.2.2.2.2.2)])), (pg, .inr (3, [.ref oa, .ref na, .int sz])), (oa, .inl (cI, 100, .inl ops)), (na, .inl (cI, 100, .inl nums)), (b_cp, .inr (1, [.long 58659, .ref b_rw, .ref b_po, .int ((rn_w (sb_w ops nums sz gg fc fl fb fs np) lm (((rn_w (sa_w ops nums sz gg fc fl fb fs np) lm (bg_w a_rr, b_rr, f4_w a_qq 0, 0, sp, fd)).2.1), bg_w ((rn_w (sa_w ops nums sz gg fc fl fb fs np) lm (bg_w a_rr, b_rr, f4_w a_qq 0, 0, sp, fd)).2.2.1), f4_w b_qq 0, 0, ((rn_w (sa_w ops nums sz gg fc fl fb fs np) lm (bg_w a_rr, b_rr, f4_w a_qq 0, 0, sp, fd)).2.2.2.2.2.1), ((rn_w (sa_w ops nums sz gg fc fl fb fs np) lm (bg_w a_rr, b_rr, f4_w a_qq 0, 0, sp, fd)).2.2.2.2.2.2))).2.2.2.2.1)])), (b_rw, .inl (cL, 18, .inr (.inl ((rn_w (sb_w ops nums sz gg fc fl fb fs np) lm (((rn_w (sa_w ops nums sz gg fc fl fb fs np) lm (bg_w a_rr, b_rr, f4_w a_qq 0, 0, sp, fd)).2.1), bg_w ((rn_w (sa_w ops nums sz gg fc fl fb fs np) lm (bg_w a_rr, b_rr, f4_w a_qq 0, 0, sp, fd)).2.2.1), f4_w b_qq 0, 0, ((rn_w (sa_w ops nums sz gg fc fl fb fs np) lm (bg_w a_rr, b_rr, f4_w a_qq 0, 0, sp, fd)).2.2.2.2.2.1), ((rn_w (sa_w ops nums sz gg fc fl fb fs np) lm (bg_w a_rr, b_rr, f4_w a_qq 0, 0, sp, fd)).2.2.2.2.2.2))).2.2.1)))), (b_po, .inl (cL, 4, .inr (.inl ((rn_w (sb_w ops nums sz gg fc fl fb fs np) lm (((rn_w (sa_w ops nums sz gg fc fl fb fs np) lm (bg_w a_rr, b_rr, f4_w a_qq 0, 0, sp, fd)).2.1), bg_w ((rn_w (sa_w ops nums sz gg fc fl fb fs np) lm (bg_w a_rr, b_rr, f4_w a_qq 0, 0, sp, fd)).2.2.1), f4_w b_qq 0, 0, ((rn_w (sa_w ops nums sz gg fc fl fb fs np) lm (bg_w a_rr, b_rr, f4_w a_qq 0, 0, sp, fd)).2.2.2.2.2.1), ((rn_w (sa_w ops nums sz gg fc fl fb fs np) lm (bg_w a_rr, b_rr, f4_w a_qq 0, 0, sp, fd)).2.2.2.2.2.2))).2.2.2.1)))), (a_cp, .inr (1, [.long 1, .ref a_rw, .ref a_po, .int ((rn_w (sa_w ops nums sz gg fc fl fb fs np) lm (bg_w a_rr, b_rr, f4_w a_qq 0, 0, sp, fd)).2.2.2.2.1)])), (a_rw, .inl (cL, 18, .inr (.inl ((rn_w (sb_w ops nums sz gg fc fl fb fs np) lm (((rn_w (sa_w ops nums sz gg fc fl fb fs np) lm (bg_w a_rr, b_rr, f4_w a_qq 0, 0, sp, fd)).2.1), bg_w ((rn_w (sa_w ops nums sz gg fc fl fb fs np) lm (bg_w a_rr, b_rr, f4_w a_qq 0, 0, sp, fd)).2.2.1), f4_w b_qq 0, 0, ((rn_w (sa_w ops nums sz gg fc fl fb fs np) lm (bg_w a_rr, b_rr, f4_w a_qq 0, 0, sp, fd)).2.2.2.2.2.1), ((rn_w (sa_w ops nums sz gg fc fl fb fs np) lm (bg_w a_rr, b_rr, f4_w a_qq 0, 0, sp, fd)).2.2.2.2.2.2))).2.1)))), (pn, .inr (2, [.ref ka, .ref kb, .ref kc, .ref kd, .int (nI np)])), (ka, .inl (cI, 4, .inl fc)), (kb, .inl (cI, 4, .inl fl)), (kc, .inl (cI, 4, .inl fb)), (kd, .inl (cI, 4, .inl fs)), (gv, .inl (cI, 4, .inl gg))] H := hP
    have hD : va_D A [(a_po, .inl (cL, 4, .inr (.inl ((rn_w (sa_w ops nums sz gg fc fl fb fs np) lm (bg_w a_rr, b_rr, f4_w a_qq 0, 0, sp, fd)).2.2.2.1)))), (x0, .inr (0, [.int (nI lm), .ref pg, .ref a_cp, .ref b_cp, .ref pn, .ref gv, .ref sh, .int bg, .int lt, .int em, .int ((rn_w (sb_w ops nums sz gg fc fl fb fs np) lm (((rn_w (sa_w ops nums sz gg fc fl fb fs np) lm (bg_w a_rr, b_rr, f4_w a_qq 0, 0, sp, fd)).2.1), bg_w ((rn_w (sa_w ops nums sz gg fc fl fb fs np) lm (bg_w a_rr, b_rr, f4_w a_qq 0, 0, sp, fd)).2.2.1), f4_w b_qq 0, 0, ((rn_w (sa_w ops nums sz gg fc fl fb fs np) lm (bg_w a_rr, b_rr, f4_w a_qq 0, 0, sp, fd)).2.2.2.2.2.1), ((rn_w (sa_w ops nums sz gg fc fl fb fs np) lm (bg_w a_rr, b_rr, f4_w a_qq 0, 0, sp, fd)).2.2.2.2.2.2))).2.2.2.2.2.1), .int ((rn_w (sb_w ops nums sz gg fc fl fb fs np) lm (((rn_w (sa_w ops nums sz gg fc fl fb fs np) lm (bg_w a_rr, b_rr, f4_w a_qq 0, 0, sp, fd)).2.1), bg_w ((rn_w (sa_w ops nums sz gg fc fl fb fs np) lm (bg_w a_rr, b_rr, f4_w a_qq 0, 0, sp, fd)).2.2.1), f4_w b_qq 0, 0, ((rn_w (sa_w ops nums sz gg fc fl fb fs np) lm (bg_w a_rr, b_rr, f4_w a_qq 0, 0, sp, fd)).2.2.2.2.2.1), ((rn_w (sa_w ops nums sz gg fc fl fb fs np) lm (bg_w a_rr, b_rr, f4_w a_qq 0, 0, sp, fd)).2.2.2.2.2.2))).2.2.2.2.2.2)])), (pg, .inr (3, [.ref oa, .ref na, .int sz])), (oa, .inl (cI, 100, .inl ops)), (na, .inl (cI, 100, .inl nums)), (b_cp, .inr (1, [.long 58659, .ref b_rw, .ref b_po, .int ((rn_w (sb_w ops nums sz gg fc fl fb fs np) lm (((rn_w (sa_w ops nums sz gg fc fl fb fs np) lm (bg_w a_rr, b_rr, f4_w a_qq 0, 0, sp, fd)).2.1), bg_w ((rn_w (sa_w ops nums sz gg fc fl fb fs np) lm (bg_w a_rr, b_rr, f4_w a_qq 0, 0, sp, fd)).2.2.1), f4_w b_qq 0, 0, ((rn_w (sa_w ops nums sz gg fc fl fb fs np) lm (bg_w a_rr, b_rr, f4_w a_qq 0, 0, sp, fd)).2.2.2.2.2.1), ((rn_w (sa_w ops nums sz gg fc fl fb fs np) lm (bg_w a_rr, b_rr, f4_w a_qq 0, 0, sp, fd)).2.2.2.2.2.2))).2.2.2.2.1)])), (b_rw, .inl (cL, 18, .inr (.inl ((rn_w (sb_w ops nums sz gg fc fl fb fs np) lm (((rn_w (sa_w ops nums sz gg fc fl fb fs np) lm (bg_w a_rr, b_rr, f4_w a_qq 0, 0, sp, fd)).2.1), bg_w ((rn_w (sa_w ops nums sz gg fc fl fb fs np) lm (bg_w a_rr, b_rr, f4_w a_qq 0, 0, sp, fd)).2.2.1), f4_w b_qq 0, 0, ((rn_w (sa_w ops nums sz gg fc fl fb fs np) lm (bg_w a_rr, b_rr, f4_w a_qq 0, 0, sp, fd)).2.2.2.2.2.1), ((rn_w (sa_w ops nums sz gg fc fl fb fs np) lm (bg_w a_rr, b_rr, f4_w a_qq 0, 0, sp, fd)).2.2.2.2.2.2))).2.2.1)))), (b_po, .inl (cL, 4, .inr (.inl ((rn_w (sb_w ops nums sz gg fc fl fb fs np) lm (((rn_w (sa_w ops nums sz gg fc fl fb fs np) lm (bg_w a_rr, b_rr, f4_w a_qq 0, 0, sp, fd)).2.1), bg_w ((rn_w (sa_w ops nums sz gg fc fl fb fs np) lm (bg_w a_rr, b_rr, f4_w a_qq 0, 0, sp, fd)).2.2.1), f4_w b_qq 0, 0, ((rn_w (sa_w ops nums sz gg fc fl fb fs np) lm (bg_w a_rr, b_rr, f4_w a_qq 0, 0, sp, fd)).2.2.2.2.2.1), ((rn_w (sa_w ops nums sz gg fc fl fb fs np) lm (bg_w a_rr, b_rr, f4_w a_qq 0, 0, sp, fd)).2.2.2.2.2.2))).2.2.2.1)))), (a_cp, .inr (1, [.long 1, .ref a_rw, .ref a_po, .int ((rn_w (sa_w ops nums sz gg fc fl fb fs np) lm (bg_w a_rr, b_rr, f4_w a_qq 0, 0, sp, fd)).2.2.2.2.1)])), (a_rw, .inl (cL, 18, .inr (.inl ((rn_w (sb_w ops nums sz gg fc fl fb fs np) lm (((rn_w (sa_w ops nums sz gg fc fl fb fs np) lm (bg_w a_rr, b_rr, f4_w a_qq 0, 0, sp, fd)).2.1), bg_w ((rn_w (sa_w ops nums sz gg fc fl fb fs np) lm (bg_w a_rr, b_rr, f4_w a_qq 0, 0, sp, fd)).2.2.1), f4_w b_qq 0, 0, ((rn_w (sa_w ops nums sz gg fc fl fb fs np) lm (bg_w a_rr, b_rr, f4_w a_qq 0, 0, sp, fd)).2.2.2.2.2.1), ((rn_w (sa_w ops nums sz gg fc fl fb fs np) lm (bg_w a_rr, b_rr, f4_w a_qq 0, 0, sp, fd)).2.2.2.2.2.2))).2.1)))), (pn, .inr (2, [.ref ka, .ref kb, .ref kc, .ref kd, .int (nI np)])), (ka, .inl (cI, 4, .inl fc)), (kb, .inl (cI, 4, .inl fl)), (kc, .inl (cI, 4, .inl fb)), (kd, .inl (cI, 4, .inl fs)), (gv, .inl (cI, 4, .inl gg))] := hD
    refine lv_istore_n (lv' := [(1, .int ((rn_w (sb_w ops nums sz gg fc fl fb fs np) lm (((rn_w (sa_w ops nums sz gg fc fl fb fs np) lm (bg_w a_rr, b_rr, f4_w a_qq 0, 0, sp, fd)).2.1), bg_w ((rn_w (sa_w ops nums sz gg fc fl fb fs np) lm (bg_w a_rr, b_rr, f4_w a_qq 0, 0, sp, fd)).2.2.1), f4_w b_qq 0, 0, ((rn_w (sa_w ops nums sz gg fc fl fb fs np) lm (bg_w a_rr, b_rr, f4_w a_qq 0, 0, sp, fd)).2.2.2.2.2.1), ((rn_w (sa_w ops nums sz gg fc fl fb fs np) lm (bg_w a_rr, b_rr, f4_w a_qq 0, 0, sp, fd)).2.2.2.2.2.2))).1)), (0, .ref x0)]) hx hb d_Gate_runBothCopies_21 rfl hl (by decide) rfl (fun ls hl => ?_)
    refine lv_iload_n hx hb d_Gate_runBothCopies_22 rfl (lv_at hl 0 rfl) ?_
    refine lv_if_ne (tgt := 35) hx hb d_Gate_runBothCopies_23 (by decide) (fun c_19 => ?_) (fun c_19 => ?_)
    · have c_19 : ¬ ((rn_w (sb_w ops nums sz gg fc fl fb fs np) lm (((rn_w (sa_w ops nums sz gg fc fl fb fs np) lm (bg_w a_rr, b_rr, f4_w a_qq 0, 0, sp, fd)).2.1), bg_w ((rn_w (sa_w ops nums sz gg fc fl fb fs np) lm (bg_w a_rr, b_rr, f4_w a_qq 0, 0, sp, fd)).2.2.1), f4_w b_qq 0, 0, ((rn_w (sa_w ops nums sz gg fc fl fb fs np) lm (bg_w a_rr, b_rr, f4_w a_qq 0, 0, sp, fd)).2.2.2.2.2.1), ((rn_w (sa_w ops nums sz gg fc fl fb fs np) lm (bg_w a_rr, b_rr, f4_w a_qq 0, 0, sp, fd)).2.2.2.2.2.2))).1) = 0 := c_19
      refine lv_iload_n hx hb d_Gate_runBothCopies_35 rfl (lv_at hl 0 rfl) ?_
      exact rt_i (v := (rn_w (sb_w ops nums sz gg fc fl fb fs np) lm (((rn_w (sa_w ops nums sz gg fc fl fb fs np) lm (bg_w a_rr, b_rr, f4_w a_qq 0, 0, sp, fd)).2.1), bg_w ((rn_w (sa_w ops nums sz gg fc fl fb fs np) lm (bg_w a_rr, b_rr, f4_w a_qq 0, 0, sp, fd)).2.2.1), f4_w b_qq 0, 0, ((rn_w (sa_w ops nums sz gg fc fl fb fs np) lm (bg_w a_rr, b_rr, f4_w a_qq 0, 0, sp, fd)).2.2.2.2.2.1), ((rn_w (sa_w ops nums sz gg fc fl fb fs np) lm (bg_w a_rr, b_rr, f4_w a_qq 0, 0, sp, fd)).2.2.2.2.2.2))).1) ((rn_w (sb_w ops nums sz gg fc fl fb fs np) lm (((rn_w (sa_w ops nums sz gg fc fl fb fs np) lm (bg_w a_rr, b_rr, f4_w a_qq 0, 0, sp, fd)).2.1), bg_w ((rn_w (sa_w ops nums sz gg fc fl fb fs np) lm (bg_w a_rr, b_rr, f4_w a_qq 0, 0, sp, fd)).2.2.1), f4_w b_qq 0, 0, ((rn_w (sa_w ops nums sz gg fc fl fb fs np) lm (bg_w a_rr, b_rr, f4_w a_qq 0, 0, sp, fd)).2.2.2.2.2.1), ((rn_w (sa_w ops nums sz gg fc fl fb fs np) lm (bg_w a_rr, b_rr, f4_w a_qq 0, 0, sp, fd)).2.2.2.2.2.2))).2.1, (rn_w (sb_w ops nums sz gg fc fl fb fs np) lm (((rn_w (sa_w ops nums sz gg fc fl fb fs np) lm (bg_w a_rr, b_rr, f4_w a_qq 0, 0, sp, fd)).2.1), bg_w ((rn_w (sa_w ops nums sz gg fc fl fb fs np) lm (bg_w a_rr, b_rr, f4_w a_qq 0, 0, sp, fd)).2.2.1), f4_w b_qq 0, 0, ((rn_w (sa_w ops nums sz gg fc fl fb fs np) lm (bg_w a_rr, b_rr, f4_w a_qq 0, 0, sp, fd)).2.2.2.2.2.1), ((rn_w (sa_w ops nums sz gg fc fl fb fs np) lm (bg_w a_rr, b_rr, f4_w a_qq 0, 0, sp, fd)).2.2.2.2.2.2))).2.2.1, (rn_w (sa_w ops nums sz gg fc fl fb fs np) lm (bg_w a_rr, b_rr, f4_w a_qq 0, 0, sp, fd)).2.2.2.1, ((rn_w (sa_w ops nums sz gg fc fl fb fs np) lm (bg_w a_rr, b_rr, f4_w a_qq 0, 0, sp, fd)).2.2.2.2.1), (rn_w (sb_w ops nums sz gg fc fl fb fs np) lm (((rn_w (sa_w ops nums sz gg fc fl fb fs np) lm (bg_w a_rr, b_rr, f4_w a_qq 0, 0, sp, fd)).2.1), bg_w ((rn_w (sa_w ops nums sz gg fc fl fb fs np) lm (bg_w a_rr, b_rr, f4_w a_qq 0, 0, sp, fd)).2.2.1), f4_w b_qq 0, 0, ((rn_w (sa_w ops nums sz gg fc fl fb fs np) lm (bg_w a_rr, b_rr, f4_w a_qq 0, 0, sp, fd)).2.2.2.2.2.1), ((rn_w (sa_w ops nums sz gg fc fl fb fs np) lm (bg_w a_rr, b_rr, f4_w a_qq 0, 0, sp, fd)).2.2.2.2.2.2))).2.2.2.1, (rn_w (sb_w ops nums sz gg fc fl fb fs np) lm (((rn_w (sa_w ops nums sz gg fc fl fb fs np) lm (bg_w a_rr, b_rr, f4_w a_qq 0, 0, sp, fd)).2.1), bg_w ((rn_w (sa_w ops nums sz gg fc fl fb fs np) lm (bg_w a_rr, b_rr, f4_w a_qq 0, 0, sp, fd)).2.2.1), f4_w b_qq 0, 0, ((rn_w (sa_w ops nums sz gg fc fl fb fs np) lm (bg_w a_rr, b_rr, f4_w a_qq 0, 0, sp, fd)).2.2.2.2.2.1), ((rn_w (sa_w ops nums sz gg fc fl fb fs np) lm (bg_w a_rr, b_rr, f4_w a_qq 0, 0, sp, fd)).2.2.2.2.2.2))).2.2.2.2.1, (rn_w (sb_w ops nums sz gg fc fl fb fs np) lm (((rn_w (sa_w ops nums sz gg fc fl fb fs np) lm (bg_w a_rr, b_rr, f4_w a_qq 0, 0, sp, fd)).2.1), bg_w ((rn_w (sa_w ops nums sz gg fc fl fb fs np) lm (bg_w a_rr, b_rr, f4_w a_qq 0, 0, sp, fd)).2.2.1), f4_w b_qq 0, 0, ((rn_w (sa_w ops nums sz gg fc fl fb fs np) lm (bg_w a_rr, b_rr, f4_w a_qq 0, 0, sp, fd)).2.2.2.2.2.1), ((rn_w (sa_w ops nums sz gg fc fl fb fs np) lm (bg_w a_rr, b_rr, f4_w a_qq 0, 0, sp, fd)).2.2.2.2.2.2))).2.2.2.2.2.1, (rn_w (sb_w ops nums sz gg fc fl fb fs np) lm (((rn_w (sa_w ops nums sz gg fc fl fb fs np) lm (bg_w a_rr, b_rr, f4_w a_qq 0, 0, sp, fd)).2.1), bg_w ((rn_w (sa_w ops nums sz gg fc fl fb fs np) lm (bg_w a_rr, b_rr, f4_w a_qq 0, 0, sp, fd)).2.2.1), f4_w b_qq 0, 0, ((rn_w (sa_w ops nums sz gg fc fl fb fs np) lm (bg_w a_rr, b_rr, f4_w a_qq 0, 0, sp, fd)).2.2.2.2.2.1), ((rn_w (sa_w ops nums sz gg fc fl fb fs np) lm (bg_w a_rr, b_rr, f4_w a_qq 0, 0, sp, fd)).2.2.2.2.2.2))).2.2.2.2.2.2) hx hb hr hlocks (show ((rn_w (sb_w ops nums sz gg fc fl fb fs np) lm (((rn_w (sa_w ops nums sz gg fc fl fb fs np) lm (bg_w a_rr, b_rr, f4_w a_qq 0, 0, sp, fd)).2.1), bg_w ((rn_w (sa_w ops nums sz gg fc fl fb fs np) lm (bg_w a_rr, b_rr, f4_w a_qq 0, 0, sp, fd)).2.2.1), f4_w b_qq 0, 0, ((rn_w (sa_w ops nums sz gg fc fl fb fs np) lm (bg_w a_rr, b_rr, f4_w a_qq 0, 0, sp, fd)).2.2.2.2.2.1), ((rn_w (sa_w ops nums sz gg fc fl fb fs np) lm (bg_w a_rr, b_rr, f4_w a_qq 0, 0, sp, fd)).2.2.2.2.2.2))).1) = (rb_w (sa_w ops nums sz gg fc fl fb fs np) (sb_w ops nums sz gg fc fl fb fs np) lm a_rr b_rr a_qq b_qq b_pl sp fd).1 ∧ ((rn_w (sb_w ops nums sz gg fc fl fb fs np) lm (((rn_w (sa_w ops nums sz gg fc fl fb fs np) lm (bg_w a_rr, b_rr, f4_w a_qq 0, 0, sp, fd)).2.1), bg_w ((rn_w (sa_w ops nums sz gg fc fl fb fs np) lm (bg_w a_rr, b_rr, f4_w a_qq 0, 0, sp, fd)).2.2.1), f4_w b_qq 0, 0, ((rn_w (sa_w ops nums sz gg fc fl fb fs np) lm (bg_w a_rr, b_rr, f4_w a_qq 0, 0, sp, fd)).2.2.2.2.2.1), ((rn_w (sa_w ops nums sz gg fc fl fb fs np) lm (bg_w a_rr, b_rr, f4_w a_qq 0, 0, sp, fd)).2.2.2.2.2.2))).2.1) = (rb_w (sa_w ops nums sz gg fc fl fb fs np) (sb_w ops nums sz gg fc fl fb fs np) lm a_rr b_rr a_qq b_qq b_pl sp fd).2.1 ∧ ((rn_w (sb_w ops nums sz gg fc fl fb fs np) lm (((rn_w (sa_w ops nums sz gg fc fl fb fs np) lm (bg_w a_rr, b_rr, f4_w a_qq 0, 0, sp, fd)).2.1), bg_w ((rn_w (sa_w ops nums sz gg fc fl fb fs np) lm (bg_w a_rr, b_rr, f4_w a_qq 0, 0, sp, fd)).2.2.1), f4_w b_qq 0, 0, ((rn_w (sa_w ops nums sz gg fc fl fb fs np) lm (bg_w a_rr, b_rr, f4_w a_qq 0, 0, sp, fd)).2.2.2.2.2.1), ((rn_w (sa_w ops nums sz gg fc fl fb fs np) lm (bg_w a_rr, b_rr, f4_w a_qq 0, 0, sp, fd)).2.2.2.2.2.2))).2.2.1) = (rb_w (sa_w ops nums sz gg fc fl fb fs np) (sb_w ops nums sz gg fc fl fb fs np) lm a_rr b_rr a_qq b_qq b_pl sp fd).2.2.1 ∧ ((rn_w (sa_w ops nums sz gg fc fl fb fs np) lm (bg_w a_rr, b_rr, f4_w a_qq 0, 0, sp, fd)).2.2.2.1) = (rb_w (sa_w ops nums sz gg fc fl fb fs np) (sb_w ops nums sz gg fc fl fb fs np) lm a_rr b_rr a_qq b_qq b_pl sp fd).2.2.2.1 ∧ ((rn_w (sa_w ops nums sz gg fc fl fb fs np) lm (bg_w a_rr, b_rr, f4_w a_qq 0, 0, sp, fd)).2.2.2.2.1) = (rb_w (sa_w ops nums sz gg fc fl fb fs np) (sb_w ops nums sz gg fc fl fb fs np) lm a_rr b_rr a_qq b_qq b_pl sp fd).2.2.2.2.1 ∧ ((rn_w (sb_w ops nums sz gg fc fl fb fs np) lm (((rn_w (sa_w ops nums sz gg fc fl fb fs np) lm (bg_w a_rr, b_rr, f4_w a_qq 0, 0, sp, fd)).2.1), bg_w ((rn_w (sa_w ops nums sz gg fc fl fb fs np) lm (bg_w a_rr, b_rr, f4_w a_qq 0, 0, sp, fd)).2.2.1), f4_w b_qq 0, 0, ((rn_w (sa_w ops nums sz gg fc fl fb fs np) lm (bg_w a_rr, b_rr, f4_w a_qq 0, 0, sp, fd)).2.2.2.2.2.1), ((rn_w (sa_w ops nums sz gg fc fl fb fs np) lm (bg_w a_rr, b_rr, f4_w a_qq 0, 0, sp, fd)).2.2.2.2.2.2))).2.2.2.1) = (rb_w (sa_w ops nums sz gg fc fl fb fs np) (sb_w ops nums sz gg fc fl fb fs np) lm a_rr b_rr a_qq b_qq b_pl sp fd).2.2.2.2.2.1 ∧ ((rn_w (sb_w ops nums sz gg fc fl fb fs np) lm (((rn_w (sa_w ops nums sz gg fc fl fb fs np) lm (bg_w a_rr, b_rr, f4_w a_qq 0, 0, sp, fd)).2.1), bg_w ((rn_w (sa_w ops nums sz gg fc fl fb fs np) lm (bg_w a_rr, b_rr, f4_w a_qq 0, 0, sp, fd)).2.2.1), f4_w b_qq 0, 0, ((rn_w (sa_w ops nums sz gg fc fl fb fs np) lm (bg_w a_rr, b_rr, f4_w a_qq 0, 0, sp, fd)).2.2.2.2.2.1), ((rn_w (sa_w ops nums sz gg fc fl fb fs np) lm (bg_w a_rr, b_rr, f4_w a_qq 0, 0, sp, fd)).2.2.2.2.2.2))).2.2.2.2.1) = (rb_w (sa_w ops nums sz gg fc fl fb fs np) (sb_w ops nums sz gg fc fl fb fs np) lm a_rr b_rr a_qq b_qq b_pl sp fd).2.2.2.2.2.2.1 ∧ ((rn_w (sb_w ops nums sz gg fc fl fb fs np) lm (((rn_w (sa_w ops nums sz gg fc fl fb fs np) lm (bg_w a_rr, b_rr, f4_w a_qq 0, 0, sp, fd)).2.1), bg_w ((rn_w (sa_w ops nums sz gg fc fl fb fs np) lm (bg_w a_rr, b_rr, f4_w a_qq 0, 0, sp, fd)).2.2.1), f4_w b_qq 0, 0, ((rn_w (sa_w ops nums sz gg fc fl fb fs np) lm (bg_w a_rr, b_rr, f4_w a_qq 0, 0, sp, fd)).2.2.2.2.2.1), ((rn_w (sa_w ops nums sz gg fc fl fb fs np) lm (bg_w a_rr, b_rr, f4_w a_qq 0, 0, sp, fd)).2.2.2.2.2.2))).2.2.2.2.2.1) = (rb_w (sa_w ops nums sz gg fc fl fb fs np) (sb_w ops nums sz gg fc fl fb fs np) lm a_rr b_rr a_qq b_qq b_pl sp fd).2.2.2.2.2.2.2.1 ∧ ((rn_w (sb_w ops nums sz gg fc fl fb fs np) lm (((rn_w (sa_w ops nums sz gg fc fl fb fs np) lm (bg_w a_rr, b_rr, f4_w a_qq 0, 0, sp, fd)).2.1), bg_w ((rn_w (sa_w ops nums sz gg fc fl fb fs np) lm (bg_w a_rr, b_rr, f4_w a_qq 0, 0, sp, fd)).2.2.1), f4_w b_qq 0, 0, ((rn_w (sa_w ops nums sz gg fc fl fb fs np) lm (bg_w a_rr, b_rr, f4_w a_qq 0, 0, sp, fd)).2.2.2.2.2.1), ((rn_w (sa_w ops nums sz gg fc fl fb fs np) lm (bg_w a_rr, b_rr, f4_w a_qq 0, 0, sp, fd)).2.2.2.2.2.2))).2.2.2.2.2.2) = (rb_w (sa_w ops nums sz gg fc fl fb fs np) (sb_w ops nums sz gg fc fl fb fs np) lm a_rr b_rr a_qq b_qq b_pl sp fd).2.2.2.2.2.2.2.2 from (by rw [rb_e3 (fa := (sa_w ops nums sz gg fc fl fb fs np)) (fb := (sb_w ops nums sz gg fc fl fb fs np)) (lm := lm) (ra := a_rr) (rb := b_rr) (qa := a_qq) (qb := b_qq) (plb := b_pl) (sp := sp) (fd := fd) c_9 c_19]; exact ⟨rfl, rfl, rfl, rfl, rfl, rfl, rfl, rfl, rfl⟩)) (hP.sub (ws' := [(x0, .inr (0, [.int (nI lm), .ref pg, .ref a_cp, .ref b_cp, .ref pn, .ref gv, .ref sh, .int bg, .int lt, .int em, .int ((rn_w (sb_w ops nums sz gg fc fl fb fs np) lm (((rn_w (sa_w ops nums sz gg fc fl fb fs np) lm (bg_w a_rr, b_rr, f4_w a_qq 0, 0, sp, fd)).2.1), bg_w ((rn_w (sa_w ops nums sz gg fc fl fb fs np) lm (bg_w a_rr, b_rr, f4_w a_qq 0, 0, sp, fd)).2.2.1), f4_w b_qq 0, 0, ((rn_w (sa_w ops nums sz gg fc fl fb fs np) lm (bg_w a_rr, b_rr, f4_w a_qq 0, 0, sp, fd)).2.2.2.2.2.1), ((rn_w (sa_w ops nums sz gg fc fl fb fs np) lm (bg_w a_rr, b_rr, f4_w a_qq 0, 0, sp, fd)).2.2.2.2.2.2))).2.2.2.2.2.1), .int ((rn_w (sb_w ops nums sz gg fc fl fb fs np) lm (((rn_w (sa_w ops nums sz gg fc fl fb fs np) lm (bg_w a_rr, b_rr, f4_w a_qq 0, 0, sp, fd)).2.1), bg_w ((rn_w (sa_w ops nums sz gg fc fl fb fs np) lm (bg_w a_rr, b_rr, f4_w a_qq 0, 0, sp, fd)).2.2.1), f4_w b_qq 0, 0, ((rn_w (sa_w ops nums sz gg fc fl fb fs np) lm (bg_w a_rr, b_rr, f4_w a_qq 0, 0, sp, fd)).2.2.2.2.2.1), ((rn_w (sa_w ops nums sz gg fc fl fb fs np) lm (bg_w a_rr, b_rr, f4_w a_qq 0, 0, sp, fd)).2.2.2.2.2.2))).2.2.2.2.2.2)])), (pg, .inr (3, [.ref oa, .ref na, .int sz])), (oa, .inl (cI, 100, .inl ops)), (na, .inl (cI, 100, .inl nums)), (a_cp, .inr (1, [.long 1, .ref a_rw, .ref a_po, .int ((rn_w (sa_w ops nums sz gg fc fl fb fs np) lm (bg_w a_rr, b_rr, f4_w a_qq 0, 0, sp, fd)).2.2.2.2.1)])), (a_rw, .inl (cL, 18, .inr (.inl ((rn_w (sb_w ops nums sz gg fc fl fb fs np) lm (((rn_w (sa_w ops nums sz gg fc fl fb fs np) lm (bg_w a_rr, b_rr, f4_w a_qq 0, 0, sp, fd)).2.1), bg_w ((rn_w (sa_w ops nums sz gg fc fl fb fs np) lm (bg_w a_rr, b_rr, f4_w a_qq 0, 0, sp, fd)).2.2.1), f4_w b_qq 0, 0, ((rn_w (sa_w ops nums sz gg fc fl fb fs np) lm (bg_w a_rr, b_rr, f4_w a_qq 0, 0, sp, fd)).2.2.2.2.2.1), ((rn_w (sa_w ops nums sz gg fc fl fb fs np) lm (bg_w a_rr, b_rr, f4_w a_qq 0, 0, sp, fd)).2.2.2.2.2.2))).2.1)))), (a_po, .inl (cL, 4, .inr (.inl ((rn_w (sa_w ops nums sz gg fc fl fb fs np) lm (bg_w a_rr, b_rr, f4_w a_qq 0, 0, sp, fd)).2.2.2.1)))), (b_cp, .inr (1, [.long 58659, .ref b_rw, .ref b_po, .int ((rn_w (sb_w ops nums sz gg fc fl fb fs np) lm (((rn_w (sa_w ops nums sz gg fc fl fb fs np) lm (bg_w a_rr, b_rr, f4_w a_qq 0, 0, sp, fd)).2.1), bg_w ((rn_w (sa_w ops nums sz gg fc fl fb fs np) lm (bg_w a_rr, b_rr, f4_w a_qq 0, 0, sp, fd)).2.2.1), f4_w b_qq 0, 0, ((rn_w (sa_w ops nums sz gg fc fl fb fs np) lm (bg_w a_rr, b_rr, f4_w a_qq 0, 0, sp, fd)).2.2.2.2.2.1), ((rn_w (sa_w ops nums sz gg fc fl fb fs np) lm (bg_w a_rr, b_rr, f4_w a_qq 0, 0, sp, fd)).2.2.2.2.2.2))).2.2.2.2.1)])), (b_rw, .inl (cL, 18, .inr (.inl ((rn_w (sb_w ops nums sz gg fc fl fb fs np) lm (((rn_w (sa_w ops nums sz gg fc fl fb fs np) lm (bg_w a_rr, b_rr, f4_w a_qq 0, 0, sp, fd)).2.1), bg_w ((rn_w (sa_w ops nums sz gg fc fl fb fs np) lm (bg_w a_rr, b_rr, f4_w a_qq 0, 0, sp, fd)).2.2.1), f4_w b_qq 0, 0, ((rn_w (sa_w ops nums sz gg fc fl fb fs np) lm (bg_w a_rr, b_rr, f4_w a_qq 0, 0, sp, fd)).2.2.2.2.2.1), ((rn_w (sa_w ops nums sz gg fc fl fb fs np) lm (bg_w a_rr, b_rr, f4_w a_qq 0, 0, sp, fd)).2.2.2.2.2.2))).2.2.1)))), (b_po, .inl (cL, 4, .inr (.inl ((rn_w (sb_w ops nums sz gg fc fl fb fs np) lm (((rn_w (sa_w ops nums sz gg fc fl fb fs np) lm (bg_w a_rr, b_rr, f4_w a_qq 0, 0, sp, fd)).2.1), bg_w ((rn_w (sa_w ops nums sz gg fc fl fb fs np) lm (bg_w a_rr, b_rr, f4_w a_qq 0, 0, sp, fd)).2.2.1), f4_w b_qq 0, 0, ((rn_w (sa_w ops nums sz gg fc fl fb fs np) lm (bg_w a_rr, b_rr, f4_w a_qq 0, 0, sp, fd)).2.2.2.2.2.1), ((rn_w (sa_w ops nums sz gg fc fl fb fs np) lm (bg_w a_rr, b_rr, f4_w a_qq 0, 0, sp, fd)).2.2.2.2.2.2))).2.2.2.1)))), (pn, .inr (2, [.ref ka, .ref kb, .ref kc, .ref kd, .int (nI np)])), (ka, .inl (cI, 4, .inl fc)), (kb, .inl (cI, 4, .inl fl)), (kc, .inl (cI, 4, .inl fb)), (kd, .inl (cI, 4, .inl fs)), (gv, .inl (cI, 4, .inl gg))]) [1, 2, 3, 4, 8, 9, 0, 5, 6, 7, 10, 11, 12, 13, 14, 15] rfl) (hD.sub (ws' := [(x0, .inr (0, [.int (nI lm), .ref pg, .ref a_cp, .ref b_cp, .ref pn, .ref gv, .ref sh, .int bg, .int lt, .int em, .int ((rn_w (sb_w ops nums sz gg fc fl fb fs np) lm (((rn_w (sa_w ops nums sz gg fc fl fb fs np) lm (bg_w a_rr, b_rr, f4_w a_qq 0, 0, sp, fd)).2.1), bg_w ((rn_w (sa_w ops nums sz gg fc fl fb fs np) lm (bg_w a_rr, b_rr, f4_w a_qq 0, 0, sp, fd)).2.2.1), f4_w b_qq 0, 0, ((rn_w (sa_w ops nums sz gg fc fl fb fs np) lm (bg_w a_rr, b_rr, f4_w a_qq 0, 0, sp, fd)).2.2.2.2.2.1), ((rn_w (sa_w ops nums sz gg fc fl fb fs np) lm (bg_w a_rr, b_rr, f4_w a_qq 0, 0, sp, fd)).2.2.2.2.2.2))).2.2.2.2.2.1), .int ((rn_w (sb_w ops nums sz gg fc fl fb fs np) lm (((rn_w (sa_w ops nums sz gg fc fl fb fs np) lm (bg_w a_rr, b_rr, f4_w a_qq 0, 0, sp, fd)).2.1), bg_w ((rn_w (sa_w ops nums sz gg fc fl fb fs np) lm (bg_w a_rr, b_rr, f4_w a_qq 0, 0, sp, fd)).2.2.1), f4_w b_qq 0, 0, ((rn_w (sa_w ops nums sz gg fc fl fb fs np) lm (bg_w a_rr, b_rr, f4_w a_qq 0, 0, sp, fd)).2.2.2.2.2.1), ((rn_w (sa_w ops nums sz gg fc fl fb fs np) lm (bg_w a_rr, b_rr, f4_w a_qq 0, 0, sp, fd)).2.2.2.2.2.2))).2.2.2.2.2.2)])), (pg, .inr (3, [.ref oa, .ref na, .int sz])), (oa, .inl (cI, 100, .inl ops)), (na, .inl (cI, 100, .inl nums)), (a_cp, .inr (1, [.long 1, .ref a_rw, .ref a_po, .int ((rn_w (sa_w ops nums sz gg fc fl fb fs np) lm (bg_w a_rr, b_rr, f4_w a_qq 0, 0, sp, fd)).2.2.2.2.1)])), (a_rw, .inl (cL, 18, .inr (.inl ((rn_w (sb_w ops nums sz gg fc fl fb fs np) lm (((rn_w (sa_w ops nums sz gg fc fl fb fs np) lm (bg_w a_rr, b_rr, f4_w a_qq 0, 0, sp, fd)).2.1), bg_w ((rn_w (sa_w ops nums sz gg fc fl fb fs np) lm (bg_w a_rr, b_rr, f4_w a_qq 0, 0, sp, fd)).2.2.1), f4_w b_qq 0, 0, ((rn_w (sa_w ops nums sz gg fc fl fb fs np) lm (bg_w a_rr, b_rr, f4_w a_qq 0, 0, sp, fd)).2.2.2.2.2.1), ((rn_w (sa_w ops nums sz gg fc fl fb fs np) lm (bg_w a_rr, b_rr, f4_w a_qq 0, 0, sp, fd)).2.2.2.2.2.2))).2.1)))), (a_po, .inl (cL, 4, .inr (.inl ((rn_w (sa_w ops nums sz gg fc fl fb fs np) lm (bg_w a_rr, b_rr, f4_w a_qq 0, 0, sp, fd)).2.2.2.1)))), (b_cp, .inr (1, [.long 58659, .ref b_rw, .ref b_po, .int ((rn_w (sb_w ops nums sz gg fc fl fb fs np) lm (((rn_w (sa_w ops nums sz gg fc fl fb fs np) lm (bg_w a_rr, b_rr, f4_w a_qq 0, 0, sp, fd)).2.1), bg_w ((rn_w (sa_w ops nums sz gg fc fl fb fs np) lm (bg_w a_rr, b_rr, f4_w a_qq 0, 0, sp, fd)).2.2.1), f4_w b_qq 0, 0, ((rn_w (sa_w ops nums sz gg fc fl fb fs np) lm (bg_w a_rr, b_rr, f4_w a_qq 0, 0, sp, fd)).2.2.2.2.2.1), ((rn_w (sa_w ops nums sz gg fc fl fb fs np) lm (bg_w a_rr, b_rr, f4_w a_qq 0, 0, sp, fd)).2.2.2.2.2.2))).2.2.2.2.1)])), (b_rw, .inl (cL, 18, .inr (.inl ((rn_w (sb_w ops nums sz gg fc fl fb fs np) lm (((rn_w (sa_w ops nums sz gg fc fl fb fs np) lm (bg_w a_rr, b_rr, f4_w a_qq 0, 0, sp, fd)).2.1), bg_w ((rn_w (sa_w ops nums sz gg fc fl fb fs np) lm (bg_w a_rr, b_rr, f4_w a_qq 0, 0, sp, fd)).2.2.1), f4_w b_qq 0, 0, ((rn_w (sa_w ops nums sz gg fc fl fb fs np) lm (bg_w a_rr, b_rr, f4_w a_qq 0, 0, sp, fd)).2.2.2.2.2.1), ((rn_w (sa_w ops nums sz gg fc fl fb fs np) lm (bg_w a_rr, b_rr, f4_w a_qq 0, 0, sp, fd)).2.2.2.2.2.2))).2.2.1)))), (b_po, .inl (cL, 4, .inr (.inl ((rn_w (sb_w ops nums sz gg fc fl fb fs np) lm (((rn_w (sa_w ops nums sz gg fc fl fb fs np) lm (bg_w a_rr, b_rr, f4_w a_qq 0, 0, sp, fd)).2.1), bg_w ((rn_w (sa_w ops nums sz gg fc fl fb fs np) lm (bg_w a_rr, b_rr, f4_w a_qq 0, 0, sp, fd)).2.2.1), f4_w b_qq 0, 0, ((rn_w (sa_w ops nums sz gg fc fl fb fs np) lm (bg_w a_rr, b_rr, f4_w a_qq 0, 0, sp, fd)).2.2.2.2.2.1), ((rn_w (sa_w ops nums sz gg fc fl fb fs np) lm (bg_w a_rr, b_rr, f4_w a_qq 0, 0, sp, fd)).2.2.2.2.2.2))).2.2.2.1)))), (pn, .inr (2, [.ref ka, .ref kb, .ref kc, .ref kd, .int (nI np)])), (ka, .inl (cI, 4, .inl fc)), (kb, .inl (cI, 4, .inl fl)), (kc, .inl (cI, 4, .inl fb)), (kd, .inl (cI, 4, .inl fs)), (gv, .inl (cI, 4, .inl gg))]) [1, 2, 3, 4, 8, 9, 0, 5, 6, 7, 10, 11, 12, 13, 14, 15] (by decide) rfl) hS d_Gate_runBothCopies_36
    · have c_19 : ((rn_w (sb_w ops nums sz gg fc fl fb fs np) lm (((rn_w (sa_w ops nums sz gg fc fl fb fs np) lm (bg_w a_rr, b_rr, f4_w a_qq 0, 0, sp, fd)).2.1), bg_w ((rn_w (sa_w ops nums sz gg fc fl fb fs np) lm (bg_w a_rr, b_rr, f4_w a_qq 0, 0, sp, fd)).2.2.1), f4_w b_qq 0, 0, ((rn_w (sa_w ops nums sz gg fc fl fb fs np) lm (bg_w a_rr, b_rr, f4_w a_qq 0, 0, sp, fd)).2.2.2.2.2.1), ((rn_w (sa_w ops nums sz gg fc fl fb fs np) lm (bg_w a_rr, b_rr, f4_w a_qq 0, 0, sp, fd)).2.2.2.2.2.2))).1) = 0 := c_19
      refine lv_aload_n hx hb d_Gate_runBothCopies_26 rfl (lv_at hl 1 rfl) ?_
      refine af_i (wr := [(pg, .inr (3, [.ref oa, .ref na, .int sz])), (oa, .inl (cI, 100, .inl ops)), (na, .inl (cI, 100, .inl nums)), (b_rw, .inl (cL, 18, .inr (.inl ((rn_w (sb_w ops nums sz gg fc fl fb fs np) lm (((rn_w (sa_w ops nums sz gg fc fl fb fs np) lm (bg_w a_rr, b_rr, f4_w a_qq 0, 0, sp, fd)).2.1), bg_w ((rn_w (sa_w ops nums sz gg fc fl fb fs np) lm (bg_w a_rr, b_rr, f4_w a_qq 0, 0, sp, fd)).2.2.1), f4_w b_qq 0, 0, ((rn_w (sa_w ops nums sz gg fc fl fb fs np) lm (bg_w a_rr, b_rr, f4_w a_qq 0, 0, sp, fd)).2.2.2.2.2.1), ((rn_w (sa_w ops nums sz gg fc fl fb fs np) lm (bg_w a_rr, b_rr, f4_w a_qq 0, 0, sp, fd)).2.2.2.2.2.2))).2.2.1)))), (a_rw, .inl (cL, 18, .inr (.inl ((rn_w (sb_w ops nums sz gg fc fl fb fs np) lm (((rn_w (sa_w ops nums sz gg fc fl fb fs np) lm (bg_w a_rr, b_rr, f4_w a_qq 0, 0, sp, fd)).2.1), bg_w ((rn_w (sa_w ops nums sz gg fc fl fb fs np) lm (bg_w a_rr, b_rr, f4_w a_qq 0, 0, sp, fd)).2.2.1), f4_w b_qq 0, 0, ((rn_w (sa_w ops nums sz gg fc fl fb fs np) lm (bg_w a_rr, b_rr, f4_w a_qq 0, 0, sp, fd)).2.2.2.2.2.1), ((rn_w (sa_w ops nums sz gg fc fl fb fs np) lm (bg_w a_rr, b_rr, f4_w a_qq 0, 0, sp, fd)).2.2.2.2.2.2))).2.1)))), (pn, .inr (2, [.ref ka, .ref kb, .ref kc, .ref kd, .int (nI np)])), (ka, .inl (cI, 4, .inl fc)), (kb, .inl (cI, 4, .inl fl)), (kc, .inl (cI, 4, .inl fb)), (kd, .inl (cI, 4, .inl fs)), (gv, .inl (cI, 4, .inl gg))]) (va_runV (As := []) (rest := []) ⟨hx, hb, hml, hown, htb⟩ (c_Gate_copiesAgree l dC dI cI cL H.size x0 lm pg a_cp b_cp pn gv sh bg lt em ((rn_w (sb_w ops nums sz gg fc fl fb fs np) lm (((rn_w (sa_w ops nums sz gg fc fl fb fs np) lm (bg_w a_rr, b_rr, f4_w a_qq 0, 0, sp, fd)).2.1), bg_w ((rn_w (sa_w ops nums sz gg fc fl fb fs np) lm (bg_w a_rr, b_rr, f4_w a_qq 0, 0, sp, fd)).2.2.1), f4_w b_qq 0, 0, ((rn_w (sa_w ops nums sz gg fc fl fb fs np) lm (bg_w a_rr, b_rr, f4_w a_qq 0, 0, sp, fd)).2.2.2.2.2.1), ((rn_w (sa_w ops nums sz gg fc fl fb fs np) lm (bg_w a_rr, b_rr, f4_w a_qq 0, 0, sp, fd)).2.2.2.2.2.2))).2.2.2.2.2.1) ((rn_w (sb_w ops nums sz gg fc fl fb fs np) lm (((rn_w (sa_w ops nums sz gg fc fl fb fs np) lm (bg_w a_rr, b_rr, f4_w a_qq 0, 0, sp, fd)).2.1), bg_w ((rn_w (sa_w ops nums sz gg fc fl fb fs np) lm (bg_w a_rr, b_rr, f4_w a_qq 0, 0, sp, fd)).2.2.1), f4_w b_qq 0, 0, ((rn_w (sa_w ops nums sz gg fc fl fb fs np) lm (bg_w a_rr, b_rr, f4_w a_qq 0, 0, sp, fd)).2.2.2.2.2.1), ((rn_w (sa_w ops nums sz gg fc fl fb fs np) lm (bg_w a_rr, b_rr, f4_w a_qq 0, 0, sp, fd)).2.2.2.2.2.2))).2.2.2.2.2.2) a_rw a_po ((rn_w (sa_w ops nums sz gg fc fl fb fs np) lm (bg_w a_rr, b_rr, f4_w a_qq 0, 0, sp, fd)).2.2.2.1) ((rn_w (sa_w ops nums sz gg fc fl fb fs np) lm (bg_w a_rr, b_rr, f4_w a_qq 0, 0, sp, fd)).2.2.2.2.1) b_rw b_po ((rn_w (sb_w ops nums sz gg fc fl fb fs np) lm (((rn_w (sa_w ops nums sz gg fc fl fb fs np) lm (bg_w a_rr, b_rr, f4_w a_qq 0, 0, sp, fd)).2.1), bg_w ((rn_w (sa_w ops nums sz gg fc fl fb fs np) lm (bg_w a_rr, b_rr, f4_w a_qq 0, 0, sp, fd)).2.2.1), f4_w b_qq 0, 0, ((rn_w (sa_w ops nums sz gg fc fl fb fs np) lm (bg_w a_rr, b_rr, f4_w a_qq 0, 0, sp, fd)).2.2.2.2.2.1), ((rn_w (sa_w ops nums sz gg fc fl fb fs np) lm (bg_w a_rr, b_rr, f4_w a_qq 0, 0, sp, fd)).2.2.2.2.2.2))).2.2.2.1) ((rn_w (sb_w ops nums sz gg fc fl fb fs np) lm (((rn_w (sa_w ops nums sz gg fc fl fb fs np) lm (bg_w a_rr, b_rr, f4_w a_qq 0, 0, sp, fd)).2.1), bg_w ((rn_w (sa_w ops nums sz gg fc fl fb fs np) lm (bg_w a_rr, b_rr, f4_w a_qq 0, 0, sp, fd)).2.2.1), f4_w b_qq 0, 0, ((rn_w (sa_w ops nums sz gg fc fl fb fs np) lm (bg_w a_rr, b_rr, f4_w a_qq 0, 0, sp, fd)).2.2.2.2.2.1), ((rn_w (sa_w ops nums sz gg fc fl fb fs np) lm (bg_w a_rr, b_rr, f4_w a_qq 0, 0, sp, fd)).2.2.2.2.2.2))).2.2.2.2.1) ) ⟨callB_of 0 htb (gd_w tw_236) rfl rfl rfl (htb _ tw_20) (htb _ tw_233) (by decide +kernel) ⟨Nat.le_of_ble_eq_true rfl, Nat.le_of_ble_eq_true rfl⟩, htb _ tw_235, htb _ tw_10⟩ (pv_V hK (hP.sub (ws' := [(x0, .inr (0, [.int (nI lm), .ref pg, .ref a_cp, .ref b_cp, .ref pn, .ref gv, .ref sh, .int bg, .int lt, .int em, .int ((rn_w (sb_w ops nums sz gg fc fl fb fs np) lm (((rn_w (sa_w ops nums sz gg fc fl fb fs np) lm (bg_w a_rr, b_rr, f4_w a_qq 0, 0, sp, fd)).2.1), bg_w ((rn_w (sa_w ops nums sz gg fc fl fb fs np) lm (bg_w a_rr, b_rr, f4_w a_qq 0, 0, sp, fd)).2.2.1), f4_w b_qq 0, 0, ((rn_w (sa_w ops nums sz gg fc fl fb fs np) lm (bg_w a_rr, b_rr, f4_w a_qq 0, 0, sp, fd)).2.2.2.2.2.1), ((rn_w (sa_w ops nums sz gg fc fl fb fs np) lm (bg_w a_rr, b_rr, f4_w a_qq 0, 0, sp, fd)).2.2.2.2.2.2))).2.2.2.2.2.1), .int ((rn_w (sb_w ops nums sz gg fc fl fb fs np) lm (((rn_w (sa_w ops nums sz gg fc fl fb fs np) lm (bg_w a_rr, b_rr, f4_w a_qq 0, 0, sp, fd)).2.1), bg_w ((rn_w (sa_w ops nums sz gg fc fl fb fs np) lm (bg_w a_rr, b_rr, f4_w a_qq 0, 0, sp, fd)).2.2.1), f4_w b_qq 0, 0, ((rn_w (sa_w ops nums sz gg fc fl fb fs np) lm (bg_w a_rr, b_rr, f4_w a_qq 0, 0, sp, fd)).2.2.2.2.2.1), ((rn_w (sa_w ops nums sz gg fc fl fb fs np) lm (bg_w a_rr, b_rr, f4_w a_qq 0, 0, sp, fd)).2.2.2.2.2.2))).2.2.2.2.2.2)])), (a_cp, .inr (1, [.long 1, .ref a_rw, .ref a_po, .int ((rn_w (sa_w ops nums sz gg fc fl fb fs np) lm (bg_w a_rr, b_rr, f4_w a_qq 0, 0, sp, fd)).2.2.2.2.1)])), (a_po, .inl (cL, 4, .inr (.inl ((rn_w (sa_w ops nums sz gg fc fl fb fs np) lm (bg_w a_rr, b_rr, f4_w a_qq 0, 0, sp, fd)).2.2.2.1)))), (b_cp, .inr (1, [.long 58659, .ref b_rw, .ref b_po, .int ((rn_w (sb_w ops nums sz gg fc fl fb fs np) lm (((rn_w (sa_w ops nums sz gg fc fl fb fs np) lm (bg_w a_rr, b_rr, f4_w a_qq 0, 0, sp, fd)).2.1), bg_w ((rn_w (sa_w ops nums sz gg fc fl fb fs np) lm (bg_w a_rr, b_rr, f4_w a_qq 0, 0, sp, fd)).2.2.1), f4_w b_qq 0, 0, ((rn_w (sa_w ops nums sz gg fc fl fb fs np) lm (bg_w a_rr, b_rr, f4_w a_qq 0, 0, sp, fd)).2.2.2.2.2.1), ((rn_w (sa_w ops nums sz gg fc fl fb fs np) lm (bg_w a_rr, b_rr, f4_w a_qq 0, 0, sp, fd)).2.2.2.2.2.2))).2.2.2.2.1)])), (b_po, .inl (cL, 4, .inr (.inl ((rn_w (sb_w ops nums sz gg fc fl fb fs np) lm (((rn_w (sa_w ops nums sz gg fc fl fb fs np) lm (bg_w a_rr, b_rr, f4_w a_qq 0, 0, sp, fd)).2.1), bg_w ((rn_w (sa_w ops nums sz gg fc fl fb fs np) lm (bg_w a_rr, b_rr, f4_w a_qq 0, 0, sp, fd)).2.2.1), f4_w b_qq 0, 0, ((rn_w (sa_w ops nums sz gg fc fl fb fs np) lm (bg_w a_rr, b_rr, f4_w a_qq 0, 0, sp, fd)).2.2.2.2.2.1), ((rn_w (sa_w ops nums sz gg fc fl fb fs np) lm (bg_w a_rr, b_rr, f4_w a_qq 0, 0, sp, fd)).2.2.2.2.2.2))).2.2.2.1))))]) [1, 8, 0, 5, 7] rfl) (hD.sub (ws' := [(x0, .inr (0, [.int (nI lm), .ref pg, .ref a_cp, .ref b_cp, .ref pn, .ref gv, .ref sh, .int bg, .int lt, .int em, .int ((rn_w (sb_w ops nums sz gg fc fl fb fs np) lm (((rn_w (sa_w ops nums sz gg fc fl fb fs np) lm (bg_w a_rr, b_rr, f4_w a_qq 0, 0, sp, fd)).2.1), bg_w ((rn_w (sa_w ops nums sz gg fc fl fb fs np) lm (bg_w a_rr, b_rr, f4_w a_qq 0, 0, sp, fd)).2.2.1), f4_w b_qq 0, 0, ((rn_w (sa_w ops nums sz gg fc fl fb fs np) lm (bg_w a_rr, b_rr, f4_w a_qq 0, 0, sp, fd)).2.2.2.2.2.1), ((rn_w (sa_w ops nums sz gg fc fl fb fs np) lm (bg_w a_rr, b_rr, f4_w a_qq 0, 0, sp, fd)).2.2.2.2.2.2))).2.2.2.2.2.1), .int ((rn_w (sb_w ops nums sz gg fc fl fb fs np) lm (((rn_w (sa_w ops nums sz gg fc fl fb fs np) lm (bg_w a_rr, b_rr, f4_w a_qq 0, 0, sp, fd)).2.1), bg_w ((rn_w (sa_w ops nums sz gg fc fl fb fs np) lm (bg_w a_rr, b_rr, f4_w a_qq 0, 0, sp, fd)).2.2.1), f4_w b_qq 0, 0, ((rn_w (sa_w ops nums sz gg fc fl fb fs np) lm (bg_w a_rr, b_rr, f4_w a_qq 0, 0, sp, fd)).2.2.2.2.2.1), ((rn_w (sa_w ops nums sz gg fc fl fb fs np) lm (bg_w a_rr, b_rr, f4_w a_qq 0, 0, sp, fd)).2.2.2.2.2.2))).2.2.2.2.2.2)])), (a_cp, .inr (1, [.long 1, .ref a_rw, .ref a_po, .int ((rn_w (sa_w ops nums sz gg fc fl fb fs np) lm (bg_w a_rr, b_rr, f4_w a_qq 0, 0, sp, fd)).2.2.2.2.1)])), (a_po, .inl (cL, 4, .inr (.inl ((rn_w (sa_w ops nums sz gg fc fl fb fs np) lm (bg_w a_rr, b_rr, f4_w a_qq 0, 0, sp, fd)).2.2.2.1)))), (b_cp, .inr (1, [.long 58659, .ref b_rw, .ref b_po, .int ((rn_w (sb_w ops nums sz gg fc fl fb fs np) lm (((rn_w (sa_w ops nums sz gg fc fl fb fs np) lm (bg_w a_rr, b_rr, f4_w a_qq 0, 0, sp, fd)).2.1), bg_w ((rn_w (sa_w ops nums sz gg fc fl fb fs np) lm (bg_w a_rr, b_rr, f4_w a_qq 0, 0, sp, fd)).2.2.1), f4_w b_qq 0, 0, ((rn_w (sa_w ops nums sz gg fc fl fb fs np) lm (bg_w a_rr, b_rr, f4_w a_qq 0, 0, sp, fd)).2.2.2.2.2.1), ((rn_w (sa_w ops nums sz gg fc fl fb fs np) lm (bg_w a_rr, b_rr, f4_w a_qq 0, 0, sp, fd)).2.2.2.2.2.2))).2.2.2.2.1)])), (b_po, .inl (cL, 4, .inr (.inl ((rn_w (sb_w ops nums sz gg fc fl fb fs np) lm (((rn_w (sa_w ops nums sz gg fc fl fb fs np) lm (bg_w a_rr, b_rr, f4_w a_qq 0, 0, sp, fd)).2.1), bg_w ((rn_w (sa_w ops nums sz gg fc fl fb fs np) lm (bg_w a_rr, b_rr, f4_w a_qq 0, 0, sp, fd)).2.2.1), f4_w b_qq 0, 0, ((rn_w (sa_w ops nums sz gg fc fl fb fs np) lm (bg_w a_rr, b_rr, f4_w a_qq 0, 0, sp, fd)).2.2.2.2.2.1), ((rn_w (sa_w ops nums sz gg fc fl fb fs np) lm (bg_w a_rr, b_rr, f4_w a_qq 0, 0, sp, fd)).2.2.2.2.2.2))).2.2.2.1))))]) [1, 8, 0, 5, 7] (by decide) rfl) (ci := 0) (q0 := 0) rfl rfl) rfl rfl hl.1 rfl (lv_room (Nat.le_of_ble_eq_true rfl)) d_Gate_runBothCopies_27 ⟨Nat.le_of_ble_eq_true rfl, Nat.le_of_ble_eq_true rfl⟩) hP hD hS hA [1, 8, 0, 5, 7] [2, 3, 4, 6, 9, 10, 11, 12, 13, 14, 15] rfl rfl (by decide) (by decide) (fun r_20 u_21 H locs hw hP hD hS => ?_)
      try dsimp only at hw
      subst hw
      have hP : va_P (dC, dI) classes [(pg, .inr (3, [.ref oa, .ref na, .int sz])), (oa, .inl (cI, 100, .inl ops)), (na, .inl (cI, 100, .inl nums)), (b_rw, .inl (cL, 18, .inr (.inl ((rn_w (sb_w ops nums sz gg fc fl fb fs np) lm (((rn_w (sa_w ops nums sz gg fc fl fb fs np) lm (bg_w a_rr, b_rr, f4_w a_qq 0, 0, sp, fd)).2.1), bg_w ((rn_w (sa_w ops nums sz gg fc fl fb fs np) lm (bg_w a_rr, b_rr, f4_w a_qq 0, 0, sp, fd)).2.2.1), f4_w b_qq 0, 0, ((rn_w (sa_w ops nums sz gg fc fl fb fs np) lm (bg_w a_rr, b_rr, f4_w a_qq 0, 0, sp, fd)).2.2.2.2.2.1), ((rn_w (sa_w ops nums sz gg fc fl fb fs np) lm (bg_w a_rr, b_rr, f4_w a_qq 0, 0, sp, fd)).2.2.2.2.2.2))).2.2.1)))), (a_rw, .inl (cL, 18, .inr (.inl ((rn_w (sb_w ops nums sz gg fc fl fb fs np) lm (((rn_w (sa_w ops nums sz gg fc fl fb fs np) lm (bg_w a_rr, b_rr, f4_w a_qq 0, 0, sp, fd)).2.1), bg_w ((rn_w (sa_w ops nums sz gg fc fl fb fs np) lm (bg_w a_rr, b_rr, f4_w a_qq 0, 0, sp, fd)).2.2.1), f4_w b_qq 0, 0, ((rn_w (sa_w ops nums sz gg fc fl fb fs np) lm (bg_w a_rr, b_rr, f4_w a_qq 0, 0, sp, fd)).2.2.2.2.2.1), ((rn_w (sa_w ops nums sz gg fc fl fb fs np) lm (bg_w a_rr, b_rr, f4_w a_qq 0, 0, sp, fd)).2.2.2.2.2.2))).2.1)))), (pn, .inr (2, [.ref ka, .ref kb, .ref kc, .ref kd, .int (nI np)])), (ka, .inl (cI, 4, .inl fc)), (kb, .inl (cI, 4, .inl fl)), (kc, .inl (cI, 4, .inl fb)), (kd, .inl (cI, 4, .inl fs)), (gv, .inl (cI, 4, .inl gg)), (x0, .inr (0, [.int (nI lm), .ref pg, .ref a_cp, .ref b_cp, .ref pn, .ref gv, .ref sh, .int bg, .int lt, .int em, .int ((rn_w (sb_w ops nums sz gg fc fl fb fs np) lm (((rn_w (sa_w ops nums sz gg fc fl fb fs np) lm (bg_w a_rr, b_rr, f4_w a_qq 0, 0, sp, fd)).2.1), bg_w ((rn_w (sa_w ops nums sz gg fc fl fb fs np) lm (bg_w a_rr, b_rr, f4_w a_qq 0, 0, sp, fd)).2.2.1), f4_w b_qq 0, 0, ((rn_w (sa_w ops nums sz gg fc fl fb fs np) lm (bg_w a_rr, b_rr, f4_w a_qq 0, 0, sp, fd)).2.2.2.2.2.1), ((rn_w (sa_w ops nums sz gg fc fl fb fs np) lm (bg_w a_rr, b_rr, f4_w a_qq 0, 0, sp, fd)).2.2.2.2.2.2))).2.2.2.2.2.1), .int ((rn_w (sb_w ops nums sz gg fc fl fb fs np) lm (((rn_w (sa_w ops nums sz gg fc fl fb fs np) lm (bg_w a_rr, b_rr, f4_w a_qq 0, 0, sp, fd)).2.1), bg_w ((rn_w (sa_w ops nums sz gg fc fl fb fs np) lm (bg_w a_rr, b_rr, f4_w a_qq 0, 0, sp, fd)).2.2.1), f4_w b_qq 0, 0, ((rn_w (sa_w ops nums sz gg fc fl fb fs np) lm (bg_w a_rr, b_rr, f4_w a_qq 0, 0, sp, fd)).2.2.2.2.2.1), ((rn_w (sa_w ops nums sz gg fc fl fb fs np) lm (bg_w a_rr, b_rr, f4_w a_qq 0, 0, sp, fd)).2.2.2.2.2.2))).2.2.2.2.2.2)])), (a_cp, .inr (1, [.long 1, .ref a_rw, .ref a_po, .int ((rn_w (sa_w ops nums sz gg fc fl fb fs np) lm (bg_w a_rr, b_rr, f4_w a_qq 0, 0, sp, fd)).2.2.2.2.1)])), (a_po, .inl (cL, 4, .inr (.inl ((rn_w (sa_w ops nums sz gg fc fl fb fs np) lm (bg_w a_rr, b_rr, f4_w a_qq 0, 0, sp, fd)).2.2.2.1)))), (b_cp, .inr (1, [.long 58659, .ref b_rw, .ref b_po, .int ((rn_w (sb_w ops nums sz gg fc fl fb fs np) lm (((rn_w (sa_w ops nums sz gg fc fl fb fs np) lm (bg_w a_rr, b_rr, f4_w a_qq 0, 0, sp, fd)).2.1), bg_w ((rn_w (sa_w ops nums sz gg fc fl fb fs np) lm (bg_w a_rr, b_rr, f4_w a_qq 0, 0, sp, fd)).2.2.1), f4_w b_qq 0, 0, ((rn_w (sa_w ops nums sz gg fc fl fb fs np) lm (bg_w a_rr, b_rr, f4_w a_qq 0, 0, sp, fd)).2.2.2.2.2.1), ((rn_w (sa_w ops nums sz gg fc fl fb fs np) lm (bg_w a_rr, b_rr, f4_w a_qq 0, 0, sp, fd)).2.2.2.2.2.2))).2.2.2.2.1)])), (b_po, .inl (cL, 4, .inr (.inl ((rn_w (sb_w ops nums sz gg fc fl fb fs np) lm (((rn_w (sa_w ops nums sz gg fc fl fb fs np) lm (bg_w a_rr, b_rr, f4_w a_qq 0, 0, sp, fd)).2.1), bg_w ((rn_w (sa_w ops nums sz gg fc fl fb fs np) lm (bg_w a_rr, b_rr, f4_w a_qq 0, 0, sp, fd)).2.2.1), f4_w b_qq 0, 0, ((rn_w (sa_w ops nums sz gg fc fl fb fs np) lm (bg_w a_rr, b_rr, f4_w a_qq 0, 0, sp, fd)).2.2.2.2.2.1), ((rn_w (sa_w ops nums sz gg fc fl fb fs np) lm (bg_w a_rr, b_rr, f4_w a_qq 0, 0, sp, fd)).2.2.2.2.2.2))).2.2.2.1))))] H := hP
      have hD : va_D A [(pg, .inr (3, [.ref oa, .ref na, .int sz])), (oa, .inl (cI, 100, .inl ops)), (na, .inl (cI, 100, .inl nums)), (b_rw, .inl (cL, 18, .inr (.inl ((rn_w (sb_w ops nums sz gg fc fl fb fs np) lm (((rn_w (sa_w ops nums sz gg fc fl fb fs np) lm (bg_w a_rr, b_rr, f4_w a_qq 0, 0, sp, fd)).2.1), bg_w ((rn_w (sa_w ops nums sz gg fc fl fb fs np) lm (bg_w a_rr, b_rr, f4_w a_qq 0, 0, sp, fd)).2.2.1), f4_w b_qq 0, 0, ((rn_w (sa_w ops nums sz gg fc fl fb fs np) lm (bg_w a_rr, b_rr, f4_w a_qq 0, 0, sp, fd)).2.2.2.2.2.1), ((rn_w (sa_w ops nums sz gg fc fl fb fs np) lm (bg_w a_rr, b_rr, f4_w a_qq 0, 0, sp, fd)).2.2.2.2.2.2))).2.2.1)))), (a_rw, .inl (cL, 18, .inr (.inl ((rn_w (sb_w ops nums sz gg fc fl fb fs np) lm (((rn_w (sa_w ops nums sz gg fc fl fb fs np) lm (bg_w a_rr, b_rr, f4_w a_qq 0, 0, sp, fd)).2.1), bg_w ((rn_w (sa_w ops nums sz gg fc fl fb fs np) lm (bg_w a_rr, b_rr, f4_w a_qq 0, 0, sp, fd)).2.2.1), f4_w b_qq 0, 0, ((rn_w (sa_w ops nums sz gg fc fl fb fs np) lm (bg_w a_rr, b_rr, f4_w a_qq 0, 0, sp, fd)).2.2.2.2.2.1), ((rn_w (sa_w ops nums sz gg fc fl fb fs np) lm (bg_w a_rr, b_rr, f4_w a_qq 0, 0, sp, fd)).2.2.2.2.2.2))).2.1)))), (pn, .inr (2, [.ref ka, .ref kb, .ref kc, .ref kd, .int (nI np)])), (ka, .inl (cI, 4, .inl fc)), (kb, .inl (cI, 4, .inl fl)), (kc, .inl (cI, 4, .inl fb)), (kd, .inl (cI, 4, .inl fs)), (gv, .inl (cI, 4, .inl gg)), (x0, .inr (0, [.int (nI lm), .ref pg, .ref a_cp, .ref b_cp, .ref pn, .ref gv, .ref sh, .int bg, .int lt, .int em, .int ((rn_w (sb_w ops nums sz gg fc fl fb fs np) lm (((rn_w (sa_w ops nums sz gg fc fl fb fs np) lm (bg_w a_rr, b_rr, f4_w a_qq 0, 0, sp, fd)).2.1), bg_w ((rn_w (sa_w ops nums sz gg fc fl fb fs np) lm (bg_w a_rr, b_rr, f4_w a_qq 0, 0, sp, fd)).2.2.1), f4_w b_qq 0, 0, ((rn_w (sa_w ops nums sz gg fc fl fb fs np) lm (bg_w a_rr, b_rr, f4_w a_qq 0, 0, sp, fd)).2.2.2.2.2.1), ((rn_w (sa_w ops nums sz gg fc fl fb fs np) lm (bg_w a_rr, b_rr, f4_w a_qq 0, 0, sp, fd)).2.2.2.2.2.2))).2.2.2.2.2.1), .int ((rn_w (sb_w ops nums sz gg fc fl fb fs np) lm (((rn_w (sa_w ops nums sz gg fc fl fb fs np) lm (bg_w a_rr, b_rr, f4_w a_qq 0, 0, sp, fd)).2.1), bg_w ((rn_w (sa_w ops nums sz gg fc fl fb fs np) lm (bg_w a_rr, b_rr, f4_w a_qq 0, 0, sp, fd)).2.2.1), f4_w b_qq 0, 0, ((rn_w (sa_w ops nums sz gg fc fl fb fs np) lm (bg_w a_rr, b_rr, f4_w a_qq 0, 0, sp, fd)).2.2.2.2.2.1), ((rn_w (sa_w ops nums sz gg fc fl fb fs np) lm (bg_w a_rr, b_rr, f4_w a_qq 0, 0, sp, fd)).2.2.2.2.2.2))).2.2.2.2.2.2)])), (a_cp, .inr (1, [.long 1, .ref a_rw, .ref a_po, .int ((rn_w (sa_w ops nums sz gg fc fl fb fs np) lm (bg_w a_rr, b_rr, f4_w a_qq 0, 0, sp, fd)).2.2.2.2.1)])), (a_po, .inl (cL, 4, .inr (.inl ((rn_w (sa_w ops nums sz gg fc fl fb fs np) lm (bg_w a_rr, b_rr, f4_w a_qq 0, 0, sp, fd)).2.2.2.1)))), (b_cp, .inr (1, [.long 58659, .ref b_rw, .ref b_po, .int ((rn_w (sb_w ops nums sz gg fc fl fb fs np) lm (((rn_w (sa_w ops nums sz gg fc fl fb fs np) lm (bg_w a_rr, b_rr, f4_w a_qq 0, 0, sp, fd)).2.1), bg_w ((rn_w (sa_w ops nums sz gg fc fl fb fs np) lm (bg_w a_rr, b_rr, f4_w a_qq 0, 0, sp, fd)).2.2.1), f4_w b_qq 0, 0, ((rn_w (sa_w ops nums sz gg fc fl fb fs np) lm (bg_w a_rr, b_rr, f4_w a_qq 0, 0, sp, fd)).2.2.2.2.2.1), ((rn_w (sa_w ops nums sz gg fc fl fb fs np) lm (bg_w a_rr, b_rr, f4_w a_qq 0, 0, sp, fd)).2.2.2.2.2.2))).2.2.2.2.1)])), (b_po, .inl (cL, 4, .inr (.inl ((rn_w (sb_w ops nums sz gg fc fl fb fs np) lm (((rn_w (sa_w ops nums sz gg fc fl fb fs np) lm (bg_w a_rr, b_rr, f4_w a_qq 0, 0, sp, fd)).2.1), bg_w ((rn_w (sa_w ops nums sz gg fc fl fb fs np) lm (bg_w a_rr, b_rr, f4_w a_qq 0, 0, sp, fd)).2.2.1), f4_w b_qq 0, 0, ((rn_w (sa_w ops nums sz gg fc fl fb fs np) lm (bg_w a_rr, b_rr, f4_w a_qq 0, 0, sp, fd)).2.2.2.2.2.1), ((rn_w (sa_w ops nums sz gg fc fl fb fs np) lm (bg_w a_rr, b_rr, f4_w a_qq 0, 0, sp, fd)).2.2.2.2.2.2))).2.2.2.1))))] := hD
      refine lv_if_ne (tgt := 35) hx hb d_Gate_runBothCopies_30 (by decide) (fun c_22 => ?_) (fun c_22 => ?_)
      · have c_22 : ¬ (ca_w ((rn_w (sa_w ops nums sz gg fc fl fb fs np) lm (bg_w a_rr, b_rr, f4_w a_qq 0, 0, sp, fd)).2.2.2.1) ((rn_w (sb_w ops nums sz gg fc fl fb fs np) lm (((rn_w (sa_w ops nums sz gg fc fl fb fs np) lm (bg_w a_rr, b_rr, f4_w a_qq 0, 0, sp, fd)).2.1), bg_w ((rn_w (sa_w ops nums sz gg fc fl fb fs np) lm (bg_w a_rr, b_rr, f4_w a_qq 0, 0, sp, fd)).2.2.1), f4_w b_qq 0, 0, ((rn_w (sa_w ops nums sz gg fc fl fb fs np) lm (bg_w a_rr, b_rr, f4_w a_qq 0, 0, sp, fd)).2.2.2.2.2.1), ((rn_w (sa_w ops nums sz gg fc fl fb fs np) lm (bg_w a_rr, b_rr, f4_w a_qq 0, 0, sp, fd)).2.2.2.2.2.2))).2.2.2.1)) = 0 := c_22
        refine lv_iload_n hx hb d_Gate_runBothCopies_35 rfl (lv_at hl 0 rfl) ?_
        exact rt_i (v := (rn_w (sb_w ops nums sz gg fc fl fb fs np) lm (((rn_w (sa_w ops nums sz gg fc fl fb fs np) lm (bg_w a_rr, b_rr, f4_w a_qq 0, 0, sp, fd)).2.1), bg_w ((rn_w (sa_w ops nums sz gg fc fl fb fs np) lm (bg_w a_rr, b_rr, f4_w a_qq 0, 0, sp, fd)).2.2.1), f4_w b_qq 0, 0, ((rn_w (sa_w ops nums sz gg fc fl fb fs np) lm (bg_w a_rr, b_rr, f4_w a_qq 0, 0, sp, fd)).2.2.2.2.2.1), ((rn_w (sa_w ops nums sz gg fc fl fb fs np) lm (bg_w a_rr, b_rr, f4_w a_qq 0, 0, sp, fd)).2.2.2.2.2.2))).1) ((rn_w (sb_w ops nums sz gg fc fl fb fs np) lm (((rn_w (sa_w ops nums sz gg fc fl fb fs np) lm (bg_w a_rr, b_rr, f4_w a_qq 0, 0, sp, fd)).2.1), bg_w ((rn_w (sa_w ops nums sz gg fc fl fb fs np) lm (bg_w a_rr, b_rr, f4_w a_qq 0, 0, sp, fd)).2.2.1), f4_w b_qq 0, 0, ((rn_w (sa_w ops nums sz gg fc fl fb fs np) lm (bg_w a_rr, b_rr, f4_w a_qq 0, 0, sp, fd)).2.2.2.2.2.1), ((rn_w (sa_w ops nums sz gg fc fl fb fs np) lm (bg_w a_rr, b_rr, f4_w a_qq 0, 0, sp, fd)).2.2.2.2.2.2))).2.1, (rn_w (sb_w ops nums sz gg fc fl fb fs np) lm (((rn_w (sa_w ops nums sz gg fc fl fb fs np) lm (bg_w a_rr, b_rr, f4_w a_qq 0, 0, sp, fd)).2.1), bg_w ((rn_w (sa_w ops nums sz gg fc fl fb fs np) lm (bg_w a_rr, b_rr, f4_w a_qq 0, 0, sp, fd)).2.2.1), f4_w b_qq 0, 0, ((rn_w (sa_w ops nums sz gg fc fl fb fs np) lm (bg_w a_rr, b_rr, f4_w a_qq 0, 0, sp, fd)).2.2.2.2.2.1), ((rn_w (sa_w ops nums sz gg fc fl fb fs np) lm (bg_w a_rr, b_rr, f4_w a_qq 0, 0, sp, fd)).2.2.2.2.2.2))).2.2.1, ((rn_w (sa_w ops nums sz gg fc fl fb fs np) lm (bg_w a_rr, b_rr, f4_w a_qq 0, 0, sp, fd)).2.2.2.1), ((rn_w (sa_w ops nums sz gg fc fl fb fs np) lm (bg_w a_rr, b_rr, f4_w a_qq 0, 0, sp, fd)).2.2.2.2.1), ((rn_w (sb_w ops nums sz gg fc fl fb fs np) lm (((rn_w (sa_w ops nums sz gg fc fl fb fs np) lm (bg_w a_rr, b_rr, f4_w a_qq 0, 0, sp, fd)).2.1), bg_w ((rn_w (sa_w ops nums sz gg fc fl fb fs np) lm (bg_w a_rr, b_rr, f4_w a_qq 0, 0, sp, fd)).2.2.1), f4_w b_qq 0, 0, ((rn_w (sa_w ops nums sz gg fc fl fb fs np) lm (bg_w a_rr, b_rr, f4_w a_qq 0, 0, sp, fd)).2.2.2.2.2.1), ((rn_w (sa_w ops nums sz gg fc fl fb fs np) lm (bg_w a_rr, b_rr, f4_w a_qq 0, 0, sp, fd)).2.2.2.2.2.2))).2.2.2.1), ((rn_w (sb_w ops nums sz gg fc fl fb fs np) lm (((rn_w (sa_w ops nums sz gg fc fl fb fs np) lm (bg_w a_rr, b_rr, f4_w a_qq 0, 0, sp, fd)).2.1), bg_w ((rn_w (sa_w ops nums sz gg fc fl fb fs np) lm (bg_w a_rr, b_rr, f4_w a_qq 0, 0, sp, fd)).2.2.1), f4_w b_qq 0, 0, ((rn_w (sa_w ops nums sz gg fc fl fb fs np) lm (bg_w a_rr, b_rr, f4_w a_qq 0, 0, sp, fd)).2.2.2.2.2.1), ((rn_w (sa_w ops nums sz gg fc fl fb fs np) lm (bg_w a_rr, b_rr, f4_w a_qq 0, 0, sp, fd)).2.2.2.2.2.2))).2.2.2.2.1), ((rn_w (sb_w ops nums sz gg fc fl fb fs np) lm (((rn_w (sa_w ops nums sz gg fc fl fb fs np) lm (bg_w a_rr, b_rr, f4_w a_qq 0, 0, sp, fd)).2.1), bg_w ((rn_w (sa_w ops nums sz gg fc fl fb fs np) lm (bg_w a_rr, b_rr, f4_w a_qq 0, 0, sp, fd)).2.2.1), f4_w b_qq 0, 0, ((rn_w (sa_w ops nums sz gg fc fl fb fs np) lm (bg_w a_rr, b_rr, f4_w a_qq 0, 0, sp, fd)).2.2.2.2.2.1), ((rn_w (sa_w ops nums sz gg fc fl fb fs np) lm (bg_w a_rr, b_rr, f4_w a_qq 0, 0, sp, fd)).2.2.2.2.2.2))).2.2.2.2.2.1), ((rn_w (sb_w ops nums sz gg fc fl fb fs np) lm (((rn_w (sa_w ops nums sz gg fc fl fb fs np) lm (bg_w a_rr, b_rr, f4_w a_qq 0, 0, sp, fd)).2.1), bg_w ((rn_w (sa_w ops nums sz gg fc fl fb fs np) lm (bg_w a_rr, b_rr, f4_w a_qq 0, 0, sp, fd)).2.2.1), f4_w b_qq 0, 0, ((rn_w (sa_w ops nums sz gg fc fl fb fs np) lm (bg_w a_rr, b_rr, f4_w a_qq 0, 0, sp, fd)).2.2.2.2.2.1), ((rn_w (sa_w ops nums sz gg fc fl fb fs np) lm (bg_w a_rr, b_rr, f4_w a_qq 0, 0, sp, fd)).2.2.2.2.2.2))).2.2.2.2.2.2)) hx hb hr hlocks (show ((rn_w (sb_w ops nums sz gg fc fl fb fs np) lm (((rn_w (sa_w ops nums sz gg fc fl fb fs np) lm (bg_w a_rr, b_rr, f4_w a_qq 0, 0, sp, fd)).2.1), bg_w ((rn_w (sa_w ops nums sz gg fc fl fb fs np) lm (bg_w a_rr, b_rr, f4_w a_qq 0, 0, sp, fd)).2.2.1), f4_w b_qq 0, 0, ((rn_w (sa_w ops nums sz gg fc fl fb fs np) lm (bg_w a_rr, b_rr, f4_w a_qq 0, 0, sp, fd)).2.2.2.2.2.1), ((rn_w (sa_w ops nums sz gg fc fl fb fs np) lm (bg_w a_rr, b_rr, f4_w a_qq 0, 0, sp, fd)).2.2.2.2.2.2))).1) = (rb_w (sa_w ops nums sz gg fc fl fb fs np) (sb_w ops nums sz gg fc fl fb fs np) lm a_rr b_rr a_qq b_qq b_pl sp fd).1 ∧ ((rn_w (sb_w ops nums sz gg fc fl fb fs np) lm (((rn_w (sa_w ops nums sz gg fc fl fb fs np) lm (bg_w a_rr, b_rr, f4_w a_qq 0, 0, sp, fd)).2.1), bg_w ((rn_w (sa_w ops nums sz gg fc fl fb fs np) lm (bg_w a_rr, b_rr, f4_w a_qq 0, 0, sp, fd)).2.2.1), f4_w b_qq 0, 0, ((rn_w (sa_w ops nums sz gg fc fl fb fs np) lm (bg_w a_rr, b_rr, f4_w a_qq 0, 0, sp, fd)).2.2.2.2.2.1), ((rn_w (sa_w ops nums sz gg fc fl fb fs np) lm (bg_w a_rr, b_rr, f4_w a_qq 0, 0, sp, fd)).2.2.2.2.2.2))).2.1) = (rb_w (sa_w ops nums sz gg fc fl fb fs np) (sb_w ops nums sz gg fc fl fb fs np) lm a_rr b_rr a_qq b_qq b_pl sp fd).2.1 ∧ ((rn_w (sb_w ops nums sz gg fc fl fb fs np) lm (((rn_w (sa_w ops nums sz gg fc fl fb fs np) lm (bg_w a_rr, b_rr, f4_w a_qq 0, 0, sp, fd)).2.1), bg_w ((rn_w (sa_w ops nums sz gg fc fl fb fs np) lm (bg_w a_rr, b_rr, f4_w a_qq 0, 0, sp, fd)).2.2.1), f4_w b_qq 0, 0, ((rn_w (sa_w ops nums sz gg fc fl fb fs np) lm (bg_w a_rr, b_rr, f4_w a_qq 0, 0, sp, fd)).2.2.2.2.2.1), ((rn_w (sa_w ops nums sz gg fc fl fb fs np) lm (bg_w a_rr, b_rr, f4_w a_qq 0, 0, sp, fd)).2.2.2.2.2.2))).2.2.1) = (rb_w (sa_w ops nums sz gg fc fl fb fs np) (sb_w ops nums sz gg fc fl fb fs np) lm a_rr b_rr a_qq b_qq b_pl sp fd).2.2.1 ∧ ((rn_w (sa_w ops nums sz gg fc fl fb fs np) lm (bg_w a_rr, b_rr, f4_w a_qq 0, 0, sp, fd)).2.2.2.1) = (rb_w (sa_w ops nums sz gg fc fl fb fs np) (sb_w ops nums sz gg fc fl fb fs np) lm a_rr b_rr a_qq b_qq b_pl sp fd).2.2.2.1 ∧ ((rn_w (sa_w ops nums sz gg fc fl fb fs np) lm (bg_w a_rr, b_rr, f4_w a_qq 0, 0, sp, fd)).2.2.2.2.1) = (rb_w (sa_w ops nums sz gg fc fl fb fs np) (sb_w ops nums sz gg fc fl fb fs np) lm a_rr b_rr a_qq b_qq b_pl sp fd).2.2.2.2.1 ∧ ((rn_w (sb_w ops nums sz gg fc fl fb fs np) lm (((rn_w (sa_w ops nums sz gg fc fl fb fs np) lm (bg_w a_rr, b_rr, f4_w a_qq 0, 0, sp, fd)).2.1), bg_w ((rn_w (sa_w ops nums sz gg fc fl fb fs np) lm (bg_w a_rr, b_rr, f4_w a_qq 0, 0, sp, fd)).2.2.1), f4_w b_qq 0, 0, ((rn_w (sa_w ops nums sz gg fc fl fb fs np) lm (bg_w a_rr, b_rr, f4_w a_qq 0, 0, sp, fd)).2.2.2.2.2.1), ((rn_w (sa_w ops nums sz gg fc fl fb fs np) lm (bg_w a_rr, b_rr, f4_w a_qq 0, 0, sp, fd)).2.2.2.2.2.2))).2.2.2.1) = (rb_w (sa_w ops nums sz gg fc fl fb fs np) (sb_w ops nums sz gg fc fl fb fs np) lm a_rr b_rr a_qq b_qq b_pl sp fd).2.2.2.2.2.1 ∧ ((rn_w (sb_w ops nums sz gg fc fl fb fs np) lm (((rn_w (sa_w ops nums sz gg fc fl fb fs np) lm (bg_w a_rr, b_rr, f4_w a_qq 0, 0, sp, fd)).2.1), bg_w ((rn_w (sa_w ops nums sz gg fc fl fb fs np) lm (bg_w a_rr, b_rr, f4_w a_qq 0, 0, sp, fd)).2.2.1), f4_w b_qq 0, 0, ((rn_w (sa_w ops nums sz gg fc fl fb fs np) lm (bg_w a_rr, b_rr, f4_w a_qq 0, 0, sp, fd)).2.2.2.2.2.1), ((rn_w (sa_w ops nums sz gg fc fl fb fs np) lm (bg_w a_rr, b_rr, f4_w a_qq 0, 0, sp, fd)).2.2.2.2.2.2))).2.2.2.2.1) = (rb_w (sa_w ops nums sz gg fc fl fb fs np) (sb_w ops nums sz gg fc fl fb fs np) lm a_rr b_rr a_qq b_qq b_pl sp fd).2.2.2.2.2.2.1 ∧ ((rn_w (sb_w ops nums sz gg fc fl fb fs np) lm (((rn_w (sa_w ops nums sz gg fc fl fb fs np) lm (bg_w a_rr, b_rr, f4_w a_qq 0, 0, sp, fd)).2.1), bg_w ((rn_w (sa_w ops nums sz gg fc fl fb fs np) lm (bg_w a_rr, b_rr, f4_w a_qq 0, 0, sp, fd)).2.2.1), f4_w b_qq 0, 0, ((rn_w (sa_w ops nums sz gg fc fl fb fs np) lm (bg_w a_rr, b_rr, f4_w a_qq 0, 0, sp, fd)).2.2.2.2.2.1), ((rn_w (sa_w ops nums sz gg fc fl fb fs np) lm (bg_w a_rr, b_rr, f4_w a_qq 0, 0, sp, fd)).2.2.2.2.2.2))).2.2.2.2.2.1) = (rb_w (sa_w ops nums sz gg fc fl fb fs np) (sb_w ops nums sz gg fc fl fb fs np) lm a_rr b_rr a_qq b_qq b_pl sp fd).2.2.2.2.2.2.2.1 ∧ ((rn_w (sb_w ops nums sz gg fc fl fb fs np) lm (((rn_w (sa_w ops nums sz gg fc fl fb fs np) lm (bg_w a_rr, b_rr, f4_w a_qq 0, 0, sp, fd)).2.1), bg_w ((rn_w (sa_w ops nums sz gg fc fl fb fs np) lm (bg_w a_rr, b_rr, f4_w a_qq 0, 0, sp, fd)).2.2.1), f4_w b_qq 0, 0, ((rn_w (sa_w ops nums sz gg fc fl fb fs np) lm (bg_w a_rr, b_rr, f4_w a_qq 0, 0, sp, fd)).2.2.2.2.2.1), ((rn_w (sa_w ops nums sz gg fc fl fb fs np) lm (bg_w a_rr, b_rr, f4_w a_qq 0, 0, sp, fd)).2.2.2.2.2.2))).2.2.2.2.2.2) = (rb_w (sa_w ops nums sz gg fc fl fb fs np) (sb_w ops nums sz gg fc fl fb fs np) lm a_rr b_rr a_qq b_qq b_pl sp fd).2.2.2.2.2.2.2.2 from (by rw [rb_e2 (fa := (sa_w ops nums sz gg fc fl fb fs np)) (fb := (sb_w ops nums sz gg fc fl fb fs np)) (lm := lm) (ra := a_rr) (rb := b_rr) (qa := a_qq) (qb := b_qq) (plb := b_pl) (sp := sp) (fd := fd) c_9 c_19 c_22]; exact ⟨rfl, rfl, rfl, rfl, rfl, rfl, rfl, rfl, rfl⟩)) (hP.sub (ws' := [(x0, .inr (0, [.int (nI lm), .ref pg, .ref a_cp, .ref b_cp, .ref pn, .ref gv, .ref sh, .int bg, .int lt, .int em, .int ((rn_w (sb_w ops nums sz gg fc fl fb fs np) lm (((rn_w (sa_w ops nums sz gg fc fl fb fs np) lm (bg_w a_rr, b_rr, f4_w a_qq 0, 0, sp, fd)).2.1), bg_w ((rn_w (sa_w ops nums sz gg fc fl fb fs np) lm (bg_w a_rr, b_rr, f4_w a_qq 0, 0, sp, fd)).2.2.1), f4_w b_qq 0, 0, ((rn_w (sa_w ops nums sz gg fc fl fb fs np) lm (bg_w a_rr, b_rr, f4_w a_qq 0, 0, sp, fd)).2.2.2.2.2.1), ((rn_w (sa_w ops nums sz gg fc fl fb fs np) lm (bg_w a_rr, b_rr, f4_w a_qq 0, 0, sp, fd)).2.2.2.2.2.2))).2.2.2.2.2.1), .int ((rn_w (sb_w ops nums sz gg fc fl fb fs np) lm (((rn_w (sa_w ops nums sz gg fc fl fb fs np) lm (bg_w a_rr, b_rr, f4_w a_qq 0, 0, sp, fd)).2.1), bg_w ((rn_w (sa_w ops nums sz gg fc fl fb fs np) lm (bg_w a_rr, b_rr, f4_w a_qq 0, 0, sp, fd)).2.2.1), f4_w b_qq 0, 0, ((rn_w (sa_w ops nums sz gg fc fl fb fs np) lm (bg_w a_rr, b_rr, f4_w a_qq 0, 0, sp, fd)).2.2.2.2.2.1), ((rn_w (sa_w ops nums sz gg fc fl fb fs np) lm (bg_w a_rr, b_rr, f4_w a_qq 0, 0, sp, fd)).2.2.2.2.2.2))).2.2.2.2.2.2)])), (pg, .inr (3, [.ref oa, .ref na, .int sz])), (oa, .inl (cI, 100, .inl ops)), (na, .inl (cI, 100, .inl nums)), (a_cp, .inr (1, [.long 1, .ref a_rw, .ref a_po, .int ((rn_w (sa_w ops nums sz gg fc fl fb fs np) lm (bg_w a_rr, b_rr, f4_w a_qq 0, 0, sp, fd)).2.2.2.2.1)])), (a_rw, .inl (cL, 18, .inr (.inl ((rn_w (sb_w ops nums sz gg fc fl fb fs np) lm (((rn_w (sa_w ops nums sz gg fc fl fb fs np) lm (bg_w a_rr, b_rr, f4_w a_qq 0, 0, sp, fd)).2.1), bg_w ((rn_w (sa_w ops nums sz gg fc fl fb fs np) lm (bg_w a_rr, b_rr, f4_w a_qq 0, 0, sp, fd)).2.2.1), f4_w b_qq 0, 0, ((rn_w (sa_w ops nums sz gg fc fl fb fs np) lm (bg_w a_rr, b_rr, f4_w a_qq 0, 0, sp, fd)).2.2.2.2.2.1), ((rn_w (sa_w ops nums sz gg fc fl fb fs np) lm (bg_w a_rr, b_rr, f4_w a_qq 0, 0, sp, fd)).2.2.2.2.2.2))).2.1)))), (a_po, .inl (cL, 4, .inr (.inl ((rn_w (sa_w ops nums sz gg fc fl fb fs np) lm (bg_w a_rr, b_rr, f4_w a_qq 0, 0, sp, fd)).2.2.2.1)))), (b_cp, .inr (1, [.long 58659, .ref b_rw, .ref b_po, .int ((rn_w (sb_w ops nums sz gg fc fl fb fs np) lm (((rn_w (sa_w ops nums sz gg fc fl fb fs np) lm (bg_w a_rr, b_rr, f4_w a_qq 0, 0, sp, fd)).2.1), bg_w ((rn_w (sa_w ops nums sz gg fc fl fb fs np) lm (bg_w a_rr, b_rr, f4_w a_qq 0, 0, sp, fd)).2.2.1), f4_w b_qq 0, 0, ((rn_w (sa_w ops nums sz gg fc fl fb fs np) lm (bg_w a_rr, b_rr, f4_w a_qq 0, 0, sp, fd)).2.2.2.2.2.1), ((rn_w (sa_w ops nums sz gg fc fl fb fs np) lm (bg_w a_rr, b_rr, f4_w a_qq 0, 0, sp, fd)).2.2.2.2.2.2))).2.2.2.2.1)])), (b_rw, .inl (cL, 18, .inr (.inl ((rn_w (sb_w ops nums sz gg fc fl fb fs np) lm (((rn_w (sa_w ops nums sz gg fc fl fb fs np) lm (bg_w a_rr, b_rr, f4_w a_qq 0, 0, sp, fd)).2.1), bg_w ((rn_w (sa_w ops nums sz gg fc fl fb fs np) lm (bg_w a_rr, b_rr, f4_w a_qq 0, 0, sp, fd)).2.2.1), f4_w b_qq 0, 0, ((rn_w (sa_w ops nums sz gg fc fl fb fs np) lm (bg_w a_rr, b_rr, f4_w a_qq 0, 0, sp, fd)).2.2.2.2.2.1), ((rn_w (sa_w ops nums sz gg fc fl fb fs np) lm (bg_w a_rr, b_rr, f4_w a_qq 0, 0, sp, fd)).2.2.2.2.2.2))).2.2.1)))), (b_po, .inl (cL, 4, .inr (.inl ((rn_w (sb_w ops nums sz gg fc fl fb fs np) lm (((rn_w (sa_w ops nums sz gg fc fl fb fs np) lm (bg_w a_rr, b_rr, f4_w a_qq 0, 0, sp, fd)).2.1), bg_w ((rn_w (sa_w ops nums sz gg fc fl fb fs np) lm (bg_w a_rr, b_rr, f4_w a_qq 0, 0, sp, fd)).2.2.1), f4_w b_qq 0, 0, ((rn_w (sa_w ops nums sz gg fc fl fb fs np) lm (bg_w a_rr, b_rr, f4_w a_qq 0, 0, sp, fd)).2.2.2.2.2.1), ((rn_w (sa_w ops nums sz gg fc fl fb fs np) lm (bg_w a_rr, b_rr, f4_w a_qq 0, 0, sp, fd)).2.2.2.2.2.2))).2.2.2.1)))), (pn, .inr (2, [.ref ka, .ref kb, .ref kc, .ref kd, .int (nI np)])), (ka, .inl (cI, 4, .inl fc)), (kb, .inl (cI, 4, .inl fl)), (kc, .inl (cI, 4, .inl fb)), (kd, .inl (cI, 4, .inl fs)), (gv, .inl (cI, 4, .inl gg))]) [11, 0, 1, 2, 12, 4, 13, 14, 3, 15, 5, 6, 7, 8, 9, 10] rfl) (hD.sub (ws' := [(x0, .inr (0, [.int (nI lm), .ref pg, .ref a_cp, .ref b_cp, .ref pn, .ref gv, .ref sh, .int bg, .int lt, .int em, .int ((rn_w (sb_w ops nums sz gg fc fl fb fs np) lm (((rn_w (sa_w ops nums sz gg fc fl fb fs np) lm (bg_w a_rr, b_rr, f4_w a_qq 0, 0, sp, fd)).2.1), bg_w ((rn_w (sa_w ops nums sz gg fc fl fb fs np) lm (bg_w a_rr, b_rr, f4_w a_qq 0, 0, sp, fd)).2.2.1), f4_w b_qq 0, 0, ((rn_w (sa_w ops nums sz gg fc fl fb fs np) lm (bg_w a_rr, b_rr, f4_w a_qq 0, 0, sp, fd)).2.2.2.2.2.1), ((rn_w (sa_w ops nums sz gg fc fl fb fs np) lm (bg_w a_rr, b_rr, f4_w a_qq 0, 0, sp, fd)).2.2.2.2.2.2))).2.2.2.2.2.1), .int ((rn_w (sb_w ops nums sz gg fc fl fb fs np) lm (((rn_w (sa_w ops nums sz gg fc fl fb fs np) lm (bg_w a_rr, b_rr, f4_w a_qq 0, 0, sp, fd)).2.1), bg_w ((rn_w (sa_w ops nums sz gg fc fl fb fs np) lm (bg_w a_rr, b_rr, f4_w a_qq 0, 0, sp, fd)).2.2.1), f4_w b_qq 0, 0, ((rn_w (sa_w ops nums sz gg fc fl fb fs np) lm (bg_w a_rr, b_rr, f4_w a_qq 0, 0, sp, fd)).2.2.2.2.2.1), ((rn_w (sa_w ops nums sz gg fc fl fb fs np) lm (bg_w a_rr, b_rr, f4_w a_qq 0, 0, sp, fd)).2.2.2.2.2.2))).2.2.2.2.2.2)])), (pg, .inr (3, [.ref oa, .ref na, .int sz])), (oa, .inl (cI, 100, .inl ops)), (na, .inl (cI, 100, .inl nums)), (a_cp, .inr (1, [.long 1, .ref a_rw, .ref a_po, .int ((rn_w (sa_w ops nums sz gg fc fl fb fs np) lm (bg_w a_rr, b_rr, f4_w a_qq 0, 0, sp, fd)).2.2.2.2.1)])), (a_rw, .inl (cL, 18, .inr (.inl ((rn_w (sb_w ops nums sz gg fc fl fb fs np) lm (((rn_w (sa_w ops nums sz gg fc fl fb fs np) lm (bg_w a_rr, b_rr, f4_w a_qq 0, 0, sp, fd)).2.1), bg_w ((rn_w (sa_w ops nums sz gg fc fl fb fs np) lm (bg_w a_rr, b_rr, f4_w a_qq 0, 0, sp, fd)).2.2.1), f4_w b_qq 0, 0, ((rn_w (sa_w ops nums sz gg fc fl fb fs np) lm (bg_w a_rr, b_rr, f4_w a_qq 0, 0, sp, fd)).2.2.2.2.2.1), ((rn_w (sa_w ops nums sz gg fc fl fb fs np) lm (bg_w a_rr, b_rr, f4_w a_qq 0, 0, sp, fd)).2.2.2.2.2.2))).2.1)))), (a_po, .inl (cL, 4, .inr (.inl ((rn_w (sa_w ops nums sz gg fc fl fb fs np) lm (bg_w a_rr, b_rr, f4_w a_qq 0, 0, sp, fd)).2.2.2.1)))), (b_cp, .inr (1, [.long 58659, .ref b_rw, .ref b_po, .int ((rn_w (sb_w ops nums sz gg fc fl fb fs np) lm (((rn_w (sa_w ops nums sz gg fc fl fb fs np) lm (bg_w a_rr, b_rr, f4_w a_qq 0, 0, sp, fd)).2.1), bg_w ((rn_w (sa_w ops nums sz gg fc fl fb fs np) lm (bg_w a_rr, b_rr, f4_w a_qq 0, 0, sp, fd)).2.2.1), f4_w b_qq 0, 0, ((rn_w (sa_w ops nums sz gg fc fl fb fs np) lm (bg_w a_rr, b_rr, f4_w a_qq 0, 0, sp, fd)).2.2.2.2.2.1), ((rn_w (sa_w ops nums sz gg fc fl fb fs np) lm (bg_w a_rr, b_rr, f4_w a_qq 0, 0, sp, fd)).2.2.2.2.2.2))).2.2.2.2.1)])), (b_rw, .inl (cL, 18, .inr (.inl ((rn_w (sb_w ops nums sz gg fc fl fb fs np) lm (((rn_w (sa_w ops nums sz gg fc fl fb fs np) lm (bg_w a_rr, b_rr, f4_w a_qq 0, 0, sp, fd)).2.1), bg_w ((rn_w (sa_w ops nums sz gg fc fl fb fs np) lm (bg_w a_rr, b_rr, f4_w a_qq 0, 0, sp, fd)).2.2.1), f4_w b_qq 0, 0, ((rn_w (sa_w ops nums sz gg fc fl fb fs np) lm (bg_w a_rr, b_rr, f4_w a_qq 0, 0, sp, fd)).2.2.2.2.2.1), ((rn_w (sa_w ops nums sz gg fc fl fb fs np) lm (bg_w a_rr, b_rr, f4_w a_qq 0, 0, sp, fd)).2.2.2.2.2.2))).2.2.1)))), (b_po, .inl (cL, 4, .inr (.inl ((rn_w (sb_w ops nums sz gg fc fl fb fs np) lm (((rn_w (sa_w ops nums sz gg fc fl fb fs np) lm (bg_w a_rr, b_rr, f4_w a_qq 0, 0, sp, fd)).2.1), bg_w ((rn_w (sa_w ops nums sz gg fc fl fb fs np) lm (bg_w a_rr, b_rr, f4_w a_qq 0, 0, sp, fd)).2.2.1), f4_w b_qq 0, 0, ((rn_w (sa_w ops nums sz gg fc fl fb fs np) lm (bg_w a_rr, b_rr, f4_w a_qq 0, 0, sp, fd)).2.2.2.2.2.1), ((rn_w (sa_w ops nums sz gg fc fl fb fs np) lm (bg_w a_rr, b_rr, f4_w a_qq 0, 0, sp, fd)).2.2.2.2.2.2))).2.2.2.1)))), (pn, .inr (2, [.ref ka, .ref kb, .ref kc, .ref kd, .int (nI np)])), (ka, .inl (cI, 4, .inl fc)), (kb, .inl (cI, 4, .inl fl)), (kc, .inl (cI, 4, .inl fb)), (kd, .inl (cI, 4, .inl fs)), (gv, .inl (cI, 4, .inl gg))]) [11, 0, 1, 2, 12, 4, 13, 14, 3, 15, 5, 6, 7, 8, 9, 10] (by decide) rfl) hS d_Gate_runBothCopies_36
      · have c_22 : (ca_w ((rn_w (sa_w ops nums sz gg fc fl fb fs np) lm (bg_w a_rr, b_rr, f4_w a_qq 0, 0, sp, fd)).2.2.2.1) ((rn_w (sb_w ops nums sz gg fc fl fb fs np) lm (((rn_w (sa_w ops nums sz gg fc fl fb fs np) lm (bg_w a_rr, b_rr, f4_w a_qq 0, 0, sp, fd)).2.1), bg_w ((rn_w (sa_w ops nums sz gg fc fl fb fs np) lm (bg_w a_rr, b_rr, f4_w a_qq 0, 0, sp, fd)).2.2.1), f4_w b_qq 0, 0, ((rn_w (sa_w ops nums sz gg fc fl fb fs np) lm (bg_w a_rr, b_rr, f4_w a_qq 0, 0, sp, fd)).2.2.2.2.2.1), ((rn_w (sa_w ops nums sz gg fc fl fb fs np) lm (bg_w a_rr, b_rr, f4_w a_qq 0, 0, sp, fd)).2.2.2.2.2.2))).2.2.2.1)) = 0 := c_22
        refine lv_iconst (v := 3) hx hb d_Gate_runBothCopies_33 (by decide) ?_
        refine lv_istore_n (lv' := [(1, .int 3), (0, .ref x0)]) hx hb d_Gate_runBothCopies_34 rfl hl (by decide) rfl (fun ls hl => ?_)
        refine lv_iload_n hx hb d_Gate_runBothCopies_35 rfl (lv_at hl 0 rfl) ?_
        exact rt_i (v := 3) ((rn_w (sb_w ops nums sz gg fc fl fb fs np) lm (((rn_w (sa_w ops nums sz gg fc fl fb fs np) lm (bg_w a_rr, b_rr, f4_w a_qq 0, 0, sp, fd)).2.1), bg_w ((rn_w (sa_w ops nums sz gg fc fl fb fs np) lm (bg_w a_rr, b_rr, f4_w a_qq 0, 0, sp, fd)).2.2.1), f4_w b_qq 0, 0, ((rn_w (sa_w ops nums sz gg fc fl fb fs np) lm (bg_w a_rr, b_rr, f4_w a_qq 0, 0, sp, fd)).2.2.2.2.2.1), ((rn_w (sa_w ops nums sz gg fc fl fb fs np) lm (bg_w a_rr, b_rr, f4_w a_qq 0, 0, sp, fd)).2.2.2.2.2.2))).2.1, (rn_w (sb_w ops nums sz gg fc fl fb fs np) lm (((rn_w (sa_w ops nums sz gg fc fl fb fs np) lm (bg_w a_rr, b_rr, f4_w a_qq 0, 0, sp, fd)).2.1), bg_w ((rn_w (sa_w ops nums sz gg fc fl fb fs np) lm (bg_w a_rr, b_rr, f4_w a_qq 0, 0, sp, fd)).2.2.1), f4_w b_qq 0, 0, ((rn_w (sa_w ops nums sz gg fc fl fb fs np) lm (bg_w a_rr, b_rr, f4_w a_qq 0, 0, sp, fd)).2.2.2.2.2.1), ((rn_w (sa_w ops nums sz gg fc fl fb fs np) lm (bg_w a_rr, b_rr, f4_w a_qq 0, 0, sp, fd)).2.2.2.2.2.2))).2.2.1, ((rn_w (sa_w ops nums sz gg fc fl fb fs np) lm (bg_w a_rr, b_rr, f4_w a_qq 0, 0, sp, fd)).2.2.2.1), ((rn_w (sa_w ops nums sz gg fc fl fb fs np) lm (bg_w a_rr, b_rr, f4_w a_qq 0, 0, sp, fd)).2.2.2.2.1), ((rn_w (sb_w ops nums sz gg fc fl fb fs np) lm (((rn_w (sa_w ops nums sz gg fc fl fb fs np) lm (bg_w a_rr, b_rr, f4_w a_qq 0, 0, sp, fd)).2.1), bg_w ((rn_w (sa_w ops nums sz gg fc fl fb fs np) lm (bg_w a_rr, b_rr, f4_w a_qq 0, 0, sp, fd)).2.2.1), f4_w b_qq 0, 0, ((rn_w (sa_w ops nums sz gg fc fl fb fs np) lm (bg_w a_rr, b_rr, f4_w a_qq 0, 0, sp, fd)).2.2.2.2.2.1), ((rn_w (sa_w ops nums sz gg fc fl fb fs np) lm (bg_w a_rr, b_rr, f4_w a_qq 0, 0, sp, fd)).2.2.2.2.2.2))).2.2.2.1), ((rn_w (sb_w ops nums sz gg fc fl fb fs np) lm (((rn_w (sa_w ops nums sz gg fc fl fb fs np) lm (bg_w a_rr, b_rr, f4_w a_qq 0, 0, sp, fd)).2.1), bg_w ((rn_w (sa_w ops nums sz gg fc fl fb fs np) lm (bg_w a_rr, b_rr, f4_w a_qq 0, 0, sp, fd)).2.2.1), f4_w b_qq 0, 0, ((rn_w (sa_w ops nums sz gg fc fl fb fs np) lm (bg_w a_rr, b_rr, f4_w a_qq 0, 0, sp, fd)).2.2.2.2.2.1), ((rn_w (sa_w ops nums sz gg fc fl fb fs np) lm (bg_w a_rr, b_rr, f4_w a_qq 0, 0, sp, fd)).2.2.2.2.2.2))).2.2.2.2.1), ((rn_w (sb_w ops nums sz gg fc fl fb fs np) lm (((rn_w (sa_w ops nums sz gg fc fl fb fs np) lm (bg_w a_rr, b_rr, f4_w a_qq 0, 0, sp, fd)).2.1), bg_w ((rn_w (sa_w ops nums sz gg fc fl fb fs np) lm (bg_w a_rr, b_rr, f4_w a_qq 0, 0, sp, fd)).2.2.1), f4_w b_qq 0, 0, ((rn_w (sa_w ops nums sz gg fc fl fb fs np) lm (bg_w a_rr, b_rr, f4_w a_qq 0, 0, sp, fd)).2.2.2.2.2.1), ((rn_w (sa_w ops nums sz gg fc fl fb fs np) lm (bg_w a_rr, b_rr, f4_w a_qq 0, 0, sp, fd)).2.2.2.2.2.2))).2.2.2.2.2.1), ((rn_w (sb_w ops nums sz gg fc fl fb fs np) lm (((rn_w (sa_w ops nums sz gg fc fl fb fs np) lm (bg_w a_rr, b_rr, f4_w a_qq 0, 0, sp, fd)).2.1), bg_w ((rn_w (sa_w ops nums sz gg fc fl fb fs np) lm (bg_w a_rr, b_rr, f4_w a_qq 0, 0, sp, fd)).2.2.1), f4_w b_qq 0, 0, ((rn_w (sa_w ops nums sz gg fc fl fb fs np) lm (bg_w a_rr, b_rr, f4_w a_qq 0, 0, sp, fd)).2.2.2.2.2.1), ((rn_w (sa_w ops nums sz gg fc fl fb fs np) lm (bg_w a_rr, b_rr, f4_w a_qq 0, 0, sp, fd)).2.2.2.2.2.2))).2.2.2.2.2.2)) hx hb hr hlocks (show (3 : Int32) = (rb_w (sa_w ops nums sz gg fc fl fb fs np) (sb_w ops nums sz gg fc fl fb fs np) lm a_rr b_rr a_qq b_qq b_pl sp fd).1 ∧ ((rn_w (sb_w ops nums sz gg fc fl fb fs np) lm (((rn_w (sa_w ops nums sz gg fc fl fb fs np) lm (bg_w a_rr, b_rr, f4_w a_qq 0, 0, sp, fd)).2.1), bg_w ((rn_w (sa_w ops nums sz gg fc fl fb fs np) lm (bg_w a_rr, b_rr, f4_w a_qq 0, 0, sp, fd)).2.2.1), f4_w b_qq 0, 0, ((rn_w (sa_w ops nums sz gg fc fl fb fs np) lm (bg_w a_rr, b_rr, f4_w a_qq 0, 0, sp, fd)).2.2.2.2.2.1), ((rn_w (sa_w ops nums sz gg fc fl fb fs np) lm (bg_w a_rr, b_rr, f4_w a_qq 0, 0, sp, fd)).2.2.2.2.2.2))).2.1) = (rb_w (sa_w ops nums sz gg fc fl fb fs np) (sb_w ops nums sz gg fc fl fb fs np) lm a_rr b_rr a_qq b_qq b_pl sp fd).2.1 ∧ ((rn_w (sb_w ops nums sz gg fc fl fb fs np) lm (((rn_w (sa_w ops nums sz gg fc fl fb fs np) lm (bg_w a_rr, b_rr, f4_w a_qq 0, 0, sp, fd)).2.1), bg_w ((rn_w (sa_w ops nums sz gg fc fl fb fs np) lm (bg_w a_rr, b_rr, f4_w a_qq 0, 0, sp, fd)).2.2.1), f4_w b_qq 0, 0, ((rn_w (sa_w ops nums sz gg fc fl fb fs np) lm (bg_w a_rr, b_rr, f4_w a_qq 0, 0, sp, fd)).2.2.2.2.2.1), ((rn_w (sa_w ops nums sz gg fc fl fb fs np) lm (bg_w a_rr, b_rr, f4_w a_qq 0, 0, sp, fd)).2.2.2.2.2.2))).2.2.1) = (rb_w (sa_w ops nums sz gg fc fl fb fs np) (sb_w ops nums sz gg fc fl fb fs np) lm a_rr b_rr a_qq b_qq b_pl sp fd).2.2.1 ∧ ((rn_w (sa_w ops nums sz gg fc fl fb fs np) lm (bg_w a_rr, b_rr, f4_w a_qq 0, 0, sp, fd)).2.2.2.1) = (rb_w (sa_w ops nums sz gg fc fl fb fs np) (sb_w ops nums sz gg fc fl fb fs np) lm a_rr b_rr a_qq b_qq b_pl sp fd).2.2.2.1 ∧ ((rn_w (sa_w ops nums sz gg fc fl fb fs np) lm (bg_w a_rr, b_rr, f4_w a_qq 0, 0, sp, fd)).2.2.2.2.1) = (rb_w (sa_w ops nums sz gg fc fl fb fs np) (sb_w ops nums sz gg fc fl fb fs np) lm a_rr b_rr a_qq b_qq b_pl sp fd).2.2.2.2.1 ∧ ((rn_w (sb_w ops nums sz gg fc fl fb fs np) lm (((rn_w (sa_w ops nums sz gg fc fl fb fs np) lm (bg_w a_rr, b_rr, f4_w a_qq 0, 0, sp, fd)).2.1), bg_w ((rn_w (sa_w ops nums sz gg fc fl fb fs np) lm (bg_w a_rr, b_rr, f4_w a_qq 0, 0, sp, fd)).2.2.1), f4_w b_qq 0, 0, ((rn_w (sa_w ops nums sz gg fc fl fb fs np) lm (bg_w a_rr, b_rr, f4_w a_qq 0, 0, sp, fd)).2.2.2.2.2.1), ((rn_w (sa_w ops nums sz gg fc fl fb fs np) lm (bg_w a_rr, b_rr, f4_w a_qq 0, 0, sp, fd)).2.2.2.2.2.2))).2.2.2.1) = (rb_w (sa_w ops nums sz gg fc fl fb fs np) (sb_w ops nums sz gg fc fl fb fs np) lm a_rr b_rr a_qq b_qq b_pl sp fd).2.2.2.2.2.1 ∧ ((rn_w (sb_w ops nums sz gg fc fl fb fs np) lm (((rn_w (sa_w ops nums sz gg fc fl fb fs np) lm (bg_w a_rr, b_rr, f4_w a_qq 0, 0, sp, fd)).2.1), bg_w ((rn_w (sa_w ops nums sz gg fc fl fb fs np) lm (bg_w a_rr, b_rr, f4_w a_qq 0, 0, sp, fd)).2.2.1), f4_w b_qq 0, 0, ((rn_w (sa_w ops nums sz gg fc fl fb fs np) lm (bg_w a_rr, b_rr, f4_w a_qq 0, 0, sp, fd)).2.2.2.2.2.1), ((rn_w (sa_w ops nums sz gg fc fl fb fs np) lm (bg_w a_rr, b_rr, f4_w a_qq 0, 0, sp, fd)).2.2.2.2.2.2))).2.2.2.2.1) = (rb_w (sa_w ops nums sz gg fc fl fb fs np) (sb_w ops nums sz gg fc fl fb fs np) lm a_rr b_rr a_qq b_qq b_pl sp fd).2.2.2.2.2.2.1 ∧ ((rn_w (sb_w ops nums sz gg fc fl fb fs np) lm (((rn_w (sa_w ops nums sz gg fc fl fb fs np) lm (bg_w a_rr, b_rr, f4_w a_qq 0, 0, sp, fd)).2.1), bg_w ((rn_w (sa_w ops nums sz gg fc fl fb fs np) lm (bg_w a_rr, b_rr, f4_w a_qq 0, 0, sp, fd)).2.2.1), f4_w b_qq 0, 0, ((rn_w (sa_w ops nums sz gg fc fl fb fs np) lm (bg_w a_rr, b_rr, f4_w a_qq 0, 0, sp, fd)).2.2.2.2.2.1), ((rn_w (sa_w ops nums sz gg fc fl fb fs np) lm (bg_w a_rr, b_rr, f4_w a_qq 0, 0, sp, fd)).2.2.2.2.2.2))).2.2.2.2.2.1) = (rb_w (sa_w ops nums sz gg fc fl fb fs np) (sb_w ops nums sz gg fc fl fb fs np) lm a_rr b_rr a_qq b_qq b_pl sp fd).2.2.2.2.2.2.2.1 ∧ ((rn_w (sb_w ops nums sz gg fc fl fb fs np) lm (((rn_w (sa_w ops nums sz gg fc fl fb fs np) lm (bg_w a_rr, b_rr, f4_w a_qq 0, 0, sp, fd)).2.1), bg_w ((rn_w (sa_w ops nums sz gg fc fl fb fs np) lm (bg_w a_rr, b_rr, f4_w a_qq 0, 0, sp, fd)).2.2.1), f4_w b_qq 0, 0, ((rn_w (sa_w ops nums sz gg fc fl fb fs np) lm (bg_w a_rr, b_rr, f4_w a_qq 0, 0, sp, fd)).2.2.2.2.2.1), ((rn_w (sa_w ops nums sz gg fc fl fb fs np) lm (bg_w a_rr, b_rr, f4_w a_qq 0, 0, sp, fd)).2.2.2.2.2.2))).2.2.2.2.2.2) = (rb_w (sa_w ops nums sz gg fc fl fb fs np) (sb_w ops nums sz gg fc fl fb fs np) lm a_rr b_rr a_qq b_qq b_pl sp fd).2.2.2.2.2.2.2.2 from (by rw [rb_e1 (fa := (sa_w ops nums sz gg fc fl fb fs np)) (fb := (sb_w ops nums sz gg fc fl fb fs np)) (lm := lm) (ra := a_rr) (rb := b_rr) (qa := a_qq) (qb := b_qq) (plb := b_pl) (sp := sp) (fd := fd) c_9 c_19 c_22]; exact ⟨rfl, rfl, rfl, rfl, rfl, rfl, rfl, rfl, rfl⟩)) (hP.sub (ws' := [(x0, .inr (0, [.int (nI lm), .ref pg, .ref a_cp, .ref b_cp, .ref pn, .ref gv, .ref sh, .int bg, .int lt, .int em, .int ((rn_w (sb_w ops nums sz gg fc fl fb fs np) lm (((rn_w (sa_w ops nums sz gg fc fl fb fs np) lm (bg_w a_rr, b_rr, f4_w a_qq 0, 0, sp, fd)).2.1), bg_w ((rn_w (sa_w ops nums sz gg fc fl fb fs np) lm (bg_w a_rr, b_rr, f4_w a_qq 0, 0, sp, fd)).2.2.1), f4_w b_qq 0, 0, ((rn_w (sa_w ops nums sz gg fc fl fb fs np) lm (bg_w a_rr, b_rr, f4_w a_qq 0, 0, sp, fd)).2.2.2.2.2.1), ((rn_w (sa_w ops nums sz gg fc fl fb fs np) lm (bg_w a_rr, b_rr, f4_w a_qq 0, 0, sp, fd)).2.2.2.2.2.2))).2.2.2.2.2.1), .int ((rn_w (sb_w ops nums sz gg fc fl fb fs np) lm (((rn_w (sa_w ops nums sz gg fc fl fb fs np) lm (bg_w a_rr, b_rr, f4_w a_qq 0, 0, sp, fd)).2.1), bg_w ((rn_w (sa_w ops nums sz gg fc fl fb fs np) lm (bg_w a_rr, b_rr, f4_w a_qq 0, 0, sp, fd)).2.2.1), f4_w b_qq 0, 0, ((rn_w (sa_w ops nums sz gg fc fl fb fs np) lm (bg_w a_rr, b_rr, f4_w a_qq 0, 0, sp, fd)).2.2.2.2.2.1), ((rn_w (sa_w ops nums sz gg fc fl fb fs np) lm (bg_w a_rr, b_rr, f4_w a_qq 0, 0, sp, fd)).2.2.2.2.2.2))).2.2.2.2.2.2)])), (pg, .inr (3, [.ref oa, .ref na, .int sz])), (oa, .inl (cI, 100, .inl ops)), (na, .inl (cI, 100, .inl nums)), (a_cp, .inr (1, [.long 1, .ref a_rw, .ref a_po, .int ((rn_w (sa_w ops nums sz gg fc fl fb fs np) lm (bg_w a_rr, b_rr, f4_w a_qq 0, 0, sp, fd)).2.2.2.2.1)])), (a_rw, .inl (cL, 18, .inr (.inl ((rn_w (sb_w ops nums sz gg fc fl fb fs np) lm (((rn_w (sa_w ops nums sz gg fc fl fb fs np) lm (bg_w a_rr, b_rr, f4_w a_qq 0, 0, sp, fd)).2.1), bg_w ((rn_w (sa_w ops nums sz gg fc fl fb fs np) lm (bg_w a_rr, b_rr, f4_w a_qq 0, 0, sp, fd)).2.2.1), f4_w b_qq 0, 0, ((rn_w (sa_w ops nums sz gg fc fl fb fs np) lm (bg_w a_rr, b_rr, f4_w a_qq 0, 0, sp, fd)).2.2.2.2.2.1), ((rn_w (sa_w ops nums sz gg fc fl fb fs np) lm (bg_w a_rr, b_rr, f4_w a_qq 0, 0, sp, fd)).2.2.2.2.2.2))).2.1)))), (a_po, .inl (cL, 4, .inr (.inl ((rn_w (sa_w ops nums sz gg fc fl fb fs np) lm (bg_w a_rr, b_rr, f4_w a_qq 0, 0, sp, fd)).2.2.2.1)))), (b_cp, .inr (1, [.long 58659, .ref b_rw, .ref b_po, .int ((rn_w (sb_w ops nums sz gg fc fl fb fs np) lm (((rn_w (sa_w ops nums sz gg fc fl fb fs np) lm (bg_w a_rr, b_rr, f4_w a_qq 0, 0, sp, fd)).2.1), bg_w ((rn_w (sa_w ops nums sz gg fc fl fb fs np) lm (bg_w a_rr, b_rr, f4_w a_qq 0, 0, sp, fd)).2.2.1), f4_w b_qq 0, 0, ((rn_w (sa_w ops nums sz gg fc fl fb fs np) lm (bg_w a_rr, b_rr, f4_w a_qq 0, 0, sp, fd)).2.2.2.2.2.1), ((rn_w (sa_w ops nums sz gg fc fl fb fs np) lm (bg_w a_rr, b_rr, f4_w a_qq 0, 0, sp, fd)).2.2.2.2.2.2))).2.2.2.2.1)])), (b_rw, .inl (cL, 18, .inr (.inl ((rn_w (sb_w ops nums sz gg fc fl fb fs np) lm (((rn_w (sa_w ops nums sz gg fc fl fb fs np) lm (bg_w a_rr, b_rr, f4_w a_qq 0, 0, sp, fd)).2.1), bg_w ((rn_w (sa_w ops nums sz gg fc fl fb fs np) lm (bg_w a_rr, b_rr, f4_w a_qq 0, 0, sp, fd)).2.2.1), f4_w b_qq 0, 0, ((rn_w (sa_w ops nums sz gg fc fl fb fs np) lm (bg_w a_rr, b_rr, f4_w a_qq 0, 0, sp, fd)).2.2.2.2.2.1), ((rn_w (sa_w ops nums sz gg fc fl fb fs np) lm (bg_w a_rr, b_rr, f4_w a_qq 0, 0, sp, fd)).2.2.2.2.2.2))).2.2.1)))), (b_po, .inl (cL, 4, .inr (.inl ((rn_w (sb_w ops nums sz gg fc fl fb fs np) lm (((rn_w (sa_w ops nums sz gg fc fl fb fs np) lm (bg_w a_rr, b_rr, f4_w a_qq 0, 0, sp, fd)).2.1), bg_w ((rn_w (sa_w ops nums sz gg fc fl fb fs np) lm (bg_w a_rr, b_rr, f4_w a_qq 0, 0, sp, fd)).2.2.1), f4_w b_qq 0, 0, ((rn_w (sa_w ops nums sz gg fc fl fb fs np) lm (bg_w a_rr, b_rr, f4_w a_qq 0, 0, sp, fd)).2.2.2.2.2.1), ((rn_w (sa_w ops nums sz gg fc fl fb fs np) lm (bg_w a_rr, b_rr, f4_w a_qq 0, 0, sp, fd)).2.2.2.2.2.2))).2.2.2.1)))), (pn, .inr (2, [.ref ka, .ref kb, .ref kc, .ref kd, .int (nI np)])), (ka, .inl (cI, 4, .inl fc)), (kb, .inl (cI, 4, .inl fl)), (kc, .inl (cI, 4, .inl fb)), (kd, .inl (cI, 4, .inl fs)), (gv, .inl (cI, 4, .inl gg))]) [11, 0, 1, 2, 12, 4, 13, 14, 3, 15, 5, 6, 7, 8, 9, 10] rfl) (hD.sub (ws' := [(x0, .inr (0, [.int (nI lm), .ref pg, .ref a_cp, .ref b_cp, .ref pn, .ref gv, .ref sh, .int bg, .int lt, .int em, .int ((rn_w (sb_w ops nums sz gg fc fl fb fs np) lm (((rn_w (sa_w ops nums sz gg fc fl fb fs np) lm (bg_w a_rr, b_rr, f4_w a_qq 0, 0, sp, fd)).2.1), bg_w ((rn_w (sa_w ops nums sz gg fc fl fb fs np) lm (bg_w a_rr, b_rr, f4_w a_qq 0, 0, sp, fd)).2.2.1), f4_w b_qq 0, 0, ((rn_w (sa_w ops nums sz gg fc fl fb fs np) lm (bg_w a_rr, b_rr, f4_w a_qq 0, 0, sp, fd)).2.2.2.2.2.1), ((rn_w (sa_w ops nums sz gg fc fl fb fs np) lm (bg_w a_rr, b_rr, f4_w a_qq 0, 0, sp, fd)).2.2.2.2.2.2))).2.2.2.2.2.1), .int ((rn_w (sb_w ops nums sz gg fc fl fb fs np) lm (((rn_w (sa_w ops nums sz gg fc fl fb fs np) lm (bg_w a_rr, b_rr, f4_w a_qq 0, 0, sp, fd)).2.1), bg_w ((rn_w (sa_w ops nums sz gg fc fl fb fs np) lm (bg_w a_rr, b_rr, f4_w a_qq 0, 0, sp, fd)).2.2.1), f4_w b_qq 0, 0, ((rn_w (sa_w ops nums sz gg fc fl fb fs np) lm (bg_w a_rr, b_rr, f4_w a_qq 0, 0, sp, fd)).2.2.2.2.2.1), ((rn_w (sa_w ops nums sz gg fc fl fb fs np) lm (bg_w a_rr, b_rr, f4_w a_qq 0, 0, sp, fd)).2.2.2.2.2.2))).2.2.2.2.2.2)])), (pg, .inr (3, [.ref oa, .ref na, .int sz])), (oa, .inl (cI, 100, .inl ops)), (na, .inl (cI, 100, .inl nums)), (a_cp, .inr (1, [.long 1, .ref a_rw, .ref a_po, .int ((rn_w (sa_w ops nums sz gg fc fl fb fs np) lm (bg_w a_rr, b_rr, f4_w a_qq 0, 0, sp, fd)).2.2.2.2.1)])), (a_rw, .inl (cL, 18, .inr (.inl ((rn_w (sb_w ops nums sz gg fc fl fb fs np) lm (((rn_w (sa_w ops nums sz gg fc fl fb fs np) lm (bg_w a_rr, b_rr, f4_w a_qq 0, 0, sp, fd)).2.1), bg_w ((rn_w (sa_w ops nums sz gg fc fl fb fs np) lm (bg_w a_rr, b_rr, f4_w a_qq 0, 0, sp, fd)).2.2.1), f4_w b_qq 0, 0, ((rn_w (sa_w ops nums sz gg fc fl fb fs np) lm (bg_w a_rr, b_rr, f4_w a_qq 0, 0, sp, fd)).2.2.2.2.2.1), ((rn_w (sa_w ops nums sz gg fc fl fb fs np) lm (bg_w a_rr, b_rr, f4_w a_qq 0, 0, sp, fd)).2.2.2.2.2.2))).2.1)))), (a_po, .inl (cL, 4, .inr (.inl ((rn_w (sa_w ops nums sz gg fc fl fb fs np) lm (bg_w a_rr, b_rr, f4_w a_qq 0, 0, sp, fd)).2.2.2.1)))), (b_cp, .inr (1, [.long 58659, .ref b_rw, .ref b_po, .int ((rn_w (sb_w ops nums sz gg fc fl fb fs np) lm (((rn_w (sa_w ops nums sz gg fc fl fb fs np) lm (bg_w a_rr, b_rr, f4_w a_qq 0, 0, sp, fd)).2.1), bg_w ((rn_w (sa_w ops nums sz gg fc fl fb fs np) lm (bg_w a_rr, b_rr, f4_w a_qq 0, 0, sp, fd)).2.2.1), f4_w b_qq 0, 0, ((rn_w (sa_w ops nums sz gg fc fl fb fs np) lm (bg_w a_rr, b_rr, f4_w a_qq 0, 0, sp, fd)).2.2.2.2.2.1), ((rn_w (sa_w ops nums sz gg fc fl fb fs np) lm (bg_w a_rr, b_rr, f4_w a_qq 0, 0, sp, fd)).2.2.2.2.2.2))).2.2.2.2.1)])), (b_rw, .inl (cL, 18, .inr (.inl ((rn_w (sb_w ops nums sz gg fc fl fb fs np) lm (((rn_w (sa_w ops nums sz gg fc fl fb fs np) lm (bg_w a_rr, b_rr, f4_w a_qq 0, 0, sp, fd)).2.1), bg_w ((rn_w (sa_w ops nums sz gg fc fl fb fs np) lm (bg_w a_rr, b_rr, f4_w a_qq 0, 0, sp, fd)).2.2.1), f4_w b_qq 0, 0, ((rn_w (sa_w ops nums sz gg fc fl fb fs np) lm (bg_w a_rr, b_rr, f4_w a_qq 0, 0, sp, fd)).2.2.2.2.2.1), ((rn_w (sa_w ops nums sz gg fc fl fb fs np) lm (bg_w a_rr, b_rr, f4_w a_qq 0, 0, sp, fd)).2.2.2.2.2.2))).2.2.1)))), (b_po, .inl (cL, 4, .inr (.inl ((rn_w (sb_w ops nums sz gg fc fl fb fs np) lm (((rn_w (sa_w ops nums sz gg fc fl fb fs np) lm (bg_w a_rr, b_rr, f4_w a_qq 0, 0, sp, fd)).2.1), bg_w ((rn_w (sa_w ops nums sz gg fc fl fb fs np) lm (bg_w a_rr, b_rr, f4_w a_qq 0, 0, sp, fd)).2.2.1), f4_w b_qq 0, 0, ((rn_w (sa_w ops nums sz gg fc fl fb fs np) lm (bg_w a_rr, b_rr, f4_w a_qq 0, 0, sp, fd)).2.2.2.2.2.1), ((rn_w (sa_w ops nums sz gg fc fl fb fs np) lm (bg_w a_rr, b_rr, f4_w a_qq 0, 0, sp, fd)).2.2.2.2.2.2))).2.2.2.1)))), (pn, .inr (2, [.ref ka, .ref kb, .ref kc, .ref kd, .int (nI np)])), (ka, .inl (cI, 4, .inl fc)), (kb, .inl (cI, 4, .inl fl)), (kc, .inl (cI, 4, .inl fb)), (kd, .inl (cI, 4, .inl fs)), (gv, .inl (cI, 4, .inl gg))]) [11, 0, 1, 2, 12, 4, 13, 14, 3, 15, 5, 6, 7, 8, 9, 10] (by decide) rfl) hS d_Gate_runBothCopies_36

set_option maxHeartbeats 4000000 in
set_option maxRecDepth 100000 in
theorem c_Gate_cycle (l : Launch) (dC : Nat → ClassId) (dI : Nat → Nat → Nat) (cI cL : ClassId) (hs0 : Nat) (x0 : Nat) (lm : Nat) (pg : Nat) (a_cp : Nat) (b_cp : Nat) (pn : Nat) (gv : Nat) (sh : Nat) (bg : Int32) (lt : Int32) (em : Int32) (sp : Int32) (fd : Int32) (oa : Nat) (na : Nat) (ops : Nat → Int32) (nums : Nat → Int32) (sz : Int32) (a_rw : Nat) (a_po : Nat) (a_rr : Nat → Int64) (a_qq : Nat → Int64) (a_pl : Int32) (b_rw : Nat) (b_po : Nat) (b_rr : Nat → Int64) (b_qq : Nat → Int64) (b_pl : Int32) (ka : Nat) (kb : Nat) (kc : Nat) (kd : Nat) (fc : Nat → Int32) (fl : Nat → Int32) (fb : Nat → Int32) (fs : Nat → Int32) (np : Nat) (gg : Nat → Int32) (ss : Nat → Int32) (hz : sz ≤ 100) (hok : pg_ok ops nums sz) (hnp : np ≤ 4) (hpl : pl_ok fl np) (hlm : lm ≤ 5000) : ct_i l y_Gate_cycle b_Gate_cycle 1 (some .int) ({ frames := 5, cells := 0, slots := 0, locals := 200 }) (dC, dI) cI cL [.ref x0] [(x0, .inr (0, [.int (nI lm), .ref pg, .ref a_cp, .ref b_cp, .ref pn, .ref gv, .ref sh, .int bg, .int lt, .int em, .int sp, .int fd])), (pg, .inr (3, [.ref oa, .ref na, .int sz])), (oa, .inl (cI, 100, .inl ops)), (na, .inl (cI, 100, .inl nums)), (a_cp, .inr (1, [.long 1, .ref a_rw, .ref a_po, .int a_pl])), (a_rw, .inl (cL, 18, .inr (.inl a_rr))), (a_po, .inl (cL, 4, .inr (.inl a_qq))), (b_cp, .inr (1, [.long 58659, .ref b_rw, .ref b_po, .int b_pl])), (b_rw, .inl (cL, 18, .inr (.inl b_rr))), (b_po, .inl (cL, 4, .inr (.inl b_qq))), (pn, .inr (2, [.ref ka, .ref kb, .ref kc, .ref kd, .int (nI np)])), (ka, .inl (cI, 4, .inl fc)), (kb, .inl (cI, 4, .inl fl)), (kc, .inl (cI, 4, .inl fb)), (kd, .inl (cI, 4, .inl fs)), (gv, .inl (cI, 4, .inl gg)), (sh, .inl (cI, 4, .inl ss))] hs0 (fun (r : Int32) (u : Int32 × Int32 × Int32 × Int32 × Int32 × (Nat → Int64) × (Nat → Int64) × (Nat → Int64) × Int32 × (Nat → Int64) × Int32 × Nat × (Nat → Int32)) => r = (cy_w (sa_w ops nums sz gg fc fl fb fs np) (sb_w ops nums sz gg fc fl fb fs np) lm bg lt em sp fd a_rr b_rr a_qq a_pl b_qq b_pl np ss).1 ∧ u.1 = (cy_w (sa_w ops nums sz gg fc fl fb fs np) (sb_w ops nums sz gg fc fl fb fs np) lm bg lt em sp fd a_rr b_rr a_qq a_pl b_qq b_pl np ss).2.1 ∧ u.2.1 = (cy_w (sa_w ops nums sz gg fc fl fb fs np) (sb_w ops nums sz gg fc fl fb fs np) lm bg lt em sp fd a_rr b_rr a_qq a_pl b_qq b_pl np ss).2.2.1 ∧ u.2.2.1 = (cy_w (sa_w ops nums sz gg fc fl fb fs np) (sb_w ops nums sz gg fc fl fb fs np) lm bg lt em sp fd a_rr b_rr a_qq a_pl b_qq b_pl np ss).2.2.2.1 ∧ u.2.2.2.1 = (cy_w (sa_w ops nums sz gg fc fl fb fs np) (sb_w ops nums sz gg fc fl fb fs np) lm bg lt em sp fd a_rr b_rr a_qq a_pl b_qq b_pl np ss).2.2.2.2.1 ∧ u.2.2.2.2.1 = (cy_w (sa_w ops nums sz gg fc fl fb fs np) (sb_w ops nums sz gg fc fl fb fs np) lm bg lt em sp fd a_rr b_rr a_qq a_pl b_qq b_pl np ss).2.2.2.2.2.1 ∧ u.2.2.2.2.2.1 = (cy_w (sa_w ops nums sz gg fc fl fb fs np) (sb_w ops nums sz gg fc fl fb fs np) lm bg lt em sp fd a_rr b_rr a_qq a_pl b_qq b_pl np ss).2.2.2.2.2.2.1 ∧ u.2.2.2.2.2.2.1 = (cy_w (sa_w ops nums sz gg fc fl fb fs np) (sb_w ops nums sz gg fc fl fb fs np) lm bg lt em sp fd a_rr b_rr a_qq a_pl b_qq b_pl np ss).2.2.2.2.2.2.2.1 ∧ u.2.2.2.2.2.2.2.1 = (cy_w (sa_w ops nums sz gg fc fl fb fs np) (sb_w ops nums sz gg fc fl fb fs np) lm bg lt em sp fd a_rr b_rr a_qq a_pl b_qq b_pl np ss).2.2.2.2.2.2.2.2.1 ∧ u.2.2.2.2.2.2.2.2.1 = (cy_w (sa_w ops nums sz gg fc fl fb fs np) (sb_w ops nums sz gg fc fl fb fs np) lm bg lt em sp fd a_rr b_rr a_qq a_pl b_qq b_pl np ss).2.2.2.2.2.2.2.2.2.1 ∧ u.2.2.2.2.2.2.2.2.2.1 = (cy_w (sa_w ops nums sz gg fc fl fb fs np) (sb_w ops nums sz gg fc fl fb fs np) lm bg lt em sp fd a_rr b_rr a_qq a_pl b_qq b_pl np ss).2.2.2.2.2.2.2.2.2.2.1 ∧ u.2.2.2.2.2.2.2.2.2.2.1 = (cy_w (sa_w ops nums sz gg fc fl fb fs np) (sb_w ops nums sz gg fc fl fb fs np) lm bg lt em sp fd a_rr b_rr a_qq a_pl b_qq b_pl np ss).2.2.2.2.2.2.2.2.2.2.2.1 ∧ u.2.2.2.2.2.2.2.2.2.2.2.1 = (cy_w (sa_w ops nums sz gg fc fl fb fs np) (sb_w ops nums sz gg fc fl fb fs np) lm bg lt em sp fd a_rr b_rr a_qq a_pl b_qq b_pl np ss).2.2.2.2.2.2.2.2.2.2.2.2.1 ∧ u.2.2.2.2.2.2.2.2.2.2.2.2 = (cy_w (sa_w ops nums sz gg fc fl fb fs np) (sb_w ops nums sz gg fc fl fb fs np) lm bg lt em sp fd a_rr b_rr a_qq a_pl b_qq b_pl np ss).2.2.2.2.2.2.2.2.2.2.2.2.2) (fun u => [(x0, .inr (0, [.int (nI lm), .ref pg, .ref a_cp, .ref b_cp, .ref pn, .ref gv, .ref sh, .int u.1, .int u.2.1, .int u.2.2.1, .int u.2.2.2.1, .int u.2.2.2.2.1])), (pg, .inr (3, [.ref oa, .ref na, .int sz])), (oa, .inl (cI, 100, .inl ops)), (na, .inl (cI, 100, .inl nums)), (a_cp, .inr (1, [.long 1, .ref a_rw, .ref a_po, .int u.2.2.2.2.2.2.2.2.1])), (a_rw, .inl (cL, 18, .inr (.inl u.2.2.2.2.2.1))), (a_po, .inl (cL, 4, .inr (.inl u.2.2.2.2.2.2.2.1))), (b_cp, .inr (1, [.long 58659, .ref b_rw, .ref b_po, .int u.2.2.2.2.2.2.2.2.2.2.1])), (b_rw, .inl (cL, 18, .inr (.inl u.2.2.2.2.2.2.1))), (b_po, .inl (cL, 4, .inr (.inl u.2.2.2.2.2.2.2.2.2.1))), (pn, .inr (2, [.ref ka, .ref kb, .ref kc, .ref kd, .int (nI u.2.2.2.2.2.2.2.2.2.2.2.1)])), (ka, .inl (cI, 4, .inl fc)), (kb, .inl (cI, 4, .inl fl)), (kc, .inl (cI, 4, .inl fb)), (kd, .inl (cI, 4, .inl fs)), (gv, .inl (cI, 4, .inl gg)), (sh, .inl (cI, 4, .inl u.2.2.2.2.2.2.2.2.2.2.2.2))]) 0 0 := by
  refine st_w (Qc := fun A => va_Qi (fun (r : Int32) (u : Int32 × Int32 × Int32 × Int32 × Int32 × (Nat → Int64) × (Nat → Int64) × (Nat → Int64) × Int32 × (Nat → Int64) × Int32 × Nat × (Nat → Int32)) => r = (cy_w (sa_w ops nums sz gg fc fl fb fs np) (sb_w ops nums sz gg fc fl fb fs np) lm bg lt em sp fd a_rr b_rr a_qq a_pl b_qq b_pl np ss).1 ∧ u.1 = (cy_w (sa_w ops nums sz gg fc fl fb fs np) (sb_w ops nums sz gg fc fl fb fs np) lm bg lt em sp fd a_rr b_rr a_qq a_pl b_qq b_pl np ss).2.1 ∧ u.2.1 = (cy_w (sa_w ops nums sz gg fc fl fb fs np) (sb_w ops nums sz gg fc fl fb fs np) lm bg lt em sp fd a_rr b_rr a_qq a_pl b_qq b_pl np ss).2.2.1 ∧ u.2.2.1 = (cy_w (sa_w ops nums sz gg fc fl fb fs np) (sb_w ops nums sz gg fc fl fb fs np) lm bg lt em sp fd a_rr b_rr a_qq a_pl b_qq b_pl np ss).2.2.2.1 ∧ u.2.2.2.1 = (cy_w (sa_w ops nums sz gg fc fl fb fs np) (sb_w ops nums sz gg fc fl fb fs np) lm bg lt em sp fd a_rr b_rr a_qq a_pl b_qq b_pl np ss).2.2.2.2.1 ∧ u.2.2.2.2.1 = (cy_w (sa_w ops nums sz gg fc fl fb fs np) (sb_w ops nums sz gg fc fl fb fs np) lm bg lt em sp fd a_rr b_rr a_qq a_pl b_qq b_pl np ss).2.2.2.2.2.1 ∧ u.2.2.2.2.2.1 = (cy_w (sa_w ops nums sz gg fc fl fb fs np) (sb_w ops nums sz gg fc fl fb fs np) lm bg lt em sp fd a_rr b_rr a_qq a_pl b_qq b_pl np ss).2.2.2.2.2.2.1 ∧ u.2.2.2.2.2.2.1 = (cy_w (sa_w ops nums sz gg fc fl fb fs np) (sb_w ops nums sz gg fc fl fb fs np) lm bg lt em sp fd a_rr b_rr a_qq a_pl b_qq b_pl np ss).2.2.2.2.2.2.2.1 ∧ u.2.2.2.2.2.2.2.1 = (cy_w (sa_w ops nums sz gg fc fl fb fs np) (sb_w ops nums sz gg fc fl fb fs np) lm bg lt em sp fd a_rr b_rr a_qq a_pl b_qq b_pl np ss).2.2.2.2.2.2.2.2.1 ∧ u.2.2.2.2.2.2.2.2.1 = (cy_w (sa_w ops nums sz gg fc fl fb fs np) (sb_w ops nums sz gg fc fl fb fs np) lm bg lt em sp fd a_rr b_rr a_qq a_pl b_qq b_pl np ss).2.2.2.2.2.2.2.2.2.1 ∧ u.2.2.2.2.2.2.2.2.2.1 = (cy_w (sa_w ops nums sz gg fc fl fb fs np) (sb_w ops nums sz gg fc fl fb fs np) lm bg lt em sp fd a_rr b_rr a_qq a_pl b_qq b_pl np ss).2.2.2.2.2.2.2.2.2.2.1 ∧ u.2.2.2.2.2.2.2.2.2.2.1 = (cy_w (sa_w ops nums sz gg fc fl fb fs np) (sb_w ops nums sz gg fc fl fb fs np) lm bg lt em sp fd a_rr b_rr a_qq a_pl b_qq b_pl np ss).2.2.2.2.2.2.2.2.2.2.2.1 ∧ u.2.2.2.2.2.2.2.2.2.2.2.1 = (cy_w (sa_w ops nums sz gg fc fl fb fs np) (sb_w ops nums sz gg fc fl fb fs np) lm bg lt em sp fd a_rr b_rr a_qq a_pl b_qq b_pl np ss).2.2.2.2.2.2.2.2.2.2.2.2.1 ∧ u.2.2.2.2.2.2.2.2.2.2.2.2 = (cy_w (sa_w ops nums sz gg fc fl fb fs np) (sb_w ops nums sz gg fc fl fb fs np) lm bg lt em sp fd a_rr b_rr a_qq a_pl b_qq b_pl np ss).2.2.2.2.2.2.2.2.2.2.2.2.2) (fun (u : Int32 × Int32 × Int32 × Int32 × Int32 × (Nat → Int64) × (Nat → Int64) × (Nat → Int64) × Int32 × (Nat → Int64) × Int32 × Nat × (Nat → Int32)) t => pos_w (dC, dI) A [(x0, .inr (0, [.int (nI lm), .ref pg, .ref a_cp, .ref b_cp, .ref pn, .ref gv, .ref sh, .int u.1, .int u.2.1, .int u.2.2.1, .int u.2.2.2.1, .int u.2.2.2.2.1])), (pg, .inr (3, [.ref oa, .ref na, .int sz])), (oa, .inl (cI, 100, .inl ops)), (na, .inl (cI, 100, .inl nums)), (a_cp, .inr (1, [.long 1, .ref a_rw, .ref a_po, .int u.2.2.2.2.2.2.2.2.1])), (a_rw, .inl (cL, 18, .inr (.inl u.2.2.2.2.2.1))), (a_po, .inl (cL, 4, .inr (.inl u.2.2.2.2.2.2.2.1))), (b_cp, .inr (1, [.long 58659, .ref b_rw, .ref b_po, .int u.2.2.2.2.2.2.2.2.2.2.1])), (b_rw, .inl (cL, 18, .inr (.inl u.2.2.2.2.2.2.1))), (b_po, .inl (cL, 4, .inr (.inl u.2.2.2.2.2.2.2.2.2.1))), (pn, .inr (2, [.ref ka, .ref kb, .ref kc, .ref kd, .int (nI u.2.2.2.2.2.2.2.2.2.2.2.1)])), (ka, .inl (cI, 4, .inl fc)), (kb, .inl (cI, 4, .inl fl)), (kc, .inl (cI, 4, .inl fb)), (kd, .inl (cI, 4, .inl fs)), (gv, .inl (cI, 4, .inl gg)), (sh, .inl (cI, 4, .inl u.2.2.2.2.2.2.2.2.2.2.2.2))] t) A) (by decide) (Nat.le_of_ble_eq_true rfl) ?_
  intro p e s m below meth c A ls hfx hK hA hP hD hS hl
  obtain ⟨hx, hb, hml, hown, htb, hr, hlocks, hin⟩ := hfx
  have hl : lv_has ls 1 [(0, .ref x0)] := hl
  refine lv_aload_n hx hb d_Gate_cycle_0 rfl (lv_at hl 0 rfl) ?_
  refine va_get (D := (dC, dI)) (ci := 0) (v := .int lt) (C := R_Gate) (T := F_Gate) (N := 12) hx hb htb iw_Gate hown hK.1 hP 0 rfl rfl 8 (by decide) (htb _ tw_126) (fun _ h9 => h9) rfl d_Gate_cycle_1 ?_
  refine lv_if_eq (tgt := 9) hx hb d_Gate_cycle_4 (by decide) (fun c_1 => ?_) (fun c_1 => ?_)
  · have c_1 : lt = 0 := c_1
    refine lv_aload_n hx hb d_Gate_cycle_9 rfl (lv_at hl 0 rfl) ?_
    refine lv_iconst (v := 1) hx hb d_Gate_cycle_10 (by decide) ?_
    refine va_put (D := (dC, dI)) (ci := 0) (v := .int 1) (ty := .boolean) (C := R_Gate) (T := F_Gate) (N := 12) hx hb htb iw_Gate t_Gate t_Gate_ok n_Gate hown hK.1 hP hD hS 0 rfl rfl 7 (by decide) (htb _ tw_125) (fun _ h9 => h9) rfl (by decide +kernel) (by first | rfl | decide) (by first | rfl | decide) (Nat.le_of_ble_eq_true rfl) d_Gate_cycle_11 (fun H locs hP hD hS => ?_)
    have hP : va_P (dC, dI) classes [(x0, .inr (0, [.int (nI lm), .ref pg, .ref a_cp, .ref b_cp, .ref pn, .ref gv, .ref sh, .int 1, .int lt, .int em, .int sp, .int fd])), (pg, .inr (3, [.ref oa, .ref na, .int sz])), (oa, .inl (cI, 100, .inl ops)), (na, .inl (cI, 100, .inl nums)), (a_cp, .inr (1, [.long 1, .ref a_rw, .ref a_po, .int a_pl])), (a_rw, .inl (cL, 18, .inr (.inl a_rr))), (a_po, .inl (cL, 4, .inr (.inl a_qq))), (b_cp, .inr (1, [.long 58659, .ref b_rw, .ref b_po, .int b_pl])), (b_rw, .inl (cL, 18, .inr (.inl b_rr))), (b_po, .inl (cL, 4, .inr (.inl b_qq))), (pn, .inr (2, [.ref ka, .ref kb, .ref kc, .ref kd, .int (nI np)])), (ka, .inl (cI, 4, .inl fc)), (kb, .inl (cI, 4, .inl fl)), (kc, .inl (cI, 4, .inl fb)), (kd, .inl (cI, 4, .inl fs)), (gv, .inl (cI, 4, .inl gg)), (sh, .inl (cI, 4, .inl ss))] H := hP
    have hD : va_D A [(x0, .inr (0, [.int (nI lm), .ref pg, .ref a_cp, .ref b_cp, .ref pn, .ref gv, .ref sh, .int 1, .int lt, .int em, .int sp, .int fd])), (pg, .inr (3, [.ref oa, .ref na, .int sz])), (oa, .inl (cI, 100, .inl ops)), (na, .inl (cI, 100, .inl nums)), (a_cp, .inr (1, [.long 1, .ref a_rw, .ref a_po, .int a_pl])), (a_rw, .inl (cL, 18, .inr (.inl a_rr))), (a_po, .inl (cL, 4, .inr (.inl a_qq))), (b_cp, .inr (1, [.long 58659, .ref b_rw, .ref b_po, .int b_pl])), (b_rw, .inl (cL, 18, .inr (.inl b_rr))), (b_po, .inl (cL, 4, .inr (.inl b_qq))), (pn, .inr (2, [.ref ka, .ref kb, .ref kc, .ref kd, .int (nI np)])), (ka, .inl (cI, 4, .inl fc)), (kb, .inl (cI, 4, .inl fl)), (kc, .inl (cI, 4, .inl fb)), (kd, .inl (cI, 4, .inl fs)), (gv, .inl (cI, 4, .inl gg)), (sh, .inl (cI, 4, .inl ss))] := hD
    refine lv_aload_n hx hb d_Gate_cycle_14 rfl (lv_at hl 0 rfl) ?_
    refine lv_iconst (v := 0) hx hb d_Gate_cycle_15 (by decide) ?_
    refine va_put (D := (dC, dI)) (ci := 0) (v := .int 0) (ty := .int) (C := R_Gate) (T := F_Gate) (N := 12) hx hb htb iw_Gate t_Gate t_Gate_ok n_Gate hown hK.1 hP hD hS 0 rfl rfl 10 (by decide) (htb _ tw_128) (fun _ h9 => h9) rfl (by decide +kernel) rfl rfl (Nat.le_of_ble_eq_true rfl) d_Gate_cycle_16 (fun H locs hP hD hS => ?_)
    have hP : va_P (dC, dI) classes [(x0, .inr (0, [.int (nI lm), .ref pg, .ref a_cp, .ref b_cp, .ref pn, .ref gv, .ref sh, .int 1, .int lt, .int em, .int 0, .int fd])), (pg, .inr (3, [.ref oa, .ref na, .int sz])), (oa, .inl (cI, 100, .inl ops)), (na, .inl (cI, 100, .inl nums)), (a_cp, .inr (1, [.long 1, .ref a_rw, .ref a_po, .int a_pl])), (a_rw, .inl (cL, 18, .inr (.inl a_rr))), (a_po, .inl (cL, 4, .inr (.inl a_qq))), (b_cp, .inr (1, [.long 58659, .ref b_rw, .ref b_po, .int b_pl])), (b_rw, .inl (cL, 18, .inr (.inl b_rr))), (b_po, .inl (cL, 4, .inr (.inl b_qq))), (pn, .inr (2, [.ref ka, .ref kb, .ref kc, .ref kd, .int (nI np)])), (ka, .inl (cI, 4, .inl fc)), (kb, .inl (cI, 4, .inl fl)), (kc, .inl (cI, 4, .inl fb)), (kd, .inl (cI, 4, .inl fs)), (gv, .inl (cI, 4, .inl gg)), (sh, .inl (cI, 4, .inl ss))] H := hP
    have hD : va_D A [(x0, .inr (0, [.int (nI lm), .ref pg, .ref a_cp, .ref b_cp, .ref pn, .ref gv, .ref sh, .int 1, .int lt, .int em, .int 0, .int fd])), (pg, .inr (3, [.ref oa, .ref na, .int sz])), (oa, .inl (cI, 100, .inl ops)), (na, .inl (cI, 100, .inl nums)), (a_cp, .inr (1, [.long 1, .ref a_rw, .ref a_po, .int a_pl])), (a_rw, .inl (cL, 18, .inr (.inl a_rr))), (a_po, .inl (cL, 4, .inr (.inl a_qq))), (b_cp, .inr (1, [.long 58659, .ref b_rw, .ref b_po, .int b_pl])), (b_rw, .inl (cL, 18, .inr (.inl b_rr))), (b_po, .inl (cL, 4, .inr (.inl b_qq))), (pn, .inr (2, [.ref ka, .ref kb, .ref kc, .ref kd, .int (nI np)])), (ka, .inl (cI, 4, .inl fc)), (kb, .inl (cI, 4, .inl fl)), (kc, .inl (cI, 4, .inl fb)), (kd, .inl (cI, 4, .inl fs)), (gv, .inl (cI, 4, .inl gg)), (sh, .inl (cI, 4, .inl ss))] := hD
    refine lv_aload_n hx hb d_Gate_cycle_19 rfl (lv_at hl 0 rfl) ?_
    refine lv_aload_n hx hb d_Gate_cycle_20 rfl (lv_at hl 0 rfl) ?_
    refine af_i (wr := [(sh, .inl (cI, 4, .inl ss))]) (va_runV (As := []) (rest := [.ref x0]) ⟨hx, hb, hml, hown, htb⟩ (c_Gate_runBothCopies l dC dI cI cL H.size x0 lm pg a_cp b_cp pn gv sh 1 lt em 0 fd oa na ops nums sz a_rw a_po a_rr a_qq a_pl b_rw b_po b_rr b_qq b_pl ka kb kc kd fc fl fb fs np gg hz hok hnp hpl hlm) ⟨callB_of 0 htb (gd_w tw_177) rfl rfl rfl (htb _ tw_20) (htb _ tw_174) (by decide +kernel) ⟨Nat.le_of_ble_eq_true rfl, Nat.le_of_ble_eq_true rfl⟩, htb _ tw_176, htb _ tw_0⟩ (pv_V hK (hP.sub (ws' := [(x0, .inr (0, [.int (nI lm), .ref pg, .ref a_cp, .ref b_cp, .ref pn, .ref gv, .ref sh, .int 1, .int lt, .int em, .int 0, .int fd])), (pg, .inr (3, [.ref oa, .ref na, .int sz])), (oa, .inl (cI, 100, .inl ops)), (na, .inl (cI, 100, .inl nums)), (a_cp, .inr (1, [.long 1, .ref a_rw, .ref a_po, .int a_pl])), (a_rw, .inl (cL, 18, .inr (.inl a_rr))), (a_po, .inl (cL, 4, .inr (.inl a_qq))), (b_cp, .inr (1, [.long 58659, .ref b_rw, .ref b_po, .int b_pl])), (b_rw, .inl (cL, 18, .inr (.inl b_rr))), (b_po, .inl (cL, 4, .inr (.inl b_qq))), (pn, .inr (2, [.ref ka, .ref kb, .ref kc, .ref kd, .int (nI np)])), (ka, .inl (cI, 4, .inl fc)), (kb, .inl (cI, 4, .inl fl)), (kc, .inl (cI, 4, .inl fb)), (kd, .inl (cI, 4, .inl fs)), (gv, .inl (cI, 4, .inl gg))]) [0, 1, 2, 3, 4, 5, 6, 7, 8, 9, 10, 11, 12, 13, 14, 15] rfl) (hD.sub (ws' := [(x0, .inr (0, [.int (nI lm), .ref pg, .ref a_cp, .ref b_cp, .ref pn, .ref gv, .ref sh, .int 1, .int lt, .int em, .int 0, .int fd])), (pg, .inr (3, [.ref oa, .ref na, .int sz])), (oa, .inl (cI, 100, .inl ops)), (na, .inl (cI, 100, .inl nums)), (a_cp, .inr (1, [.long 1, .ref a_rw, .ref a_po, .int a_pl])), (a_rw, .inl (cL, 18, .inr (.inl a_rr))), (a_po, .inl (cL, 4, .inr (.inl a_qq))), (b_cp, .inr (1, [.long 58659, .ref b_rw, .ref b_po, .int b_pl])), (b_rw, .inl (cL, 18, .inr (.inl b_rr))), (b_po, .inl (cL, 4, .inr (.inl b_qq))), (pn, .inr (2, [.ref ka, .ref kb, .ref kc, .ref kd, .int (nI np)])), (ka, .inl (cI, 4, .inl fc)), (kb, .inl (cI, 4, .inl fl)), (kc, .inl (cI, 4, .inl fb)), (kd, .inl (cI, 4, .inl fs)), (gv, .inl (cI, 4, .inl gg))]) [0, 1, 2, 3, 4, 5, 6, 7, 8, 9, 10, 11, 12, 13, 14, 15] (by decide) rfl) (ci := 0) (q0 := 0) rfl rfl) rfl rfl hl.1 rfl (lv_room (Nat.le_of_ble_eq_true rfl)) d_Gate_cycle_21 ⟨Nat.le_of_ble_eq_true rfl, Nat.le_of_ble_eq_true rfl⟩) hP hD hS hA [0, 1, 2, 3, 4, 5, 6, 7, 8, 9, 10, 11, 12, 13, 14, 15] [16] rfl rfl (by decide) (by decide) (fun r_2 u_3 H locs hw hP hD hS => ?_)
    obtain ⟨z_4, z_5, z_6, z_7, z_8, z_9, z_10, z_11⟩ := u_3
    try dsimp only at hw
    obtain ⟨rfl, rfl, rfl, rfl, rfl, rfl, rfl, rfl, rfl⟩ := hw
    have hP : va_P (dC, dI) classes [(sh, .inl (cI, 4, .inl ss)), (x0, .inr (0, [.int (nI lm), .ref pg, .ref a_cp, .ref b_cp, .ref pn, .ref gv, .ref sh, .int 1, .int lt, .int em, .int ((rb_w (sa_w ops nums sz gg fc fl fb fs np) (sb_w ops nums sz gg fc fl fb fs np) lm a_rr b_rr a_qq b_qq b_pl 0 fd).2.2.2.2.2.2.2.1), .int ((rb_w (sa_w ops nums sz gg fc fl fb fs np) (sb_w ops nums sz gg fc fl fb fs np) lm a_rr b_rr a_qq b_qq b_pl 0 fd).2.2.2.2.2.2.2.2)])), (pg, .inr (3, [.ref oa, .ref na, .int sz])), (oa, .inl (cI, 100, .inl ops)), (na, .inl (cI, 100, .inl nums)), (a_cp, .inr (1, [.long 1, .ref a_rw, .ref a_po, .int ((rb_w (sa_w ops nums sz gg fc fl fb fs np) (sb_w ops nums sz gg fc fl fb fs np) lm a_rr b_rr a_qq b_qq b_pl 0 fd).2.2.2.2.1)])), (a_rw, .inl (cL, 18, .inr (.inl ((rb_w (sa_w ops nums sz gg fc fl fb fs np) (sb_w ops nums sz gg fc fl fb fs np) lm a_rr b_rr a_qq b_qq b_pl 0 fd).2.1)))), (a_po, .inl (cL, 4, .inr (.inl ((rb_w (sa_w ops nums sz gg fc fl fb fs np) (sb_w ops nums sz gg fc fl fb fs np) lm a_rr b_rr a_qq b_qq b_pl 0 fd).2.2.2.1)))), (b_cp, .inr (1, [.long 58659, .ref b_rw, .ref b_po, .int ((rb_w (sa_w ops nums sz gg fc fl fb fs np) (sb_w ops nums sz gg fc fl fb fs np) lm a_rr b_rr a_qq b_qq b_pl 0 fd).2.2.2.2.2.2.1)])), (b_rw, .inl (cL, 18, .inr (.inl ((rb_w (sa_w ops nums sz gg fc fl fb fs np) (sb_w ops nums sz gg fc fl fb fs np) lm a_rr b_rr a_qq b_qq b_pl 0 fd).2.2.1)))), (b_po, .inl (cL, 4, .inr (.inl ((rb_w (sa_w ops nums sz gg fc fl fb fs np) (sb_w ops nums sz gg fc fl fb fs np) lm a_rr b_rr a_qq b_qq b_pl 0 fd).2.2.2.2.2.1)))), (pn, .inr (2, [.ref ka, .ref kb, .ref kc, .ref kd, .int (nI np)])), (ka, .inl (cI, 4, .inl fc)), (kb, .inl (cI, 4, .inl fl)), (kc, .inl (cI, 4, .inl fb)), (kd, .inl (cI, 4, .inl fs)), (gv, .inl (cI, 4, .inl gg))] H := hP
    have hD : va_D A [(sh, .inl (cI, 4, .inl ss)), (x0, .inr (0, [.int (nI lm), .ref pg, .ref a_cp, .ref b_cp, .ref pn, .ref gv, .ref sh, .int 1, .int lt, .int em, .int ((rb_w (sa_w ops nums sz gg fc fl fb fs np) (sb_w ops nums sz gg fc fl fb fs np) lm a_rr b_rr a_qq b_qq b_pl 0 fd).2.2.2.2.2.2.2.1), .int ((rb_w (sa_w ops nums sz gg fc fl fb fs np) (sb_w ops nums sz gg fc fl fb fs np) lm a_rr b_rr a_qq b_qq b_pl 0 fd).2.2.2.2.2.2.2.2)])), (pg, .inr (3, [.ref oa, .ref na, .int sz])), (oa, .inl (cI, 100, .inl ops)), (na, .inl (cI, 100, .inl nums)), (a_cp, .inr (1, [.long 1, .ref a_rw, .ref a_po, .int ((rb_w (sa_w ops nums sz gg fc fl fb fs np) (sb_w ops nums sz gg fc fl fb fs np) lm a_rr b_rr a_qq b_qq b_pl 0 fd).2.2.2.2.1)])), (a_rw, .inl (cL, 18, .inr (.inl ((rb_w (sa_w ops nums sz gg fc fl fb fs np) (sb_w ops nums sz gg fc fl fb fs np) lm a_rr b_rr a_qq b_qq b_pl 0 fd).2.1)))), (a_po, .inl (cL, 4, .inr (.inl ((rb_w (sa_w ops nums sz gg fc fl fb fs np) (sb_w ops nums sz gg fc fl fb fs np) lm a_rr b_rr a_qq b_qq b_pl 0 fd).2.2.2.1)))), (b_cp, .inr (1, [.long 58659, .ref b_rw, .ref b_po, .int ((rb_w (sa_w ops nums sz gg fc fl fb fs np) (sb_w ops nums sz gg fc fl fb fs np) lm a_rr b_rr a_qq b_qq b_pl 0 fd).2.2.2.2.2.2.1)])), (b_rw, .inl (cL, 18, .inr (.inl ((rb_w (sa_w ops nums sz gg fc fl fb fs np) (sb_w ops nums sz gg fc fl fb fs np) lm a_rr b_rr a_qq b_qq b_pl 0 fd).2.2.1)))), (b_po, .inl (cL, 4, .inr (.inl ((rb_w (sa_w ops nums sz gg fc fl fb fs np) (sb_w ops nums sz gg fc fl fb fs np) lm a_rr b_rr a_qq b_qq b_pl 0 fd).2.2.2.2.2.1)))), (pn, .inr (2, [.ref ka, .ref kb, .ref kc, .ref kd, .int (nI np)])), (ka, .inl (cI, 4, .inl fc)), (kb, .inl (cI, 4, .inl fl)), (kc, .inl (cI, 4, .inl fb)), (kd, .inl (cI, 4, .inl fs)), (gv, .inl (cI, 4, .inl gg))] := hD
    refine va_put (D := (dC, dI)) (ci := 0) (v := .int ((rb_w (sa_w ops nums sz gg fc fl fb fs np) (sb_w ops nums sz gg fc fl fb fs np) lm a_rr b_rr a_qq b_qq b_pl 0 fd).1)) (ty := .int) (C := R_Gate) (T := F_Gate) (N := 12) hx hb htb iw_Gate t_Gate t_Gate_ok n_Gate hown hK.1 hP hD hS 1 rfl rfl 8 (by decide) (htb _ tw_126) (fun _ h9 => h9) rfl (by decide +kernel) rfl rfl (Nat.le_of_ble_eq_true rfl) d_Gate_cycle_24 (fun H locs hP hD hS => ?_)
    have hP : va_P (dC, dI) classes [(sh, .inl (cI, 4, .inl ss)), (x0, .inr (0, [.int (nI lm), .ref pg, .ref a_cp, .ref b_cp, .ref pn, .ref gv, .ref sh, .int 1, .int ((rb_w (sa_w ops nums sz gg fc fl fb fs np) (sb_w ops nums sz gg fc fl fb fs np) lm a_rr b_rr a_qq b_qq b_pl 0 fd).1), .int em, .int ((rb_w (sa_w ops nums sz gg fc fl fb fs np) (sb_w ops nums sz gg fc fl fb fs np) lm a_rr b_rr a_qq b_qq b_pl 0 fd).2.2.2.2.2.2.2.1), .int ((rb_w (sa_w ops nums sz gg fc fl fb fs np) (sb_w ops nums sz gg fc fl fb fs np) lm a_rr b_rr a_qq b_qq b_pl 0 fd).2.2.2.2.2.2.2.2)])), (pg, .inr (3, [.ref oa, .ref na, .int sz])), (oa, .inl (cI, 100, .inl ops)), (na, .inl (cI, 100, .inl nums)), (a_cp, .inr (1, [.long 1, .ref a_rw, .ref a_po, .int ((rb_w (sa_w ops nums sz gg fc fl fb fs np) (sb_w ops nums sz gg fc fl fb fs np) lm a_rr b_rr a_qq b_qq b_pl 0 fd).2.2.2.2.1)])), (a_rw, .inl (cL, 18, .inr (.inl ((rb_w (sa_w ops nums sz gg fc fl fb fs np) (sb_w ops nums sz gg fc fl fb fs np) lm a_rr b_rr a_qq b_qq b_pl 0 fd).2.1)))), (a_po, .inl (cL, 4, .inr (.inl ((rb_w (sa_w ops nums sz gg fc fl fb fs np) (sb_w ops nums sz gg fc fl fb fs np) lm a_rr b_rr a_qq b_qq b_pl 0 fd).2.2.2.1)))), (b_cp, .inr (1, [.long 58659, .ref b_rw, .ref b_po, .int ((rb_w (sa_w ops nums sz gg fc fl fb fs np) (sb_w ops nums sz gg fc fl fb fs np) lm a_rr b_rr a_qq b_qq b_pl 0 fd).2.2.2.2.2.2.1)])), (b_rw, .inl (cL, 18, .inr (.inl ((rb_w (sa_w ops nums sz gg fc fl fb fs np) (sb_w ops nums sz gg fc fl fb fs np) lm a_rr b_rr a_qq b_qq b_pl 0 fd).2.2.1)))), (b_po, .inl (cL, 4, .inr (.inl ((rb_w (sa_w ops nums sz gg fc fl fb fs np) (sb_w ops nums sz gg fc fl fb fs np) lm a_rr b_rr a_qq b_qq b_pl 0 fd).2.2.2.2.2.1)))), (pn, .inr (2, [.ref ka, .ref kb, .ref kc, .ref kd, .int (nI np)])), (ka, .inl (cI, 4, .inl fc)), (kb, .inl (cI, 4, .inl fl)), (kc, .inl (cI, 4, .inl fb)), (kd, .inl (cI, 4, .inl fs)), (gv, .inl (cI, 4, .inl gg))] H := hP
    have hD : va_D A [(sh, .inl (cI, 4, .inl ss)), (x0, .inr (0, [.int (nI lm), .ref pg, .ref a_cp, .ref b_cp, .ref pn, .ref gv, .ref sh, .int 1, .int ((rb_w (sa_w ops nums sz gg fc fl fb fs np) (sb_w ops nums sz gg fc fl fb fs np) lm a_rr b_rr a_qq b_qq b_pl 0 fd).1), .int em, .int ((rb_w (sa_w ops nums sz gg fc fl fb fs np) (sb_w ops nums sz gg fc fl fb fs np) lm a_rr b_rr a_qq b_qq b_pl 0 fd).2.2.2.2.2.2.2.1), .int ((rb_w (sa_w ops nums sz gg fc fl fb fs np) (sb_w ops nums sz gg fc fl fb fs np) lm a_rr b_rr a_qq b_qq b_pl 0 fd).2.2.2.2.2.2.2.2)])), (pg, .inr (3, [.ref oa, .ref na, .int sz])), (oa, .inl (cI, 100, .inl ops)), (na, .inl (cI, 100, .inl nums)), (a_cp, .inr (1, [.long 1, .ref a_rw, .ref a_po, .int ((rb_w (sa_w ops nums sz gg fc fl fb fs np) (sb_w ops nums sz gg fc fl fb fs np) lm a_rr b_rr a_qq b_qq b_pl 0 fd).2.2.2.2.1)])), (a_rw, .inl (cL, 18, .inr (.inl ((rb_w (sa_w ops nums sz gg fc fl fb fs np) (sb_w ops nums sz gg fc fl fb fs np) lm a_rr b_rr a_qq b_qq b_pl 0 fd).2.1)))), (a_po, .inl (cL, 4, .inr (.inl ((rb_w (sa_w ops nums sz gg fc fl fb fs np) (sb_w ops nums sz gg fc fl fb fs np) lm a_rr b_rr a_qq b_qq b_pl 0 fd).2.2.2.1)))), (b_cp, .inr (1, [.long 58659, .ref b_rw, .ref b_po, .int ((rb_w (sa_w ops nums sz gg fc fl fb fs np) (sb_w ops nums sz gg fc fl fb fs np) lm a_rr b_rr a_qq b_qq b_pl 0 fd).2.2.2.2.2.2.1)])), (b_rw, .inl (cL, 18, .inr (.inl ((rb_w (sa_w ops nums sz gg fc fl fb fs np) (sb_w ops nums sz gg fc fl fb fs np) lm a_rr b_rr a_qq b_qq b_pl 0 fd).2.2.1)))), (b_po, .inl (cL, 4, .inr (.inl ((rb_w (sa_w ops nums sz gg fc fl fb fs np) (sb_w ops nums sz gg fc fl fb fs np) lm a_rr b_rr a_qq b_qq b_pl 0 fd).2.2.2.2.2.1)))), (pn, .inr (2, [.ref ka, .ref kb, .ref kc, .ref kd, .int (nI np)])), (ka, .inl (cI, 4, .inl fc)), (kb, .inl (cI, 4, .inl fl)), (kc, .inl (cI, 4, .inl fb)), (kd, .inl (cI, 4, .inl fs)), (gv, .inl (cI, 4, .inl gg))] := hD
    refine lv_aload_n hx hb d_Gate_cycle_27 rfl (lv_at hl 0 rfl) ?_
    refine va_get (D := (dC, dI)) (ci := 0) (v := .ref pn) (C := R_Gate) (T := F_Gate) (N := 12) hx hb htb iw_Gate hown hK.1 hP 1 rfl rfl 4 (by decide) (htb _ tw_122) (fun _ h9 => h9) rfl d_Gate_cycle_28 ?_
    refine af_v (wr := [(sh, .inl (cI, 4, .inl ss)), (x0, .inr (0, [.int (nI lm), .ref pg, .ref a_cp, .ref b_cp, .ref pn, .ref gv, .ref sh, .int 1, .int ((rb_w (sa_w ops nums sz gg fc fl fb fs np) (sb_w ops nums sz gg fc fl fb fs np) lm a_rr b_rr a_qq b_qq b_pl 0 fd).1), .int em, .int ((rb_w (sa_w ops nums sz gg fc fl fb fs np) (sb_w ops nums sz gg fc fl fb fs np) lm a_rr b_rr a_qq b_qq b_pl 0 fd).2.2.2.2.2.2.2.1), .int ((rb_w (sa_w ops nums sz gg fc fl fb fs np) (sb_w ops nums sz gg fc fl fb fs np) lm a_rr b_rr a_qq b_qq b_pl 0 fd).2.2.2.2.2.2.2.2)])), (pg, .inr (3, [.ref oa, .ref na, .int sz])), (oa, .inl (cI, 100, .inl ops)), (na, .inl (cI, 100, .inl nums)), (a_cp, .inr (1, [.long 1, .ref a_rw, .ref a_po, .int ((rb_w (sa_w ops nums sz gg fc fl fb fs np) (sb_w ops nums sz gg fc fl fb fs np) lm a_rr b_rr a_qq b_qq b_pl 0 fd).2.2.2.2.1)])), (a_rw, .inl (cL, 18, .inr (.inl ((rb_w (sa_w ops nums sz gg fc fl fb fs np) (sb_w ops nums sz gg fc fl fb fs np) lm a_rr b_rr a_qq b_qq b_pl 0 fd).2.1)))), (a_po, .inl (cL, 4, .inr (.inl ((rb_w (sa_w ops nums sz gg fc fl fb fs np) (sb_w ops nums sz gg fc fl fb fs np) lm a_rr b_rr a_qq b_qq b_pl 0 fd).2.2.2.1)))), (b_cp, .inr (1, [.long 58659, .ref b_rw, .ref b_po, .int ((rb_w (sa_w ops nums sz gg fc fl fb fs np) (sb_w ops nums sz gg fc fl fb fs np) lm a_rr b_rr a_qq b_qq b_pl 0 fd).2.2.2.2.2.2.1)])), (b_rw, .inl (cL, 18, .inr (.inl ((rb_w (sa_w ops nums sz gg fc fl fb fs np) (sb_w ops nums sz gg fc fl fb fs np) lm a_rr b_rr a_qq b_qq b_pl 0 fd).2.2.1)))), (b_po, .inl (cL, 4, .inr (.inl ((rb_w (sa_w ops nums sz gg fc fl fb fs np) (sb_w ops nums sz gg fc fl fb fs np) lm a_rr b_rr a_qq b_qq b_pl 0 fd).2.2.2.2.2.1)))), (gv, .inl (cI, 4, .inl gg))]) (va_runV (As := []) (rest := []) ⟨hx, hb, hml, hown, htb⟩ (c_Plan_forgetAll l dC dI cI cL H.size pn ka kb kc kd fc fl fb fs np ) ⟨callB_of 0 htb (gd_w tw_240) rfl rfl rfl (htb _ tw_23) (htb _ tw_237) (by decide +kernel) ⟨Nat.le_of_ble_eq_true rfl, Nat.le_of_ble_eq_true rfl⟩, htb _ tw_238, htb _ tw_239⟩ (pv_V hK (hP.sub (ws' := [(pn, .inr (2, [.ref ka, .ref kb, .ref kc, .ref kd, .int (nI np)])), (ka, .inl (cI, 4, .inl fc)), (kb, .inl (cI, 4, .inl fl)), (kc, .inl (cI, 4, .inl fb)), (kd, .inl (cI, 4, .inl fs))]) [11, 12, 13, 14, 15] rfl) (hD.sub (ws' := [(pn, .inr (2, [.ref ka, .ref kb, .ref kc, .ref kd, .int (nI np)])), (ka, .inl (cI, 4, .inl fc)), (kb, .inl (cI, 4, .inl fl)), (kc, .inl (cI, 4, .inl fb)), (kd, .inl (cI, 4, .inl fs))]) [11, 12, 13, 14, 15] (by decide) rfl) (ci := 2) (q0 := 0) rfl rfl) rfl rfl hl.1 rfl (lv_room (Nat.le_of_ble_eq_true rfl)) d_Gate_cycle_31 ⟨Nat.le_of_ble_eq_true rfl, Nat.le_of_ble_eq_true rfl⟩) hP hD hS hA [11, 12, 13, 14, 15] [0, 1, 2, 3, 4, 5, 6, 7, 8, 9, 10, 16] rfl rfl (by decide) (by decide) (fun u_13 H locs hw hP hD hS => ?_)
    have hP : va_P (dC, dI) classes [(sh, .inl (cI, 4, .inl ss)), (x0, .inr (0, [.int (nI lm), .ref pg, .ref a_cp, .ref b_cp, .ref pn, .ref gv, .ref sh, .int 1, .int ((rb_w (sa_w ops nums sz gg fc fl fb fs np) (sb_w ops nums sz gg fc fl fb fs np) lm a_rr b_rr a_qq b_qq b_pl 0 fd).1), .int em, .int ((rb_w (sa_w ops nums sz gg fc fl fb fs np) (sb_w ops nums sz gg fc fl fb fs np) lm a_rr b_rr a_qq b_qq b_pl 0 fd).2.2.2.2.2.2.2.1), .int ((rb_w (sa_w ops nums sz gg fc fl fb fs np) (sb_w ops nums sz gg fc fl fb fs np) lm a_rr b_rr a_qq b_qq b_pl 0 fd).2.2.2.2.2.2.2.2)])), (pg, .inr (3, [.ref oa, .ref na, .int sz])), (oa, .inl (cI, 100, .inl ops)), (na, .inl (cI, 100, .inl nums)), (a_cp, .inr (1, [.long 1, .ref a_rw, .ref a_po, .int ((rb_w (sa_w ops nums sz gg fc fl fb fs np) (sb_w ops nums sz gg fc fl fb fs np) lm a_rr b_rr a_qq b_qq b_pl 0 fd).2.2.2.2.1)])), (a_rw, .inl (cL, 18, .inr (.inl ((rb_w (sa_w ops nums sz gg fc fl fb fs np) (sb_w ops nums sz gg fc fl fb fs np) lm a_rr b_rr a_qq b_qq b_pl 0 fd).2.1)))), (a_po, .inl (cL, 4, .inr (.inl ((rb_w (sa_w ops nums sz gg fc fl fb fs np) (sb_w ops nums sz gg fc fl fb fs np) lm a_rr b_rr a_qq b_qq b_pl 0 fd).2.2.2.1)))), (b_cp, .inr (1, [.long 58659, .ref b_rw, .ref b_po, .int ((rb_w (sa_w ops nums sz gg fc fl fb fs np) (sb_w ops nums sz gg fc fl fb fs np) lm a_rr b_rr a_qq b_qq b_pl 0 fd).2.2.2.2.2.2.1)])), (b_rw, .inl (cL, 18, .inr (.inl ((rb_w (sa_w ops nums sz gg fc fl fb fs np) (sb_w ops nums sz gg fc fl fb fs np) lm a_rr b_rr a_qq b_qq b_pl 0 fd).2.2.1)))), (b_po, .inl (cL, 4, .inr (.inl ((rb_w (sa_w ops nums sz gg fc fl fb fs np) (sb_w ops nums sz gg fc fl fb fs np) lm a_rr b_rr a_qq b_qq b_pl 0 fd).2.2.2.2.2.1)))), (gv, .inl (cI, 4, .inl gg)), (pn, .inr (2, [.ref ka, .ref kb, .ref kc, .ref kd, .int 0])), (ka, .inl (cI, 4, .inl fc)), (kb, .inl (cI, 4, .inl fl)), (kc, .inl (cI, 4, .inl fb)), (kd, .inl (cI, 4, .inl fs))] H := hP
    have hD : va_D A [(sh, .inl (cI, 4, .inl ss)), (x0, .inr (0, [.int (nI lm), .ref pg, .ref a_cp, .ref b_cp, .ref pn, .ref gv, .ref sh, .int 1, .int ((rb_w (sa_w ops nums sz gg fc fl fb fs np) (sb_w ops nums sz gg fc fl fb fs np) lm a_rr b_rr a_qq b_qq b_pl 0 fd).1), .int em, .int ((rb_w (sa_w ops nums sz gg fc fl fb fs np) (sb_w ops nums sz gg fc fl fb fs np) lm a_rr b_rr a_qq b_qq b_pl 0 fd).2.2.2.2.2.2.2.1), .int ((rb_w (sa_w ops nums sz gg fc fl fb fs np) (sb_w ops nums sz gg fc fl fb fs np) lm a_rr b_rr a_qq b_qq b_pl 0 fd).2.2.2.2.2.2.2.2)])), (pg, .inr (3, [.ref oa, .ref na, .int sz])), (oa, .inl (cI, 100, .inl ops)), (na, .inl (cI, 100, .inl nums)), (a_cp, .inr (1, [.long 1, .ref a_rw, .ref a_po, .int ((rb_w (sa_w ops nums sz gg fc fl fb fs np) (sb_w ops nums sz gg fc fl fb fs np) lm a_rr b_rr a_qq b_qq b_pl 0 fd).2.2.2.2.1)])), (a_rw, .inl (cL, 18, .inr (.inl ((rb_w (sa_w ops nums sz gg fc fl fb fs np) (sb_w ops nums sz gg fc fl fb fs np) lm a_rr b_rr a_qq b_qq b_pl 0 fd).2.1)))), (a_po, .inl (cL, 4, .inr (.inl ((rb_w (sa_w ops nums sz gg fc fl fb fs np) (sb_w ops nums sz gg fc fl fb fs np) lm a_rr b_rr a_qq b_qq b_pl 0 fd).2.2.2.1)))), (b_cp, .inr (1, [.long 58659, .ref b_rw, .ref b_po, .int ((rb_w (sa_w ops nums sz gg fc fl fb fs np) (sb_w ops nums sz gg fc fl fb fs np) lm a_rr b_rr a_qq b_qq b_pl 0 fd).2.2.2.2.2.2.1)])), (b_rw, .inl (cL, 18, .inr (.inl ((rb_w (sa_w ops nums sz gg fc fl fb fs np) (sb_w ops nums sz gg fc fl fb fs np) lm a_rr b_rr a_qq b_qq b_pl 0 fd).2.2.1)))), (b_po, .inl (cL, 4, .inr (.inl ((rb_w (sa_w ops nums sz gg fc fl fb fs np) (sb_w ops nums sz gg fc fl fb fs np) lm a_rr b_rr a_qq b_qq b_pl 0 fd).2.2.2.2.2.1)))), (gv, .inl (cI, 4, .inl gg)), (pn, .inr (2, [.ref ka, .ref kb, .ref kc, .ref kd, .int 0])), (ka, .inl (cI, 4, .inl fc)), (kb, .inl (cI, 4, .inl fl)), (kc, .inl (cI, 4, .inl fb)), (kd, .inl (cI, 4, .inl fs))] := hD
    refine lv_aload_n hx hb d_Gate_cycle_34 rfl (lv_at hl 0 rfl) ?_
    refine va_get (D := (dC, dI)) (ci := 0) (v := .int ((rb_w (sa_w ops nums sz gg fc fl fb fs np) (sb_w ops nums sz gg fc fl fb fs np) lm a_rr b_rr a_qq b_qq b_pl 0 fd).1)) (C := R_Gate) (T := F_Gate) (N := 12) hx hb htb iw_Gate hown hK.1 hP 1 rfl rfl 8 (by decide) (htb _ tw_126) (fun _ h9 => h9) rfl d_Gate_cycle_35 ?_
    refine lv_if_eq (tgt := 51) hx hb d_Gate_cycle_38 (by decide) (fun c_14 => ?_) (fun c_14 => ?_)
    · have c_14 : ((rb_w (sa_w ops nums sz gg fc fl fb fs np) (sb_w ops nums sz gg fc fl fb fs np) lm a_rr b_rr a_qq b_qq b_pl 0 fd).1) = 0 := c_14
      refine lv_aload_n hx hb d_Gate_cycle_51 rfl (lv_at hl 0 rfl) ?_
      refine af_v (wr := [(pg, .inr (3, [.ref oa, .ref na, .int sz])), (oa, .inl (cI, 100, .inl ops)), (na, .inl (cI, 100, .inl nums)), (a_rw, .inl (cL, 18, .inr (.inl ((rb_w (sa_w ops nums sz gg fc fl fb fs np) (sb_w ops nums sz gg fc fl fb fs np) lm a_rr b_rr a_qq b_qq b_pl 0 fd).2.1)))), (b_cp, .inr (1, [.long 58659, .ref b_rw, .ref b_po, .int ((rb_w (sa_w ops nums sz gg fc fl fb fs np) (sb_w ops nums sz gg fc fl fb fs np) lm a_rr b_rr a_qq b_qq b_pl 0 fd).2.2.2.2.2.2.1)])), (b_rw, .inl (cL, 18, .inr (.inl ((rb_w (sa_w ops nums sz gg fc fl fb fs np) (sb_w ops nums sz gg fc fl fb fs np) lm a_rr b_rr a_qq b_qq b_pl 0 fd).2.2.1)))), (b_po, .inl (cL, 4, .inr (.inl ((rb_w (sa_w ops nums sz gg fc fl fb fs np) (sb_w ops nums sz gg fc fl fb fs np) lm a_rr b_rr a_qq b_qq b_pl 0 fd).2.2.2.2.2.1)))), (gv, .inl (cI, 4, .inl gg)), (pn, .inr (2, [.ref ka, .ref kb, .ref kc, .ref kd, .int 0])), (ka, .inl (cI, 4, .inl fc)), (kb, .inl (cI, 4, .inl fl)), (kc, .inl (cI, 4, .inl fb)), (kd, .inl (cI, 4, .inl fs))]) (va_runV (As := []) (rest := []) ⟨hx, hb, hml, hown, htb⟩ (c_Gate_emit l dC dI cI cL H.size x0 lm pg a_cp b_cp pn gv sh 1 ((rb_w (sa_w ops nums sz gg fc fl fb fs np) (sb_w ops nums sz gg fc fl fb fs np) lm a_rr b_rr a_qq b_qq b_pl 0 fd).1) em ((rb_w (sa_w ops nums sz gg fc fl fb fs np) (sb_w ops nums sz gg fc fl fb fs np) lm a_rr b_rr a_qq b_qq b_pl 0 fd).2.2.2.2.2.2.2.1) ((rb_w (sa_w ops nums sz gg fc fl fb fs np) (sb_w ops nums sz gg fc fl fb fs np) lm a_rr b_rr a_qq b_qq b_pl 0 fd).2.2.2.2.2.2.2.2) a_rw a_po ((rb_w (sa_w ops nums sz gg fc fl fb fs np) (sb_w ops nums sz gg fc fl fb fs np) lm a_rr b_rr a_qq b_qq b_pl 0 fd).2.2.2.1) ((rb_w (sa_w ops nums sz gg fc fl fb fs np) (sb_w ops nums sz gg fc fl fb fs np) lm a_rr b_rr a_qq b_qq b_pl 0 fd).2.2.2.2.1) ss ) ⟨callB_of 0 htb (gd_w tw_247) rfl rfl rfl (htb _ tw_20) (htb _ tw_244) (by decide +kernel) ⟨Nat.le_of_ble_eq_true rfl, Nat.le_of_ble_eq_true rfl⟩, htb _ tw_246, htb _ tw_11⟩ (pv_V hK (hP.sub (ws' := [(x0, .inr (0, [.int (nI lm), .ref pg, .ref a_cp, .ref b_cp, .ref pn, .ref gv, .ref sh, .int 1, .int ((rb_w (sa_w ops nums sz gg fc fl fb fs np) (sb_w ops nums sz gg fc fl fb fs np) lm a_rr b_rr a_qq b_qq b_pl 0 fd).1), .int em, .int ((rb_w (sa_w ops nums sz gg fc fl fb fs np) (sb_w ops nums sz gg fc fl fb fs np) lm a_rr b_rr a_qq b_qq b_pl 0 fd).2.2.2.2.2.2.2.1), .int ((rb_w (sa_w ops nums sz gg fc fl fb fs np) (sb_w ops nums sz gg fc fl fb fs np) lm a_rr b_rr a_qq b_qq b_pl 0 fd).2.2.2.2.2.2.2.2)])), (sh, .inl (cI, 4, .inl ss)), (a_cp, .inr (1, [.long 1, .ref a_rw, .ref a_po, .int ((rb_w (sa_w ops nums sz gg fc fl fb fs np) (sb_w ops nums sz gg fc fl fb fs np) lm a_rr b_rr a_qq b_qq b_pl 0 fd).2.2.2.2.1)])), (a_po, .inl (cL, 4, .inr (.inl ((rb_w (sa_w ops nums sz gg fc fl fb fs np) (sb_w ops nums sz gg fc fl fb fs np) lm a_rr b_rr a_qq b_qq b_pl 0 fd).2.2.2.1))))]) [1, 0, 5, 7] rfl) (hD.sub (ws' := [(x0, .inr (0, [.int (nI lm), .ref pg, .ref a_cp, .ref b_cp, .ref pn, .ref gv, .ref sh, .int 1, .int ((rb_w (sa_w ops nums sz gg fc fl fb fs np) (sb_w ops nums sz gg fc fl fb fs np) lm a_rr b_rr a_qq b_qq b_pl 0 fd).1), .int em, .int ((rb_w (sa_w ops nums sz gg fc fl fb fs np) (sb_w ops nums sz gg fc fl fb fs np) lm a_rr b_rr a_qq b_qq b_pl 0 fd).2.2.2.2.2.2.2.1), .int ((rb_w (sa_w ops nums sz gg fc fl fb fs np) (sb_w ops nums sz gg fc fl fb fs np) lm a_rr b_rr a_qq b_qq b_pl 0 fd).2.2.2.2.2.2.2.2)])), (sh, .inl (cI, 4, .inl ss)), (a_cp, .inr (1, [.long 1, .ref a_rw, .ref a_po, .int ((rb_w (sa_w ops nums sz gg fc fl fb fs np) (sb_w ops nums sz gg fc fl fb fs np) lm a_rr b_rr a_qq b_qq b_pl 0 fd).2.2.2.2.1)])), (a_po, .inl (cL, 4, .inr (.inl ((rb_w (sa_w ops nums sz gg fc fl fb fs np) (sb_w ops nums sz gg fc fl fb fs np) lm a_rr b_rr a_qq b_qq b_pl 0 fd).2.2.2.1))))]) [1, 0, 5, 7] (by decide) rfl) (ci := 0) (q0 := 0) rfl rfl) rfl rfl hl.1 rfl (lv_room (Nat.le_of_ble_eq_true rfl)) d_Gate_cycle_52 ⟨Nat.le_of_ble_eq_true rfl, Nat.le_of_ble_eq_true rfl⟩) hP hD hS hA [1, 0, 5, 7] [2, 3, 4, 6, 8, 9, 10, 11, 12, 13, 14, 15, 16] rfl rfl (by decide) (by decide) (fun u_16 H locs hw hP hD hS => ?_)
      obtain ⟨z_17, z_18⟩ := u_16
      try dsimp only at hw
      obtain ⟨rfl, rfl⟩ := hw
      have hP : va_P (dC, dI) classes [(pg, .inr (3, [.ref oa, .ref na, .int sz])), (oa, .inl (cI, 100, .inl ops)), (na, .inl (cI, 100, .inl nums)), (a_rw, .inl (cL, 18, .inr (.inl ((rb_w (sa_w ops nums sz gg fc fl fb fs np) (sb_w ops nums sz gg fc fl fb fs np) lm a_rr b_rr a_qq b_qq b_pl 0 fd).2.1)))), (b_cp, .inr (1, [.long 58659, .ref b_rw, .ref b_po, .int ((rb_w (sa_w ops nums sz gg fc fl fb fs np) (sb_w ops nums sz gg fc fl fb fs np) lm a_rr b_rr a_qq b_qq b_pl 0 fd).2.2.2.2.2.2.1)])), (b_rw, .inl (cL, 18, .inr (.inl ((rb_w (sa_w ops nums sz gg fc fl fb fs np) (sb_w ops nums sz gg fc fl fb fs np) lm a_rr b_rr a_qq b_qq b_pl 0 fd).2.2.1)))), (b_po, .inl (cL, 4, .inr (.inl ((rb_w (sa_w ops nums sz gg fc fl fb fs np) (sb_w ops nums sz gg fc fl fb fs np) lm a_rr b_rr a_qq b_qq b_pl 0 fd).2.2.2.2.2.1)))), (gv, .inl (cI, 4, .inl gg)), (pn, .inr (2, [.ref ka, .ref kb, .ref kc, .ref kd, .int 0])), (ka, .inl (cI, 4, .inl fc)), (kb, .inl (cI, 4, .inl fl)), (kc, .inl (cI, 4, .inl fb)), (kd, .inl (cI, 4, .inl fs)), (x0, .inr (0, [.int (nI lm), .ref pg, .ref a_cp, .ref b_cp, .ref pn, .ref gv, .ref sh, .int 1, .int ((rb_w (sa_w ops nums sz gg fc fl fb fs np) (sb_w ops nums sz gg fc fl fb fs np) lm a_rr b_rr a_qq b_qq b_pl 0 fd).1), .int (em + 1), .int ((rb_w (sa_w ops nums sz gg fc fl fb fs np) (sb_w ops nums sz gg fc fl fb fs np) lm a_rr b_rr a_qq b_qq b_pl 0 fd).2.2.2.2.2.2.2.1), .int ((rb_w (sa_w ops nums sz gg fc fl fb fs np) (sb_w ops nums sz gg fc fl fb fs np) lm a_rr b_rr a_qq b_qq b_pl 0 fd).2.2.2.2.2.2.2.2)])), (sh, .inl (cI, 4, .inl (e4_w ss ((rb_w (sa_w ops nums sz gg fc fl fb fs np) (sb_w ops nums sz gg fc fl fb fs np) lm a_rr b_rr a_qq b_qq b_pl 0 fd).2.2.2.1)))), (a_cp, .inr (1, [.long 1, .ref a_rw, .ref a_po, .int ((rb_w (sa_w ops nums sz gg fc fl fb fs np) (sb_w ops nums sz gg fc fl fb fs np) lm a_rr b_rr a_qq b_qq b_pl 0 fd).2.2.2.2.1)])), (a_po, .inl (cL, 4, .inr (.inl ((rb_w (sa_w ops nums sz gg fc fl fb fs np) (sb_w ops nums sz gg fc fl fb fs np) lm a_rr b_rr a_qq b_qq b_pl 0 fd).2.2.2.1))))] H := hP
      have hD : va_D A [(pg, .inr (3, [.ref oa, .ref na, .int sz])), (oa, .inl (cI, 100, .inl ops)), (na, .inl (cI, 100, .inl nums)), (a_rw, .inl (cL, 18, .inr (.inl ((rb_w (sa_w ops nums sz gg fc fl fb fs np) (sb_w ops nums sz gg fc fl fb fs np) lm a_rr b_rr a_qq b_qq b_pl 0 fd).2.1)))), (b_cp, .inr (1, [.long 58659, .ref b_rw, .ref b_po, .int ((rb_w (sa_w ops nums sz gg fc fl fb fs np) (sb_w ops nums sz gg fc fl fb fs np) lm a_rr b_rr a_qq b_qq b_pl 0 fd).2.2.2.2.2.2.1)])), (b_rw, .inl (cL, 18, .inr (.inl ((rb_w (sa_w ops nums sz gg fc fl fb fs np) (sb_w ops nums sz gg fc fl fb fs np) lm a_rr b_rr a_qq b_qq b_pl 0 fd).2.2.1)))), (b_po, .inl (cL, 4, .inr (.inl ((rb_w (sa_w ops nums sz gg fc fl fb fs np) (sb_w ops nums sz gg fc fl fb fs np) lm a_rr b_rr a_qq b_qq b_pl 0 fd).2.2.2.2.2.1)))), (gv, .inl (cI, 4, .inl gg)), (pn, .inr (2, [.ref ka, .ref kb, .ref kc, .ref kd, .int 0])), (ka, .inl (cI, 4, .inl fc)), (kb, .inl (cI, 4, .inl fl)), (kc, .inl (cI, 4, .inl fb)), (kd, .inl (cI, 4, .inl fs)), (x0, .inr (0, [.int (nI lm), .ref pg, .ref a_cp, .ref b_cp, .ref pn, .ref gv, .ref sh, .int 1, .int ((rb_w (sa_w ops nums sz gg fc fl fb fs np) (sb_w ops nums sz gg fc fl fb fs np) lm a_rr b_rr a_qq b_qq b_pl 0 fd).1), .int (em + 1), .int ((rb_w (sa_w ops nums sz gg fc fl fb fs np) (sb_w ops nums sz gg fc fl fb fs np) lm a_rr b_rr a_qq b_qq b_pl 0 fd).2.2.2.2.2.2.2.1), .int ((rb_w (sa_w ops nums sz gg fc fl fb fs np) (sb_w ops nums sz gg fc fl fb fs np) lm a_rr b_rr a_qq b_qq b_pl 0 fd).2.2.2.2.2.2.2.2)])), (sh, .inl (cI, 4, .inl (e4_w ss ((rb_w (sa_w ops nums sz gg fc fl fb fs np) (sb_w ops nums sz gg fc fl fb fs np) lm a_rr b_rr a_qq b_qq b_pl 0 fd).2.2.2.1)))), (a_cp, .inr (1, [.long 1, .ref a_rw, .ref a_po, .int ((rb_w (sa_w ops nums sz gg fc fl fb fs np) (sb_w ops nums sz gg fc fl fb fs np) lm a_rr b_rr a_qq b_qq b_pl 0 fd).2.2.2.2.1)])), (a_po, .inl (cL, 4, .inr (.inl ((rb_w (sa_w ops nums sz gg fc fl fb fs np) (sb_w ops nums sz gg fc fl fb fs np) lm a_rr b_rr a_qq b_qq b_pl 0 fd).2.2.2.1))))] := hD
      refine lv_iconst (v := 1) hx hb d_Gate_cycle_55 (by decide) ?_
      exact rt_i (v := 1) (1, ((rb_w (sa_w ops nums sz gg fc fl fb fs np) (sb_w ops nums sz gg fc fl fb fs np) lm a_rr b_rr a_qq b_qq b_pl 0 fd).1), em + 1, ((rb_w (sa_w ops nums sz gg fc fl fb fs np) (sb_w ops nums sz gg fc fl fb fs np) lm a_rr b_rr a_qq b_qq b_pl 0 fd).2.2.2.2.2.2.2.1), ((rb_w (sa_w ops nums sz gg fc fl fb fs np) (sb_w ops nums sz gg fc fl fb fs np) lm a_rr b_rr a_qq b_qq b_pl 0 fd).2.2.2.2.2.2.2.2), (rb_w (sa_w ops nums sz gg fc fl fb fs np) (sb_w ops nums sz gg fc fl fb fs np) lm a_rr b_rr a_qq b_qq b_pl 0 fd).2.1, (rb_w (sa_w ops nums sz gg fc fl fb fs np) (sb_w ops nums sz gg fc fl fb fs np) lm a_rr b_rr a_qq b_qq b_pl 0 fd).2.2.1, ((rb_w (sa_w ops nums sz gg fc fl fb fs np) (sb_w ops nums sz gg fc fl fb fs np) lm a_rr b_rr a_qq b_qq b_pl 0 fd).2.2.2.1), ((rb_w (sa_w ops nums sz gg fc fl fb fs np) (sb_w ops nums sz gg fc fl fb fs np) lm a_rr b_rr a_qq b_qq b_pl 0 fd).2.2.2.2.1), (rb_w (sa_w ops nums sz gg fc fl fb fs np) (sb_w ops nums sz gg fc fl fb fs np) lm a_rr b_rr a_qq b_qq b_pl 0 fd).2.2.2.2.2.1, (rb_w (sa_w ops nums sz gg fc fl fb fs np) (sb_w ops nums sz gg fc fl fb fs np) lm a_rr b_rr a_qq b_qq b_pl 0 fd).2.2.2.2.2.2.1, 0, e4_w ss ((rb_w (sa_w ops nums sz gg fc fl fb fs np) (sb_w ops nums sz gg fc fl fb fs np) lm a_rr b_rr a_qq b_qq b_pl 0 fd).2.2.2.1)) hx hb hr hlocks (show (1 : Int32) = (cy_w (sa_w ops nums sz gg fc fl fb fs np) (sb_w ops nums sz gg fc fl fb fs np) lm bg lt em sp fd a_rr b_rr a_qq a_pl b_qq b_pl np ss).1 ∧ (1 : Int32) = (cy_w (sa_w ops nums sz gg fc fl fb fs np) (sb_w ops nums sz gg fc fl fb fs np) lm bg lt em sp fd a_rr b_rr a_qq a_pl b_qq b_pl np ss).2.1 ∧ ((rb_w (sa_w ops nums sz gg fc fl fb fs np) (sb_w ops nums sz gg fc fl fb fs np) lm a_rr b_rr a_qq b_qq b_pl 0 fd).1) = (cy_w (sa_w ops nums sz gg fc fl fb fs np) (sb_w ops nums sz gg fc fl fb fs np) lm bg lt em sp fd a_rr b_rr a_qq a_pl b_qq b_pl np ss).2.2.1 ∧ (em + 1) = (cy_w (sa_w ops nums sz gg fc fl fb fs np) (sb_w ops nums sz gg fc fl fb fs np) lm bg lt em sp fd a_rr b_rr a_qq a_pl b_qq b_pl np ss).2.2.2.1 ∧ ((rb_w (sa_w ops nums sz gg fc fl fb fs np) (sb_w ops nums sz gg fc fl fb fs np) lm a_rr b_rr a_qq b_qq b_pl 0 fd).2.2.2.2.2.2.2.1) = (cy_w (sa_w ops nums sz gg fc fl fb fs np) (sb_w ops nums sz gg fc fl fb fs np) lm bg lt em sp fd a_rr b_rr a_qq a_pl b_qq b_pl np ss).2.2.2.2.1 ∧ ((rb_w (sa_w ops nums sz gg fc fl fb fs np) (sb_w ops nums sz gg fc fl fb fs np) lm a_rr b_rr a_qq b_qq b_pl 0 fd).2.2.2.2.2.2.2.2) = (cy_w (sa_w ops nums sz gg fc fl fb fs np) (sb_w ops nums sz gg fc fl fb fs np) lm bg lt em sp fd a_rr b_rr a_qq a_pl b_qq b_pl np ss).2.2.2.2.2.1 ∧ ((rb_w (sa_w ops nums sz gg fc fl fb fs np) (sb_w ops nums sz gg fc fl fb fs np) lm a_rr b_rr a_qq b_qq b_pl 0 fd).2.1) = (cy_w (sa_w ops nums sz gg fc fl fb fs np) (sb_w ops nums sz gg fc fl fb fs np) lm bg lt em sp fd a_rr b_rr a_qq a_pl b_qq b_pl np ss).2.2.2.2.2.2.1 ∧ ((rb_w (sa_w ops nums sz gg fc fl fb fs np) (sb_w ops nums sz gg fc fl fb fs np) lm a_rr b_rr a_qq b_qq b_pl 0 fd).2.2.1) = (cy_w (sa_w ops nums sz gg fc fl fb fs np) (sb_w ops nums sz gg fc fl fb fs np) lm bg lt em sp fd a_rr b_rr a_qq a_pl b_qq b_pl np ss).2.2.2.2.2.2.2.1 ∧ ((rb_w (sa_w ops nums sz gg fc fl fb fs np) (sb_w ops nums sz gg fc fl fb fs np) lm a_rr b_rr a_qq b_qq b_pl 0 fd).2.2.2.1) = (cy_w (sa_w ops nums sz gg fc fl fb fs np) (sb_w ops nums sz gg fc fl fb fs np) lm bg lt em sp fd a_rr b_rr a_qq a_pl b_qq b_pl np ss).2.2.2.2.2.2.2.2.1 ∧ ((rb_w (sa_w ops nums sz gg fc fl fb fs np) (sb_w ops nums sz gg fc fl fb fs np) lm a_rr b_rr a_qq b_qq b_pl 0 fd).2.2.2.2.1) = (cy_w (sa_w ops nums sz gg fc fl fb fs np) (sb_w ops nums sz gg fc fl fb fs np) lm bg lt em sp fd a_rr b_rr a_qq a_pl b_qq b_pl np ss).2.2.2.2.2.2.2.2.2.1 ∧ ((rb_w (sa_w ops nums sz gg fc fl fb fs np) (sb_w ops nums sz gg fc fl fb fs np) lm a_rr b_rr a_qq b_qq b_pl 0 fd).2.2.2.2.2.1) = (cy_w (sa_w ops nums sz gg fc fl fb fs np) (sb_w ops nums sz gg fc fl fb fs np) lm bg lt em sp fd a_rr b_rr a_qq a_pl b_qq b_pl np ss).2.2.2.2.2.2.2.2.2.2.1 ∧ ((rb_w (sa_w ops nums sz gg fc fl fb fs np) (sb_w ops nums sz gg fc fl fb fs np) lm a_rr b_rr a_qq b_qq b_pl 0 fd).2.2.2.2.2.2.1) = (cy_w (sa_w ops nums sz gg fc fl fb fs np) (sb_w ops nums sz gg fc fl fb fs np) lm bg lt em sp fd a_rr b_rr a_qq a_pl b_qq b_pl np ss).2.2.2.2.2.2.2.2.2.2.2.1 ∧ (0 : Nat) = (cy_w (sa_w ops nums sz gg fc fl fb fs np) (sb_w ops nums sz gg fc fl fb fs np) lm bg lt em sp fd a_rr b_rr a_qq a_pl b_qq b_pl np ss).2.2.2.2.2.2.2.2.2.2.2.2.1 ∧ (e4_w ss ((rb_w (sa_w ops nums sz gg fc fl fb fs np) (sb_w ops nums sz gg fc fl fb fs np) lm a_rr b_rr a_qq b_qq b_pl 0 fd).2.2.2.1)) = (cy_w (sa_w ops nums sz gg fc fl fb fs np) (sb_w ops nums sz gg fc fl fb fs np) lm bg lt em sp fd a_rr b_rr a_qq a_pl b_qq b_pl np ss).2.2.2.2.2.2.2.2.2.2.2.2.2 from (by rw [cy_e1 (fa := (sa_w ops nums sz gg fc fl fb fs np)) (fb := (sb_w ops nums sz gg fc fl fb fs np)) (lm := lm) (bg := bg) (lt := lt) (em := em) (sp := sp) (fd := fd) (ra := a_rr) (rb := b_rr) (qa := a_qq) (pla := a_pl) (qb := b_qq) (plb := b_pl) (np := np) (ss := ss) c_1 c_14]; exact ⟨rfl, rfl, rfl, rfl, rfl, rfl, rfl, rfl, rfl, rfl, rfl, rfl, rfl, rfl⟩)) (hP.sub (ws' := [(x0, .inr (0, [.int (nI lm), .ref pg, .ref a_cp, .ref b_cp, .ref pn, .ref gv, .ref sh, .int 1, .int ((rb_w (sa_w ops nums sz gg fc fl fb fs np) (sb_w ops nums sz gg fc fl fb fs np) lm a_rr b_rr a_qq b_qq b_pl 0 fd).1), .int (em + 1), .int ((rb_w (sa_w ops nums sz gg fc fl fb fs np) (sb_w ops nums sz gg fc fl fb fs np) lm a_rr b_rr a_qq b_qq b_pl 0 fd).2.2.2.2.2.2.2.1), .int ((rb_w (sa_w ops nums sz gg fc fl fb fs np) (sb_w ops nums sz gg fc fl fb fs np) lm a_rr b_rr a_qq b_qq b_pl 0 fd).2.2.2.2.2.2.2.2)])), (pg, .inr (3, [.ref oa, .ref na, .int sz])), (oa, .inl (cI, 100, .inl ops)), (na, .inl (cI, 100, .inl nums)), (a_cp, .inr (1, [.long 1, .ref a_rw, .ref a_po, .int ((rb_w (sa_w ops nums sz gg fc fl fb fs np) (sb_w ops nums sz gg fc fl fb fs np) lm a_rr b_rr a_qq b_qq b_pl 0 fd).2.2.2.2.1)])), (a_rw, .inl (cL, 18, .inr (.inl ((rb_w (sa_w ops nums sz gg fc fl fb fs np) (sb_w ops nums sz gg fc fl fb fs np) lm a_rr b_rr a_qq b_qq b_pl 0 fd).2.1)))), (a_po, .inl (cL, 4, .inr (.inl ((rb_w (sa_w ops nums sz gg fc fl fb fs np) (sb_w ops nums sz gg fc fl fb fs np) lm a_rr b_rr a_qq b_qq b_pl 0 fd).2.2.2.1)))), (b_cp, .inr (1, [.long 58659, .ref b_rw, .ref b_po, .int ((rb_w (sa_w ops nums sz gg fc fl fb fs np) (sb_w ops nums sz gg fc fl fb fs np) lm a_rr b_rr a_qq b_qq b_pl 0 fd).2.2.2.2.2.2.1)])), (b_rw, .inl (cL, 18, .inr (.inl ((rb_w (sa_w ops nums sz gg fc fl fb fs np) (sb_w ops nums sz gg fc fl fb fs np) lm a_rr b_rr a_qq b_qq b_pl 0 fd).2.2.1)))), (b_po, .inl (cL, 4, .inr (.inl ((rb_w (sa_w ops nums sz gg fc fl fb fs np) (sb_w ops nums sz gg fc fl fb fs np) lm a_rr b_rr a_qq b_qq b_pl 0 fd).2.2.2.2.2.1)))), (pn, .inr (2, [.ref ka, .ref kb, .ref kc, .ref kd, .int (nI 0)])), (ka, .inl (cI, 4, .inl fc)), (kb, .inl (cI, 4, .inl fl)), (kc, .inl (cI, 4, .inl fb)), (kd, .inl (cI, 4, .inl fs)), (gv, .inl (cI, 4, .inl gg)), (sh, .inl (cI, 4, .inl (e4_w ss ((rb_w (sa_w ops nums sz gg fc fl fb fs np) (sb_w ops nums sz gg fc fl fb fs np) lm a_rr b_rr a_qq b_qq b_pl 0 fd).2.2.2.1))))]) [13, 0, 1, 2, 15, 3, 16, 4, 5, 6, 8, 9, 10, 11, 12, 7, 14] rfl) (hD.sub (ws' := [(x0, .inr (0, [.int (nI lm), .ref pg, .ref a_cp, .ref b_cp, .ref pn, .ref gv, .ref sh, .int 1, .int ((rb_w (sa_w ops nums sz gg fc fl fb fs np) (sb_w ops nums sz gg fc fl fb fs np) lm a_rr b_rr a_qq b_qq b_pl 0 fd).1), .int (em + 1), .int ((rb_w (sa_w ops nums sz gg fc fl fb fs np) (sb_w ops nums sz gg fc fl fb fs np) lm a_rr b_rr a_qq b_qq b_pl 0 fd).2.2.2.2.2.2.2.1), .int ((rb_w (sa_w ops nums sz gg fc fl fb fs np) (sb_w ops nums sz gg fc fl fb fs np) lm a_rr b_rr a_qq b_qq b_pl 0 fd).2.2.2.2.2.2.2.2)])), (pg, .inr (3, [.ref oa, .ref na, .int sz])), (oa, .inl (cI, 100, .inl ops)), (na, .inl (cI, 100, .inl nums)), (a_cp, .inr (1, [.long 1, .ref a_rw, .ref a_po, .int ((rb_w (sa_w ops nums sz gg fc fl fb fs np) (sb_w ops nums sz gg fc fl fb fs np) lm a_rr b_rr a_qq b_qq b_pl 0 fd).2.2.2.2.1)])), (a_rw, .inl (cL, 18, .inr (.inl ((rb_w (sa_w ops nums sz gg fc fl fb fs np) (sb_w ops nums sz gg fc fl fb fs np) lm a_rr b_rr a_qq b_qq b_pl 0 fd).2.1)))), (a_po, .inl (cL, 4, .inr (.inl ((rb_w (sa_w ops nums sz gg fc fl fb fs np) (sb_w ops nums sz gg fc fl fb fs np) lm a_rr b_rr a_qq b_qq b_pl 0 fd).2.2.2.1)))), (b_cp, .inr (1, [.long 58659, .ref b_rw, .ref b_po, .int ((rb_w (sa_w ops nums sz gg fc fl fb fs np) (sb_w ops nums sz gg fc fl fb fs np) lm a_rr b_rr a_qq b_qq b_pl 0 fd).2.2.2.2.2.2.1)])), (b_rw, .inl (cL, 18, .inr (.inl ((rb_w (sa_w ops nums sz gg fc fl fb fs np) (sb_w ops nums sz gg fc fl fb fs np) lm a_rr b_rr a_qq b_qq b_pl 0 fd).2.2.1)))), (b_po, .inl (cL, 4, .inr (.inl ((rb_w (sa_w ops nums sz gg fc fl fb fs np) (sb_w ops nums sz gg fc fl fb fs np) lm a_rr b_rr a_qq b_qq b_pl 0 fd).2.2.2.2.2.1)))), (pn, .inr (2, [.ref ka, .ref kb, .ref kc, .ref kd, .int (nI 0)])), (ka, .inl (cI, 4, .inl fc)), (kb, .inl (cI, 4, .inl fl)), (kc, .inl (cI, 4, .inl fb)), (kd, .inl (cI, 4, .inl fs)), (gv, .inl (cI, 4, .inl gg)), (sh, .inl (cI, 4, .inl (e4_w ss ((rb_w (sa_w ops nums sz gg fc fl fb fs np) (sb_w ops nums sz gg fc fl fb fs np) lm a_rr b_rr a_qq b_qq b_pl 0 fd).2.2.2.1))))]) [13, 0, 1, 2, 15, 3, 16, 4, 5, 6, 8, 9, 10, 11, 12, 7, 14] (by decide) rfl) hS d_Gate_cycle_56
    · have c_14 : ¬ ((rb_w (sa_w ops nums sz gg fc fl fb fs np) (sb_w ops nums sz gg fc fl fb fs np) lm a_rr b_rr a_qq b_qq b_pl 0 fd).1) = 0 := c_14
      refine lv_aload_n hx hb d_Gate_cycle_41 rfl (lv_at hl 0 rfl) ?_
      refine va_get (D := (dC, dI)) (ci := 0) (v := .ref sh) (C := R_Gate) (T := F_Gate) (N := 12) hx hb htb iw_Gate hown hK.1 hP 1 rfl rfl 6 (by decide) (htb _ tw_124) (fun _ h9 => h9) rfl d_Gate_cycle_42 ?_
      refine lv_iconst (v := 0) hx hb d_Gate_cycle_45 (by decide) ?_
      refine af_v (wr := [(x0, .inr (0, [.int (nI lm), .ref pg, .ref a_cp, .ref b_cp, .ref pn, .ref gv, .ref sh, .int 1, .int ((rb_w (sa_w ops nums sz gg fc fl fb fs np) (sb_w ops nums sz gg fc fl fb fs np) lm a_rr b_rr a_qq b_qq b_pl 0 fd).1), .int em, .int ((rb_w (sa_w ops nums sz gg fc fl fb fs np) (sb_w ops nums sz gg fc fl fb fs np) lm a_rr b_rr a_qq b_qq b_pl 0 fd).2.2.2.2.2.2.2.1), .int ((rb_w (sa_w ops nums sz gg fc fl fb fs np) (sb_w ops nums sz gg fc fl fb fs np) lm a_rr b_rr a_qq b_qq b_pl 0 fd).2.2.2.2.2.2.2.2)])), (pg, .inr (3, [.ref oa, .ref na, .int sz])), (oa, .inl (cI, 100, .inl ops)), (na, .inl (cI, 100, .inl nums)), (a_cp, .inr (1, [.long 1, .ref a_rw, .ref a_po, .int ((rb_w (sa_w ops nums sz gg fc fl fb fs np) (sb_w ops nums sz gg fc fl fb fs np) lm a_rr b_rr a_qq b_qq b_pl 0 fd).2.2.2.2.1)])), (a_rw, .inl (cL, 18, .inr (.inl ((rb_w (sa_w ops nums sz gg fc fl fb fs np) (sb_w ops nums sz gg fc fl fb fs np) lm a_rr b_rr a_qq b_qq b_pl 0 fd).2.1)))), (a_po, .inl (cL, 4, .inr (.inl ((rb_w (sa_w ops nums sz gg fc fl fb fs np) (sb_w ops nums sz gg fc fl fb fs np) lm a_rr b_rr a_qq b_qq b_pl 0 fd).2.2.2.1)))), (b_cp, .inr (1, [.long 58659, .ref b_rw, .ref b_po, .int ((rb_w (sa_w ops nums sz gg fc fl fb fs np) (sb_w ops nums sz gg fc fl fb fs np) lm a_rr b_rr a_qq b_qq b_pl 0 fd).2.2.2.2.2.2.1)])), (b_rw, .inl (cL, 18, .inr (.inl ((rb_w (sa_w ops nums sz gg fc fl fb fs np) (sb_w ops nums sz gg fc fl fb fs np) lm a_rr b_rr a_qq b_qq b_pl 0 fd).2.2.1)))), (b_po, .inl (cL, 4, .inr (.inl ((rb_w (sa_w ops nums sz gg fc fl fb fs np) (sb_w ops nums sz gg fc fl fb fs np) lm a_rr b_rr a_qq b_qq b_pl 0 fd).2.2.2.2.2.1)))), (gv, .inl (cI, 4, .inl gg)), (pn, .inr (2, [.ref ka, .ref kb, .ref kc, .ref kd, .int 0])), (ka, .inl (cI, 4, .inl fc)), (kb, .inl (cI, 4, .inl fl)), (kc, .inl (cI, 4, .inl fb)), (kd, .inl (cI, 4, .inl fs))]) (va_runS (As := [.ref sh, .int 0]) (rest := []) ⟨hx, hb, hml, hown, htb⟩ (c_Arrs_fill_i l dC dI cI cL H.size sh ss 0 ) ⟨callB_of 2 htb (gd_w tw_243) rfl rfl rfl (htb _ tw_31) (htb _ tw_241) (by decide +kernel) ⟨Nat.le_of_ble_eq_true rfl, Nat.le_of_ble_eq_true rfl⟩, htb _ tw_242⟩ (pv_S hK (hP.sub (ws' := [(sh, .inl (cI, 4, .inl ss))]) [0] rfl) (hD.sub (ws' := [(sh, .inl (cI, 4, .inl ss))]) [0] (by decide) rfl)) rfl rfl hl.1 rfl (lv_room (Nat.le_of_ble_eq_true rfl)) d_Gate_cycle_46 ⟨Nat.le_of_ble_eq_true rfl, Nat.le_of_ble_eq_true rfl⟩) hP hD hS hA [0] [1, 2, 3, 4, 5, 6, 7, 8, 9, 10, 11, 12, 13, 14, 15, 16] rfl rfl (by decide) (by decide) (fun u_20 H locs hw hP hD hS => ?_)
      obtain ⟨z_21, rfl⟩ : ∃ z, z = u_20 := ⟨_, rfl⟩
      try dsimp only at hw
      subst hw
      have hP : va_P (dC, dI) classes [(x0, .inr (0, [.int (nI lm), .ref pg, .ref a_cp, .ref b_cp, .ref pn, .ref gv, .ref sh, .int 1, .int ((rb_w (sa_w ops nums sz gg fc fl fb fs np) (sb_w ops nums sz gg fc fl fb fs np) lm a_rr b_rr a_qq b_qq b_pl 0 fd).1), .int em, .int ((rb_w (sa_w ops nums sz gg fc fl fb fs np) (sb_w ops nums sz gg fc fl fb fs np) lm a_rr b_rr a_qq b_qq b_pl 0 fd).2.2.2.2.2.2.2.1), .int ((rb_w (sa_w ops nums sz gg fc fl fb fs np) (sb_w ops nums sz gg fc fl fb fs np) lm a_rr b_rr a_qq b_qq b_pl 0 fd).2.2.2.2.2.2.2.2)])), (pg, .inr (3, [.ref oa, .ref na, .int sz])), (oa, .inl (cI, 100, .inl ops)), (na, .inl (cI, 100, .inl nums)), (a_cp, .inr (1, [.long 1, .ref a_rw, .ref a_po, .int ((rb_w (sa_w ops nums sz gg fc fl fb fs np) (sb_w ops nums sz gg fc fl fb fs np) lm a_rr b_rr a_qq b_qq b_pl 0 fd).2.2.2.2.1)])), (a_rw, .inl (cL, 18, .inr (.inl ((rb_w (sa_w ops nums sz gg fc fl fb fs np) (sb_w ops nums sz gg fc fl fb fs np) lm a_rr b_rr a_qq b_qq b_pl 0 fd).2.1)))), (a_po, .inl (cL, 4, .inr (.inl ((rb_w (sa_w ops nums sz gg fc fl fb fs np) (sb_w ops nums sz gg fc fl fb fs np) lm a_rr b_rr a_qq b_qq b_pl 0 fd).2.2.2.1)))), (b_cp, .inr (1, [.long 58659, .ref b_rw, .ref b_po, .int ((rb_w (sa_w ops nums sz gg fc fl fb fs np) (sb_w ops nums sz gg fc fl fb fs np) lm a_rr b_rr a_qq b_qq b_pl 0 fd).2.2.2.2.2.2.1)])), (b_rw, .inl (cL, 18, .inr (.inl ((rb_w (sa_w ops nums sz gg fc fl fb fs np) (sb_w ops nums sz gg fc fl fb fs np) lm a_rr b_rr a_qq b_qq b_pl 0 fd).2.2.1)))), (b_po, .inl (cL, 4, .inr (.inl ((rb_w (sa_w ops nums sz gg fc fl fb fs np) (sb_w ops nums sz gg fc fl fb fs np) lm a_rr b_rr a_qq b_qq b_pl 0 fd).2.2.2.2.2.1)))), (gv, .inl (cI, 4, .inl gg)), (pn, .inr (2, [.ref ka, .ref kb, .ref kc, .ref kd, .int 0])), (ka, .inl (cI, 4, .inl fc)), (kb, .inl (cI, 4, .inl fl)), (kc, .inl (cI, 4, .inl fb)), (kd, .inl (cI, 4, .inl fs)), (sh, .inl (cI, 4, .inl (g4_w ss 0)))] H := hP
      have hD : va_D A [(x0, .inr (0, [.int (nI lm), .ref pg, .ref a_cp, .ref b_cp, .ref pn, .ref gv, .ref sh, .int 1, .int ((rb_w (sa_w ops nums sz gg fc fl fb fs np) (sb_w ops nums sz gg fc fl fb fs np) lm a_rr b_rr a_qq b_qq b_pl 0 fd).1), .int em, .int ((rb_w (sa_w ops nums sz gg fc fl fb fs np) (sb_w ops nums sz gg fc fl fb fs np) lm a_rr b_rr a_qq b_qq b_pl 0 fd).2.2.2.2.2.2.2.1), .int ((rb_w (sa_w ops nums sz gg fc fl fb fs np) (sb_w ops nums sz gg fc fl fb fs np) lm a_rr b_rr a_qq b_qq b_pl 0 fd).2.2.2.2.2.2.2.2)])), (pg, .inr (3, [.ref oa, .ref na, .int sz])), (oa, .inl (cI, 100, .inl ops)), (na, .inl (cI, 100, .inl nums)), (a_cp, .inr (1, [.long 1, .ref a_rw, .ref a_po, .int ((rb_w (sa_w ops nums sz gg fc fl fb fs np) (sb_w ops nums sz gg fc fl fb fs np) lm a_rr b_rr a_qq b_qq b_pl 0 fd).2.2.2.2.1)])), (a_rw, .inl (cL, 18, .inr (.inl ((rb_w (sa_w ops nums sz gg fc fl fb fs np) (sb_w ops nums sz gg fc fl fb fs np) lm a_rr b_rr a_qq b_qq b_pl 0 fd).2.1)))), (a_po, .inl (cL, 4, .inr (.inl ((rb_w (sa_w ops nums sz gg fc fl fb fs np) (sb_w ops nums sz gg fc fl fb fs np) lm a_rr b_rr a_qq b_qq b_pl 0 fd).2.2.2.1)))), (b_cp, .inr (1, [.long 58659, .ref b_rw, .ref b_po, .int ((rb_w (sa_w ops nums sz gg fc fl fb fs np) (sb_w ops nums sz gg fc fl fb fs np) lm a_rr b_rr a_qq b_qq b_pl 0 fd).2.2.2.2.2.2.1)])), (b_rw, .inl (cL, 18, .inr (.inl ((rb_w (sa_w ops nums sz gg fc fl fb fs np) (sb_w ops nums sz gg fc fl fb fs np) lm a_rr b_rr a_qq b_qq b_pl 0 fd).2.2.1)))), (b_po, .inl (cL, 4, .inr (.inl ((rb_w (sa_w ops nums sz gg fc fl fb fs np) (sb_w ops nums sz gg fc fl fb fs np) lm a_rr b_rr a_qq b_qq b_pl 0 fd).2.2.2.2.2.1)))), (gv, .inl (cI, 4, .inl gg)), (pn, .inr (2, [.ref ka, .ref kb, .ref kc, .ref kd, .int 0])), (ka, .inl (cI, 4, .inl fc)), (kb, .inl (cI, 4, .inl fl)), (kc, .inl (cI, 4, .inl fb)), (kd, .inl (cI, 4, .inl fs)), (sh, .inl (cI, 4, .inl (g4_w ss 0)))] := hD
      refine lv_iconst (v := 0) hx hb d_Gate_cycle_49 (by decide) ?_
      exact rt_i (v := 0) (1, (rb_w (sa_w ops nums sz gg fc fl fb fs np) (sb_w ops nums sz gg fc fl fb fs np) lm a_rr b_rr a_qq b_qq b_pl 0 fd).1, em, (rb_w (sa_w ops nums sz gg fc fl fb fs np) (sb_w ops nums sz gg fc fl fb fs np) lm a_rr b_rr a_qq b_qq b_pl 0 fd).2.2.2.2.2.2.2.1, (rb_w (sa_w ops nums sz gg fc fl fb fs np) (sb_w ops nums sz gg fc fl fb fs np) lm a_rr b_rr a_qq b_qq b_pl 0 fd).2.2.2.2.2.2.2.2, (rb_w (sa_w ops nums sz gg fc fl fb fs np) (sb_w ops nums sz gg fc fl fb fs np) lm a_rr b_rr a_qq b_qq b_pl 0 fd).2.1, (rb_w (sa_w ops nums sz gg fc fl fb fs np) (sb_w ops nums sz gg fc fl fb fs np) lm a_rr b_rr a_qq b_qq b_pl 0 fd).2.2.1, (rb_w (sa_w ops nums sz gg fc fl fb fs np) (sb_w ops nums sz gg fc fl fb fs np) lm a_rr b_rr a_qq b_qq b_pl 0 fd).2.2.2.1, (rb_w (sa_w ops nums sz gg fc fl fb fs np) (sb_w ops nums sz gg fc fl fb fs np) lm a_rr b_rr a_qq b_qq b_pl 0 fd).2.2.2.2.1, (rb_w (sa_w ops nums sz gg fc fl fb fs np) (sb_w ops nums sz gg fc fl fb fs np) lm a_rr b_rr a_qq b_qq b_pl 0 fd).2.2.2.2.2.1, (rb_w (sa_w ops nums sz gg fc fl fb fs np) (sb_w ops nums sz gg fc fl fb fs np) lm a_rr b_rr a_qq b_qq b_pl 0 fd).2.2.2.2.2.2.1, 0, g4_w ss 0) hx hb hr hlocks (show (0 : Int32) = (cy_w (sa_w ops nums sz gg fc fl fb fs np) (sb_w ops nums sz gg fc fl fb fs np) lm bg lt em sp fd a_rr b_rr a_qq a_pl b_qq b_pl np ss).1 ∧ (1 : Int32) = (cy_w (sa_w ops nums sz gg fc fl fb fs np) (sb_w ops nums sz gg fc fl fb fs np) lm bg lt em sp fd a_rr b_rr a_qq a_pl b_qq b_pl np ss).2.1 ∧ ((rb_w (sa_w ops nums sz gg fc fl fb fs np) (sb_w ops nums sz gg fc fl fb fs np) lm a_rr b_rr a_qq b_qq b_pl 0 fd).1) = (cy_w (sa_w ops nums sz gg fc fl fb fs np) (sb_w ops nums sz gg fc fl fb fs np) lm bg lt em sp fd a_rr b_rr a_qq a_pl b_qq b_pl np ss).2.2.1 ∧ em = (cy_w (sa_w ops nums sz gg fc fl fb fs np) (sb_w ops nums sz gg fc fl fb fs np) lm bg lt em sp fd a_rr b_rr a_qq a_pl b_qq b_pl np ss).2.2.2.1 ∧ ((rb_w (sa_w ops nums sz gg fc fl fb fs np) (sb_w ops nums sz gg fc fl fb fs np) lm a_rr b_rr a_qq b_qq b_pl 0 fd).2.2.2.2.2.2.2.1) = (cy_w (sa_w ops nums sz gg fc fl fb fs np) (sb_w ops nums sz gg fc fl fb fs np) lm bg lt em sp fd a_rr b_rr a_qq a_pl b_qq b_pl np ss).2.2.2.2.1 ∧ ((rb_w (sa_w ops nums sz gg fc fl fb fs np) (sb_w ops nums sz gg fc fl fb fs np) lm a_rr b_rr a_qq b_qq b_pl 0 fd).2.2.2.2.2.2.2.2) = (cy_w (sa_w ops nums sz gg fc fl fb fs np) (sb_w ops nums sz gg fc fl fb fs np) lm bg lt em sp fd a_rr b_rr a_qq a_pl b_qq b_pl np ss).2.2.2.2.2.1 ∧ ((rb_w (sa_w ops nums sz gg fc fl fb fs np) (sb_w ops nums sz gg fc fl fb fs np) lm a_rr b_rr a_qq b_qq b_pl 0 fd).2.1) = (cy_w (sa_w ops nums sz gg fc fl fb fs np) (sb_w ops nums sz gg fc fl fb fs np) lm bg lt em sp fd a_rr b_rr a_qq a_pl b_qq b_pl np ss).2.2.2.2.2.2.1 ∧ ((rb_w (sa_w ops nums sz gg fc fl fb fs np) (sb_w ops nums sz gg fc fl fb fs np) lm a_rr b_rr a_qq b_qq b_pl 0 fd).2.2.1) = (cy_w (sa_w ops nums sz gg fc fl fb fs np) (sb_w ops nums sz gg fc fl fb fs np) lm bg lt em sp fd a_rr b_rr a_qq a_pl b_qq b_pl np ss).2.2.2.2.2.2.2.1 ∧ ((rb_w (sa_w ops nums sz gg fc fl fb fs np) (sb_w ops nums sz gg fc fl fb fs np) lm a_rr b_rr a_qq b_qq b_pl 0 fd).2.2.2.1) = (cy_w (sa_w ops nums sz gg fc fl fb fs np) (sb_w ops nums sz gg fc fl fb fs np) lm bg lt em sp fd a_rr b_rr a_qq a_pl b_qq b_pl np ss).2.2.2.2.2.2.2.2.1 ∧ ((rb_w (sa_w ops nums sz gg fc fl fb fs np) (sb_w ops nums sz gg fc fl fb fs np) lm a_rr b_rr a_qq b_qq b_pl 0 fd).2.2.2.2.1) = (cy_w (sa_w ops nums sz gg fc fl fb fs np) (sb_w ops nums sz gg fc fl fb fs np) lm bg lt em sp fd a_rr b_rr a_qq a_pl b_qq b_pl np ss).2.2.2.2.2.2.2.2.2.1 ∧ ((rb_w (sa_w ops nums sz gg fc fl fb fs np) (sb_w ops nums sz gg fc fl fb fs np) lm a_rr b_rr a_qq b_qq b_pl 0 fd).2.2.2.2.2.1) = (cy_w (sa_w ops nums sz gg fc fl fb fs np) (sb_w ops nums sz gg fc fl fb fs np) lm bg lt em sp fd a_rr b_rr a_qq a_pl b_qq b_pl np ss).2.2.2.2.2.2.2.2.2.2.1 ∧ ((rb_w (sa_w ops nums sz gg fc fl fb fs np) (sb_w ops nums sz gg fc fl fb fs np) lm a_rr b_rr a_qq b_qq b_pl 0 fd).2.2.2.2.2.2.1) = (cy_w (sa_w ops nums sz gg fc fl fb fs np) (sb_w ops nums sz gg fc fl fb fs np) lm bg lt em sp fd a_rr b_rr a_qq a_pl b_qq b_pl np ss).2.2.2.2.2.2.2.2.2.2.2.1 ∧ (0 : Nat) = (cy_w (sa_w ops nums sz gg fc fl fb fs np) (sb_w ops nums sz gg fc fl fb fs np) lm bg lt em sp fd a_rr b_rr a_qq a_pl b_qq b_pl np ss).2.2.2.2.2.2.2.2.2.2.2.2.1 ∧ (g4_w ss 0) = (cy_w (sa_w ops nums sz gg fc fl fb fs np) (sb_w ops nums sz gg fc fl fb fs np) lm bg lt em sp fd a_rr b_rr a_qq a_pl b_qq b_pl np ss).2.2.2.2.2.2.2.2.2.2.2.2.2 from (by rw [cy_e2 (fa := (sa_w ops nums sz gg fc fl fb fs np)) (fb := (sb_w ops nums sz gg fc fl fb fs np)) (lm := lm) (bg := bg) (lt := lt) (em := em) (sp := sp) (fd := fd) (ra := a_rr) (rb := b_rr) (qa := a_qq) (pla := a_pl) (qb := b_qq) (plb := b_pl) (np := np) (ss := ss) c_1 c_14]; exact ⟨rfl, rfl, rfl, rfl, rfl, rfl, rfl, rfl, rfl, rfl, rfl, rfl, rfl, rfl⟩)) (hP.sub (ws' := [(x0, .inr (0, [.int (nI lm), .ref pg, .ref a_cp, .ref b_cp, .ref pn, .ref gv, .ref sh, .int 1, .int ((rb_w (sa_w ops nums sz gg fc fl fb fs np) (sb_w ops nums sz gg fc fl fb fs np) lm a_rr b_rr a_qq b_qq b_pl 0 fd).1), .int em, .int ((rb_w (sa_w ops nums sz gg fc fl fb fs np) (sb_w ops nums sz gg fc fl fb fs np) lm a_rr b_rr a_qq b_qq b_pl 0 fd).2.2.2.2.2.2.2.1), .int ((rb_w (sa_w ops nums sz gg fc fl fb fs np) (sb_w ops nums sz gg fc fl fb fs np) lm a_rr b_rr a_qq b_qq b_pl 0 fd).2.2.2.2.2.2.2.2)])), (pg, .inr (3, [.ref oa, .ref na, .int sz])), (oa, .inl (cI, 100, .inl ops)), (na, .inl (cI, 100, .inl nums)), (a_cp, .inr (1, [.long 1, .ref a_rw, .ref a_po, .int ((rb_w (sa_w ops nums sz gg fc fl fb fs np) (sb_w ops nums sz gg fc fl fb fs np) lm a_rr b_rr a_qq b_qq b_pl 0 fd).2.2.2.2.1)])), (a_rw, .inl (cL, 18, .inr (.inl ((rb_w (sa_w ops nums sz gg fc fl fb fs np) (sb_w ops nums sz gg fc fl fb fs np) lm a_rr b_rr a_qq b_qq b_pl 0 fd).2.1)))), (a_po, .inl (cL, 4, .inr (.inl ((rb_w (sa_w ops nums sz gg fc fl fb fs np) (sb_w ops nums sz gg fc fl fb fs np) lm a_rr b_rr a_qq b_qq b_pl 0 fd).2.2.2.1)))), (b_cp, .inr (1, [.long 58659, .ref b_rw, .ref b_po, .int ((rb_w (sa_w ops nums sz gg fc fl fb fs np) (sb_w ops nums sz gg fc fl fb fs np) lm a_rr b_rr a_qq b_qq b_pl 0 fd).2.2.2.2.2.2.1)])), (b_rw, .inl (cL, 18, .inr (.inl ((rb_w (sa_w ops nums sz gg fc fl fb fs np) (sb_w ops nums sz gg fc fl fb fs np) lm a_rr b_rr a_qq b_qq b_pl 0 fd).2.2.1)))), (b_po, .inl (cL, 4, .inr (.inl ((rb_w (sa_w ops nums sz gg fc fl fb fs np) (sb_w ops nums sz gg fc fl fb fs np) lm a_rr b_rr a_qq b_qq b_pl 0 fd).2.2.2.2.2.1)))), (pn, .inr (2, [.ref ka, .ref kb, .ref kc, .ref kd, .int (nI 0)])), (ka, .inl (cI, 4, .inl fc)), (kb, .inl (cI, 4, .inl fl)), (kc, .inl (cI, 4, .inl fb)), (kd, .inl (cI, 4, .inl fs)), (gv, .inl (cI, 4, .inl gg)), (sh, .inl (cI, 4, .inl (g4_w ss 0)))]) [0, 1, 2, 3, 4, 5, 6, 7, 8, 9, 11, 12, 13, 14, 15, 10, 16] rfl) (hD.sub (ws' := [(x0, .inr (0, [.int (nI lm), .ref pg, .ref a_cp, .ref b_cp, .ref pn, .ref gv, .ref sh, .int 1, .int ((rb_w (sa_w ops nums sz gg fc fl fb fs np) (sb_w ops nums sz gg fc fl fb fs np) lm a_rr b_rr a_qq b_qq b_pl 0 fd).1), .int em, .int ((rb_w (sa_w ops nums sz gg fc fl fb fs np) (sb_w ops nums sz gg fc fl fb fs np) lm a_rr b_rr a_qq b_qq b_pl 0 fd).2.2.2.2.2.2.2.1), .int ((rb_w (sa_w ops nums sz gg fc fl fb fs np) (sb_w ops nums sz gg fc fl fb fs np) lm a_rr b_rr a_qq b_qq b_pl 0 fd).2.2.2.2.2.2.2.2)])), (pg, .inr (3, [.ref oa, .ref na, .int sz])), (oa, .inl (cI, 100, .inl ops)), (na, .inl (cI, 100, .inl nums)), (a_cp, .inr (1, [.long 1, .ref a_rw, .ref a_po, .int ((rb_w (sa_w ops nums sz gg fc fl fb fs np) (sb_w ops nums sz gg fc fl fb fs np) lm a_rr b_rr a_qq b_qq b_pl 0 fd).2.2.2.2.1)])), (a_rw, .inl (cL, 18, .inr (.inl ((rb_w (sa_w ops nums sz gg fc fl fb fs np) (sb_w ops nums sz gg fc fl fb fs np) lm a_rr b_rr a_qq b_qq b_pl 0 fd).2.1)))), (a_po, .inl (cL, 4, .inr (.inl ((rb_w (sa_w ops nums sz gg fc fl fb fs np) (sb_w ops nums sz gg fc fl fb fs np) lm a_rr b_rr a_qq b_qq b_pl 0 fd).2.2.2.1)))), (b_cp, .inr (1, [.long 58659, .ref b_rw, .ref b_po, .int ((rb_w (sa_w ops nums sz gg fc fl fb fs np) (sb_w ops nums sz gg fc fl fb fs np) lm a_rr b_rr a_qq b_qq b_pl 0 fd).2.2.2.2.2.2.1)])), (b_rw, .inl (cL, 18, .inr (.inl ((rb_w (sa_w ops nums sz gg fc fl fb fs np) (sb_w ops nums sz gg fc fl fb fs np) lm a_rr b_rr a_qq b_qq b_pl 0 fd).2.2.1)))), (b_po, .inl (cL, 4, .inr (.inl ((rb_w (sa_w ops nums sz gg fc fl fb fs np) (sb_w ops nums sz gg fc fl fb fs np) lm a_rr b_rr a_qq b_qq b_pl 0 fd).2.2.2.2.2.1)))), (pn, .inr (2, [.ref ka, .ref kb, .ref kc, .ref kd, .int (nI 0)])), (ka, .inl (cI, 4, .inl fc)), (kb, .inl (cI, 4, .inl fl)), (kc, .inl (cI, 4, .inl fb)), (kd, .inl (cI, 4, .inl fs)), (gv, .inl (cI, 4, .inl gg)), (sh, .inl (cI, 4, .inl (g4_w ss 0)))]) [0, 1, 2, 3, 4, 5, 6, 7, 8, 9, 11, 12, 13, 14, 15, 10, 16] (by decide) rfl) hS d_Gate_cycle_50
  · have c_1 : ¬ lt = 0 := c_1
    refine lv_iconst (v := 0) hx hb d_Gate_cycle_7 (by decide) ?_
    exact rt_i (v := 0) (bg, lt, em, sp, fd, a_rr, b_rr, a_qq, a_pl, b_qq, b_pl, np, ss) hx hb hr hlocks (show (0 : Int32) = (cy_w (sa_w ops nums sz gg fc fl fb fs np) (sb_w ops nums sz gg fc fl fb fs np) lm bg lt em sp fd a_rr b_rr a_qq a_pl b_qq b_pl np ss).1 ∧ bg = (cy_w (sa_w ops nums sz gg fc fl fb fs np) (sb_w ops nums sz gg fc fl fb fs np) lm bg lt em sp fd a_rr b_rr a_qq a_pl b_qq b_pl np ss).2.1 ∧ lt = (cy_w (sa_w ops nums sz gg fc fl fb fs np) (sb_w ops nums sz gg fc fl fb fs np) lm bg lt em sp fd a_rr b_rr a_qq a_pl b_qq b_pl np ss).2.2.1 ∧ em = (cy_w (sa_w ops nums sz gg fc fl fb fs np) (sb_w ops nums sz gg fc fl fb fs np) lm bg lt em sp fd a_rr b_rr a_qq a_pl b_qq b_pl np ss).2.2.2.1 ∧ sp = (cy_w (sa_w ops nums sz gg fc fl fb fs np) (sb_w ops nums sz gg fc fl fb fs np) lm bg lt em sp fd a_rr b_rr a_qq a_pl b_qq b_pl np ss).2.2.2.2.1 ∧ fd = (cy_w (sa_w ops nums sz gg fc fl fb fs np) (sb_w ops nums sz gg fc fl fb fs np) lm bg lt em sp fd a_rr b_rr a_qq a_pl b_qq b_pl np ss).2.2.2.2.2.1 ∧ a_rr = (cy_w (sa_w ops nums sz gg fc fl fb fs np) (sb_w ops nums sz gg fc fl fb fs np) lm bg lt em sp fd a_rr b_rr a_qq a_pl b_qq b_pl np ss).2.2.2.2.2.2.1 ∧ b_rr = (cy_w (sa_w ops nums sz gg fc fl fb fs np) (sb_w ops nums sz gg fc fl fb fs np) lm bg lt em sp fd a_rr b_rr a_qq a_pl b_qq b_pl np ss).2.2.2.2.2.2.2.1 ∧ a_qq = (cy_w (sa_w ops nums sz gg fc fl fb fs np) (sb_w ops nums sz gg fc fl fb fs np) lm bg lt em sp fd a_rr b_rr a_qq a_pl b_qq b_pl np ss).2.2.2.2.2.2.2.2.1 ∧ a_pl = (cy_w (sa_w ops nums sz gg fc fl fb fs np) (sb_w ops nums sz gg fc fl fb fs np) lm bg lt em sp fd a_rr b_rr a_qq a_pl b_qq b_pl np ss).2.2.2.2.2.2.2.2.2.1 ∧ b_qq = (cy_w (sa_w ops nums sz gg fc fl fb fs np) (sb_w ops nums sz gg fc fl fb fs np) lm bg lt em sp fd a_rr b_rr a_qq a_pl b_qq b_pl np ss).2.2.2.2.2.2.2.2.2.2.1 ∧ b_pl = (cy_w (sa_w ops nums sz gg fc fl fb fs np) (sb_w ops nums sz gg fc fl fb fs np) lm bg lt em sp fd a_rr b_rr a_qq a_pl b_qq b_pl np ss).2.2.2.2.2.2.2.2.2.2.2.1 ∧ np = (cy_w (sa_w ops nums sz gg fc fl fb fs np) (sb_w ops nums sz gg fc fl fb fs np) lm bg lt em sp fd a_rr b_rr a_qq a_pl b_qq b_pl np ss).2.2.2.2.2.2.2.2.2.2.2.2.1 ∧ ss = (cy_w (sa_w ops nums sz gg fc fl fb fs np) (sb_w ops nums sz gg fc fl fb fs np) lm bg lt em sp fd a_rr b_rr a_qq a_pl b_qq b_pl np ss).2.2.2.2.2.2.2.2.2.2.2.2.2 from (by rw [cy_e3 (fa := (sa_w ops nums sz gg fc fl fb fs np)) (fb := (sb_w ops nums sz gg fc fl fb fs np)) (lm := lm) (bg := bg) (lt := lt) (em := em) (sp := sp) (fd := fd) (ra := a_rr) (rb := b_rr) (qa := a_qq) (pla := a_pl) (qb := b_qq) (plb := b_pl) (np := np) (ss := ss) c_1]; exact ⟨rfl, rfl, rfl, rfl, rfl, rfl, rfl, rfl, rfl, rfl, rfl, rfl, rfl, rfl⟩)) (hP.sub (ws' := [(x0, .inr (0, [.int (nI lm), .ref pg, .ref a_cp, .ref b_cp, .ref pn, .ref gv, .ref sh, .int bg, .int lt, .int em, .int sp, .int fd])), (pg, .inr (3, [.ref oa, .ref na, .int sz])), (oa, .inl (cI, 100, .inl ops)), (na, .inl (cI, 100, .inl nums)), (a_cp, .inr (1, [.long 1, .ref a_rw, .ref a_po, .int a_pl])), (a_rw, .inl (cL, 18, .inr (.inl a_rr))), (a_po, .inl (cL, 4, .inr (.inl a_qq))), (b_cp, .inr (1, [.long 58659, .ref b_rw, .ref b_po, .int b_pl])), (b_rw, .inl (cL, 18, .inr (.inl b_rr))), (b_po, .inl (cL, 4, .inr (.inl b_qq))), (pn, .inr (2, [.ref ka, .ref kb, .ref kc, .ref kd, .int (nI np)])), (ka, .inl (cI, 4, .inl fc)), (kb, .inl (cI, 4, .inl fl)), (kc, .inl (cI, 4, .inl fb)), (kd, .inl (cI, 4, .inl fs)), (gv, .inl (cI, 4, .inl gg)), (sh, .inl (cI, 4, .inl ss))]) [0, 1, 2, 3, 4, 5, 6, 7, 8, 9, 10, 11, 12, 13, 14, 15, 16] rfl) (hD.sub (ws' := [(x0, .inr (0, [.int (nI lm), .ref pg, .ref a_cp, .ref b_cp, .ref pn, .ref gv, .ref sh, .int bg, .int lt, .int em, .int sp, .int fd])), (pg, .inr (3, [.ref oa, .ref na, .int sz])), (oa, .inl (cI, 100, .inl ops)), (na, .inl (cI, 100, .inl nums)), (a_cp, .inr (1, [.long 1, .ref a_rw, .ref a_po, .int a_pl])), (a_rw, .inl (cL, 18, .inr (.inl a_rr))), (a_po, .inl (cL, 4, .inr (.inl a_qq))), (b_cp, .inr (1, [.long 58659, .ref b_rw, .ref b_po, .int b_pl])), (b_rw, .inl (cL, 18, .inr (.inl b_rr))), (b_po, .inl (cL, 4, .inr (.inl b_qq))), (pn, .inr (2, [.ref ka, .ref kb, .ref kc, .ref kd, .int (nI np)])), (ka, .inl (cI, 4, .inl fc)), (kb, .inl (cI, 4, .inl fl)), (kc, .inl (cI, 4, .inl fb)), (kd, .inl (cI, 4, .inl fs)), (gv, .inl (cI, 4, .inl gg)), (sh, .inl (cI, 4, .inl ss))]) [0, 1, 2, 3, 4, 5, 6, 7, 8, 9, 10, 11, 12, 13, 14, 15, 16] (by decide) rfl) hS d_Gate_cycle_8
end
section
set_option maxRecDepth 20000 in
theorem tw_254 : (Cond.code y_Gate_isCopy b_Gate_isCopy 1 (some .boolean)) ∈ TB_w := List.mem_filter.mpr ⟨List.mem_of_getElem? (i := 254) rfl, by decide +kernel⟩
theorem tw_252 : (Cond.methodLink R_Gate 123 y_Gate_isCopy) ∈ TB_w := List.mem_filter.mpr ⟨List.mem_of_getElem? (i := 252) (by decide +kernel), by decide +kernel⟩
theorem tw_253 : (Cond.static y_Gate_isCopy) ∈ TB_w := List.mem_filter.mpr ⟨List.mem_of_getElem? (i := 253) (by decide +kernel), by decide +kernel⟩
set_option maxRecDepth 20000 in
theorem tw_257 : (Cond.code y_Gate_isInRow b_Gate_isInRow 1 (some .boolean)) ∈ TB_w := List.mem_filter.mpr ⟨List.mem_of_getElem? (i := 257) rfl, by decide +kernel⟩
theorem tw_255 : (Cond.methodLink R_Gate 126 y_Gate_isInRow) ∈ TB_w := List.mem_filter.mpr ⟨List.mem_of_getElem? (i := 255) (by decide +kernel), by decide +kernel⟩
theorem tw_256 : (Cond.static y_Gate_isInRow) ∈ TB_w := List.mem_filter.mpr ⟨List.mem_of_getElem? (i := 256) (by decide +kernel), by decide +kernel⟩
set_option maxRecDepth 20000 in
theorem tw_261 : (Cond.code y_Plan_isFull b_Plan_isFull 1 (some .boolean)) ∈ TB_w := List.mem_filter.mpr ⟨List.mem_of_getElem? (i := 261) rfl, by decide +kernel⟩
theorem tw_258 : (Cond.methodLink R_Gate 132 y_Plan_isFull) ∈ TB_w := List.mem_filter.mpr ⟨List.mem_of_getElem? (i := 258) (by decide +kernel), by decide +kernel⟩
theorem tw_259 : (Cond.instanceMethod y_Plan_isFull) ∈ TB_w := List.mem_filter.mpr ⟨List.mem_of_getElem? (i := 259) (by decide +kernel), by decide +kernel⟩
theorem tw_260 : (Cond.selects R_Plan y_Plan_isFull y_Plan_isFull) ∈ TB_w := List.mem_filter.mpr ⟨List.mem_of_getElem? (i := 260) (by decide +kernel), by decide +kernel⟩
set_option maxRecDepth 20000 in
theorem tw_265 : (Cond.code y_Plan_append b_Plan_append 5 none) ∈ TB_w := List.mem_filter.mpr ⟨List.mem_of_getElem? (i := 265) rfl, by decide +kernel⟩
theorem tw_262 : (Cond.methodLink R_Gate 133 y_Plan_append) ∈ TB_w := List.mem_filter.mpr ⟨List.mem_of_getElem? (i := 262) (by decide +kernel), by decide +kernel⟩
theorem tw_263 : (Cond.instanceMethod y_Plan_append) ∈ TB_w := List.mem_filter.mpr ⟨List.mem_of_getElem? (i := 263) (by decide +kernel), by decide +kernel⟩
theorem tw_264 : (Cond.selects R_Plan y_Plan_append y_Plan_append) ∈ TB_w := List.mem_filter.mpr ⟨List.mem_of_getElem? (i := 264) (by decide +kernel), by decide +kernel⟩
theorem tw_52 : (Cond.fieldLink R_Gate 97 "TwinGate$Program" "size" "I") ∈ TB_w := List.mem_filter.mpr ⟨List.mem_of_getElem? (i := 52) (by decide +kernel), by decide +kernel⟩
theorem fp_zero {r : Int32} {fc fl fb fs gc gl gb gs : Nat → Int32} {np mp : Nat} (h : r = 0) : (0 : Int32) = r ∧ fc = (if r = 0 then fc else gc) ∧ fl = (if r = 0 then fl else gl) ∧ fb = (if r = 0 then fb else gb) ∧ fs = (if r = 0 then fs else gs) ∧ np = (if r = 0 then np else mp) := by
  subst h
  exact ⟨rfl, rfl, rfl, rfl, rfl, rfl⟩

theorem fp_one {r : Int32} {fc fl fb fs gc gl gb gs : Nat → Int32} {np mp : Nat} (h : r = 1) : (1 : Int32) = r ∧ gc = (if r = 0 then fc else gc) ∧ gl = (if r = 0 then fl else gl) ∧ gb = (if r = 0 then fb else gb) ∧ gs = (if r = 0 then fs else gs) ∧ mp = (if r = 0 then np else mp) := by
  subst h
  exact ⟨rfl, rfl, rfl, rfl, rfl, rfl⟩

set_option maxHeartbeats 4000000 in
set_option maxRecDepth 100000 in
theorem c_Gate_flip (l : Launch) (dC : Nat → ClassId) (dI : Nat → Nat → Nat) (cI cL : ClassId) (hs0 : Nat) (x0 : Nat) (lm : Nat) (pg : Nat) (a_cp : Nat) (b_cp : Nat) (pn : Nat) (gv : Nat) (sh : Nat) (bg : Int32) (lt : Int32) (em : Int32) (sp : Int32) (fd : Int32) (ka : Nat) (kb : Nat) (kc : Nat) (kd : Nat) (fc : Nat → Int32) (fl : Nat → Int32) (fb : Nat → Int32) (fs : Nat → Int32) (np : Nat) (p1 : Int32) (p2 : Int32) (p3 : Int32) (p4 : Int32) (hnp : np ≤ 4) : ct_i l y_Gate_flip b_Gate_flip 5 (some .boolean) ({ frames := 2, cells := 0, slots := 0, locals := 80 }) (dC, dI) cI cL [.ref x0, .int p1, .int p2, .int p3, .int p4] [(x0, .inr (0, [.int (nI lm), .ref pg, .ref a_cp, .ref b_cp, .ref pn, .ref gv, .ref sh, .int bg, .int lt, .int em, .int sp, .int fd])), (pn, .inr (2, [.ref ka, .ref kb, .ref kc, .ref kd, .int (nI np)])), (ka, .inl (cI, 4, .inl fc)), (kb, .inl (cI, 4, .inl fl)), (kc, .inl (cI, 4, .inl fb)), (kd, .inl (cI, 4, .inl fs))] hs0 (fun (r : Int32) (u : (Nat → Int32) × (Nat → Int32) × (Nat → Int32) × (Nat → Int32) × Nat) => r = fp_w p1 p2 p3 p4 lt np ∧ u.1 = (if fp_w p1 p2 p3 p4 lt np = 0 then fc else upd fc np p1) ∧ u.2.1 = (if fp_w p1 p2 p3 p4 lt np = 0 then fl else upd fl np p2) ∧ u.2.2.1 = (if fp_w p1 p2 p3 p4 lt np = 0 then fb else upd fb np p3) ∧ u.2.2.2.1 = (if fp_w p1 p2 p3 p4 lt np = 0 then fs else upd fs np p4) ∧ u.2.2.2.2 = (if fp_w p1 p2 p3 p4 lt np = 0 then np else np + 1)) (fun u => [(x0, .inr (0, [.int (nI lm), .ref pg, .ref a_cp, .ref b_cp, .ref pn, .ref gv, .ref sh, .int bg, .int lt, .int em, .int sp, .int fd])), (pn, .inr (2, [.ref ka, .ref kb, .ref kc, .ref kd, .int (nI u.2.2.2.2)])), (ka, .inl (cI, 4, .inl u.1)), (kb, .inl (cI, 4, .inl u.2.1)), (kc, .inl (cI, 4, .inl u.2.2.1)), (kd, .inl (cI, 4, .inl u.2.2.2.1))]) 0 0 := by
  refine st_w (Qc := fun A => va_Qi (fun (r : Int32) (u : (Nat → Int32) × (Nat → Int32) × (Nat → Int32) × (Nat → Int32) × Nat) => r = fp_w p1 p2 p3 p4 lt np ∧ u.1 = (if fp_w p1 p2 p3 p4 lt np = 0 then fc else upd fc np p1) ∧ u.2.1 = (if fp_w p1 p2 p3 p4 lt np = 0 then fl else upd fl np p2) ∧ u.2.2.1 = (if fp_w p1 p2 p3 p4 lt np = 0 then fb else upd fb np p3) ∧ u.2.2.2.1 = (if fp_w p1 p2 p3 p4 lt np = 0 then fs else upd fs np p4) ∧ u.2.2.2.2 = (if fp_w p1 p2 p3 p4 lt np = 0 then np else np + 1)) (fun (u : (Nat → Int32) × (Nat → Int32) × (Nat → Int32) × (Nat → Int32) × Nat) t => pos_w (dC, dI) A [(x0, .inr (0, [.int (nI lm), .ref pg, .ref a_cp, .ref b_cp, .ref pn, .ref gv, .ref sh, .int bg, .int lt, .int em, .int sp, .int fd])), (pn, .inr (2, [.ref ka, .ref kb, .ref kc, .ref kd, .int (nI u.2.2.2.2)])), (ka, .inl (cI, 4, .inl u.1)), (kb, .inl (cI, 4, .inl u.2.1)), (kc, .inl (cI, 4, .inl u.2.2.1)), (kd, .inl (cI, 4, .inl u.2.2.2.1))] t) A) (by decide) (Nat.le_of_ble_eq_true rfl) ?_
  intro p e s m below meth c A ls hfx hK hA hP hD hS hl
  obtain ⟨hx, hb, hml, hown, htb, hr, hlocks, hin⟩ := hfx
  have hl : lv_has ls 5 [(0, .ref x0), (1, .int p1), (2, .int p2), (3, .int p3), (4, .int p4)] := hl
  refine lv_iload_n hx hb d_Gate_flip_0 rfl (lv_at hl 1 rfl) ?_
  refine af_i (wr := [(x0, .inr (0, [.int (nI lm), .ref pg, .ref a_cp, .ref b_cp, .ref pn, .ref gv, .ref sh, .int bg, .int lt, .int em, .int sp, .int fd])), (pn, .inr (2, [.ref ka, .ref kb, .ref kc, .ref kd, .int (nI np)])), (ka, .inl (cI, 4, .inl fc)), (kb, .inl (cI, 4, .inl fl)), (kc, .inl (cI, 4, .inl fb)), (kd, .inl (cI, 4, .inl fs))]) (va_runS (As := [.int p1]) (rest := []) ⟨hx, hb, hml, hown, htb⟩ (c_Gate_isCopy l dC dI cI cL s.heap.size p1 ) ⟨callB_of 1 htb (gd_w tw_254) rfl rfl rfl (htb _ tw_20) (htb _ tw_252) (by decide +kernel) ⟨Nat.le_of_ble_eq_true rfl, Nat.le_of_ble_eq_true rfl⟩, htb _ tw_253⟩ (pv_S hK (hP.sub (ws' := []) [] rfl) (hD.sub (ws' := []) [] (by decide) rfl)) rfl rfl hl.1 rfl (lv_room (Nat.le_of_ble_eq_true rfl)) d_Gate_flip_1 ⟨Nat.le_of_ble_eq_true rfl, Nat.le_of_ble_eq_true rfl⟩) hP hD hS hA [] [0, 1, 2, 3, 4, 5] rfl rfl (by decide) (by decide) (fun r_1 u_2 H locs hw hP hD hS => ?_)
  try dsimp only at hw
  subst hw
  have hP : va_P (dC, dI) classes [(x0, .inr (0, [.int (nI lm), .ref pg, .ref a_cp, .ref b_cp, .ref pn, .ref gv, .ref sh, .int bg, .int lt, .int em, .int sp, .int fd])), (pn, .inr (2, [.ref ka, .ref kb, .ref kc, .ref kd, .int (nI np)])), (ka, .inl (cI, 4, .inl fc)), (kb, .inl (cI, 4, .inl fl)), (kc, .inl (cI, 4, .inl fb)), (kd, .inl (cI, 4, .inl fs))] H := hP
  have hD : va_D A [(x0, .inr (0, [.int (nI lm), .ref pg, .ref a_cp, .ref b_cp, .ref pn, .ref gv, .ref sh, .int bg, .int lt, .int em, .int sp, .int fd])), (pn, .inr (2, [.ref ka, .ref kb, .ref kc, .ref kd, .int (nI np)])), (ka, .inl (cI, 4, .inl fc)), (kb, .inl (cI, 4, .inl fl)), (kc, .inl (cI, 4, .inl fb)), (kd, .inl (cI, 4, .inl fs))] := hD
  refine lv_if_eq (tgt := 28) hx hb d_Gate_flip_4 (by decide) (fun c_3 => ?_) (fun c_3 => ?_)
  · have c_3 : (bl_w p1 2) = 0 := c_3
    refine lv_iconst (v := 0) hx hb d_Gate_flip_28 (by decide) ?_
    exact rt_z (v := 0) (fc, fl, fb, fs, np) hx hb hr hlocks (by decide) (show (0 : Int32) = fp_w p1 p2 p3 p4 lt np ∧ fc = (if fp_w p1 p2 p3 p4 lt np = 0 then fc else upd fc np p1) ∧ fl = (if fp_w p1 p2 p3 p4 lt np = 0 then fl else upd fl np p2) ∧ fb = (if fp_w p1 p2 p3 p4 lt np = 0 then fb else upd fb np p3) ∧ fs = (if fp_w p1 p2 p3 p4 lt np = 0 then fs else upd fs np p4) ∧ np = (if fp_w p1 p2 p3 p4 lt np = 0 then np else np + 1) from (fp_zero (by simp only [fp_w, if_pos c_3]))) (hP.sub (ws' := [(x0, .inr (0, [.int (nI lm), .ref pg, .ref a_cp, .ref b_cp, .ref pn, .ref gv, .ref sh, .int bg, .int lt, .int em, .int sp, .int fd])), (pn, .inr (2, [.ref ka, .ref kb, .ref kc, .ref kd, .int (nI np)])), (ka, .inl (cI, 4, .inl fc)), (kb, .inl (cI, 4, .inl fl)), (kc, .inl (cI, 4, .inl fb)), (kd, .inl (cI, 4, .inl fs))]) [0, 1, 2, 3, 4, 5] rfl) (hD.sub (ws' := [(x0, .inr (0, [.int (nI lm), .ref pg, .ref a_cp, .ref b_cp, .ref pn, .ref gv, .ref sh, .int bg, .int lt, .int em, .int sp, .int fd])), (pn, .inr (2, [.ref ka, .ref kb, .ref kc, .ref kd, .int (nI np)])), (ka, .inl (cI, 4, .inl fc)), (kb, .inl (cI, 4, .inl fl)), (kc, .inl (cI, 4, .inl fb)), (kd, .inl (cI, 4, .inl fs))]) [0, 1, 2, 3, 4, 5] (by decide) rfl) hS d_Gate_flip_29
  · have c_3 : ¬ (bl_w p1 2) = 0 := c_3
    refine lv_iload_n hx hb d_Gate_flip_7 rfl (lv_at hl 2 rfl) ?_
    refine af_i (wr := [(x0, .inr (0, [.int (nI lm), .ref pg, .ref a_cp, .ref b_cp, .ref pn, .ref gv, .ref sh, .int bg, .int lt, .int em, .int sp, .int fd])), (pn, .inr (2, [.ref ka, .ref kb, .ref kc, .ref kd, .int (nI np)])), (ka, .inl (cI, 4, .inl fc)), (kb, .inl (cI, 4, .inl fl)), (kc, .inl (cI, 4, .inl fb)), (kd, .inl (cI, 4, .inl fs))]) (va_runS (As := [.int p2]) (rest := []) ⟨hx, hb, hml, hown, htb⟩ (c_Gate_isInRow l dC dI cI cL H.size p2 ) ⟨callB_of 1 htb (gd_w tw_257) rfl rfl rfl (htb _ tw_20) (htb _ tw_255) (by decide +kernel) ⟨Nat.le_of_ble_eq_true rfl, Nat.le_of_ble_eq_true rfl⟩, htb _ tw_256⟩ (pv_S hK (hP.sub (ws' := []) [] rfl) (hD.sub (ws' := []) [] (by decide) rfl)) rfl rfl hl.1 rfl (lv_room (Nat.le_of_ble_eq_true rfl)) d_Gate_flip_8 ⟨Nat.le_of_ble_eq_true rfl, Nat.le_of_ble_eq_true rfl⟩) hP hD hS hA [] [0, 1, 2, 3, 4, 5] rfl rfl (by decide) (by decide) (fun r_4 u_5 H locs hw hP hD hS => ?_)
    try dsimp only at hw
    subst hw
    have hP : va_P (dC, dI) classes [(x0, .inr (0, [.int (nI lm), .ref pg, .ref a_cp, .ref b_cp, .ref pn, .ref gv, .ref sh, .int bg, .int lt, .int em, .int sp, .int fd])), (pn, .inr (2, [.ref ka, .ref kb, .ref kc, .ref kd, .int (nI np)])), (ka, .inl (cI, 4, .inl fc)), (kb, .inl (cI, 4, .inl fl)), (kc, .inl (cI, 4, .inl fb)), (kd, .inl (cI, 4, .inl fs))] H := hP
    have hD : va_D A [(x0, .inr (0, [.int (nI lm), .ref pg, .ref a_cp, .ref b_cp, .ref pn, .ref gv, .ref sh, .int bg, .int lt, .int em, .int sp, .int fd])), (pn, .inr (2, [.ref ka, .ref kb, .ref kc, .ref kd, .int (nI np)])), (ka, .inl (cI, 4, .inl fc)), (kb, .inl (cI, 4, .inl fl)), (kc, .inl (cI, 4, .inl fb)), (kd, .inl (cI, 4, .inl fs))] := hD
    refine lv_if_eq (tgt := 28) hx hb d_Gate_flip_11 (by decide) (fun c_6 => ?_) (fun c_6 => ?_)
    · have c_6 : (bl_w p2 18) = 0 := c_6
      refine lv_iconst (v := 0) hx hb d_Gate_flip_28 (by decide) ?_
      exact rt_z (v := 0) (fc, fl, fb, fs, np) hx hb hr hlocks (by decide) (show (0 : Int32) = fp_w p1 p2 p3 p4 lt np ∧ fc = (if fp_w p1 p2 p3 p4 lt np = 0 then fc else upd fc np p1) ∧ fl = (if fp_w p1 p2 p3 p4 lt np = 0 then fl else upd fl np p2) ∧ fb = (if fp_w p1 p2 p3 p4 lt np = 0 then fb else upd fb np p3) ∧ fs = (if fp_w p1 p2 p3 p4 lt np = 0 then fs else upd fs np p4) ∧ np = (if fp_w p1 p2 p3 p4 lt np = 0 then np else np + 1) from (fp_zero (by simp only [fp_w, if_neg c_3, if_pos c_6]))) (hP.sub (ws' := [(x0, .inr (0, [.int (nI lm), .ref pg, .ref a_cp, .ref b_cp, .ref pn, .ref gv, .ref sh, .int bg, .int lt, .int em, .int sp, .int fd])), (pn, .inr (2, [.ref ka, .ref kb, .ref kc, .ref kd, .int (nI np)])), (ka, .inl (cI, 4, .inl fc)), (kb, .inl (cI, 4, .inl fl)), (kc, .inl (cI, 4, .inl fb)), (kd, .inl (cI, 4, .inl fs))]) [0, 1, 2, 3, 4, 5] rfl) (hD.sub (ws' := [(x0, .inr (0, [.int (nI lm), .ref pg, .ref a_cp, .ref b_cp, .ref pn, .ref gv, .ref sh, .int bg, .int lt, .int em, .int sp, .int fd])), (pn, .inr (2, [.ref ka, .ref kb, .ref kc, .ref kd, .int (nI np)])), (ka, .inl (cI, 4, .inl fc)), (kb, .inl (cI, 4, .inl fl)), (kc, .inl (cI, 4, .inl fb)), (kd, .inl (cI, 4, .inl fs))]) [0, 1, 2, 3, 4, 5] (by decide) rfl) hS d_Gate_flip_29
    · have c_6 : ¬ (bl_w p2 18) = 0 := c_6
      refine lv_iload_n hx hb d_Gate_flip_14 rfl (lv_at hl 3 rfl) ?_
      refine lv_bipush (v := 64) hx hb d_Gate_flip_15 (by decide) ?_
      refine af_i (wr := [(x0, .inr (0, [.int (nI lm), .ref pg, .ref a_cp, .ref b_cp, .ref pn, .ref gv, .ref sh, .int bg, .int lt, .int em, .int sp, .int fd])), (pn, .inr (2, [.ref ka, .ref kb, .ref kc, .ref kd, .int (nI np)])), (ka, .inl (cI, 4, .inl fc)), (kb, .inl (cI, 4, .inl fl)), (kc, .inl (cI, 4, .inl fb)), (kd, .inl (cI, 4, .inl fs))]) (va_runS (As := [.int p3, .int 64]) (rest := []) ⟨hx, hb, hml, hown, htb⟩ (c_Gate_isBelow l dC dI cI cL H.size p3 64 ) ⟨callB_of 2 htb (gd_w tw_164) rfl rfl rfl (htb _ tw_20) (htb _ tw_162) (by decide +kernel) ⟨Nat.le_of_ble_eq_true rfl, Nat.le_of_ble_eq_true rfl⟩, htb _ tw_163⟩ (pv_S hK (hP.sub (ws' := []) [] rfl) (hD.sub (ws' := []) [] (by decide) rfl)) rfl rfl hl.1 rfl (lv_room (Nat.le_of_ble_eq_true rfl)) d_Gate_flip_17 ⟨Nat.le_of_ble_eq_true rfl, Nat.le_of_ble_eq_true rfl⟩) hP hD hS hA [] [0, 1, 2, 3, 4, 5] rfl rfl (by decide) (by decide) (fun r_7 u_8 H locs hw hP hD hS => ?_)
      try dsimp only at hw
      subst hw
      have hP : va_P (dC, dI) classes [(x0, .inr (0, [.int (nI lm), .ref pg, .ref a_cp, .ref b_cp, .ref pn, .ref gv, .ref sh, .int bg, .int lt, .int em, .int sp, .int fd])), (pn, .inr (2, [.ref ka, .ref kb, .ref kc, .ref kd, .int (nI np)])), (ka, .inl (cI, 4, .inl fc)), (kb, .inl (cI, 4, .inl fl)), (kc, .inl (cI, 4, .inl fb)), (kd, .inl (cI, 4, .inl fs))] H := hP
      have hD : va_D A [(x0, .inr (0, [.int (nI lm), .ref pg, .ref a_cp, .ref b_cp, .ref pn, .ref gv, .ref sh, .int bg, .int lt, .int em, .int sp, .int fd])), (pn, .inr (2, [.ref ka, .ref kb, .ref kc, .ref kd, .int (nI np)])), (ka, .inl (cI, 4, .inl fc)), (kb, .inl (cI, 4, .inl fl)), (kc, .inl (cI, 4, .inl fb)), (kd, .inl (cI, 4, .inl fs))] := hD
      refine lv_if_eq (tgt := 28) hx hb d_Gate_flip_20 (by decide) (fun c_9 => ?_) (fun c_9 => ?_)
      · have c_9 : (bl_w p3 64) = 0 := c_9
        refine lv_iconst (v := 0) hx hb d_Gate_flip_28 (by decide) ?_
        exact rt_z (v := 0) (fc, fl, fb, fs, np) hx hb hr hlocks (by decide) (show (0 : Int32) = fp_w p1 p2 p3 p4 lt np ∧ fc = (if fp_w p1 p2 p3 p4 lt np = 0 then fc else upd fc np p1) ∧ fl = (if fp_w p1 p2 p3 p4 lt np = 0 then fl else upd fl np p2) ∧ fb = (if fp_w p1 p2 p3 p4 lt np = 0 then fb else upd fb np p3) ∧ fs = (if fp_w p1 p2 p3 p4 lt np = 0 then fs else upd fs np p4) ∧ np = (if fp_w p1 p2 p3 p4 lt np = 0 then np else np + 1) from (fp_zero (by simp only [fp_w, if_neg c_3, if_neg c_6, if_pos c_9]))) (hP.sub (ws' := [(x0, .inr (0, [.int (nI lm), .ref pg, .ref a_cp, .ref b_cp, .ref pn, .ref gv, .ref sh, .int bg, .int lt, .int em, .int sp, .int fd])), (pn, .inr (2, [.ref ka, .ref kb, .ref kc, .ref kd, .int (nI np)])), (ka, .inl (cI, 4, .inl fc)), (kb, .inl (cI, 4, .inl fl)), (kc, .inl (cI, 4, .inl fb)), (kd, .inl (cI, 4, .inl fs))]) [0, 1, 2, 3, 4, 5] rfl) (hD.sub (ws' := [(x0, .inr (0, [.int (nI lm), .ref pg, .ref a_cp, .ref b_cp, .ref pn, .ref gv, .ref sh, .int bg, .int lt, .int em, .int sp, .int fd])), (pn, .inr (2, [.ref ka, .ref kb, .ref kc, .ref kd, .int (nI np)])), (ka, .inl (cI, 4, .inl fc)), (kb, .inl (cI, 4, .inl fl)), (kc, .inl (cI, 4, .inl fb)), (kd, .inl (cI, 4, .inl fs))]) [0, 1, 2, 3, 4, 5] (by decide) rfl) hS d_Gate_flip_29
      · have c_9 : ¬ (bl_w p3 64) = 0 := c_9
        refine lv_iload hx hb d_Gate_flip_23 (lv_at hl 4 rfl) ?_
        refine lv_if_ge (tgt := 30) hx hb d_Gate_flip_25 (by decide) (fun c_10 => ?_) (fun c_10 => ?_)
        · have c_10 : 0 ≤ p4 := c_10
          refine lv_aload_n hx hb d_Gate_flip_30 rfl (lv_at hl 0 rfl) ?_
          refine va_get (D := (dC, dI)) (ci := 0) (v := .int lt) (C := R_Gate) (T := F_Gate) (N := 12) hx hb htb iw_Gate hown hK.1 hP 0 rfl rfl 8 (by decide) (htb _ tw_126) (fun _ h9 => h9) rfl d_Gate_flip_31 ?_
          refine lv_if_ne (tgt := 47) hx hb d_Gate_flip_34 (by decide) (fun c_11 => ?_) (fun c_11 => ?_)
          · have c_11 : ¬ lt = 0 := c_11
            refine lv_iconst (v := 0) hx hb d_Gate_flip_47 (by decide) ?_
            exact rt_z (v := 0) (fc, fl, fb, fs, np) hx hb hr hlocks (by decide) (show (0 : Int32) = fp_w p1 p2 p3 p4 lt np ∧ fc = (if fp_w p1 p2 p3 p4 lt np = 0 then fc else upd fc np p1) ∧ fl = (if fp_w p1 p2 p3 p4 lt np = 0 then fl else upd fl np p2) ∧ fb = (if fp_w p1 p2 p3 p4 lt np = 0 then fb else upd fb np p3) ∧ fs = (if fp_w p1 p2 p3 p4 lt np = 0 then fs else upd fs np p4) ∧ np = (if fp_w p1 p2 p3 p4 lt np = 0 then np else np + 1) from (fp_zero (by simp only [fp_w, if_neg c_3, if_neg c_6, if_neg c_9, if_pos c_10, if_neg c_11]))) (hP.sub (ws' := [(x0, .inr (0, [.int (nI lm), .ref pg, .ref a_cp, .ref b_cp, .ref pn, .ref gv, .ref sh, .int bg, .int lt, .int em, .int sp, .int fd])), (pn, .inr (2, [.ref ka, .ref kb, .ref kc, .ref kd, .int (nI np)])), (ka, .inl (cI, 4, .inl fc)), (kb, .inl (cI, 4, .inl fl)), (kc, .inl (cI, 4, .inl fb)), (kd, .inl (cI, 4, .inl fs))]) [0, 1, 2, 3, 4, 5] rfl) (hD.sub (ws' := [(x0, .inr (0, [.int (nI lm), .ref pg, .ref a_cp, .ref b_cp, .ref pn, .ref gv, .ref sh, .int bg, .int lt, .int em, .int sp, .int fd])), (pn, .inr (2, [.ref ka, .ref kb, .ref kc, .ref kd, .int (nI np)])), (ka, .inl (cI, 4, .inl fc)), (kb, .inl (cI, 4, .inl fl)), (kc, .inl (cI, 4, .inl fb)), (kd, .inl (cI, 4, .inl fs))]) [0, 1, 2, 3, 4, 5] (by decide) rfl) hS d_Gate_flip_48
          · have c_11 : lt = 0 := c_11
            refine lv_aload_n hx hb d_Gate_flip_37 rfl (lv_at hl 0 rfl) ?_
            refine va_get (D := (dC, dI)) (ci := 0) (v := .ref pn) (C := R_Gate) (T := F_Gate) (N := 12) hx hb htb iw_Gate hown hK.1 hP 0 rfl rfl 4 (by decide) (htb _ tw_122) (fun _ h9 => h9) rfl d_Gate_flip_38 ?_
            refine af_i (wr := [(x0, .inr (0, [.int (nI lm), .ref pg, .ref a_cp, .ref b_cp, .ref pn, .ref gv, .ref sh, .int bg, .int lt, .int em, .int sp, .int fd]))]) (va_runV (As := []) (rest := []) ⟨hx, hb, hml, hown, htb⟩ (c_Plan_isFull l dC dI cI cL H.size pn ka kb kc kd fc fl fb fs np ) ⟨callB_of 0 htb (gd_w tw_261) rfl rfl rfl (htb _ tw_23) (htb _ tw_258) (by decide +kernel) ⟨Nat.le_of_ble_eq_true rfl, Nat.le_of_ble_eq_true rfl⟩, htb _ tw_259, htb _ tw_260⟩ (pv_V hK (hP.sub (ws' := [(pn, .inr (2, [.ref ka, .ref kb, .ref kc, .ref kd, .int (nI np)])), (ka, .inl (cI, 4, .inl fc)), (kb, .inl (cI, 4, .inl fl)), (kc, .inl (cI, 4, .inl fb)), (kd, .inl (cI, 4, .inl fs))]) [1, 2, 3, 4, 5] rfl) (hD.sub (ws' := [(pn, .inr (2, [.ref ka, .ref kb, .ref kc, .ref kd, .int (nI np)])), (ka, .inl (cI, 4, .inl fc)), (kb, .inl (cI, 4, .inl fl)), (kc, .inl (cI, 4, .inl fb)), (kd, .inl (cI, 4, .inl fs))]) [1, 2, 3, 4, 5] (by decide) rfl) (ci := 2) (q0 := 0) rfl rfl) rfl rfl hl.1 rfl (lv_room (Nat.le_of_ble_eq_true rfl)) d_Gate_flip_41 ⟨Nat.le_of_ble_eq_true rfl, Nat.le_of_ble_eq_true rfl⟩) hP hD hS hA [1, 2, 3, 4, 5] [0] rfl rfl (by decide) (by decide) (fun r_12 u_13 H locs hw hP hD hS => ?_)
            try dsimp only at hw
            subst hw
            have hP : va_P (dC, dI) classes [(x0, .inr (0, [.int (nI lm), .ref pg, .ref a_cp, .ref b_cp, .ref pn, .ref gv, .ref sh, .int bg, .int lt, .int em, .int sp, .int fd])), (pn, .inr (2, [.ref ka, .ref kb, .ref kc, .ref kd, .int (nI np)])), (ka, .inl (cI, 4, .inl fc)), (kb, .inl (cI, 4, .inl fl)), (kc, .inl (cI, 4, .inl fb)), (kd, .inl (cI, 4, .inl fs))] H := hP
            have hD : va_D A [(x0, .inr (0, [.int (nI lm), .ref pg, .ref a_cp, .ref b_cp, .ref pn, .ref gv, .ref sh, .int bg, .int lt, .int em, .int sp, .int fd])), (pn, .inr (2, [.ref ka, .ref kb, .ref kc, .ref kd, .int (nI np)])), (ka, .inl (cI, 4, .inl fc)), (kb, .inl (cI, 4, .inl fl)), (kc, .inl (cI, 4, .inl fb)), (kd, .inl (cI, 4, .inl fs))] := hD
            refine lv_if_eq (tgt := 49) hx hb d_Gate_flip_44 (by decide) (fun c_14 => ?_) (fun c_14 => ?_)
            · have c_14 : (fu_w np) = 0 := c_14
              refine lv_aload_n hx hb d_Gate_flip_49 rfl (lv_at hl 0 rfl) ?_
              refine va_get (D := (dC, dI)) (ci := 0) (v := .ref pn) (C := R_Gate) (T := F_Gate) (N := 12) hx hb htb iw_Gate hown hK.1 hP 0 rfl rfl 4 (by decide) (htb _ tw_122) (fun _ h9 => h9) rfl d_Gate_flip_50 ?_
              refine lv_iload_n hx hb d_Gate_flip_53 rfl (lv_at hl 1 rfl) ?_
              refine lv_iload_n hx hb d_Gate_flip_54 rfl (lv_at hl 2 rfl) ?_
              refine lv_iload_n hx hb d_Gate_flip_55 rfl (lv_at hl 3 rfl) ?_
              refine lv_iload hx hb d_Gate_flip_56 (lv_at hl 4 rfl) ?_
              refine af_v (wr := [(x0, .inr (0, [.int (nI lm), .ref pg, .ref a_cp, .ref b_cp, .ref pn, .ref gv, .ref sh, .int bg, .int lt, .int em, .int sp, .int fd]))]) (va_runV (As := [.int p1, .int p2, .int p3, .int p4]) (rest := []) ⟨hx, hb, hml, hown, htb⟩ (c_Plan_append l dC dI cI cL H.size pn ka kb kc kd fc fl fb fs np p1 p2 p3 p4 (fu_lt c_14 hnp)) ⟨callB_of 4 htb (gd_w tw_265) rfl rfl rfl (htb _ tw_23) (htb _ tw_262) (by decide +kernel) ⟨Nat.le_of_ble_eq_true rfl, Nat.le_of_ble_eq_true rfl⟩, htb _ tw_263, htb _ tw_264⟩ (pv_V hK (hP.sub (ws' := [(pn, .inr (2, [.ref ka, .ref kb, .ref kc, .ref kd, .int (nI np)])), (ka, .inl (cI, 4, .inl fc)), (kb, .inl (cI, 4, .inl fl)), (kc, .inl (cI, 4, .inl fb)), (kd, .inl (cI, 4, .inl fs))]) [1, 2, 3, 4, 5] rfl) (hD.sub (ws' := [(pn, .inr (2, [.ref ka, .ref kb, .ref kc, .ref kd, .int (nI np)])), (ka, .inl (cI, 4, .inl fc)), (kb, .inl (cI, 4, .inl fl)), (kc, .inl (cI, 4, .inl fb)), (kd, .inl (cI, 4, .inl fs))]) [1, 2, 3, 4, 5] (by decide) rfl) (ci := 2) (q0 := 0) rfl rfl) rfl rfl hl.1 rfl (lv_room (Nat.le_of_ble_eq_true rfl)) d_Gate_flip_58 ⟨Nat.le_of_ble_eq_true rfl, Nat.le_of_ble_eq_true rfl⟩) hP hD hS hA [1, 2, 3, 4, 5] [0] rfl rfl (by decide) (by decide) (fun u_16 H locs hw hP hD hS => ?_)
              obtain ⟨z_17, z_18, z_19, z_20⟩ := u_16
              try dsimp only at hw
              obtain ⟨rfl, rfl, rfl, rfl⟩ := hw
              have hP : va_P (dC, dI) classes [(x0, .inr (0, [.int (nI lm), .ref pg, .ref a_cp, .ref b_cp, .ref pn, .ref gv, .ref sh, .int bg, .int lt, .int em, .int sp, .int fd])), (pn, .inr (2, [.ref ka, .ref kb, .ref kc, .ref kd, .int (nI (np + 1))])), (ka, .inl (cI, 4, .inl (upd fc np p1))), (kb, .inl (cI, 4, .inl (upd fl np p2))), (kc, .inl (cI, 4, .inl (upd fb np p3))), (kd, .inl (cI, 4, .inl (upd fs np p4)))] H := hP
              have hD : va_D A [(x0, .inr (0, [.int (nI lm), .ref pg, .ref a_cp, .ref b_cp, .ref pn, .ref gv, .ref sh, .int bg, .int lt, .int em, .int sp, .int fd])), (pn, .inr (2, [.ref ka, .ref kb, .ref kc, .ref kd, .int (nI (np + 1))])), (ka, .inl (cI, 4, .inl (upd fc np p1))), (kb, .inl (cI, 4, .inl (upd fl np p2))), (kc, .inl (cI, 4, .inl (upd fb np p3))), (kd, .inl (cI, 4, .inl (upd fs np p4)))] := hD
              refine lv_iconst (v := 1) hx hb d_Gate_flip_61 (by decide) ?_
              exact rt_z (v := 1) (upd fc np p1, upd fl np p2, upd fb np p3, upd fs np p4, (np + 1)) hx hb hr hlocks (by decide) (show (1 : Int32) = fp_w p1 p2 p3 p4 lt np ∧ (upd fc np p1) = (if fp_w p1 p2 p3 p4 lt np = 0 then fc else upd fc np p1) ∧ (upd fl np p2) = (if fp_w p1 p2 p3 p4 lt np = 0 then fl else upd fl np p2) ∧ (upd fb np p3) = (if fp_w p1 p2 p3 p4 lt np = 0 then fb else upd fb np p3) ∧ (upd fs np p4) = (if fp_w p1 p2 p3 p4 lt np = 0 then fs else upd fs np p4) ∧ (np + 1) = (if fp_w p1 p2 p3 p4 lt np = 0 then np else np + 1) from (fp_one (by simp only [fp_w, if_neg c_3, if_neg c_6, if_neg c_9, if_pos c_10, if_pos c_11, if_pos c_14]))) (hP.sub (ws' := [(x0, .inr (0, [.int (nI lm), .ref pg, .ref a_cp, .ref b_cp, .ref pn, .ref gv, .ref sh, .int bg, .int lt, .int em, .int sp, .int fd])), (pn, .inr (2, [.ref ka, .ref kb, .ref kc, .ref kd, .int (nI (np + 1))])), (ka, .inl (cI, 4, .inl (upd fc np p1))), (kb, .inl (cI, 4, .inl (upd fl np p2))), (kc, .inl (cI, 4, .inl (upd fb np p3))), (kd, .inl (cI, 4, .inl (upd fs np p4)))]) [0, 1, 2, 3, 4, 5] rfl) (hD.sub (ws' := [(x0, .inr (0, [.int (nI lm), .ref pg, .ref a_cp, .ref b_cp, .ref pn, .ref gv, .ref sh, .int bg, .int lt, .int em, .int sp, .int fd])), (pn, .inr (2, [.ref ka, .ref kb, .ref kc, .ref kd, .int (nI (np + 1))])), (ka, .inl (cI, 4, .inl (upd fc np p1))), (kb, .inl (cI, 4, .inl (upd fl np p2))), (kc, .inl (cI, 4, .inl (upd fb np p3))), (kd, .inl (cI, 4, .inl (upd fs np p4)))]) [0, 1, 2, 3, 4, 5] (by decide) rfl) hS d_Gate_flip_62
            · have c_14 : ¬ (fu_w np) = 0 := c_14
              refine lv_iconst (v := 0) hx hb d_Gate_flip_47 (by decide) ?_
              exact rt_z (v := 0) (fc, fl, fb, fs, np) hx hb hr hlocks (by decide) (show (0 : Int32) = fp_w p1 p2 p3 p4 lt np ∧ fc = (if fp_w p1 p2 p3 p4 lt np = 0 then fc else upd fc np p1) ∧ fl = (if fp_w p1 p2 p3 p4 lt np = 0 then fl else upd fl np p2) ∧ fb = (if fp_w p1 p2 p3 p4 lt np = 0 then fb else upd fb np p3) ∧ fs = (if fp_w p1 p2 p3 p4 lt np = 0 then fs else upd fs np p4) ∧ np = (if fp_w p1 p2 p3 p4 lt np = 0 then np else np + 1) from (fp_zero (by simp only [fp_w, if_neg c_3, if_neg c_6, if_neg c_9, if_pos c_10, if_pos c_11, if_neg c_14]))) (hP.sub (ws' := [(x0, .inr (0, [.int (nI lm), .ref pg, .ref a_cp, .ref b_cp, .ref pn, .ref gv, .ref sh, .int bg, .int lt, .int em, .int sp, .int fd])), (pn, .inr (2, [.ref ka, .ref kb, .ref kc, .ref kd, .int (nI np)])), (ka, .inl (cI, 4, .inl fc)), (kb, .inl (cI, 4, .inl fl)), (kc, .inl (cI, 4, .inl fb)), (kd, .inl (cI, 4, .inl fs))]) [0, 1, 2, 3, 4, 5] rfl) (hD.sub (ws' := [(x0, .inr (0, [.int (nI lm), .ref pg, .ref a_cp, .ref b_cp, .ref pn, .ref gv, .ref sh, .int bg, .int lt, .int em, .int sp, .int fd])), (pn, .inr (2, [.ref ka, .ref kb, .ref kc, .ref kd, .int (nI np)])), (ka, .inl (cI, 4, .inl fc)), (kb, .inl (cI, 4, .inl fl)), (kc, .inl (cI, 4, .inl fb)), (kd, .inl (cI, 4, .inl fs))]) [0, 1, 2, 3, 4, 5] (by decide) rfl) hS d_Gate_flip_48
        · have c_10 : ¬ 0 ≤ p4 := c_10
          refine lv_iconst (v := 0) hx hb d_Gate_flip_28 (by decide) ?_
          exact rt_z (v := 0) (fc, fl, fb, fs, np) hx hb hr hlocks (by decide) (show (0 : Int32) = fp_w p1 p2 p3 p4 lt np ∧ fc = (if fp_w p1 p2 p3 p4 lt np = 0 then fc else upd fc np p1) ∧ fl = (if fp_w p1 p2 p3 p4 lt np = 0 then fl else upd fl np p2) ∧ fb = (if fp_w p1 p2 p3 p4 lt np = 0 then fb else upd fb np p3) ∧ fs = (if fp_w p1 p2 p3 p4 lt np = 0 then fs else upd fs np p4) ∧ np = (if fp_w p1 p2 p3 p4 lt np = 0 then np else np + 1) from (fp_zero (by simp only [fp_w, if_neg c_3, if_neg c_6, if_neg c_9, if_neg c_10]))) (hP.sub (ws' := [(x0, .inr (0, [.int (nI lm), .ref pg, .ref a_cp, .ref b_cp, .ref pn, .ref gv, .ref sh, .int bg, .int lt, .int em, .int sp, .int fd])), (pn, .inr (2, [.ref ka, .ref kb, .ref kc, .ref kd, .int (nI np)])), (ka, .inl (cI, 4, .inl fc)), (kb, .inl (cI, 4, .inl fl)), (kc, .inl (cI, 4, .inl fb)), (kd, .inl (cI, 4, .inl fs))]) [0, 1, 2, 3, 4, 5] rfl) (hD.sub (ws' := [(x0, .inr (0, [.int (nI lm), .ref pg, .ref a_cp, .ref b_cp, .ref pn, .ref gv, .ref sh, .int bg, .int lt, .int em, .int sp, .int fd])), (pn, .inr (2, [.ref ka, .ref kb, .ref kc, .ref kd, .int (nI np)])), (ka, .inl (cI, 4, .inl fc)), (kb, .inl (cI, 4, .inl fl)), (kc, .inl (cI, 4, .inl fb)), (kd, .inl (cI, 4, .inl fs))]) [0, 1, 2, 3, 4, 5] (by decide) rfl) hS d_Gate_flip_29

theorem gi_zero {r : Int32} {f g : Nat → Int32} (h : r = 0) : (0 : Int32) = r ∧ f = (if r = 0 then f else g) := by
  subst h
  exact ⟨rfl, rfl⟩

theorem gi_one {r : Int32} {f g : Nat → Int32} (h : r = 1) : (1 : Int32) = r ∧ g = (if r = 0 then f else g) := by
  subst h
  exact ⟨rfl, rfl⟩

set_option maxHeartbeats 4000000 in
set_option maxRecDepth 100000 in
theorem c_Gate_give (l : Launch) (dC : Nat → ClassId) (dI : Nat → Nat → Nat) (cI cL : ClassId) (hs0 : Nat) (x0 : Nat) (lm : Nat) (pg : Nat) (a_cp : Nat) (b_cp : Nat) (pn : Nat) (gv : Nat) (sh : Nat) (bg : Int32) (lt : Int32) (em : Int32) (sp : Int32) (fd : Int32) (gg : Nat → Int32) (p1 : Int32) (p2 : Int32)  : ct_i l y_Gate_give b_Gate_give 3 (some .boolean) ({ frames := 2, cells := 0, slots := 0, locals := 80 }) (dC, dI) cI cL [.ref x0, .int p1, .int p2] [(x0, .inr (0, [.int (nI lm), .ref pg, .ref a_cp, .ref b_cp, .ref pn, .ref gv, .ref sh, .int bg, .int lt, .int em, .int sp, .int fd])), (gv, .inl (cI, 4, .inl gg))] hs0 (fun (r : Int32) (u : (Nat → Int32)) => r = gi_w p1 p2 ∧ u = (if gi_w p1 p2 = 0 then gg else upd gg p1.toNatClampNeg p2)) (fun u => [(x0, .inr (0, [.int (nI lm), .ref pg, .ref a_cp, .ref b_cp, .ref pn, .ref gv, .ref sh, .int bg, .int lt, .int em, .int sp, .int fd])), (gv, .inl (cI, 4, .inl u))]) 0 0 := by
  refine st_w (Qc := fun A => va_Qi (fun (r : Int32) (u : (Nat → Int32)) => r = gi_w p1 p2 ∧ u = (if gi_w p1 p2 = 0 then gg else upd gg p1.toNatClampNeg p2)) (fun (u : (Nat → Int32)) t => pos_w (dC, dI) A [(x0, .inr (0, [.int (nI lm), .ref pg, .ref a_cp, .ref b_cp, .ref pn, .ref gv, .ref sh, .int bg, .int lt, .int em, .int sp, .int fd])), (gv, .inl (cI, 4, .inl u))] t) A) (by decide) (Nat.le_of_ble_eq_true rfl) ?_
  intro p e s m below meth c A ls hfx hK hA hP hD hS hl
  obtain ⟨hx, hb, hml, hown, htb, hr, hlocks, hin⟩ := hfx
  have hl : lv_has ls 3 [(0, .ref x0), (1, .int p1), (2, .int p2)] := hl
  refine lv_iload_n hx hb d_Gate_give_0 rfl (lv_at hl 1 rfl) ?_
  refine af_i (wr := [(x0, .inr (0, [.int (nI lm), .ref pg, .ref a_cp, .ref b_cp, .ref pn, .ref gv, .ref sh, .int bg, .int lt, .int em, .int sp, .int fd])), (gv, .inl (cI, 4, .inl gg))]) (va_runS (As := [.int p1]) (rest := []) ⟨hx, hb, hml, hown, htb⟩ (c_Gate_isPort l dC dI cI cL s.heap.size p1 ) ⟨callB_of 1 htb (gd_w tw_161) rfl rfl rfl (htb _ tw_20) (htb _ tw_159) (by decide +kernel) ⟨Nat.le_of_ble_eq_true rfl, Nat.le_of_ble_eq_true rfl⟩, htb _ tw_160⟩ (pv_S hK (hP.sub (ws' := []) [] rfl) (hD.sub (ws' := []) [] (by decide) rfl)) rfl rfl hl.1 rfl (lv_room (Nat.le_of_ble_eq_true rfl)) d_Gate_give_1 ⟨Nat.le_of_ble_eq_true rfl, Nat.le_of_ble_eq_true rfl⟩) hP hD hS hA [] [0, 1] rfl rfl (by decide) (by decide) (fun r_1 u_2 H locs hw hP hD hS => ?_)
  try dsimp only at hw
  subst hw
  have hP : va_P (dC, dI) classes [(x0, .inr (0, [.int (nI lm), .ref pg, .ref a_cp, .ref b_cp, .ref pn, .ref gv, .ref sh, .int bg, .int lt, .int em, .int sp, .int fd])), (gv, .inl (cI, 4, .inl gg))] H := hP
  have hD : va_D A [(x0, .inr (0, [.int (nI lm), .ref pg, .ref a_cp, .ref b_cp, .ref pn, .ref gv, .ref sh, .int bg, .int lt, .int em, .int sp, .int fd])), (gv, .inl (cI, 4, .inl gg))] := hD
  refine lv_if_eq (tgt := 14) hx hb d_Gate_give_4 (by decide) (fun c_3 => ?_) (fun c_3 => ?_)
  · have c_3 : (bl_w p1 4) = 0 := c_3
    refine lv_iconst (v := 0) hx hb d_Gate_give_14 (by decide) ?_
    exact rt_z (v := 0) gg hx hb hr hlocks (by decide) (show (0 : Int32) = gi_w p1 p2 ∧ gg = (if gi_w p1 p2 = 0 then gg else upd gg p1.toNatClampNeg p2) from (gi_zero (by simp only [gi_w, if_pos c_3]))) (hP.sub (ws' := [(x0, .inr (0, [.int (nI lm), .ref pg, .ref a_cp, .ref b_cp, .ref pn, .ref gv, .ref sh, .int bg, .int lt, .int em, .int sp, .int fd])), (gv, .inl (cI, 4, .inl gg))]) [0, 1] rfl) (hD.sub (ws' := [(x0, .inr (0, [.int (nI lm), .ref pg, .ref a_cp, .ref b_cp, .ref pn, .ref gv, .ref sh, .int bg, .int lt, .int em, .int sp, .int fd])), (gv, .inl (cI, 4, .inl gg))]) [0, 1] (by decide) rfl) hS d_Gate_give_15
  · have c_3 : ¬ (bl_w p1 4) = 0 := c_3
    refine lv_iload_n hx hb d_Gate_give_7 rfl (lv_at hl 2 rfl) ?_
    refine af_i (wr := [(x0, .inr (0, [.int (nI lm), .ref pg, .ref a_cp, .ref b_cp, .ref pn, .ref gv, .ref sh, .int bg, .int lt, .int em, .int sp, .int fd])), (gv, .inl (cI, 4, .inl gg))]) (va_runS (As := [.int p2]) (rest := []) ⟨hx, hb, hml, hown, htb⟩ (c_Gate_isWithinBound l dC dI cI cL H.size p2 ) ⟨callB_of 1 htb (gd_w tw_167) rfl rfl rfl (htb _ tw_20) (htb _ tw_165) (by decide +kernel) ⟨Nat.le_of_ble_eq_true rfl, Nat.le_of_ble_eq_true rfl⟩, htb _ tw_166⟩ (pv_S hK (hP.sub (ws' := []) [] rfl) (hD.sub (ws' := []) [] (by decide) rfl)) rfl rfl hl.1 rfl (lv_room (Nat.le_of_ble_eq_true rfl)) d_Gate_give_8 ⟨Nat.le_of_ble_eq_true rfl, Nat.le_of_ble_eq_true rfl⟩) hP hD hS hA [] [0, 1] rfl rfl (by decide) (by decide) (fun r_4 u_5 H locs hw hP hD hS => ?_)
    try dsimp only at hw
    subst hw
    have hP : va_P (dC, dI) classes [(x0, .inr (0, [.int (nI lm), .ref pg, .ref a_cp, .ref b_cp, .ref pn, .ref gv, .ref sh, .int bg, .int lt, .int em, .int sp, .int fd])), (gv, .inl (cI, 4, .inl gg))] H := hP
    have hD : va_D A [(x0, .inr (0, [.int (nI lm), .ref pg, .ref a_cp, .ref b_cp, .ref pn, .ref gv, .ref sh, .int bg, .int lt, .int em, .int sp, .int fd])), (gv, .inl (cI, 4, .inl gg))] := hD
    refine lv_if_ne (tgt := 16) hx hb d_Gate_give_11 (by decide) (fun c_6 => ?_) (fun c_6 => ?_)
    · have c_6 : ¬ (wb_w p2) = 0 := c_6
      refine lv_aload_n hx hb d_Gate_give_16 rfl (lv_at hl 0 rfl) ?_
      refine va_get (D := (dC, dI)) (ci := 0) (v := .ref gv) (C := R_Gate) (T := F_Gate) (N := 12) hx hb htb iw_Gate hown hK.1 hP 0 rfl rfl 5 (by decide) (htb _ tw_123) (fun _ h9 => h9) rfl d_Gate_give_17 ?_
      refine lv_iload_n hx hb d_Gate_give_20 rfl (lv_at hl 1 rfl) ?_
      refine lv_iload_n hx hb d_Gate_give_21 rfl (lv_at hl 2 rfl) ?_
      refine sd_i (g := upd gg p1.toNatClampNeg p2) (cA := cI) hx hb hK.1 hP hD hS 1 0 rfl rfl (bl_use (N := 4) (by decide) c_3) rfl d_Gate_give_22 (fun H locs hP hD hS => ?_)
      have hP : va_P (dC, dI) classes [(x0, .inr (0, [.int (nI lm), .ref pg, .ref a_cp, .ref b_cp, .ref pn, .ref gv, .ref sh, .int bg, .int lt, .int em, .int sp, .int fd])), (gv, .inl (cI, 4, .inl (upd gg p1.toNatClampNeg p2)))] H := hP
      have hD : va_D A [(x0, .inr (0, [.int (nI lm), .ref pg, .ref a_cp, .ref b_cp, .ref pn, .ref gv, .ref sh, .int bg, .int lt, .int em, .int sp, .int fd])), (gv, .inl (cI, 4, .inl (upd gg p1.toNatClampNeg p2)))] := hD
      refine lv_iconst (v := 1) hx hb d_Gate_give_23 (by decide) ?_
      exact rt_z (v := 1) (upd gg p1.toNatClampNeg p2) hx hb hr hlocks (by decide) (show (1 : Int32) = gi_w p1 p2 ∧ (upd gg p1.toNatClampNeg p2) = (if gi_w p1 p2 = 0 then gg else upd gg p1.toNatClampNeg p2) from (gi_one (by simp only [gi_w, if_neg c_3, if_neg c_6]))) (hP.sub (ws' := [(x0, .inr (0, [.int (nI lm), .ref pg, .ref a_cp, .ref b_cp, .ref pn, .ref gv, .ref sh, .int bg, .int lt, .int em, .int sp, .int fd])), (gv, .inl (cI, 4, .inl (upd gg p1.toNatClampNeg p2)))]) [0, 1] rfl) (hD.sub (ws' := [(x0, .inr (0, [.int (nI lm), .ref pg, .ref a_cp, .ref b_cp, .ref pn, .ref gv, .ref sh, .int bg, .int lt, .int em, .int sp, .int fd])), (gv, .inl (cI, 4, .inl (upd gg p1.toNatClampNeg p2)))]) [0, 1] (by decide) rfl) hS d_Gate_give_24
    · have c_6 : (wb_w p2) = 0 := c_6
      refine lv_iconst (v := 0) hx hb d_Gate_give_14 (by decide) ?_
      exact rt_z (v := 0) gg hx hb hr hlocks (by decide) (show (0 : Int32) = gi_w p1 p2 ∧ gg = (if gi_w p1 p2 = 0 then gg else upd gg p1.toNatClampNeg p2) from (gi_zero (by simp only [gi_w, if_neg c_3, if_pos c_6]))) (hP.sub (ws' := [(x0, .inr (0, [.int (nI lm), .ref pg, .ref a_cp, .ref b_cp, .ref pn, .ref gv, .ref sh, .int bg, .int lt, .int em, .int sp, .int fd])), (gv, .inl (cI, 4, .inl gg))]) [0, 1] rfl) (hD.sub (ws' := [(x0, .inr (0, [.int (nI lm), .ref pg, .ref a_cp, .ref b_cp, .ref pn, .ref gv, .ref sh, .int bg, .int lt, .int em, .int sp, .int fd])), (gv, .inl (cI, 4, .inl gg))]) [0, 1] (by decide) rfl) hS d_Gate_give_15

set_option maxHeartbeats 4000000 in
set_option maxRecDepth 100000 in
theorem c_Gate_output (l : Launch) (dC : Nat → ClassId) (dI : Nat → Nat → Nat) (cI cL : ClassId) (hs0 : Nat) (x0 : Nat) (lm : Nat) (pg : Nat) (a_cp : Nat) (b_cp : Nat) (pn : Nat) (gv : Nat) (sh : Nat) (bg : Int32) (lt : Int32) (em : Int32) (sp : Int32) (fd : Int32) (ss : Nat → Int32) (p1 : Int32)  : ct_i l y_Gate_output b_Gate_output 2 (some .int) ({ frames := 2, cells := 0, slots := 0, locals := 80 }) (dC, dI) cI cL [.ref x0, .int p1] [(x0, .inr (0, [.int (nI lm), .ref pg, .ref a_cp, .ref b_cp, .ref pn, .ref gv, .ref sh, .int bg, .int lt, .int em, .int sp, .int fd])), (sh, .inl (cI, 4, .inl ss))] hs0 (fun (r : Int32) (u : Unit) => r = ou_w p1 ss) (fun u => [(x0, .inr (0, [.int (nI lm), .ref pg, .ref a_cp, .ref b_cp, .ref pn, .ref gv, .ref sh, .int bg, .int lt, .int em, .int sp, .int fd])), (sh, .inl (cI, 4, .inl ss))]) 0 0 := by
  refine st_w (Qc := fun A => va_Qi (fun (r : Int32) (u : Unit) => r = ou_w p1 ss) (fun (u : Unit) t => pos_w (dC, dI) A [(x0, .inr (0, [.int (nI lm), .ref pg, .ref a_cp, .ref b_cp, .ref pn, .ref gv, .ref sh, .int bg, .int lt, .int em, .int sp, .int fd])), (sh, .inl (cI, 4, .inl ss))] t) A) (by decide) (Nat.le_of_ble_eq_true rfl) ?_
  intro p e s m below meth c A ls hfx hK hA hP hD hS hl
  obtain ⟨hx, hb, hml, hown, htb, hr, hlocks, hin⟩ := hfx
  have hl : lv_has ls 2 [(0, .ref x0), (1, .int p1)] := hl
  refine lv_iload_n hx hb d_Gate_output_0 rfl (lv_at hl 1 rfl) ?_
  refine af_i (wr := [(x0, .inr (0, [.int (nI lm), .ref pg, .ref a_cp, .ref b_cp, .ref pn, .ref gv, .ref sh, .int bg, .int lt, .int em, .int sp, .int fd])), (sh, .inl (cI, 4, .inl ss))]) (va_runS (As := [.int p1]) (rest := []) ⟨hx, hb, hml, hown, htb⟩ (c_Gate_isPort l dC dI cI cL s.heap.size p1 ) ⟨callB_of 1 htb (gd_w tw_161) rfl rfl rfl (htb _ tw_20) (htb _ tw_159) (by decide +kernel) ⟨Nat.le_of_ble_eq_true rfl, Nat.le_of_ble_eq_true rfl⟩, htb _ tw_160⟩ (pv_S hK (hP.sub (ws' := []) [] rfl) (hD.sub (ws' := []) [] (by decide) rfl)) rfl rfl hl.1 rfl (lv_room (Nat.le_of_ble_eq_true rfl)) d_Gate_output_1 ⟨Nat.le_of_ble_eq_true rfl, Nat.le_of_ble_eq_true rfl⟩) hP hD hS hA [] [0, 1] rfl rfl (by decide) (by decide) (fun r_1 u_2 H locs hw hP hD hS => ?_)
  try dsimp only at hw
  subst hw
  have hP : va_P (dC, dI) classes [(x0, .inr (0, [.int (nI lm), .ref pg, .ref a_cp, .ref b_cp, .ref pn, .ref gv, .ref sh, .int bg, .int lt, .int em, .int sp, .int fd])), (sh, .inl (cI, 4, .inl ss))] H := hP
  have hD : va_D A [(x0, .inr (0, [.int (nI lm), .ref pg, .ref a_cp, .ref b_cp, .ref pn, .ref gv, .ref sh, .int bg, .int lt, .int em, .int sp, .int fd])), (sh, .inl (cI, 4, .inl ss))] := hD
  refine lv_if_eq (tgt := 16) hx hb d_Gate_output_4 (by decide) (fun c_3 => ?_) (fun c_3 => ?_)
  · have c_3 : (bl_w p1 4) = 0 := c_3
    refine lv_iconst (v := (-1)) hx hb d_Gate_output_16 (by decide) ?_
    exact rt_i (v := (-1)) () hx hb hr hlocks (show ((-1) : Int32) = ou_w p1 ss from (by simp only [ou_w, if_pos c_3, and_self])) (hP.sub (ws' := [(x0, .inr (0, [.int (nI lm), .ref pg, .ref a_cp, .ref b_cp, .ref pn, .ref gv, .ref sh, .int bg, .int lt, .int em, .int sp, .int fd])), (sh, .inl (cI, 4, .inl ss))]) [0, 1] rfl) (hD.sub (ws' := [(x0, .inr (0, [.int (nI lm), .ref pg, .ref a_cp, .ref b_cp, .ref pn, .ref gv, .ref sh, .int bg, .int lt, .int em, .int sp, .int fd])), (sh, .inl (cI, 4, .inl ss))]) [0, 1] (by decide) rfl) hS d_Gate_output_17
  · have c_3 : ¬ (bl_w p1 4) = 0 := c_3
    refine lv_aload_n hx hb d_Gate_output_7 rfl (lv_at hl 0 rfl) ?_
    refine va_get (D := (dC, dI)) (ci := 0) (v := .ref sh) (C := R_Gate) (T := F_Gate) (N := 12) hx hb htb iw_Gate hown hK.1 hP 0 rfl rfl 6 (by decide) (htb _ tw_124) (fun _ h9 => h9) rfl d_Gate_output_8 ?_
    refine lv_iload_n hx hb d_Gate_output_11 rfl (lv_at hl 1 rfl) ?_
    refine ld_i (v := ss p1.toNatClampNeg) (cA := cI) hx hb hK.1 hP 1 0 rfl rfl (bl_use (N := 4) (by decide) c_3) rfl d_Gate_output_12 ?_
    refine lv_goto (tgt := 17) hx hb d_Gate_output_13 (by decide) ?_
    exact rt_i (v := ss p1.toNatClampNeg) () hx hb hr hlocks (show (ss p1.toNatClampNeg) = ou_w p1 ss from (by simp only [ou_w, if_neg c_3, and_self])) (hP.sub (ws' := [(x0, .inr (0, [.int (nI lm), .ref pg, .ref a_cp, .ref b_cp, .ref pn, .ref gv, .ref sh, .int bg, .int lt, .int em, .int sp, .int fd])), (sh, .inl (cI, 4, .inl ss))]) [0, 1] rfl) (hD.sub (ws' := [(x0, .inr (0, [.int (nI lm), .ref pg, .ref a_cp, .ref b_cp, .ref pn, .ref gv, .ref sh, .int bg, .int lt, .int em, .int sp, .int fd])), (sh, .inl (cI, 4, .inl ss))]) [0, 1] (by decide) rfl) hS d_Gate_output_17

set_option maxHeartbeats 4000000 in
set_option maxRecDepth 100000 in
theorem c_Gate_count (l : Launch) (dC : Nat → ClassId) (dI : Nat → Nat → Nat) (cI cL : ClassId) (hs0 : Nat) (x0 : Nat) (lm : Nat) (pg : Nat) (a_cp : Nat) (b_cp : Nat) (pn : Nat) (gv : Nat) (sh : Nat) (bg : Int32) (lt : Int32) (em : Int32) (sp : Int32) (fd : Int32) (oa : Nat) (na : Nat) (ops : Nat → Int32) (nums : Nat → Int32) (sz : Int32) (ka : Nat) (kb : Nat) (kc : Nat) (kd : Nat) (fc : Nat → Int32) (fl : Nat → Int32) (fb : Nat → Int32) (fs : Nat → Int32) (np : Nat) (p1 : Int32)  : ct_i l y_Gate_count b_Gate_count 2 (some .int) ({ frames := 0, cells := 0, slots := 0, locals := 0 }) (dC, dI) cI cL [.ref x0, .int p1] [(x0, .inr (0, [.int (nI lm), .ref pg, .ref a_cp, .ref b_cp, .ref pn, .ref gv, .ref sh, .int bg, .int lt, .int em, .int sp, .int fd])), (pg, .inr (3, [.ref oa, .ref na, .int sz])), (oa, .inl (cI, 100, .inl ops)), (na, .inl (cI, 100, .inl nums)), (pn, .inr (2, [.ref ka, .ref kb, .ref kc, .ref kd, .int (nI np)])), (ka, .inl (cI, 4, .inl fc)), (kb, .inl (cI, 4, .inl fl)), (kc, .inl (cI, 4, .inl fb)), (kd, .inl (cI, 4, .inl fs))] hs0 (fun (r : Int32) (u : Unit) => r = co_w p1 sz em lt sp np fd lm) (fun u => [(x0, .inr (0, [.int (nI lm), .ref pg, .ref a_cp, .ref b_cp, .ref pn, .ref gv, .ref sh, .int bg, .int lt, .int em, .int sp, .int fd])), (pg, .inr (3, [.ref oa, .ref na, .int sz])), (oa, .inl (cI, 100, .inl ops)), (na, .inl (cI, 100, .inl nums)), (pn, .inr (2, [.ref ka, .ref kb, .ref kc, .ref kd, .int (nI np)])), (ka, .inl (cI, 4, .inl fc)), (kb, .inl (cI, 4, .inl fl)), (kc, .inl (cI, 4, .inl fb)), (kd, .inl (cI, 4, .inl fs))]) 0 0 := by
  refine st_w (Qc := fun A => va_Qi (fun (r : Int32) (u : Unit) => r = co_w p1 sz em lt sp np fd lm) (fun (u : Unit) t => pos_w (dC, dI) A [(x0, .inr (0, [.int (nI lm), .ref pg, .ref a_cp, .ref b_cp, .ref pn, .ref gv, .ref sh, .int bg, .int lt, .int em, .int sp, .int fd])), (pg, .inr (3, [.ref oa, .ref na, .int sz])), (oa, .inl (cI, 100, .inl ops)), (na, .inl (cI, 100, .inl nums)), (pn, .inr (2, [.ref ka, .ref kb, .ref kc, .ref kd, .int (nI np)])), (ka, .inl (cI, 4, .inl fc)), (kb, .inl (cI, 4, .inl fl)), (kc, .inl (cI, 4, .inl fb)), (kd, .inl (cI, 4, .inl fs))] t) A) (by decide) (Nat.le_of_ble_eq_true rfl) ?_
  intro p e s m below meth c A ls hfx hK hA hP hD hS hl
  obtain ⟨hx, hb, hml, hown, htb, hr, hlocks, hin⟩ := hfx
  have hl : lv_has ls 2 [(0, .ref x0), (1, .int p1)] := hl
  refine lv_iload_n hx hb d_Gate_count_0 rfl (lv_at hl 1 rfl) ?_
  by_cases c_1 : p1 = 0
  · refine lv_tableIn (tgt := 44) hx hb d_Gate_count_1 (by rw [c_1]; decide) (by rw [c_1]; decide) (by rw [c_1]; rfl) (by decide) ?_
    refine lv_aload_n hx hb d_Gate_count_44 rfl (lv_at hl 0 rfl) ?_
    refine va_get (D := (dC, dI)) (ci := 0) (v := .ref pg) (C := R_Gate) (T := F_Gate) (N := 12) hx hb htb iw_Gate hown hK.1 hP 0 rfl rfl 1 (by decide) (htb _ tw_119) (fun _ h9 => h9) rfl d_Gate_count_45 ?_
    refine va_get (D := (dC, dI)) (ci := 3) (v := .int sz) (C := R_Prog) (T := F_Prog) (N := 3) hx hb htb iw_Prog hown hK.1 hP 1 rfl rfl 2 (by decide) (htb _ tw_52) (fun _ h9 => h9) rfl d_Gate_count_48 ?_
    exact rt_i (v := sz) () hx hb hr hlocks (show sz = co_w p1 sz em lt sp np fd lm from (by simp only [co_w, if_pos c_1, and_self])) (hP.sub (ws' := [(x0, .inr (0, [.int (nI lm), .ref pg, .ref a_cp, .ref b_cp, .ref pn, .ref gv, .ref sh, .int bg, .int lt, .int em, .int sp, .int fd])), (pg, .inr (3, [.ref oa, .ref na, .int sz])), (oa, .inl (cI, 100, .inl ops)), (na, .inl (cI, 100, .inl nums)), (pn, .inr (2, [.ref ka, .ref kb, .ref kc, .ref kd, .int (nI np)])), (ka, .inl (cI, 4, .inl fc)), (kb, .inl (cI, 4, .inl fl)), (kc, .inl (cI, 4, .inl fb)), (kd, .inl (cI, 4, .inl fs))]) [0, 1, 2, 3, 4, 5, 6, 7, 8] rfl) (hD.sub (ws' := [(x0, .inr (0, [.int (nI lm), .ref pg, .ref a_cp, .ref b_cp, .ref pn, .ref gv, .ref sh, .int bg, .int lt, .int em, .int sp, .int fd])), (pg, .inr (3, [.ref oa, .ref na, .int sz])), (oa, .inl (cI, 100, .inl ops)), (na, .inl (cI, 100, .inl nums)), (pn, .inr (2, [.ref ka, .ref kb, .ref kc, .ref kd, .int (nI np)])), (ka, .inl (cI, 4, .inl fc)), (kb, .inl (cI, 4, .inl fl)), (kc, .inl (cI, 4, .inl fb)), (kd, .inl (cI, 4, .inl fs))]) [0, 1, 2, 3, 4, 5, 6, 7, 8] (by decide) rfl) hS d_Gate_count_51
  by_cases c_2 : p1 = 1
  · refine lv_tableIn (tgt := 52) hx hb d_Gate_count_1 (by rw [c_2]; decide) (by rw [c_2]; decide) (by rw [c_2]; rfl) (by decide) ?_
    refine lv_aload_n hx hb d_Gate_count_52 rfl (lv_at hl 0 rfl) ?_
    refine va_get (D := (dC, dI)) (ci := 0) (v := .int em) (C := R_Gate) (T := F_Gate) (N := 12) hx hb htb iw_Gate hown hK.1 hP 0 rfl rfl 9 (by decide) (htb _ tw_127) (fun _ h9 => h9) rfl d_Gate_count_53 ?_
    exact rt_i (v := em) () hx hb hr hlocks (show em = co_w p1 sz em lt sp np fd lm from (by simp only [co_w, if_neg c_1, if_pos c_2, and_self])) (hP.sub (ws' := [(x0, .inr (0, [.int (nI lm), .ref pg, .ref a_cp, .ref b_cp, .ref pn, .ref gv, .ref sh, .int bg, .int lt, .int em, .int sp, .int fd])), (pg, .inr (3, [.ref oa, .ref na, .int sz])), (oa, .inl (cI, 100, .inl ops)), (na, .inl (cI, 100, .inl nums)), (pn, .inr (2, [.ref ka, .ref kb, .ref kc, .ref kd, .int (nI np)])), (ka, .inl (cI, 4, .inl fc)), (kb, .inl (cI, 4, .inl fl)), (kc, .inl (cI, 4, .inl fb)), (kd, .inl (cI, 4, .inl fs))]) [0, 1, 2, 3, 4, 5, 6, 7, 8] rfl) (hD.sub (ws' := [(x0, .inr (0, [.int (nI lm), .ref pg, .ref a_cp, .ref b_cp, .ref pn, .ref gv, .ref sh, .int bg, .int lt, .int em, .int sp, .int fd])), (pg, .inr (3, [.ref oa, .ref na, .int sz])), (oa, .inl (cI, 100, .inl ops)), (na, .inl (cI, 100, .inl nums)), (pn, .inr (2, [.ref ka, .ref kb, .ref kc, .ref kd, .int (nI np)])), (ka, .inl (cI, 4, .inl fc)), (kb, .inl (cI, 4, .inl fl)), (kc, .inl (cI, 4, .inl fb)), (kd, .inl (cI, 4, .inl fs))]) [0, 1, 2, 3, 4, 5, 6, 7, 8] (by decide) rfl) hS d_Gate_count_56
  by_cases c_3 : p1 = 2
  · refine lv_tableIn (tgt := 57) hx hb d_Gate_count_1 (by rw [c_3]; decide) (by rw [c_3]; decide) (by rw [c_3]; rfl) (by decide) ?_
    refine lv_aload_n hx hb d_Gate_count_57 rfl (lv_at hl 0 rfl) ?_
    refine va_get (D := (dC, dI)) (ci := 0) (v := .int lt) (C := R_Gate) (T := F_Gate) (N := 12) hx hb htb iw_Gate hown hK.1 hP 0 rfl rfl 8 (by decide) (htb _ tw_126) (fun _ h9 => h9) rfl d_Gate_count_58 ?_
    exact rt_i (v := lt) () hx hb hr hlocks (show lt = co_w p1 sz em lt sp np fd lm from (by simp only [co_w, if_neg c_1, if_neg c_2, if_pos c_3, and_self])) (hP.sub (ws' := [(x0, .inr (0, [.int (nI lm), .ref pg, .ref a_cp, .ref b_cp, .ref pn, .ref gv, .ref sh, .int bg, .int lt, .int em, .int sp, .int fd])), (pg, .inr (3, [.ref oa, .ref na, .int sz])), (oa, .inl (cI, 100, .inl ops)), (na, .inl (cI, 100, .inl nums)), (pn, .inr (2, [.ref ka, .ref kb, .ref kc, .ref kd, .int (nI np)])), (ka, .inl (cI, 4, .inl fc)), (kb, .inl (cI, 4, .inl fl)), (kc, .inl (cI, 4, .inl fb)), (kd, .inl (cI, 4, .inl fs))]) [0, 1, 2, 3, 4, 5, 6, 7, 8] rfl) (hD.sub (ws' := [(x0, .inr (0, [.int (nI lm), .ref pg, .ref a_cp, .ref b_cp, .ref pn, .ref gv, .ref sh, .int bg, .int lt, .int em, .int sp, .int fd])), (pg, .inr (3, [.ref oa, .ref na, .int sz])), (oa, .inl (cI, 100, .inl ops)), (na, .inl (cI, 100, .inl nums)), (pn, .inr (2, [.ref ka, .ref kb, .ref kc, .ref kd, .int (nI np)])), (ka, .inl (cI, 4, .inl fc)), (kb, .inl (cI, 4, .inl fl)), (kc, .inl (cI, 4, .inl fb)), (kd, .inl (cI, 4, .inl fs))]) [0, 1, 2, 3, 4, 5, 6, 7, 8] (by decide) rfl) hS d_Gate_count_61
  by_cases c_4 : p1 = 3
  · refine lv_tableIn (tgt := 62) hx hb d_Gate_count_1 (by rw [c_4]; decide) (by rw [c_4]; decide) (by rw [c_4]; rfl) (by decide) ?_
    refine lv_aload_n hx hb d_Gate_count_62 rfl (lv_at hl 0 rfl) ?_
    refine va_get (D := (dC, dI)) (ci := 0) (v := .int sp) (C := R_Gate) (T := F_Gate) (N := 12) hx hb htb iw_Gate hown hK.1 hP 0 rfl rfl 10 (by decide) (htb _ tw_128) (fun _ h9 => h9) rfl d_Gate_count_63 ?_
    exact rt_i (v := sp) () hx hb hr hlocks (show sp = co_w p1 sz em lt sp np fd lm from (by simp only [co_w, if_neg c_1, if_neg c_2, if_neg c_3, if_pos c_4, and_self])) (hP.sub (ws' := [(x0, .inr (0, [.int (nI lm), .ref pg, .ref a_cp, .ref b_cp, .ref pn, .ref gv, .ref sh, .int bg, .int lt, .int em, .int sp, .int fd])), (pg, .inr (3, [.ref oa, .ref na, .int sz])), (oa, .inl (cI, 100, .inl ops)), (na, .inl (cI, 100, .inl nums)), (pn, .inr (2, [.ref ka, .ref kb, .ref kc, .ref kd, .int (nI np)])), (ka, .inl (cI, 4, .inl fc)), (kb, .inl (cI, 4, .inl fl)), (kc, .inl (cI, 4, .inl fb)), (kd, .inl (cI, 4, .inl fs))]) [0, 1, 2, 3, 4, 5, 6, 7, 8] rfl) (hD.sub (ws' := [(x0, .inr (0, [.int (nI lm), .ref pg, .ref a_cp, .ref b_cp, .ref pn, .ref gv, .ref sh, .int bg, .int lt, .int em, .int sp, .int fd])), (pg, .inr (3, [.ref oa, .ref na, .int sz])), (oa, .inl (cI, 100, .inl ops)), (na, .inl (cI, 100, .inl nums)), (pn, .inr (2, [.ref ka, .ref kb, .ref kc, .ref kd, .int (nI np)])), (ka, .inl (cI, 4, .inl fc)), (kb, .inl (cI, 4, .inl fl)), (kc, .inl (cI, 4, .inl fb)), (kd, .inl (cI, 4, .inl fs))]) [0, 1, 2, 3, 4, 5, 6, 7, 8] (by decide) rfl) hS d_Gate_count_66
  by_cases c_5 : p1 = 4
  · refine lv_tableIn (tgt := 67) hx hb d_Gate_count_1 (by rw [c_5]; decide) (by rw [c_5]; decide) (by rw [c_5]; rfl) (by decide) ?_
    refine lv_aload_n hx hb d_Gate_count_67 rfl (lv_at hl 0 rfl) ?_
    refine va_get (D := (dC, dI)) (ci := 0) (v := .ref pn) (C := R_Gate) (T := F_Gate) (N := 12) hx hb htb iw_Gate hown hK.1 hP 0 rfl rfl 4 (by decide) (htb _ tw_122) (fun _ h9 => h9) rfl d_Gate_count_68 ?_
    refine va_get (D := (dC, dI)) (ci := 2) (v := .int (nI np)) (C := R_Plan) (T := F_Plan) (N := 5) hx hb htb iw_Plan hown hK.1 hP 4 rfl rfl 4 (by decide) (htb _ tw_100) (fun _ h9 => h9) rfl d_Gate_count_71 ?_
    exact rt_i (v := nI np) () hx hb hr hlocks (show (nI np) = co_w p1 sz em lt sp np fd lm from (by simp only [co_w, if_neg c_1, if_neg c_2, if_neg c_3, if_neg c_4, if_pos c_5, and_self])) (hP.sub (ws' := [(x0, .inr (0, [.int (nI lm), .ref pg, .ref a_cp, .ref b_cp, .ref pn, .ref gv, .ref sh, .int bg, .int lt, .int em, .int sp, .int fd])), (pg, .inr (3, [.ref oa, .ref na, .int sz])), (oa, .inl (cI, 100, .inl ops)), (na, .inl (cI, 100, .inl nums)), (pn, .inr (2, [.ref ka, .ref kb, .ref kc, .ref kd, .int (nI np)])), (ka, .inl (cI, 4, .inl fc)), (kb, .inl (cI, 4, .inl fl)), (kc, .inl (cI, 4, .inl fb)), (kd, .inl (cI, 4, .inl fs))]) [0, 1, 2, 3, 4, 5, 6, 7, 8] rfl) (hD.sub (ws' := [(x0, .inr (0, [.int (nI lm), .ref pg, .ref a_cp, .ref b_cp, .ref pn, .ref gv, .ref sh, .int bg, .int lt, .int em, .int sp, .int fd])), (pg, .inr (3, [.ref oa, .ref na, .int sz])), (oa, .inl (cI, 100, .inl ops)), (na, .inl (cI, 100, .inl nums)), (pn, .inr (2, [.ref ka, .ref kb, .ref kc, .ref kd, .int (nI np)])), (ka, .inl (cI, 4, .inl fc)), (kb, .inl (cI, 4, .inl fl)), (kc, .inl (cI, 4, .inl fb)), (kd, .inl (cI, 4, .inl fs))]) [0, 1, 2, 3, 4, 5, 6, 7, 8] (by decide) rfl) hS d_Gate_count_74
  by_cases c_6 : p1 = 5
  · refine lv_tableIn (tgt := 75) hx hb d_Gate_count_1 (by rw [c_6]; decide) (by rw [c_6]; decide) (by rw [c_6]; rfl) (by decide) ?_
    refine lv_aload_n hx hb d_Gate_count_75 rfl (lv_at hl 0 rfl) ?_
    refine va_get (D := (dC, dI)) (ci := 0) (v := .int fd) (C := R_Gate) (T := F_Gate) (N := 12) hx hb htb iw_Gate hown hK.1 hP 0 rfl rfl 11 (by decide) (htb _ tw_129) (fun _ h9 => h9) rfl d_Gate_count_76 ?_
    exact rt_i (v := fd) () hx hb hr hlocks (show fd = co_w p1 sz em lt sp np fd lm from (by simp only [co_w, if_neg c_1, if_neg c_2, if_neg c_3, if_neg c_4, if_neg c_5, if_pos c_6, and_self])) (hP.sub (ws' := [(x0, .inr (0, [.int (nI lm), .ref pg, .ref a_cp, .ref b_cp, .ref pn, .ref gv, .ref sh, .int bg, .int lt, .int em, .int sp, .int fd])), (pg, .inr (3, [.ref oa, .ref na, .int sz])), (oa, .inl (cI, 100, .inl ops)), (na, .inl (cI, 100, .inl nums)), (pn, .inr (2, [.ref ka, .ref kb, .ref kc, .ref kd, .int (nI np)])), (ka, .inl (cI, 4, .inl fc)), (kb, .inl (cI, 4, .inl fl)), (kc, .inl (cI, 4, .inl fb)), (kd, .inl (cI, 4, .inl fs))]) [0, 1, 2, 3, 4, 5, 6, 7, 8] rfl) (hD.sub (ws' := [(x0, .inr (0, [.int (nI lm), .ref pg, .ref a_cp, .ref b_cp, .ref pn, .ref gv, .ref sh, .int bg, .int lt, .int em, .int sp, .int fd])), (pg, .inr (3, [.ref oa, .ref na, .int sz])), (oa, .inl (cI, 100, .inl ops)), (na, .inl (cI, 100, .inl nums)), (pn, .inr (2, [.ref ka, .ref kb, .ref kc, .ref kd, .int (nI np)])), (ka, .inl (cI, 4, .inl fc)), (kb, .inl (cI, 4, .inl fl)), (kc, .inl (cI, 4, .inl fb)), (kd, .inl (cI, 4, .inl fs))]) [0, 1, 2, 3, 4, 5, 6, 7, 8] (by decide) rfl) hS d_Gate_count_79
  by_cases c_7 : p1 = 6
  · refine lv_tableIn (tgt := 80) hx hb d_Gate_count_1 (by rw [c_7]; decide) (by rw [c_7]; decide) (by rw [c_7]; rfl) (by decide) ?_
    refine lv_aload_n hx hb d_Gate_count_80 rfl (lv_at hl 0 rfl) ?_
    refine va_get (D := (dC, dI)) (ci := 0) (v := .int (nI lm)) (C := R_Gate) (T := F_Gate) (N := 12) hx hb htb iw_Gate hown hK.1 hP 0 rfl rfl 0 (by decide) (htb _ tw_118) (fun _ h9 => h9) rfl d_Gate_count_81 ?_
    exact rt_i (v := nI lm) () hx hb hr hlocks (show (nI lm) = co_w p1 sz em lt sp np fd lm from (by simp only [co_w, if_neg c_1, if_neg c_2, if_neg c_3, if_neg c_4, if_neg c_5, if_neg c_6, if_pos c_7, and_self])) (hP.sub (ws' := [(x0, .inr (0, [.int (nI lm), .ref pg, .ref a_cp, .ref b_cp, .ref pn, .ref gv, .ref sh, .int bg, .int lt, .int em, .int sp, .int fd])), (pg, .inr (3, [.ref oa, .ref na, .int sz])), (oa, .inl (cI, 100, .inl ops)), (na, .inl (cI, 100, .inl nums)), (pn, .inr (2, [.ref ka, .ref kb, .ref kc, .ref kd, .int (nI np)])), (ka, .inl (cI, 4, .inl fc)), (kb, .inl (cI, 4, .inl fl)), (kc, .inl (cI, 4, .inl fb)), (kd, .inl (cI, 4, .inl fs))]) [0, 1, 2, 3, 4, 5, 6, 7, 8] rfl) (hD.sub (ws' := [(x0, .inr (0, [.int (nI lm), .ref pg, .ref a_cp, .ref b_cp, .ref pn, .ref gv, .ref sh, .int bg, .int lt, .int em, .int sp, .int fd])), (pg, .inr (3, [.ref oa, .ref na, .int sz])), (oa, .inl (cI, 100, .inl ops)), (na, .inl (cI, 100, .inl nums)), (pn, .inr (2, [.ref ka, .ref kb, .ref kc, .ref kd, .int (nI np)])), (ka, .inl (cI, 4, .inl fc)), (kb, .inl (cI, 4, .inl fl)), (kc, .inl (cI, 4, .inl fb)), (kd, .inl (cI, 4, .inl fs))]) [0, 1, 2, 3, 4, 5, 6, 7, 8] (by decide) rfl) hS d_Gate_count_84
  refine lv_tableE (tgt := 85) hx hb d_Gate_count_1 (by decide) (fun j hj he => by have q_0 := lv_neT c_1 (a := 0) (by decide); have q_1 := lv_neT c_2 (a := 1) (by decide); have q_2 := lv_neT c_3 (a := 2) (by decide); have q_3 := lv_neT c_4 (a := 3) (by decide); have q_4 := lv_neT c_5 (a := 4) (by decide); have q_5 := lv_neT c_6 (a := 5) (by decide); have q_6 := lv_neT c_7 (a := 6) (by decide); rcases (show j = 0 ∨ j = 1 ∨ j = 2 ∨ j = 3 ∨ j = 4 ∨ j = 5 ∨ j = 6 by omega) with rfl | rfl | rfl | rfl | rfl | rfl | rfl <;> first | rfl | (exfalso; omega)) ?_
  refine lv_iconst (v := (-1)) hx hb d_Gate_count_85 (by decide) ?_
  exact rt_i (v := (-1)) () hx hb hr hlocks (show ((-1) : Int32) = co_w p1 sz em lt sp np fd lm from (by simp only [co_w, if_neg c_1, if_neg c_2, if_neg c_3, if_neg c_4, if_neg c_5, if_neg c_6, if_neg c_7, and_self])) (hP.sub (ws' := [(x0, .inr (0, [.int (nI lm), .ref pg, .ref a_cp, .ref b_cp, .ref pn, .ref gv, .ref sh, .int bg, .int lt, .int em, .int sp, .int fd])), (pg, .inr (3, [.ref oa, .ref na, .int sz])), (oa, .inl (cI, 100, .inl ops)), (na, .inl (cI, 100, .inl nums)), (pn, .inr (2, [.ref ka, .ref kb, .ref kc, .ref kd, .int (nI np)])), (ka, .inl (cI, 4, .inl fc)), (kb, .inl (cI, 4, .inl fl)), (kc, .inl (cI, 4, .inl fb)), (kd, .inl (cI, 4, .inl fs))]) [0, 1, 2, 3, 4, 5, 6, 7, 8] rfl) (hD.sub (ws' := [(x0, .inr (0, [.int (nI lm), .ref pg, .ref a_cp, .ref b_cp, .ref pn, .ref gv, .ref sh, .int bg, .int lt, .int em, .int sp, .int fd])), (pg, .inr (3, [.ref oa, .ref na, .int sz])), (oa, .inl (cI, 100, .inl ops)), (na, .inl (cI, 100, .inl nums)), (pn, .inr (2, [.ref ka, .ref kb, .ref kc, .ref kd, .int (nI np)])), (ka, .inl (cI, 4, .inl fc)), (kb, .inl (cI, 4, .inl fl)), (kc, .inl (cI, 4, .inl fb)), (kd, .inl (cI, 4, .inl fs))]) [0, 1, 2, 3, 4, 5, 6, 7, 8] (by decide) rfl) hS d_Gate_count_86
end
section
def li_w (x : Int32) : Nat := (max 1 (min 5000 x.toInt)).toNat
theorem li_le (x : Int32) : li_w x ≤ 5000 := by unfold li_w; omega
theorem li_ge (x : Int32) : 1 ≤ li_w x := by unfold li_w; omega
theorem li_I {x y : Int32} (h : y.toInt = max 1 (min 5000 x.toInt)) : y = nI (li_w x) := by
  apply Int32.toInt_inj.mp
  rw [h, nI_toInt (by have := li_le x; omega)]
  unfold li_w
  omega
theorem li_e (x : Int32) : (if (1 : Int32) < (if x < 5000 then x else 5000) then (if x < 5000 then x else 5000) else 1) = nI (li_w x) := by
  apply li_I
  have e1 : (1 : Int32).toInt = 1 := by decide
  have e5 : (5000 : Int32).toInt = 5000 := by decide
  by_cases h1 : x < 5000
  · have h1' := Int32.lt_iff_toInt_lt.mp h1
    rw [if_pos h1]
    by_cases h2 : 1 < x
    · have h2' := Int32.lt_iff_toInt_lt.mp h2
      rw [if_pos h2]; omega
    · have h2' := Int32.le_iff_toInt_le.mp (Int32.not_lt.mp h2)
      rw [if_neg h2]; omega
  · have h1' := Int32.le_iff_toInt_le.mp (Int32.not_lt.mp h1)
    rw [if_neg h1]
    rw [if_pos (by decide)]; omega
theorem li_r (x : Int32) : (if x < 1 then (1 : Int32) else if 5000 < x then 5000 else x) = nI (li_w x) := by
  apply li_I
  have e1 : (1 : Int32).toInt = 1 := by decide
  have e5 : (5000 : Int32).toInt = 5000 := by decide
  by_cases h1 : x < 1
  · have h1' := Int32.lt_iff_toInt_lt.mp h1
    rw [if_pos h1]; omega
  · have h1' := Int32.le_iff_toInt_le.mp (Int32.not_lt.mp h1)
    rw [if_neg h1]
    by_cases h2 : 5000 < x
    · have h2' := Int32.lt_iff_toInt_lt.mp h2
      rw [if_pos h2]; omega
    · have h2' := Int32.le_iff_toInt_le.mp (Int32.not_lt.mp h2)
      rw [if_neg h2]; omega
end
section
theorem tw_46 : (Cond.methodLink R_Prog 3 objectInit) ∈ TB_w := List.mem_filter.mpr ⟨List.mem_of_getElem? (i := 46) (by decide +kernel), by decide +kernel⟩
theorem tw_39 : (Cond.instanceMethod objectInit) ∈ TB_w := List.mem_filter.mpr ⟨List.mem_of_getElem? (i := 39) (by decide +kernel), by decide +kernel⟩
theorem tw_40 : (Cond.code objectInit ⟨#[0xb1]⟩ 1 none) ∈ TB_w := List.mem_filter.mpr ⟨List.mem_of_getElem? (i := 40) rfl, by decide +kernel⟩
theorem tw_61 : (Cond.arrayClass .int) ∈ TB_w := List.mem_filter.mpr ⟨List.mem_of_getElem? (i := 61) (by decide +kernel), by decide +kernel⟩
theorem tw_67 : (Cond.methodLink R_Copy 3 objectInit) ∈ TB_w := List.mem_filter.mpr ⟨List.mem_of_getElem? (i := 67) (by decide +kernel), by decide +kernel⟩
theorem tw_83 : (Cond.arrayClass .long) ∈ TB_w := List.mem_filter.mpr ⟨List.mem_of_getElem? (i := 83) (by decide +kernel), by decide +kernel⟩
theorem tw_90 : (Cond.methodLink R_Plan 3 objectInit) ∈ TB_w := List.mem_filter.mpr ⟨List.mem_of_getElem? (i := 90) (by decide +kernel), by decide +kernel⟩
theorem tw_38 : (Cond.methodLink R_Gate 1 objectInit) ∈ TB_w := List.mem_filter.mpr ⟨List.mem_of_getElem? (i := 38) (by decide +kernel), by decide +kernel⟩
theorem tw_41 : (Cond.classLink R_Gate 7 R_Prog) ∈ TB_w := List.mem_filter.mpr ⟨List.mem_of_getElem? (i := 41) (by decide +kernel), by decide +kernel⟩
theorem tw_42 : (Cond.instantiable R_Prog 3) ∈ TB_w := List.mem_filter.mpr ⟨List.mem_of_getElem? (i := 42) (by decide +kernel), by decide +kernel⟩
theorem tw_21 : (Cond.initialized R_Prog) ∈ TB_w := List.mem_filter.mpr ⟨List.mem_of_getElem? (i := 21) (by decide +kernel), by decide +kernel⟩
theorem tw_45 : (Cond.code y_Prog_init b_Prog_init 1 none) ∈ TB_w := List.mem_filter.mpr ⟨List.mem_of_getElem? (i := 45) rfl, by decide +kernel⟩
theorem tw_44 : (Cond.instanceMethod y_Prog_init) ∈ TB_w := List.mem_filter.mpr ⟨List.mem_of_getElem? (i := 44) (by decide +kernel), by decide +kernel⟩
theorem tw_62 : (Cond.classLink R_Gate 16 R_Copy) ∈ TB_w := List.mem_filter.mpr ⟨List.mem_of_getElem? (i := 62) (by decide +kernel), by decide +kernel⟩
theorem tw_63 : (Cond.instantiable R_Copy 4) ∈ TB_w := List.mem_filter.mpr ⟨List.mem_of_getElem? (i := 63) (by decide +kernel), by decide +kernel⟩
theorem tw_66 : (Cond.code y_Copy_init b_Copy_init 3 none) ∈ TB_w := List.mem_filter.mpr ⟨List.mem_of_getElem? (i := 66) rfl, by decide +kernel⟩
theorem tw_64 : (Cond.methodLink R_Gate 18 y_Copy_init) ∈ TB_w := List.mem_filter.mpr ⟨List.mem_of_getElem? (i := 64) (by decide +kernel), by decide +kernel⟩
theorem tw_65 : (Cond.instanceMethod y_Copy_init) ∈ TB_w := List.mem_filter.mpr ⟨List.mem_of_getElem? (i := 65) (by decide +kernel), by decide +kernel⟩
theorem tw_85 : (Cond.classLink R_Gate 30 R_Plan) ∈ TB_w := List.mem_filter.mpr ⟨List.mem_of_getElem? (i := 85) (by decide +kernel), by decide +kernel⟩
theorem tw_86 : (Cond.instantiable R_Plan 5) ∈ TB_w := List.mem_filter.mpr ⟨List.mem_of_getElem? (i := 86) (by decide +kernel), by decide +kernel⟩
theorem tw_89 : (Cond.code y_Plan_init b_Plan_init 1 none) ∈ TB_w := List.mem_filter.mpr ⟨List.mem_of_getElem? (i := 89) rfl, by decide +kernel⟩
theorem tw_88 : (Cond.instanceMethod y_Plan_init) ∈ TB_w := List.mem_filter.mpr ⟨List.mem_of_getElem? (i := 88) (by decide +kernel), by decide +kernel⟩
theorem tw_112 : (Cond.methodLink R_Gate 61 Lib.Math.min.name) ∈ TB_w := List.mem_filter.mpr ⟨List.mem_of_getElem? (i := 112) (by decide +kernel), by decide +kernel⟩
theorem tw_113 : (Cond.static Lib.Math.min.name) ∈ TB_w := List.mem_filter.mpr ⟨List.mem_of_getElem? (i := 113) (by decide +kernel), by decide +kernel⟩
theorem tw_24 : (Cond.initialized "java/lang/Math") ∈ TB_w := List.mem_filter.mpr ⟨List.mem_of_getElem? (i := 24) (by decide +kernel), by decide +kernel⟩
theorem tw_114 : (Cond.code Lib.Math.min.name Lib.Math.min.code 2 (some .int)) ∈ TB_w := List.mem_filter.mpr ⟨List.mem_of_getElem? (i := 114) rfl, by decide +kernel⟩
theorem tw_115 : (Cond.methodLink R_Gate 67 Lib.Math.max.name) ∈ TB_w := List.mem_filter.mpr ⟨List.mem_of_getElem? (i := 115) (by decide +kernel), by decide +kernel⟩
theorem tw_116 : (Cond.static Lib.Math.max.name) ∈ TB_w := List.mem_filter.mpr ⟨List.mem_of_getElem? (i := 116) (by decide +kernel), by decide +kernel⟩
theorem tw_117 : (Cond.code Lib.Math.max.name Lib.Math.max.code 2 (some .int)) ∈ TB_w := List.mem_filter.mpr ⟨List.mem_of_getElem? (i := 117) rfl, by decide +kernel⟩
set_option maxHeartbeats 4000000 in
set_option maxRecDepth 100000 in
theorem c_Prog_init (l : Launch) (dC : Nat → ClassId) (dI : Nat → Nat → Nat) (cI cL : ClassId) (hs0 : Nat) (pg : Nat)  : ct_v l y_Prog_init b_Prog_init 1 none ({ frames := 1, cells := 2, slots := 200, locals := 40 }) (dC, dI) cI cL [.ref pg] [(pg, .inr (3, [.null, .null, .int 0]))] hs0 (fun (u : Nat × Nat) => True) (fun u => [(pg, .inr (3, [.ref u.1, .ref u.2, .int 0])), (u.1, .inl (cI, 100, .inl (fun _ => 0))), (u.2, .inl (cI, 100, .inl (fun _ => 0)))]) 2 200 := by
  refine st_w (Qc := fun A => va_Qv (fun (u : Nat × Nat) => True) (fun (u : Nat × Nat) t => pos_w (dC, dI) A [(pg, .inr (3, [.ref u.1, .ref u.2, .int 0])), (u.1, .inl (cI, 100, .inl (fun _ => 0))), (u.2, .inl (cI, 100, .inl (fun _ => 0)))] t) A) (by decide) (Nat.le_of_ble_eq_true rfl) ?_
  intro p e s m below meth c A ls hfx hK hA hP hD hS hl
  obtain ⟨hx, hb, hml, hown, htb, hr, hlocks, hin⟩ := hfx
  have hl : lv_has ls 1 [(0, .ref pg)] := hl
  refine lv_aload_n hx hb d_Prog_init_0 rfl (lv_at hl 0 rfl) ?_
  refine W.objInit hx hb hown (htb _ tw_46) (htb _ tw_39) (htb _ tw_40) rfl (by rw [hml]; exact hl.1) rfl d_Prog_init_1 (Nat.le_of_ble_eq_true rfl) (Nat.le_of_ble_eq_true rfl) ?_
  refine W.eq (g2 := F0 m 4 ls []) rfl ?_
  refine lv_aload_n hx hb d_Prog_init_4 rfl (lv_at hl 0 rfl) ?_
  refine lv_bipush (v := 100) hx hb d_Prog_init_5 (by decide) ?_
  refine va_newa (atype := .int) (N' := 100) (a0 := (100, .inl (fun _ => 0))) (ty := .int) hx hb (htb _ tw_61) rfl hK.1 hP hD hS hA (fun _ => rfl) (by decide) rfl (by decide) (Nat.le_of_ble_eq_true rfl) (Nat.le_of_ble_eq_true rfl) d_Prog_init_7 (fun q_1 cA_2 H hK9 hP hD hS => ?_)
  obtain rfl := ka_i hK9
  have hP : va_P (dC, dI) classes [(pg, .inr (3, [.null, .null, .int 0])), (q_1, .inl (cI, 100, .inl (fun _ => 0)))] H := hP
  have hD : va_D A [(pg, .inr (3, [.null, .null, .int 0])), (q_1, .inl (cI, 100, .inl (fun _ => 0)))] := hD
  refine W.widen (k := 1) (n := 100) (Nat.le_of_ble_eq_true rfl) (Nat.le_of_ble_eq_true rfl) ?_
  refine va_putF (D := (dC, dI)) (ci := 3) (v := .ref q_1) (ty := (.array .int)) (C := R_Prog) (T := F_Prog) (N := 3) hx hb htb iw_Prog t_Prog t_Prog_ok n_Prog hown hK.1 hP hD hS 0 rfl rfl 0 (by decide) (htb _ tw_47) (fun _ h9 => h9) rfl hin rfl (by decide +kernel) rfl rfl (Nat.le_of_ble_eq_true rfl) d_Prog_init_9 (fun H locs hP hD hS => ?_)
  have hP : va_P (dC, dI) classes [(pg, .inr (3, [.ref q_1, .null, .int 0])), (q_1, .inl (cI, 100, .inl (fun _ => 0)))] H := hP
  have hD : va_D A [(pg, .inr (3, [.ref q_1, .null, .int 0])), (q_1, .inl (cI, 100, .inl (fun _ => 0)))] := hD
  refine lv_aload_n hx hb d_Prog_init_12 rfl (lv_at hl 0 rfl) ?_
  refine lv_bipush (v := 100) hx hb d_Prog_init_13 (by decide) ?_
  refine va_newa (atype := .int) (N' := 100) (a0 := (100, .inl (fun _ => 0))) (ty := .int) hx hb (htb _ tw_61) rfl hK.1 hP hD hS hA (fun _ => rfl) (by decide) rfl (by decide) (Nat.le_of_ble_eq_true rfl) (Nat.le_of_ble_eq_true rfl) d_Prog_init_15 (fun q_3 cA_4 H hK9 hP hD hS => ?_)
  obtain rfl := ka_i hK9
  have hP : va_P (dC, dI) classes [(pg, .inr (3, [.ref q_1, .null, .int 0])), (q_1, .inl (cI, 100, .inl (fun _ => 0))), (q_3, .inl (cI, 100, .inl (fun _ => 0)))] H := hP
  have hD : va_D A [(pg, .inr (3, [.ref q_1, .null, .int 0])), (q_1, .inl (cI, 100, .inl (fun _ => 0))), (q_3, .inl (cI, 100, .inl (fun _ => 0)))] := hD
  refine W.widen (k := 2) (n := 200) (Nat.le_of_ble_eq_true rfl) (Nat.le_of_ble_eq_true rfl) ?_
  refine va_putF (D := (dC, dI)) (ci := 3) (v := .ref q_3) (ty := (.array .int)) (C := R_Prog) (T := F_Prog) (N := 3) hx hb htb iw_Prog t_Prog t_Prog_ok n_Prog hown hK.1 hP hD hS 0 rfl rfl 1 (by decide) (htb _ tw_49) (fun _ h9 => h9) rfl hin rfl (by decide +kernel) rfl rfl (Nat.le_of_ble_eq_true rfl) d_Prog_init_17 (fun H locs hP hD hS => ?_)
  have hP : va_P (dC, dI) classes [(pg, .inr (3, [.ref q_1, .ref q_3, .int 0])), (q_1, .inl (cI, 100, .inl (fun _ => 0))), (q_3, .inl (cI, 100, .inl (fun _ => 0)))] H := hP
  have hD : va_D A [(pg, .inr (3, [.ref q_1, .ref q_3, .int 0])), (q_1, .inl (cI, 100, .inl (fun _ => 0))), (q_3, .inl (cI, 100, .inl (fun _ => 0)))] := hD
  refine lv_aload_n hx hb d_Prog_init_20 rfl (lv_at hl 0 rfl) ?_
  refine lv_iconst (v := 0) hx hb d_Prog_init_21 (by decide) ?_
  refine va_put (D := (dC, dI)) (ci := 3) (v := .int 0) (ty := .int) (C := R_Prog) (T := F_Prog) (N := 3) hx hb htb iw_Prog t_Prog t_Prog_ok n_Prog hown hK.1 hP hD hS 0 rfl rfl 2 (by decide) (htb _ tw_51) (fun _ h9 => h9) rfl (by decide +kernel) rfl rfl (Nat.le_of_ble_eq_true rfl) d_Prog_init_22 (fun H locs hP hD hS => ?_)
  have hP : va_P (dC, dI) classes [(pg, .inr (3, [.ref q_1, .ref q_3, .int 0])), (q_1, .inl (cI, 100, .inl (fun _ => 0))), (q_3, .inl (cI, 100, .inl (fun _ => 0)))] H := hP
  have hD : va_D A [(pg, .inr (3, [.ref q_1, .ref q_3, .int 0])), (q_1, .inl (cI, 100, .inl (fun _ => 0))), (q_3, .inl (cI, 100, .inl (fun _ => 0)))] := hD
  exact rt_v (q_1, q_3) hx hb hr hlocks (show True from trivial) (hP.sub (ws' := [(pg, .inr (3, [.ref q_1, .ref q_3, .int 0])), (q_1, .inl (cI, 100, .inl (fun _ => 0))), (q_3, .inl (cI, 100, .inl (fun _ => 0)))]) [0, 1, 2] rfl) (hD.sub (ws' := [(pg, .inr (3, [.ref q_1, .ref q_3, .int 0])), (q_1, .inl (cI, 100, .inl (fun _ => 0))), (q_3, .inl (cI, 100, .inl (fun _ => 0)))]) [0, 1, 2] (by decide) rfl) hS d_Prog_init_25

set_option maxHeartbeats 4000000 in
set_option maxRecDepth 100000 in
theorem c_Copy_init (l : Launch) (dC : Nat → ClassId) (dI : Nat → Nat → Nat) (cI cL : ClassId) (hs0 : Nat) (cp : Nat) (fac : Int64)  : ct_v l y_Copy_init b_Copy_init 3 none ({ frames := 1, cells := 2, slots := 22, locals := 40 }) (dC, dI) cI cL [.ref cp, .long fac] [(cp, .inr (1, [.long 0, .null, .null, .int 0]))] hs0 (fun (u : Nat × Nat) => True) (fun u => [(cp, .inr (1, [.long fac, .ref u.1, .ref u.2, .int 0])), (u.1, .inl (cL, 18, .inr (.inl (fun _ => 0)))), (u.2, .inl (cL, 4, .inr (.inl (fun _ => 0))))]) 2 22 := by
  refine st_w (Qc := fun A => va_Qv (fun (u : Nat × Nat) => True) (fun (u : Nat × Nat) t => pos_w (dC, dI) A [(cp, .inr (1, [.long fac, .ref u.1, .ref u.2, .int 0])), (u.1, .inl (cL, 18, .inr (.inl (fun _ => 0)))), (u.2, .inl (cL, 4, .inr (.inl (fun _ => 0))))] t) A) (by decide) (Nat.le_of_ble_eq_true rfl) ?_
  intro p e s m below meth c A ls hfx hK hA hP hD hS hl
  obtain ⟨hx, hb, hml, hown, htb, hr, hlocks, hin⟩ := hfx
  have hl : lv_has ls 3 [(0, .ref cp), (1, .long fac)] := hl
  refine lv_aload_n hx hb d_Copy_init_0 rfl (lv_at hl 0 rfl) ?_
  refine W.objInit hx hb hown (htb _ tw_67) (htb _ tw_39) (htb _ tw_40) rfl (by rw [hml]; exact hl.1) rfl d_Copy_init_1 (Nat.le_of_ble_eq_true rfl) (Nat.le_of_ble_eq_true rfl) ?_
  refine W.eq (g2 := F0 m 4 ls []) rfl ?_
  refine lv_aload_n hx hb d_Copy_init_4 rfl (lv_at hl 0 rfl) ?_
  refine lv_bipush (v := 18) hx hb d_Copy_init_5 (by decide) ?_
  refine va_newa (atype := .long) (N' := 18) (a0 := (18, .inr (.inl (fun _ => 0)))) (ty := .long) hx hb (htb _ tw_83) rfl hK.1 hP hD hS hA (fun _ => rfl) (by decide) rfl (by decide) (Nat.le_of_ble_eq_true rfl) (Nat.le_of_ble_eq_true rfl) d_Copy_init_7 (fun q_1 cA_2 H hK9 hP hD hS => ?_)
  obtain rfl := ka_l hK9
  have hP : va_P (dC, dI) classes [(cp, .inr (1, [.long 0, .null, .null, .int 0])), (q_1, .inl (cL, 18, .inr (.inl (fun _ => 0))))] H := hP
  have hD : va_D A [(cp, .inr (1, [.long 0, .null, .null, .int 0])), (q_1, .inl (cL, 18, .inr (.inl (fun _ => 0))))] := hD
  refine W.widen (k := 1) (n := 18) (Nat.le_of_ble_eq_true rfl) (Nat.le_of_ble_eq_true rfl) ?_
  refine va_putF (D := (dC, dI)) (ci := 1) (v := .ref q_1) (ty := (.array .long)) (C := R_Copy) (T := F_Copy) (N := 4) hx hb htb iw_Copy t_Copy t_Copy_ok n_Copy hown hK.1 hP hD hS 0 rfl rfl 1 (by decide) (htb _ tw_69) (fun _ h9 => h9) rfl hin rfl (by decide +kernel) rfl rfl (Nat.le_of_ble_eq_true rfl) d_Copy_init_9 (fun H locs hP hD hS => ?_)
  have hP : va_P (dC, dI) classes [(cp, .inr (1, [.long 0, .ref q_1, .null, .int 0])), (q_1, .inl (cL, 18, .inr (.inl (fun _ => 0))))] H := hP
  have hD : va_D A [(cp, .inr (1, [.long 0, .ref q_1, .null, .int 0])), (q_1, .inl (cL, 18, .inr (.inl (fun _ => 0))))] := hD
  refine lv_aload_n hx hb d_Copy_init_12 rfl (lv_at hl 0 rfl) ?_
  refine lv_iconst (v := 4) hx hb d_Copy_init_13 (by decide) ?_
  refine va_newa (atype := .long) (N' := 4) (a0 := (4, .inr (.inl (fun _ => 0)))) (ty := .long) hx hb (htb _ tw_83) rfl hK.1 hP hD hS hA (fun _ => rfl) (by decide) rfl (by decide) (Nat.le_of_ble_eq_true rfl) (Nat.le_of_ble_eq_true rfl) d_Copy_init_14 (fun q_3 cA_4 H hK9 hP hD hS => ?_)
  obtain rfl := ka_l hK9
  have hP : va_P (dC, dI) classes [(cp, .inr (1, [.long 0, .ref q_1, .null, .int 0])), (q_1, .inl (cL, 18, .inr (.inl (fun _ => 0)))), (q_3, .inl (cL, 4, .inr (.inl (fun _ => 0))))] H := hP
  have hD : va_D A [(cp, .inr (1, [.long 0, .ref q_1, .null, .int 0])), (q_1, .inl (cL, 18, .inr (.inl (fun _ => 0)))), (q_3, .inl (cL, 4, .inr (.inl (fun _ => 0))))] := hD
  refine W.widen (k := 2) (n := 22) (Nat.le_of_ble_eq_true rfl) (Nat.le_of_ble_eq_true rfl) ?_
  refine va_putF (D := (dC, dI)) (ci := 1) (v := .ref q_3) (ty := (.array .long)) (C := R_Copy) (T := F_Copy) (N := 4) hx hb htb iw_Copy t_Copy t_Copy_ok n_Copy hown hK.1 hP hD hS 0 rfl rfl 2 (by decide) (htb _ tw_71) (fun _ h9 => h9) rfl hin rfl (by decide +kernel) rfl rfl (Nat.le_of_ble_eq_true rfl) d_Copy_init_16 (fun H locs hP hD hS => ?_)
  have hP : va_P (dC, dI) classes [(cp, .inr (1, [.long 0, .ref q_1, .ref q_3, .int 0])), (q_1, .inl (cL, 18, .inr (.inl (fun _ => 0)))), (q_3, .inl (cL, 4, .inr (.inl (fun _ => 0))))] H := hP
  have hD : va_D A [(cp, .inr (1, [.long 0, .ref q_1, .ref q_3, .int 0])), (q_1, .inl (cL, 18, .inr (.inl (fun _ => 0)))), (q_3, .inl (cL, 4, .inr (.inl (fun _ => 0))))] := hD
  refine lv_aload_n hx hb d_Copy_init_19 rfl (lv_at hl 0 rfl) ?_
  refine lv_iconst (v := 0) hx hb d_Copy_init_20 (by decide) ?_
  refine va_put (D := (dC, dI)) (ci := 1) (v := .int 0) (ty := .int) (C := R_Copy) (T := F_Copy) (N := 4) hx hb htb iw_Copy t_Copy t_Copy_ok n_Copy hown hK.1 hP hD hS 0 rfl rfl 3 (by decide) (htb _ tw_73) (fun _ h9 => h9) rfl (by decide +kernel) rfl rfl (Nat.le_of_ble_eq_true rfl) d_Copy_init_21 (fun H locs hP hD hS => ?_)
  have hP : va_P (dC, dI) classes [(cp, .inr (1, [.long 0, .ref q_1, .ref q_3, .int 0])), (q_1, .inl (cL, 18, .inr (.inl (fun _ => 0)))), (q_3, .inl (cL, 4, .inr (.inl (fun _ => 0))))] H := hP
  have hD : va_D A [(cp, .inr (1, [.long 0, .ref q_1, .ref q_3, .int 0])), (q_1, .inl (cL, 18, .inr (.inl (fun _ => 0)))), (q_3, .inl (cL, 4, .inr (.inl (fun _ => 0))))] := hD
  refine lv_aload_n hx hb d_Copy_init_24 rfl (lv_at hl 0 rfl) ?_
  refine lv_lload_n hx hb d_Copy_init_25 rfl (lv_at hl 1 rfl) ?_
  refine va_putF (D := (dC, dI)) (ci := 1) (v := .long fac) (ty := .long) (C := R_Copy) (T := F_Copy) (N := 4) hx hb htb iw_Copy t_Copy t_Copy_ok n_Copy hown hK.1 hP hD hS 0 rfl rfl 0 (by decide) (htb _ tw_68) (fun _ h9 => h9) rfl hin rfl (by decide +kernel) rfl rfl (Nat.le_of_ble_eq_true rfl) d_Copy_init_26 (fun H locs hP hD hS => ?_)
  have hP : va_P (dC, dI) classes [(cp, .inr (1, [.long fac, .ref q_1, .ref q_3, .int 0])), (q_1, .inl (cL, 18, .inr (.inl (fun _ => 0)))), (q_3, .inl (cL, 4, .inr (.inl (fun _ => 0))))] H := hP
  have hD : va_D A [(cp, .inr (1, [.long fac, .ref q_1, .ref q_3, .int 0])), (q_1, .inl (cL, 18, .inr (.inl (fun _ => 0)))), (q_3, .inl (cL, 4, .inr (.inl (fun _ => 0))))] := hD
  exact rt_v (q_1, q_3) hx hb hr hlocks (show True from trivial) (hP.sub (ws' := [(cp, .inr (1, [.long fac, .ref q_1, .ref q_3, .int 0])), (q_1, .inl (cL, 18, .inr (.inl (fun _ => 0)))), (q_3, .inl (cL, 4, .inr (.inl (fun _ => 0))))]) [0, 1, 2] rfl) (hD.sub (ws' := [(cp, .inr (1, [.long fac, .ref q_1, .ref q_3, .int 0])), (q_1, .inl (cL, 18, .inr (.inl (fun _ => 0)))), (q_3, .inl (cL, 4, .inr (.inl (fun _ => 0))))]) [0, 1, 2] (by decide) rfl) hS d_Copy_init_29

set_option maxHeartbeats 4000000 in
set_option maxRecDepth 100000 in
theorem c_Plan_init (l : Launch) (dC : Nat → ClassId) (dI : Nat → Nat → Nat) (cI cL : ClassId) (hs0 : Nat) (pn : Nat)  : ct_v l y_Plan_init b_Plan_init 1 none ({ frames := 1, cells := 4, slots := 16, locals := 40 }) (dC, dI) cI cL [.ref pn] [(pn, .inr (2, [.null, .null, .null, .null, .int 0]))] hs0 (fun (u : Nat × Nat × Nat × Nat) => True) (fun u => [(pn, .inr (2, [.ref u.1, .ref u.2.1, .ref u.2.2.1, .ref u.2.2.2, .int 0])), (u.1, .inl (cI, 4, .inl (fun _ => 0))), (u.2.1, .inl (cI, 4, .inl (fun _ => 0))), (u.2.2.1, .inl (cI, 4, .inl (fun _ => 0))), (u.2.2.2, .inl (cI, 4, .inl (fun _ => 0)))]) 4 16 := by
  refine st_w (Qc := fun A => va_Qv (fun (u : Nat × Nat × Nat × Nat) => True) (fun (u : Nat × Nat × Nat × Nat) t => pos_w (dC, dI) A [(pn, .inr (2, [.ref u.1, .ref u.2.1, .ref u.2.2.1, .ref u.2.2.2, .int 0])), (u.1, .inl (cI, 4, .inl (fun _ => 0))), (u.2.1, .inl (cI, 4, .inl (fun _ => 0))), (u.2.2.1, .inl (cI, 4, .inl (fun _ => 0))), (u.2.2.2, .inl (cI, 4, .inl (fun _ => 0)))] t) A) (by decide) (Nat.le_of_ble_eq_true rfl) ?_
  intro p e s m below meth c A ls hfx hK hA hP hD hS hl
  obtain ⟨hx, hb, hml, hown, htb, hr, hlocks, hin⟩ := hfx
  have hl : lv_has ls 1 [(0, .ref pn)] := hl
  refine lv_aload_n hx hb d_Plan_init_0 rfl (lv_at hl 0 rfl) ?_
  refine W.objInit hx hb hown (htb _ tw_90) (htb _ tw_39) (htb _ tw_40) rfl (by rw [hml]; exact hl.1) rfl d_Plan_init_1 (Nat.le_of_ble_eq_true rfl) (Nat.le_of_ble_eq_true rfl) ?_
  refine W.eq (g2 := F0 m 4 ls []) rfl ?_
  refine lv_aload_n hx hb d_Plan_init_4 rfl (lv_at hl 0 rfl) ?_
  refine lv_iconst (v := 4) hx hb d_Plan_init_5 (by decide) ?_
  refine va_newa (atype := .int) (N' := 4) (a0 := (4, .inl (fun _ => 0))) (ty := .int) hx hb (htb _ tw_61) rfl hK.1 hP hD hS hA (fun _ => rfl) (by decide) rfl (by decide) (Nat.le_of_ble_eq_true rfl) (Nat.le_of_ble_eq_true rfl) d_Plan_init_6 (fun q_1 cA_2 H hK9 hP hD hS => ?_)
  obtain rfl := ka_i hK9
  have hP : va_P (dC, dI) classes [(pn, .inr (2, [.null, .null, .null, .null, .int 0])), (q_1, .inl (cI, 4, .inl (fun _ => 0)))] H := hP
  have hD : va_D A [(pn, .inr (2, [.null, .null, .null, .null, .int 0])), (q_1, .inl (cI, 4, .inl (fun _ => 0)))] := hD
  refine W.widen (k := 1) (n := 4) (Nat.le_of_ble_eq_true rfl) (Nat.le_of_ble_eq_true rfl) ?_
  refine va_putF (D := (dC, dI)) (ci := 2) (v := .ref q_1) (ty := (.array .int)) (C := R_Plan) (T := F_Plan) (N := 5) hx hb htb iw_Plan t_Plan t_Plan_ok n_Plan hown hK.1 hP hD hS 0 rfl rfl 0 (by decide) (htb _ tw_91) (fun _ h9 => h9) rfl hin rfl (by decide +kernel) rfl rfl (Nat.le_of_ble_eq_true rfl) d_Plan_init_8 (fun H locs hP hD hS => ?_)
  have hP : va_P (dC, dI) classes [(pn, .inr (2, [.ref q_1, .null, .null, .null, .int 0])), (q_1, .inl (cI, 4, .inl (fun _ => 0)))] H := hP
  have hD : va_D A [(pn, .inr (2, [.ref q_1, .null, .null, .null, .int 0])), (q_1, .inl (cI, 4, .inl (fun _ => 0)))] := hD
  refine lv_aload_n hx hb d_Plan_init_11 rfl (lv_at hl 0 rfl) ?_
  refine lv_iconst (v := 4) hx hb d_Plan_init_12 (by decide) ?_
  refine va_newa (atype := .int) (N' := 4) (a0 := (4, .inl (fun _ => 0))) (ty := .int) hx hb (htb _ tw_61) rfl hK.1 hP hD hS hA (fun _ => rfl) (by decide) rfl (by decide) (Nat.le_of_ble_eq_true rfl) (Nat.le_of_ble_eq_true rfl) d_Plan_init_13 (fun q_3 cA_4 H hK9 hP hD hS => ?_)
  obtain rfl := ka_i hK9
  have hP : va_P (dC, dI) classes [(pn, .inr (2, [.ref q_1, .null, .null, .null, .int 0])), (q_1, .inl (cI, 4, .inl (fun _ => 0))), (q_3, .inl (cI, 4, .inl (fun _ => 0)))] H := hP
  have hD : va_D A [(pn, .inr (2, [.ref q_1, .null, .null, .null, .int 0])), (q_1, .inl (cI, 4, .inl (fun _ => 0))), (q_3, .inl (cI, 4, .inl (fun _ => 0)))] := hD
  refine W.widen (k := 2) (n := 8) (Nat.le_of_ble_eq_true rfl) (Nat.le_of_ble_eq_true rfl) ?_
  refine va_putF (D := (dC, dI)) (ci := 2) (v := .ref q_3) (ty := (.array .int)) (C := R_Plan) (T := F_Plan) (N := 5) hx hb htb iw_Plan t_Plan t_Plan_ok n_Plan hown hK.1 hP hD hS 0 rfl rfl 1 (by decide) (htb _ tw_93) (fun _ h9 => h9) rfl hin rfl (by decide +kernel) rfl rfl (Nat.le_of_ble_eq_true rfl) d_Plan_init_15 (fun H locs hP hD hS => ?_)
  have hP : va_P (dC, dI) classes [(pn, .inr (2, [.ref q_1, .ref q_3, .null, .null, .int 0])), (q_1, .inl (cI, 4, .inl (fun _ => 0))), (q_3, .inl (cI, 4, .inl (fun _ => 0)))] H := hP
  have hD : va_D A [(pn, .inr (2, [.ref q_1, .ref q_3, .null, .null, .int 0])), (q_1, .inl (cI, 4, .inl (fun _ => 0))), (q_3, .inl (cI, 4, .inl (fun _ => 0)))] := hD
  refine lv_aload_n hx hb d_Plan_init_18 rfl (lv_at hl 0 rfl) ?_
  refine lv_iconst (v := 4) hx hb d_Plan_init_19 (by decide) ?_
  refine va_newa (atype := .int) (N' := 4) (a0 := (4, .inl (fun _ => 0))) (ty := .int) hx hb (htb _ tw_61) rfl hK.1 hP hD hS hA (fun _ => rfl) (by decide) rfl (by decide) (Nat.le_of_ble_eq_true rfl) (Nat.le_of_ble_eq_true rfl) d_Plan_init_20 (fun q_5 cA_6 H hK9 hP hD hS => ?_)
  obtain rfl := ka_i hK9
  have hP : va_P (dC, dI) classes [(pn, .inr (2, [.ref q_1, .ref q_3, .null, .null, .int 0])), (q_1, .inl (cI, 4, .inl (fun _ => 0))), (q_3, .inl (cI, 4, .inl (fun _ => 0))), (q_5, .inl (cI, 4, .inl (fun _ => 0)))] H := hP
  have hD : va_D A [(pn, .inr (2, [.ref q_1, .ref q_3, .null, .null, .int 0])), (q_1, .inl (cI, 4, .inl (fun _ => 0))), (q_3, .inl (cI, 4, .inl (fun _ => 0))), (q_5, .inl (cI, 4, .inl (fun _ => 0)))] := hD
  refine W.widen (k := 3) (n := 12) (Nat.le_of_ble_eq_true rfl) (Nat.le_of_ble_eq_true rfl) ?_
  refine va_putF (D := (dC, dI)) (ci := 2) (v := .ref q_5) (ty := (.array .int)) (C := R_Plan) (T := F_Plan) (N := 5) hx hb htb iw_Plan t_Plan t_Plan_ok n_Plan hown hK.1 hP hD hS 0 rfl rfl 2 (by decide) (htb _ tw_95) (fun _ h9 => h9) rfl hin rfl (by decide +kernel) rfl rfl (Nat.le_of_ble_eq_true rfl) d_Plan_init_22 (fun H locs hP hD hS => ?_)
  have hP : va_P (dC, dI) classes [(pn, .inr (2, [.ref q_1, .ref q_3, .ref q_5, .null, .int 0])), (q_1, .inl (cI, 4, .inl (fun _ => 0))), (q_3, .inl (cI, 4, .inl (fun _ => 0))), (q_5, .inl (cI, 4, .inl (fun _ => 0)))] H := hP
  have hD : va_D A [(pn, .inr (2, [.ref q_1, .ref q_3, .ref q_5, .null, .int 0])), (q_1, .inl (cI, 4, .inl (fun _ => 0))), (q_3, .inl (cI, 4, .inl (fun _ => 0))), (q_5, .inl (cI, 4, .inl (fun _ => 0)))] := hD
  refine lv_aload_n hx hb d_Plan_init_25 rfl (lv_at hl 0 rfl) ?_
  refine lv_iconst (v := 4) hx hb d_Plan_init_26 (by decide) ?_
  refine va_newa (atype := .int) (N' := 4) (a0 := (4, .inl (fun _ => 0))) (ty := .int) hx hb (htb _ tw_61) rfl hK.1 hP hD hS hA (fun _ => rfl) (by decide) rfl (by decide) (Nat.le_of_ble_eq_true rfl) (Nat.le_of_ble_eq_true rfl) d_Plan_init_27 (fun q_7 cA_8 H hK9 hP hD hS => ?_)
  obtain rfl := ka_i hK9
  have hP : va_P (dC, dI) classes [(pn, .inr (2, [.ref q_1, .ref q_3, .ref q_5, .null, .int 0])), (q_1, .inl (cI, 4, .inl (fun _ => 0))), (q_3, .inl (cI, 4, .inl (fun _ => 0))), (q_5, .inl (cI, 4, .inl (fun _ => 0))), (q_7, .inl (cI, 4, .inl (fun _ => 0)))] H := hP
  have hD : va_D A [(pn, .inr (2, [.ref q_1, .ref q_3, .ref q_5, .null, .int 0])), (q_1, .inl (cI, 4, .inl (fun _ => 0))), (q_3, .inl (cI, 4, .inl (fun _ => 0))), (q_5, .inl (cI, 4, .inl (fun _ => 0))), (q_7, .inl (cI, 4, .inl (fun _ => 0)))] := hD
  refine W.widen (k := 4) (n := 16) (Nat.le_of_ble_eq_true rfl) (Nat.le_of_ble_eq_true rfl) ?_
  refine va_putF (D := (dC, dI)) (ci := 2) (v := .ref q_7) (ty := (.array .int)) (C := R_Plan) (T := F_Plan) (N := 5) hx hb htb iw_Plan t_Plan t_Plan_ok n_Plan hown hK.1 hP hD hS 0 rfl rfl 3 (by decide) (htb _ tw_97) (fun _ h9 => h9) rfl hin rfl (by decide +kernel) rfl rfl (Nat.le_of_ble_eq_true rfl) d_Plan_init_29 (fun H locs hP hD hS => ?_)
  have hP : va_P (dC, dI) classes [(pn, .inr (2, [.ref q_1, .ref q_3, .ref q_5, .ref q_7, .int 0])), (q_1, .inl (cI, 4, .inl (fun _ => 0))), (q_3, .inl (cI, 4, .inl (fun _ => 0))), (q_5, .inl (cI, 4, .inl (fun _ => 0))), (q_7, .inl (cI, 4, .inl (fun _ => 0)))] H := hP
  have hD : va_D A [(pn, .inr (2, [.ref q_1, .ref q_3, .ref q_5, .ref q_7, .int 0])), (q_1, .inl (cI, 4, .inl (fun _ => 0))), (q_3, .inl (cI, 4, .inl (fun _ => 0))), (q_5, .inl (cI, 4, .inl (fun _ => 0))), (q_7, .inl (cI, 4, .inl (fun _ => 0)))] := hD
  refine lv_aload_n hx hb d_Plan_init_32 rfl (lv_at hl 0 rfl) ?_
  refine lv_iconst (v := 0) hx hb d_Plan_init_33 (by decide) ?_
  refine va_put (D := (dC, dI)) (ci := 2) (v := .int 0) (ty := .int) (C := R_Plan) (T := F_Plan) (N := 5) hx hb htb iw_Plan t_Plan t_Plan_ok n_Plan hown hK.1 hP hD hS 0 rfl rfl 4 (by decide) (htb _ tw_99) (fun _ h9 => h9) rfl (by decide +kernel) rfl rfl (Nat.le_of_ble_eq_true rfl) d_Plan_init_34 (fun H locs hP hD hS => ?_)
  have hP : va_P (dC, dI) classes [(pn, .inr (2, [.ref q_1, .ref q_3, .ref q_5, .ref q_7, .int 0])), (q_1, .inl (cI, 4, .inl (fun _ => 0))), (q_3, .inl (cI, 4, .inl (fun _ => 0))), (q_5, .inl (cI, 4, .inl (fun _ => 0))), (q_7, .inl (cI, 4, .inl (fun _ => 0)))] H := hP
  have hD : va_D A [(pn, .inr (2, [.ref q_1, .ref q_3, .ref q_5, .ref q_7, .int 0])), (q_1, .inl (cI, 4, .inl (fun _ => 0))), (q_3, .inl (cI, 4, .inl (fun _ => 0))), (q_5, .inl (cI, 4, .inl (fun _ => 0))), (q_7, .inl (cI, 4, .inl (fun _ => 0)))] := hD
  exact rt_v (q_1, q_3, q_5, q_7) hx hb hr hlocks (show True from trivial) (hP.sub (ws' := [(pn, .inr (2, [.ref q_1, .ref q_3, .ref q_5, .ref q_7, .int 0])), (q_1, .inl (cI, 4, .inl (fun _ => 0))), (q_3, .inl (cI, 4, .inl (fun _ => 0))), (q_5, .inl (cI, 4, .inl (fun _ => 0))), (q_7, .inl (cI, 4, .inl (fun _ => 0)))]) [0, 1, 2, 3, 4] rfl) (hD.sub (ws' := [(pn, .inr (2, [.ref q_1, .ref q_3, .ref q_5, .ref q_7, .int 0])), (q_1, .inl (cI, 4, .inl (fun _ => 0))), (q_3, .inl (cI, 4, .inl (fun _ => 0))), (q_5, .inl (cI, 4, .inl (fun _ => 0))), (q_7, .inl (cI, 4, .inl (fun _ => 0)))]) [0, 1, 2, 3, 4] (by decide) rfl) hS d_Plan_init_37

set_option maxHeartbeats 4000000 in
set_option maxRecDepth 100000 in
theorem c_Gate_init (l : Launch) (dC : Nat → ClassId) (dI : Nat → Nat → Nat) (cI cL : ClassId) (hs0 : Nat) (x0 : Nat) (l0 : Int32)  : ct_v l y_Gate_init b_Gate_init 2 none ({ frames := 2, cells := 16, slots := 284, locals := 80 }) (dC, dI) cI cL [.ref x0, .int l0] [(x0, .inr (0, [.int 0, .null, .null, .null, .null, .null, .null, .int 0, .int 0, .int 0, .int 0, .int 0]))] hs0 (fun (u : Nat × Nat × Nat × Nat × Nat × Nat × Nat × Nat × Nat × Nat × Nat × Nat × Nat × Nat × Nat × Nat) => True) (fun u => [(x0, .inr (0, [.int (nI (li_w l0)), .ref u.1, .ref u.2.2.2.1, .ref u.2.2.2.2.2.2.1, .ref u.2.2.2.2.2.2.2.2.2.1, .ref u.2.2.2.2.2.2.2.2.2.2.2.2.2.2.1, .ref u.2.2.2.2.2.2.2.2.2.2.2.2.2.2.2, .int 0, .int 0, .int 0, .int 0, .int 0])), (u.1, .inr (3, [.ref u.2.1, .ref u.2.2.1, .int 0])), (u.2.1, .inl (cI, 100, .inl (fun _ => 0))), (u.2.2.1, .inl (cI, 100, .inl (fun _ => 0))), (u.2.2.2.1, .inr (1, [.long 1, .ref u.2.2.2.2.1, .ref u.2.2.2.2.2.1, .int 0])), (u.2.2.2.2.1, .inl (cL, 18, .inr (.inl (fun _ => 0)))), (u.2.2.2.2.2.1, .inl (cL, 4, .inr (.inl (fun _ => 0)))), (u.2.2.2.2.2.2.1, .inr (1, [.long 58659, .ref u.2.2.2.2.2.2.2.1, .ref u.2.2.2.2.2.2.2.2.1, .int 0])), (u.2.2.2.2.2.2.2.1, .inl (cL, 18, .inr (.inl (fun _ => 0)))), (u.2.2.2.2.2.2.2.2.1, .inl (cL, 4, .inr (.inl (fun _ => 0)))), (u.2.2.2.2.2.2.2.2.2.1, .inr (2, [.ref u.2.2.2.2.2.2.2.2.2.2.1, .ref u.2.2.2.2.2.2.2.2.2.2.2.1, .ref u.2.2.2.2.2.2.2.2.2.2.2.2.1, .ref u.2.2.2.2.2.2.2.2.2.2.2.2.2.1, .int 0])), (u.2.2.2.2.2.2.2.2.2.2.1, .inl (cI, 4, .inl (fun _ => 0))), (u.2.2.2.2.2.2.2.2.2.2.2.1, .inl (cI, 4, .inl (fun _ => 0))), (u.2.2.2.2.2.2.2.2.2.2.2.2.1, .inl (cI, 4, .inl (fun _ => 0))), (u.2.2.2.2.2.2.2.2.2.2.2.2.2.1, .inl (cI, 4, .inl (fun _ => 0))), (u.2.2.2.2.2.2.2.2.2.2.2.2.2.2.1, .inl (cI, 4, .inl (fun _ => 0))), (u.2.2.2.2.2.2.2.2.2.2.2.2.2.2.2, .inl (cI, 4, .inl (fun _ => 0)))]) 16 284 := by
  refine st_w (Qc := fun A => va_Qv (fun (u : Nat × Nat × Nat × Nat × Nat × Nat × Nat × Nat × Nat × Nat × Nat × Nat × Nat × Nat × Nat × Nat) => True) (fun (u : Nat × Nat × Nat × Nat × Nat × Nat × Nat × Nat × Nat × Nat × Nat × Nat × Nat × Nat × Nat × Nat) t => pos_w (dC, dI) A [(x0, .inr (0, [.int (nI (li_w l0)), .ref u.1, .ref u.2.2.2.1, .ref u.2.2.2.2.2.2.1, .ref u.2.2.2.2.2.2.2.2.2.1, .ref u.2.2.2.2.2.2.2.2.2.2.2.2.2.2.1, .ref u.2.2.2.2.2.2.2.2.2.2.2.2.2.2.2, .int 0, .int 0, .int 0, .int 0, .int 0])), (u.1, .inr (3, [.ref u.2.1, .ref u.2.2.1, .int 0])), (u.2.1, .inl (cI, 100, .inl (fun _ => 0))), (u.2.2.1, .inl (cI, 100, .inl (fun _ => 0))), (u.2.2.2.1, .inr (1, [.long 1, .ref u.2.2.2.2.1, .ref u.2.2.2.2.2.1, .int 0])), (u.2.2.2.2.1, .inl (cL, 18, .inr (.inl (fun _ => 0)))), (u.2.2.2.2.2.1, .inl (cL, 4, .inr (.inl (fun _ => 0)))), (u.2.2.2.2.2.2.1, .inr (1, [.long 58659, .ref u.2.2.2.2.2.2.2.1, .ref u.2.2.2.2.2.2.2.2.1, .int 0])), (u.2.2.2.2.2.2.2.1, .inl (cL, 18, .inr (.inl (fun _ => 0)))), (u.2.2.2.2.2.2.2.2.1, .inl (cL, 4, .inr (.inl (fun _ => 0)))), (u.2.2.2.2.2.2.2.2.2.1, .inr (2, [.ref u.2.2.2.2.2.2.2.2.2.2.1, .ref u.2.2.2.2.2.2.2.2.2.2.2.1, .ref u.2.2.2.2.2.2.2.2.2.2.2.2.1, .ref u.2.2.2.2.2.2.2.2.2.2.2.2.2.1, .int 0])), (u.2.2.2.2.2.2.2.2.2.2.1, .inl (cI, 4, .inl (fun _ => 0))), (u.2.2.2.2.2.2.2.2.2.2.2.1, .inl (cI, 4, .inl (fun _ => 0))), (u.2.2.2.2.2.2.2.2.2.2.2.2.1, .inl (cI, 4, .inl (fun _ => 0))), (u.2.2.2.2.2.2.2.2.2.2.2.2.2.1, .inl (cI, 4, .inl (fun _ => 0))), (u.2.2.2.2.2.2.2.2.2.2.2.2.2.2.1, .inl (cI, 4, .inl (fun _ => 0))), (u.2.2.2.2.2.2.2.2.2.2.2.2.2.2.2, .inl (cI, 4, .inl (fun _ => 0)))] t) A) (by decide) (Nat.le_of_ble_eq_true rfl) ?_
  intro p e s m below meth c A ls hfx hK hA hP hD hS hl
  obtain ⟨hx, hb, hml, hown, htb, hr, hlocks, hin⟩ := hfx
  have hl : lv_has ls 2 [(0, .ref x0), (1, .int l0)] := hl
  refine lv_aload_n hx hb d_Gate_init_0 rfl (lv_at hl 0 rfl) ?_
  refine W.objInit hx hb hown (htb _ tw_38) (htb _ tw_39) (htb _ tw_40) rfl (by rw [hml]; exact hl.1) rfl d_Gate_init_1 (Nat.le_of_ble_eq_true rfl) (Nat.le_of_ble_eq_true rfl) ?_
  refine W.eq (g2 := F0 m 4 ls []) rfl ?_
  refine lv_aload_n hx hb d_Gate_init_4 rfl (lv_at hl 0 rfl) ?_
  refine va_new (ci := 3) (fs := [.null, .null, .int 0]) (C := R_Prog) (T := F_Prog) (N := 3) hx hb htb iw_Prog t_Prog t_Prog_ok hown (htb _ tw_41) (htb _ tw_42) (htb _ tw_21) hK.1 hP hD hS hA rfl (fun j hj => by rcases (show j = 0 ∨ j = 1 ∨ j = 2 by omega) with rfl | rfl | rfl <;> rfl) (Nat.le_of_ble_eq_true rfl) (Nat.le_of_ble_eq_true rfl) d_Gate_init_5 (fun q_1 H hP hD hS => ?_)
  have hP : va_P (dC, dI) classes [(x0, .inr (0, [.int 0, .null, .null, .null, .null, .null, .null, .int 0, .int 0, .int 0, .int 0, .int 0])), (q_1, .inr (3, [.null, .null, .int 0]))] H := hP
  have hD : va_D A [(x0, .inr (0, [.int 0, .null, .null, .null, .null, .null, .null, .int 0, .int 0, .int 0, .int 0, .int 0])), (q_1, .inr (3, [.null, .null, .int 0]))] := hD
  refine W.widen (k := 1) (n := 3) (Nat.le_of_ble_eq_true rfl) (Nat.le_of_ble_eq_true rfl) ?_
  refine lv_dup hx hb d_Gate_init_8 rfl ?_
  refine af_v (wr := [(x0, .inr (0, [.int 0, .null, .null, .null, .null, .null, .null, .int 0, .int 0, .int 0, .int 0, .int 0]))]) (va_runIN (As := []) (rest := [.ref q_1, .ref x0]) ⟨hx, hb, hml, hown, htb⟩ (c_Prog_init l dC dI cI cL H.size q_1 ) ⟨va_cnB 0 htb (gd_w tw_45) rfl rfl rfl (hK.2 _ nt_0) (htb _ tw_21) (by decide +kernel) ⟨Nat.le_of_ble_eq_true rfl, Nat.le_of_ble_eq_true rfl⟩, rfl, htb _ tw_44⟩ (pv_S hK (hP.sub (ws' := [(q_1, .inr (3, [.null, .null, .int 0]))]) [1] rfl) (hD.sub (ws' := [(q_1, .inr (3, [.null, .null, .int 0]))]) [1] (by decide) rfl)) rfl rfl hl.1 rfl (lv_room (Nat.le_of_ble_eq_true rfl)) d_Gate_init_9 ⟨Nat.le_of_ble_eq_true rfl, Nat.le_of_ble_eq_true rfl⟩) hP hD hS hA [1] [0] rfl rfl (by decide) (by decide) (fun u_3 H locs hw hP hD hS => ?_)
  obtain ⟨z_4, z_5⟩ := u_3
  have hP : va_P (dC, dI) classes [(x0, .inr (0, [.int 0, .null, .null, .null, .null, .null, .null, .int 0, .int 0, .int 0, .int 0, .int 0])), (q_1, .inr (3, [.ref z_4, .ref z_5, .int 0])), (z_4, .inl (cI, 100, .inl (fun _ => 0))), (z_5, .inl (cI, 100, .inl (fun _ => 0)))] H := hP
  have hD : va_D A [(x0, .inr (0, [.int 0, .null, .null, .null, .null, .null, .null, .int 0, .int 0, .int 0, .int 0, .int 0])), (q_1, .inr (3, [.ref z_4, .ref z_5, .int 0])), (z_4, .inl (cI, 100, .inl (fun _ => 0))), (z_5, .inl (cI, 100, .inl (fun _ => 0)))] := hD
  refine W.widen (k := 3) (n := 203) (Nat.le_of_ble_eq_true rfl) (Nat.le_of_ble_eq_true rfl) ?_
  refine va_putF (D := (dC, dI)) (ci := 0) (v := .ref q_1) (ty := (.object "TwinGate$Program")) (C := R_Gate) (T := F_Gate) (N := 12) hx hb htb iw_Gate t_Gate t_Gate_ok n_Gate hown hK.1 hP hD hS 0 rfl rfl 1 (by decide) (htb _ tw_119) (fun _ h9 => h9) rfl hin rfl (by decide +kernel) rfl rfl (Nat.le_of_ble_eq_true rfl) d_Gate_init_12 (fun H locs hP hD hS => ?_)
  have hP : va_P (dC, dI) classes [(x0, .inr (0, [.int 0, .ref q_1, .null, .null, .null, .null, .null, .int 0, .int 0, .int 0, .int 0, .int 0])), (q_1, .inr (3, [.ref z_4, .ref z_5, .int 0])), (z_4, .inl (cI, 100, .inl (fun _ => 0))), (z_5, .inl (cI, 100, .inl (fun _ => 0)))] H := hP
  have hD : va_D A [(x0, .inr (0, [.int 0, .ref q_1, .null, .null, .null, .null, .null, .int 0, .int 0, .int 0, .int 0, .int 0])), (q_1, .inr (3, [.ref z_4, .ref z_5, .int 0])), (z_4, .inl (cI, 100, .inl (fun _ => 0))), (z_5, .inl (cI, 100, .inl (fun _ => 0)))] := hD
  refine lv_aload_n hx hb d_Gate_init_15 rfl (lv_at hl 0 rfl) ?_
  refine va_new (ci := 1) (fs := [.long 0, .null, .null, .int 0]) (C := R_Copy) (T := F_Copy) (N := 4) hx hb htb iw_Copy t_Copy t_Copy_ok hown (htb _ tw_62) (htb _ tw_63) (htb _ tw_22) hK.1 hP hD hS hA rfl (fun j hj => by rcases (show j = 0 ∨ j = 1 ∨ j = 2 ∨ j = 3 by omega) with rfl | rfl | rfl | rfl <;> rfl) (Nat.le_of_ble_eq_true rfl) (Nat.le_of_ble_eq_true rfl) d_Gate_init_16 (fun q_6 H hP hD hS => ?_)
  have hP : va_P (dC, dI) classes [(x0, .inr (0, [.int 0, .ref q_1, .null, .null, .null, .null, .null, .int 0, .int 0, .int 0, .int 0, .int 0])), (q_1, .inr (3, [.ref z_4, .ref z_5, .int 0])), (z_4, .inl (cI, 100, .inl (fun _ => 0))), (z_5, .inl (cI, 100, .inl (fun _ => 0))), (q_6, .inr (1, [.long 0, .null, .null, .int 0]))] H := hP
  have hD : va_D A [(x0, .inr (0, [.int 0, .ref q_1, .null, .null, .null, .null, .null, .int 0, .int 0, .int 0, .int 0, .int 0])), (q_1, .inr (3, [.ref z_4, .ref z_5, .int 0])), (z_4, .inl (cI, 100, .inl (fun _ => 0))), (z_5, .inl (cI, 100, .inl (fun _ => 0))), (q_6, .inr (1, [.long 0, .null, .null, .int 0]))] := hD
  refine W.widen (k := 4) (n := 207) (Nat.le_of_ble_eq_true rfl) (Nat.le_of_ble_eq_true rfl) ?_
  refine lv_dup hx hb d_Gate_init_19 rfl ?_
  refine lv_lconst (v := 1) hx hb d_Gate_init_20 (by decide) ?_
  refine af_v (wr := [(x0, .inr (0, [.int 0, .ref q_1, .null, .null, .null, .null, .null, .int 0, .int 0, .int 0, .int 0, .int 0])), (q_1, .inr (3, [.ref z_4, .ref z_5, .int 0])), (z_4, .inl (cI, 100, .inl (fun _ => 0))), (z_5, .inl (cI, 100, .inl (fun _ => 0)))]) (va_runI (As := [.long 1]) (rest := [.ref q_6, .ref x0]) ⟨hx, hb, hml, hown, htb⟩ (c_Copy_init l dC dI cI cL H.size q_6 1 ) ⟨callB_of 1 htb (gd_w tw_66) rfl rfl rfl (htb _ tw_22) (htb _ tw_64) (by decide +kernel) ⟨Nat.le_of_ble_eq_true rfl, Nat.le_of_ble_eq_true rfl⟩, rfl, htb _ tw_65⟩ (pv_S hK (hP.sub (ws' := [(q_6, .inr (1, [.long 0, .null, .null, .int 0]))]) [4] rfl) (hD.sub (ws' := [(q_6, .inr (1, [.long 0, .null, .null, .int 0]))]) [4] (by decide) rfl)) rfl rfl hl.1 rfl (lv_room (Nat.le_of_ble_eq_true rfl)) d_Gate_init_21 ⟨Nat.le_of_ble_eq_true rfl, Nat.le_of_ble_eq_true rfl⟩) hP hD hS hA [4] [0, 1, 2, 3] rfl rfl (by decide) (by decide) (fun u_8 H locs hw hP hD hS => ?_)
  obtain ⟨z_9, z_10⟩ := u_8
  have hP : va_P (dC, dI) classes [(x0, .inr (0, [.int 0, .ref q_1, .null, .null, .null, .null, .null, .int 0, .int 0, .int 0, .int 0, .int 0])), (q_1, .inr (3, [.ref z_4, .ref z_5, .int 0])), (z_4, .inl (cI, 100, .inl (fun _ => 0))), (z_5, .inl (cI, 100, .inl (fun _ => 0))), (q_6, .inr (1, [.long 1, .ref z_9, .ref z_10, .int 0])), (z_9, .inl (cL, 18, .inr (.inl (fun _ => 0)))), (z_10, .inl (cL, 4, .inr (.inl (fun _ => 0))))] H := hP
  have hD : va_D A [(x0, .inr (0, [.int 0, .ref q_1, .null, .null, .null, .null, .null, .int 0, .int 0, .int 0, .int 0, .int 0])), (q_1, .inr (3, [.ref z_4, .ref z_5, .int 0])), (z_4, .inl (cI, 100, .inl (fun _ => 0))), (z_5, .inl (cI, 100, .inl (fun _ => 0))), (q_6, .inr (1, [.long 1, .ref z_9, .ref z_10, .int 0])), (z_9, .inl (cL, 18, .inr (.inl (fun _ => 0)))), (z_10, .inl (cL, 4, .inr (.inl (fun _ => 0))))] := hD
  refine W.widen (k := 6) (n := 229) (Nat.le_of_ble_eq_true rfl) (Nat.le_of_ble_eq_true rfl) ?_
  refine va_putF (D := (dC, dI)) (ci := 0) (v := .ref q_6) (ty := (.object "TwinGate$Copy")) (C := R_Gate) (T := F_Gate) (N := 12) hx hb htb iw_Gate t_Gate t_Gate_ok n_Gate hown hK.1 hP hD hS 0 rfl rfl 2 (by decide) (htb _ tw_120) (fun _ h9 => h9) rfl hin rfl (by decide +kernel) rfl rfl (Nat.le_of_ble_eq_true rfl) d_Gate_init_24 (fun H locs hP hD hS => ?_)
  have hP : va_P (dC, dI) classes [(x0, .inr (0, [.int 0, .ref q_1, .ref q_6, .null, .null, .null, .null, .int 0, .int 0, .int 0, .int 0, .int 0])), (q_1, .inr (3, [.ref z_4, .ref z_5, .int 0])), (z_4, .inl (cI, 100, .inl (fun _ => 0))), (z_5, .inl (cI, 100, .inl (fun _ => 0))), (q_6, .inr (1, [.long 1, .ref z_9, .ref z_10, .int 0])), (z_9, .inl (cL, 18, .inr (.inl (fun _ => 0)))), (z_10, .inl (cL, 4, .inr (.inl (fun _ => 0))))] H := hP
  have hD : va_D A [(x0, .inr (0, [.int 0, .ref q_1, .ref q_6, .null, .null, .null, .null, .int 0, .int 0, .int 0, .int 0, .int 0])), (q_1, .inr (3, [.ref z_4, .ref z_5, .int 0])), (z_4, .inl (cI, 100, .inl (fun _ => 0))), (z_5, .inl (cI, 100, .inl (fun _ => 0))), (q_6, .inr (1, [.long 1, .ref z_9, .ref z_10, .int 0])), (z_9, .inl (cL, 18, .inr (.inl (fun _ => 0)))), (z_10, .inl (cL, 4, .inr (.inl (fun _ => 0))))] := hD
  refine lv_aload_n hx hb d_Gate_init_27 rfl (lv_at hl 0 rfl) ?_
  refine va_new (ci := 1) (fs := [.long 0, .null, .null, .int 0]) (C := R_Copy) (T := F_Copy) (N := 4) hx hb htb iw_Copy t_Copy t_Copy_ok hown (htb _ tw_62) (htb _ tw_63) (htb _ tw_22) hK.1 hP hD hS hA rfl (fun j hj => by rcases (show j = 0 ∨ j = 1 ∨ j = 2 ∨ j = 3 by omega) with rfl | rfl | rfl | rfl <;> rfl) (Nat.le_of_ble_eq_true rfl) (Nat.le_of_ble_eq_true rfl) d_Gate_init_28 (fun q_11 H hP hD hS => ?_)
  have hP : va_P (dC, dI) classes [(x0, .inr (0, [.int 0, .ref q_1, .ref q_6, .null, .null, .null, .null, .int 0, .int 0, .int 0, .int 0, .int 0])), (q_1, .inr (3, [.ref z_4, .ref z_5, .int 0])), (z_4, .inl (cI, 100, .inl (fun _ => 0))), (z_5, .inl (cI, 100, .inl (fun _ => 0))), (q_6, .inr (1, [.long 1, .ref z_9, .ref z_10, .int 0])), (z_9, .inl (cL, 18, .inr (.inl (fun _ => 0)))), (z_10, .inl (cL, 4, .inr (.inl (fun _ => 0)))), (q_11, .inr (1, [.long 0, .null, .null, .int 0]))] H := hP
  have hD : va_D A [(x0, .inr (0, [.int 0, .ref q_1, .ref q_6, .null, .null, .null, .null, .int 0, .int 0, .int 0, .int 0, .int 0])), (q_1, .inr (3, [.ref z_4, .ref z_5, .int 0])), (z_4, .inl (cI, 100, .inl (fun _ => 0))), (z_5, .inl (cI, 100, .inl (fun _ => 0))), (q_6, .inr (1, [.long 1, .ref z_9, .ref z_10, .int 0])), (z_9, .inl (cL, 18, .inr (.inl (fun _ => 0)))), (z_10, .inl (cL, 4, .inr (.inl (fun _ => 0)))), (q_11, .inr (1, [.long 0, .null, .null, .int 0]))] := hD
  refine W.widen (k := 7) (n := 233) (Nat.le_of_ble_eq_true rfl) (Nat.le_of_ble_eq_true rfl) ?_
  refine lv_dup hx hb d_Gate_init_31 rfl ?_
  refine lv_ldc2 (v := 58659) hx hb hown (htb _ tw_84) d_Gate_init_32 ?_
  refine af_v (wr := [(x0, .inr (0, [.int 0, .ref q_1, .ref q_6, .null, .null, .null, .null, .int 0, .int 0, .int 0, .int 0, .int 0])), (q_1, .inr (3, [.ref z_4, .ref z_5, .int 0])), (z_4, .inl (cI, 100, .inl (fun _ => 0))), (z_5, .inl (cI, 100, .inl (fun _ => 0))), (q_6, .inr (1, [.long 1, .ref z_9, .ref z_10, .int 0])), (z_9, .inl (cL, 18, .inr (.inl (fun _ => 0)))), (z_10, .inl (cL, 4, .inr (.inl (fun _ => 0))))]) (va_runI (As := [.long 58659]) (rest := [.ref q_11, .ref x0]) ⟨hx, hb, hml, hown, htb⟩ (c_Copy_init l dC dI cI cL H.size q_11 58659 ) ⟨callB_of 1 htb (gd_w tw_66) rfl rfl rfl (htb _ tw_22) (htb _ tw_64) (by decide +kernel) ⟨Nat.le_of_ble_eq_true rfl, Nat.le_of_ble_eq_true rfl⟩, rfl, htb _ tw_65⟩ (pv_S hK (hP.sub (ws' := [(q_11, .inr (1, [.long 0, .null, .null, .int 0]))]) [7] rfl) (hD.sub (ws' := [(q_11, .inr (1, [.long 0, .null, .null, .int 0]))]) [7] (by decide) rfl)) rfl rfl hl.1 rfl (lv_room (Nat.le_of_ble_eq_true rfl)) d_Gate_init_35 ⟨Nat.le_of_ble_eq_true rfl, Nat.le_of_ble_eq_true rfl⟩) hP hD hS hA [7] [0, 1, 2, 3, 4, 5, 6] rfl rfl (by decide) (by decide) (fun u_13 H locs hw hP hD hS => ?_)
  obtain ⟨z_14, z_15⟩ := u_13
  have hP : va_P (dC, dI) classes [(x0, .inr (0, [.int 0, .ref q_1, .ref q_6, .null, .null, .null, .null, .int 0, .int 0, .int 0, .int 0, .int 0])), (q_1, .inr (3, [.ref z_4, .ref z_5, .int 0])), (z_4, .inl (cI, 100, .inl (fun _ => 0))), (z_5, .inl (cI, 100, .inl (fun _ => 0))), (q_6, .inr (1, [.long 1, .ref z_9, .ref z_10, .int 0])), (z_9, .inl (cL, 18, .inr (.inl (fun _ => 0)))), (z_10, .inl (cL, 4, .inr (.inl (fun _ => 0)))), (q_11, .inr (1, [.long 58659, .ref z_14, .ref z_15, .int 0])), (z_14, .inl (cL, 18, .inr (.inl (fun _ => 0)))), (z_15, .inl (cL, 4, .inr (.inl (fun _ => 0))))] H := hP
  have hD : va_D A [(x0, .inr (0, [.int 0, .ref q_1, .ref q_6, .null, .null, .null, .null, .int 0, .int 0, .int 0, .int 0, .int 0])), (q_1, .inr (3, [.ref z_4, .ref z_5, .int 0])), (z_4, .inl (cI, 100, .inl (fun _ => 0))), (z_5, .inl (cI, 100, .inl (fun _ => 0))), (q_6, .inr (1, [.long 1, .ref z_9, .ref z_10, .int 0])), (z_9, .inl (cL, 18, .inr (.inl (fun _ => 0)))), (z_10, .inl (cL, 4, .inr (.inl (fun _ => 0)))), (q_11, .inr (1, [.long 58659, .ref z_14, .ref z_15, .int 0])), (z_14, .inl (cL, 18, .inr (.inl (fun _ => 0)))), (z_15, .inl (cL, 4, .inr (.inl (fun _ => 0))))] := hD
  refine W.widen (k := 9) (n := 255) (Nat.le_of_ble_eq_true rfl) (Nat.le_of_ble_eq_true rfl) ?_
  refine va_putF (D := (dC, dI)) (ci := 0) (v := .ref q_11) (ty := (.object "TwinGate$Copy")) (C := R_Gate) (T := F_Gate) (N := 12) hx hb htb iw_Gate t_Gate t_Gate_ok n_Gate hown hK.1 hP hD hS 0 rfl rfl 3 (by decide) (htb _ tw_121) (fun _ h9 => h9) rfl hin rfl (by decide +kernel) rfl rfl (Nat.le_of_ble_eq_true rfl) d_Gate_init_38 (fun H locs hP hD hS => ?_)
  have hP : va_P (dC, dI) classes [(x0, .inr (0, [.int 0, .ref q_1, .ref q_6, .ref q_11, .null, .null, .null, .int 0, .int 0, .int 0, .int 0, .int 0])), (q_1, .inr (3, [.ref z_4, .ref z_5, .int 0])), (z_4, .inl (cI, 100, .inl (fun _ => 0))), (z_5, .inl (cI, 100, .inl (fun _ => 0))), (q_6, .inr (1, [.long 1, .ref z_9, .ref z_10, .int 0])), (z_9, .inl (cL, 18, .inr (.inl (fun _ => 0)))), (z_10, .inl (cL, 4, .inr (.inl (fun _ => 0)))), (q_11, .inr (1, [.long 58659, .ref z_14, .ref z_15, .int 0])), (z_14, .inl (cL, 18, .inr (.inl (fun _ => 0)))), (z_15, .inl (cL, 4, .inr (.inl (fun _ => 0))))] H := hP
  have hD : va_D A [(x0, .inr (0, [.int 0, .ref q_1, .ref q_6, .ref q_11, .null, .null, .null, .int 0, .int 0, .int 0, .int 0, .int 0])), (q_1, .inr (3, [.ref z_4, .ref z_5, .int 0])), (z_4, .inl (cI, 100, .inl (fun _ => 0))), (z_5, .inl (cI, 100, .inl (fun _ => 0))), (q_6, .inr (1, [.long 1, .ref z_9, .ref z_10, .int 0])), (z_9, .inl (cL, 18, .inr (.inl (fun _ => 0)))), (z_10, .inl (cL, 4, .inr (.inl (fun _ => 0)))), (q_11, .inr (1, [.long 58659, .ref z_14, .ref z_15, .int 0])), (z_14, .inl (cL, 18, .inr (.inl (fun _ => 0)))), (z_15, .inl (cL, 4, .inr (.inl (fun _ => 0))))] := hD
  refine lv_aload_n hx hb d_Gate_init_41 rfl (lv_at hl 0 rfl) ?_
  refine va_new (ci := 2) (fs := [.null, .null, .null, .null, .int 0]) (C := R_Plan) (T := F_Plan) (N := 5) hx hb htb iw_Plan t_Plan t_Plan_ok hown (htb _ tw_85) (htb _ tw_86) (htb _ tw_23) hK.1 hP hD hS hA rfl (fun j hj => by rcases (show j = 0 ∨ j = 1 ∨ j = 2 ∨ j = 3 ∨ j = 4 by omega) with rfl | rfl | rfl | rfl | rfl <;> rfl) (Nat.le_of_ble_eq_true rfl) (Nat.le_of_ble_eq_true rfl) d_Gate_init_42 (fun q_16 H hP hD hS => ?_)
  have hP : va_P (dC, dI) classes [(x0, .inr (0, [.int 0, .ref q_1, .ref q_6, .ref q_11, .null, .null, .null, .int 0, .int 0, .int 0, .int 0, .int 0])), (q_1, .inr (3, [.ref z_4, .ref z_5, .int 0])), (z_4, .inl (cI, 100, .inl (fun _ => 0))), (z_5, .inl (cI, 100, .inl (fun _ => 0))), (q_6, .inr (1, [.long 1, .ref z_9, .ref z_10, .int 0])), (z_9, .inl (cL, 18, .inr (.inl (fun _ => 0)))), (z_10, .inl (cL, 4, .inr (.inl (fun _ => 0)))), (q_11, .inr (1, [.long 58659, .ref z_14, .ref z_15, .int 0])), (z_14, .inl (cL, 18, .inr (.inl (fun _ => 0)))), (z_15, .inl (cL, 4, .inr (.inl (fun _ => 0)))), (q_16, .inr (2, [.null, .null, .null, .null, .int 0]))] H := hP
  have hD : va_D A [(x0, .inr (0, [.int 0, .ref q_1, .ref q_6, .ref q_11, .null, .null, .null, .int 0, .int 0, .int 0, .int 0, .int 0])), (q_1, .inr (3, [.ref z_4, .ref z_5, .int 0])), (z_4, .inl (cI, 100, .inl (fun _ => 0))), (z_5, .inl (cI, 100, .inl (fun _ => 0))), (q_6, .inr (1, [.long 1, .ref z_9, .ref z_10, .int 0])), (z_9, .inl (cL, 18, .inr (.inl (fun _ => 0)))), (z_10, .inl (cL, 4, .inr (.inl (fun _ => 0)))), (q_11, .inr (1, [.long 58659, .ref z_14, .ref z_15, .int 0])), (z_14, .inl (cL, 18, .inr (.inl (fun _ => 0)))), (z_15, .inl (cL, 4, .inr (.inl (fun _ => 0)))), (q_16, .inr (2, [.null, .null, .null, .null, .int 0]))] := hD
  refine W.widen (k := 10) (n := 260) (Nat.le_of_ble_eq_true rfl) (Nat.le_of_ble_eq_true rfl) ?_
  refine lv_dup hx hb d_Gate_init_45 rfl ?_
  refine af_v (wr := [(x0, .inr (0, [.int 0, .ref q_1, .ref q_6, .ref q_11, .null, .null, .null, .int 0, .int 0, .int 0, .int 0, .int 0])), (q_1, .inr (3, [.ref z_4, .ref z_5, .int 0])), (z_4, .inl (cI, 100, .inl (fun _ => 0))), (z_5, .inl (cI, 100, .inl (fun _ => 0))), (q_6, .inr (1, [.long 1, .ref z_9, .ref z_10, .int 0])), (z_9, .inl (cL, 18, .inr (.inl (fun _ => 0)))), (z_10, .inl (cL, 4, .inr (.inl (fun _ => 0)))), (q_11, .inr (1, [.long 58659, .ref z_14, .ref z_15, .int 0])), (z_14, .inl (cL, 18, .inr (.inl (fun _ => 0)))), (z_15, .inl (cL, 4, .inr (.inl (fun _ => 0))))]) (va_runIN (As := []) (rest := [.ref q_16, .ref x0]) ⟨hx, hb, hml, hown, htb⟩ (c_Plan_init l dC dI cI cL H.size q_16 ) ⟨va_cnB 0 htb (gd_w tw_89) rfl rfl rfl (hK.2 _ nt_1) (htb _ tw_23) (by decide +kernel) ⟨Nat.le_of_ble_eq_true rfl, Nat.le_of_ble_eq_true rfl⟩, rfl, htb _ tw_88⟩ (pv_S hK (hP.sub (ws' := [(q_16, .inr (2, [.null, .null, .null, .null, .int 0]))]) [10] rfl) (hD.sub (ws' := [(q_16, .inr (2, [.null, .null, .null, .null, .int 0]))]) [10] (by decide) rfl)) rfl rfl hl.1 rfl (lv_room (Nat.le_of_ble_eq_true rfl)) d_Gate_init_46 ⟨Nat.le_of_ble_eq_true rfl, Nat.le_of_ble_eq_true rfl⟩) hP hD hS hA [10] [0, 1, 2, 3, 4, 5, 6, 7, 8, 9] rfl rfl (by decide) (by decide) (fun u_18 H locs hw hP hD hS => ?_)
  obtain ⟨z_19, z_20, z_21, z_22⟩ := u_18
  have hP : va_P (dC, dI) classes [(x0, .inr (0, [.int 0, .ref q_1, .ref q_6, .ref q_11, .null, .null, .null, .int 0, .int 0, .int 0, .int 0, .int 0])), (q_1, .inr (3, [.ref z_4, .ref z_5, .int 0])), (z_4, .inl (cI, 100, .inl (fun _ => 0))), (z_5, .inl (cI, 100, .inl (fun _ => 0))), (q_6, .inr (1, [.long 1, .ref z_9, .ref z_10, .int 0])), (z_9, .inl (cL, 18, .inr (.inl (fun _ => 0)))), (z_10, .inl (cL, 4, .inr (.inl (fun _ => 0)))), (q_11, .inr (1, [.long 58659, .ref z_14, .ref z_15, .int 0])), (z_14, .inl (cL, 18, .inr (.inl (fun _ => 0)))), (z_15, .inl (cL, 4, .inr (.inl (fun _ => 0)))), (q_16, .inr (2, [.ref z_19, .ref z_20, .ref z_21, .ref z_22, .int 0])), (z_19, .inl (cI, 4, .inl (fun _ => 0))), (z_20, .inl (cI, 4, .inl (fun _ => 0))), (z_21, .inl (cI, 4, .inl (fun _ => 0))), (z_22, .inl (cI, 4, .inl (fun _ => 0)))] H := hP
  have hD : va_D A [(x0, .inr (0, [.int 0, .ref q_1, .ref q_6, .ref q_11, .null, .null, .null, .int 0, .int 0, .int 0, .int 0, .int 0])), (q_1, .inr (3, [.ref z_4, .ref z_5, .int 0])), (z_4, .inl (cI, 100, .inl (fun _ => 0))), (z_5, .inl (cI, 100, .inl (fun _ => 0))), (q_6, .inr (1, [.long 1, .ref z_9, .ref z_10, .int 0])), (z_9, .inl (cL, 18, .inr (.inl (fun _ => 0)))), (z_10, .inl (cL, 4, .inr (.inl (fun _ => 0)))), (q_11, .inr (1, [.long 58659, .ref z_14, .ref z_15, .int 0])), (z_14, .inl (cL, 18, .inr (.inl (fun _ => 0)))), (z_15, .inl (cL, 4, .inr (.inl (fun _ => 0)))), (q_16, .inr (2, [.ref z_19, .ref z_20, .ref z_21, .ref z_22, .int 0])), (z_19, .inl (cI, 4, .inl (fun _ => 0))), (z_20, .inl (cI, 4, .inl (fun _ => 0))), (z_21, .inl (cI, 4, .inl (fun _ => 0))), (z_22, .inl (cI, 4, .inl (fun _ => 0)))] := hD
  refine W.widen (k := 14) (n := 276) (Nat.le_of_ble_eq_true rfl) (Nat.le_of_ble_eq_true rfl) ?_
  refine va_putF (D := (dC, dI)) (ci := 0) (v := .ref q_16) (ty := (.object "TwinGate$FlipPlan")) (C := R_Gate) (T := F_Gate) (N := 12) hx hb htb iw_Gate t_Gate t_Gate_ok n_Gate hown hK.1 hP hD hS 0 rfl rfl 4 (by decide) (htb _ tw_122) (fun _ h9 => h9) rfl hin rfl (by decide +kernel) rfl rfl (Nat.le_of_ble_eq_true rfl) d_Gate_init_49 (fun H locs hP hD hS => ?_)
  have hP : va_P (dC, dI) classes [(x0, .inr (0, [.int 0, .ref q_1, .ref q_6, .ref q_11, .ref q_16, .null, .null, .int 0, .int 0, .int 0, .int 0, .int 0])), (q_1, .inr (3, [.ref z_4, .ref z_5, .int 0])), (z_4, .inl (cI, 100, .inl (fun _ => 0))), (z_5, .inl (cI, 100, .inl (fun _ => 0))), (q_6, .inr (1, [.long 1, .ref z_9, .ref z_10, .int 0])), (z_9, .inl (cL, 18, .inr (.inl (fun _ => 0)))), (z_10, .inl (cL, 4, .inr (.inl (fun _ => 0)))), (q_11, .inr (1, [.long 58659, .ref z_14, .ref z_15, .int 0])), (z_14, .inl (cL, 18, .inr (.inl (fun _ => 0)))), (z_15, .inl (cL, 4, .inr (.inl (fun _ => 0)))), (q_16, .inr (2, [.ref z_19, .ref z_20, .ref z_21, .ref z_22, .int 0])), (z_19, .inl (cI, 4, .inl (fun _ => 0))), (z_20, .inl (cI, 4, .inl (fun _ => 0))), (z_21, .inl (cI, 4, .inl (fun _ => 0))), (z_22, .inl (cI, 4, .inl (fun _ => 0)))] H := hP
  have hD : va_D A [(x0, .inr (0, [.int 0, .ref q_1, .ref q_6, .ref q_11, .ref q_16, .null, .null, .int 0, .int 0, .int 0, .int 0, .int 0])), (q_1, .inr (3, [.ref z_4, .ref z_5, .int 0])), (z_4, .inl (cI, 100, .inl (fun _ => 0))), (z_5, .inl (cI, 100, .inl (fun _ => 0))), (q_6, .inr (1, [.long 1, .ref z_9, .ref z_10, .int 0])), (z_9, .inl (cL, 18, .inr (.inl (fun _ => 0)))), (z_10, .inl (cL, 4, .inr (.inl (fun _ => 0)))), (q_11, .inr (1, [.long 58659, .ref z_14, .ref z_15, .int 0])), (z_14, .inl (cL, 18, .inr (.inl (fun _ => 0)))), (z_15, .inl (cL, 4, .inr (.inl (fun _ => 0)))), (q_16, .inr (2, [.ref z_19, .ref z_20, .ref z_21, .ref z_22, .int 0])), (z_19, .inl (cI, 4, .inl (fun _ => 0))), (z_20, .inl (cI, 4, .inl (fun _ => 0))), (z_21, .inl (cI, 4, .inl (fun _ => 0))), (z_22, .inl (cI, 4, .inl (fun _ => 0)))] := hD
  refine lv_aload_n hx hb d_Gate_init_52 rfl (lv_at hl 0 rfl) ?_
  refine lv_iconst (v := 4) hx hb d_Gate_init_53 (by decide) ?_
  refine va_newa (atype := .int) (N' := 4) (a0 := (4, .inl (fun _ => 0))) (ty := .int) hx hb (htb _ tw_61) rfl hK.1 hP hD hS hA (fun _ => rfl) (by decide) rfl (by decide) (Nat.le_of_ble_eq_true rfl) (Nat.le_of_ble_eq_true rfl) d_Gate_init_54 (fun q_23 cA_24 H hK9 hP hD hS => ?_)
  obtain rfl := ka_i hK9
  have hP : va_P (dC, dI) classes [(x0, .inr (0, [.int 0, .ref q_1, .ref q_6, .ref q_11, .ref q_16, .null, .null, .int 0, .int 0, .int 0, .int 0, .int 0])), (q_1, .inr (3, [.ref z_4, .ref z_5, .int 0])), (z_4, .inl (cI, 100, .inl (fun _ => 0))), (z_5, .inl (cI, 100, .inl (fun _ => 0))), (q_6, .inr (1, [.long 1, .ref z_9, .ref z_10, .int 0])), (z_9, .inl (cL, 18, .inr (.inl (fun _ => 0)))), (z_10, .inl (cL, 4, .inr (.inl (fun _ => 0)))), (q_11, .inr (1, [.long 58659, .ref z_14, .ref z_15, .int 0])), (z_14, .inl (cL, 18, .inr (.inl (fun _ => 0)))), (z_15, .inl (cL, 4, .inr (.inl (fun _ => 0)))), (q_16, .inr (2, [.ref z_19, .ref z_20, .ref z_21, .ref z_22, .int 0])), (z_19, .inl (cI, 4, .inl (fun _ => 0))), (z_20, .inl (cI, 4, .inl (fun _ => 0))), (z_21, .inl (cI, 4, .inl (fun _ => 0))), (z_22, .inl (cI, 4, .inl (fun _ => 0))), (q_23, .inl (cI, 4, .inl (fun _ => 0)))] H := hP
  have hD : va_D A [(x0, .inr (0, [.int 0, .ref q_1, .ref q_6, .ref q_11, .ref q_16, .null, .null, .int 0, .int 0, .int 0, .int 0, .int 0])), (q_1, .inr (3, [.ref z_4, .ref z_5, .int 0])), (z_4, .inl (cI, 100, .inl (fun _ => 0))), (z_5, .inl (cI, 100, .inl (fun _ => 0))), (q_6, .inr (1, [.long 1, .ref z_9, .ref z_10, .int 0])), (z_9, .inl (cL, 18, .inr (.inl (fun _ => 0)))), (z_10, .inl (cL, 4, .inr (.inl (fun _ => 0)))), (q_11, .inr (1, [.long 58659, .ref z_14, .ref z_15, .int 0])), (z_14, .inl (cL, 18, .inr (.inl (fun _ => 0)))), (z_15, .inl (cL, 4, .inr (.inl (fun _ => 0)))), (q_16, .inr (2, [.ref z_19, .ref z_20, .ref z_21, .ref z_22, .int 0])), (z_19, .inl (cI, 4, .inl (fun _ => 0))), (z_20, .inl (cI, 4, .inl (fun _ => 0))), (z_21, .inl (cI, 4, .inl (fun _ => 0))), (z_22, .inl (cI, 4, .inl (fun _ => 0))), (q_23, .inl (cI, 4, .inl (fun _ => 0)))] := hD
  refine W.widen (k := 15) (n := 280) (Nat.le_of_ble_eq_true rfl) (Nat.le_of_ble_eq_true rfl) ?_
  refine va_putF (D := (dC, dI)) (ci := 0) (v := .ref q_23) (ty := (.array .int)) (C := R_Gate) (T := F_Gate) (N := 12) hx hb htb iw_Gate t_Gate t_Gate_ok n_Gate hown hK.1 hP hD hS 0 rfl rfl 5 (by decide) (htb _ tw_123) (fun _ h9 => h9) rfl hin rfl (by decide +kernel) rfl rfl (Nat.le_of_ble_eq_true rfl) d_Gate_init_56 (fun H locs hP hD hS => ?_)
  have hP : va_P (dC, dI) classes [(x0, .inr (0, [.int 0, .ref q_1, .ref q_6, .ref q_11, .ref q_16, .ref q_23, .null, .int 0, .int 0, .int 0, .int 0, .int 0])), (q_1, .inr (3, [.ref z_4, .ref z_5, .int 0])), (z_4, .inl (cI, 100, .inl (fun _ => 0))), (z_5, .inl (cI, 100, .inl (fun _ => 0))), (q_6, .inr (1, [.long 1, .ref z_9, .ref z_10, .int 0])), (z_9, .inl (cL, 18, .inr (.inl (fun _ => 0)))), (z_10, .inl (cL, 4, .inr (.inl (fun _ => 0)))), (q_11, .inr (1, [.long 58659, .ref z_14, .ref z_15, .int 0])), (z_14, .inl (cL, 18, .inr (.inl (fun _ => 0)))), (z_15, .inl (cL, 4, .inr (.inl (fun _ => 0)))), (q_16, .inr (2, [.ref z_19, .ref z_20, .ref z_21, .ref z_22, .int 0])), (z_19, .inl (cI, 4, .inl (fun _ => 0))), (z_20, .inl (cI, 4, .inl (fun _ => 0))), (z_21, .inl (cI, 4, .inl (fun _ => 0))), (z_22, .inl (cI, 4, .inl (fun _ => 0))), (q_23, .inl (cI, 4, .inl (fun _ => 0)))] H := hP
  have hD : va_D A [(x0, .inr (0, [.int 0, .ref q_1, .ref q_6, .ref q_11, .ref q_16, .ref q_23, .null, .int 0, .int 0, .int 0, .int 0, .int 0])), (q_1, .inr (3, [.ref z_4, .ref z_5, .int 0])), (z_4, .inl (cI, 100, .inl (fun _ => 0))), (z_5, .inl (cI, 100, .inl (fun _ => 0))), (q_6, .inr (1, [.long 1, .ref z_9, .ref z_10, .int 0])), (z_9, .inl (cL, 18, .inr (.inl (fun _ => 0)))), (z_10, .inl (cL, 4, .inr (.inl (fun _ => 0)))), (q_11, .inr (1, [.long 58659, .ref z_14, .ref z_15, .int 0])), (z_14, .inl (cL, 18, .inr (.inl (fun _ => 0)))), (z_15, .inl (cL, 4, .inr (.inl (fun _ => 0)))), (q_16, .inr (2, [.ref z_19, .ref z_20, .ref z_21, .ref z_22, .int 0])), (z_19, .inl (cI, 4, .inl (fun _ => 0))), (z_20, .inl (cI, 4, .inl (fun _ => 0))), (z_21, .inl (cI, 4, .inl (fun _ => 0))), (z_22, .inl (cI, 4, .inl (fun _ => 0))), (q_23, .inl (cI, 4, .inl (fun _ => 0)))] := hD
  refine lv_aload_n hx hb d_Gate_init_59 rfl (lv_at hl 0 rfl) ?_
  refine lv_iconst (v := 4) hx hb d_Gate_init_60 (by decide) ?_
  refine va_newa (atype := .int) (N' := 4) (a0 := (4, .inl (fun _ => 0))) (ty := .int) hx hb (htb _ tw_61) rfl hK.1 hP hD hS hA (fun _ => rfl) (by decide) rfl (by decide) (Nat.le_of_ble_eq_true rfl) (Nat.le_of_ble_eq_true rfl) d_Gate_init_61 (fun q_25 cA_26 H hK9 hP hD hS => ?_)
  obtain rfl := ka_i hK9
  have hP : va_P (dC, dI) classes [(x0, .inr (0, [.int 0, .ref q_1, .ref q_6, .ref q_11, .ref q_16, .ref q_23, .null, .int 0, .int 0, .int 0, .int 0, .int 0])), (q_1, .inr (3, [.ref z_4, .ref z_5, .int 0])), (z_4, .inl (cI, 100, .inl (fun _ => 0))), (z_5, .inl (cI, 100, .inl (fun _ => 0))), (q_6, .inr (1, [.long 1, .ref z_9, .ref z_10, .int 0])), (z_9, .inl (cL, 18, .inr (.inl (fun _ => 0)))), (z_10, .inl (cL, 4, .inr (.inl (fun _ => 0)))), (q_11, .inr (1, [.long 58659, .ref z_14, .ref z_15, .int 0])), (z_14, .inl (cL, 18, .inr (.inl (fun _ => 0)))), (z_15, .inl (cL, 4, .inr (.inl (fun _ => 0)))), (q_16, .inr (2, [.ref z_19, .ref z_20, .ref z_21, .ref z_22, .int 0])), (z_19, .inl (cI, 4, .inl (fun _ => 0))), (z_20, .inl (cI, 4, .inl (fun _ => 0))), (z_21, .inl (cI, 4, .inl (fun _ => 0))), (z_22, .inl (cI, 4, .inl (fun _ => 0))), (q_23, .inl (cI, 4, .inl (fun _ => 0))), (q_25, .inl (cI, 4, .inl (fun _ => 0)))] H := hP
  have hD : va_D A [(x0, .inr (0, [.int 0, .ref q_1, .ref q_6, .ref q_11, .ref q_16, .ref q_23, .null, .int 0, .int 0, .int 0, .int 0, .int 0])), (q_1, .inr (3, [.ref z_4, .ref z_5, .int 0])), (z_4, .inl (cI, 100, .inl (fun _ => 0))), (z_5, .inl (cI, 100, .inl (fun _ => 0))), (q_6, .inr (1, [.long 1, .ref z_9, .ref z_10, .int 0])), (z_9, .inl (cL, 18, .inr (.inl (fun _ => 0)))), (z_10, .inl (cL, 4, .inr (.inl (fun _ => 0)))), (q_11, .inr (1, [.long 58659, .ref z_14, .ref z_15, .int 0])), (z_14, .inl (cL, 18, .inr (.inl (fun _ => 0)))), (z_15, .inl (cL, 4, .inr (.inl (fun _ => 0)))), (q_16, .inr (2, [.ref z_19, .ref z_20, .ref z_21, .ref z_22, .int 0])), (z_19, .inl (cI, 4, .inl (fun _ => 0))), (z_20, .inl (cI, 4, .inl (fun _ => 0))), (z_21, .inl (cI, 4, .inl (fun _ => 0))), (z_22, .inl (cI, 4, .inl (fun _ => 0))), (q_23, .inl (cI, 4, .inl (fun _ => 0))), (q_25, .inl (cI, 4, .inl (fun _ => 0)))] := hD
  refine W.widen (k := 16) (n := 284) (Nat.le_of_ble_eq_true rfl) (Nat.le_of_ble_eq_true rfl) ?_
  refine va_putF (D := (dC, dI)) (ci := 0) (v := .ref q_25) (ty := (.array .int)) (C := R_Gate) (T := F_Gate) (N := 12) hx hb htb iw_Gate t_Gate t_Gate_ok n_Gate hown hK.1 hP hD hS 0 rfl rfl 6 (by decide) (htb _ tw_124) (fun _ h9 => h9) rfl hin rfl (by decide +kernel) rfl rfl (Nat.le_of_ble_eq_true rfl) d_Gate_init_63 (fun H locs hP hD hS => ?_)
  have hP : va_P (dC, dI) classes [(x0, .inr (0, [.int 0, .ref q_1, .ref q_6, .ref q_11, .ref q_16, .ref q_23, .ref q_25, .int 0, .int 0, .int 0, .int 0, .int 0])), (q_1, .inr (3, [.ref z_4, .ref z_5, .int 0])), (z_4, .inl (cI, 100, .inl (fun _ => 0))), (z_5, .inl (cI, 100, .inl (fun _ => 0))), (q_6, .inr (1, [.long 1, .ref z_9, .ref z_10, .int 0])), (z_9, .inl (cL, 18, .inr (.inl (fun _ => 0)))), (z_10, .inl (cL, 4, .inr (.inl (fun _ => 0)))), (q_11, .inr (1, [.long 58659, .ref z_14, .ref z_15, .int 0])), (z_14, .inl (cL, 18, .inr (.inl (fun _ => 0)))), (z_15, .inl (cL, 4, .inr (.inl (fun _ => 0)))), (q_16, .inr (2, [.ref z_19, .ref z_20, .ref z_21, .ref z_22, .int 0])), (z_19, .inl (cI, 4, .inl (fun _ => 0))), (z_20, .inl (cI, 4, .inl (fun _ => 0))), (z_21, .inl (cI, 4, .inl (fun _ => 0))), (z_22, .inl (cI, 4, .inl (fun _ => 0))), (q_23, .inl (cI, 4, .inl (fun _ => 0))), (q_25, .inl (cI, 4, .inl (fun _ => 0)))] H := hP
  have hD : va_D A [(x0, .inr (0, [.int 0, .ref q_1, .ref q_6, .ref q_11, .ref q_16, .ref q_23, .ref q_25, .int 0, .int 0, .int 0, .int 0, .int 0])), (q_1, .inr (3, [.ref z_4, .ref z_5, .int 0])), (z_4, .inl (cI, 100, .inl (fun _ => 0))), (z_5, .inl (cI, 100, .inl (fun _ => 0))), (q_6, .inr (1, [.long 1, .ref z_9, .ref z_10, .int 0])), (z_9, .inl (cL, 18, .inr (.inl (fun _ => 0)))), (z_10, .inl (cL, 4, .inr (.inl (fun _ => 0)))), (q_11, .inr (1, [.long 58659, .ref z_14, .ref z_15, .int 0])), (z_14, .inl (cL, 18, .inr (.inl (fun _ => 0)))), (z_15, .inl (cL, 4, .inr (.inl (fun _ => 0)))), (q_16, .inr (2, [.ref z_19, .ref z_20, .ref z_21, .ref z_22, .int 0])), (z_19, .inl (cI, 4, .inl (fun _ => 0))), (z_20, .inl (cI, 4, .inl (fun _ => 0))), (z_21, .inl (cI, 4, .inl (fun _ => 0))), (z_22, .inl (cI, 4, .inl (fun _ => 0))), (q_23, .inl (cI, 4, .inl (fun _ => 0))), (q_25, .inl (cI, 4, .inl (fun _ => 0)))] := hD
  refine lv_aload_n hx hb d_Gate_init_66 rfl (lv_at hl 0 rfl) ?_
  refine lv_iconst (v := 0) hx hb d_Gate_init_67 (by decide) ?_
  refine va_put (D := (dC, dI)) (ci := 0) (v := .int 0) (ty := .boolean) (C := R_Gate) (T := F_Gate) (N := 12) hx hb htb iw_Gate t_Gate t_Gate_ok n_Gate hown hK.1 hP hD hS 0 rfl rfl 7 (by decide) (htb _ tw_125) (fun _ h9 => h9) rfl (by decide +kernel) (by first | rfl | decide) (by first | rfl | decide) (Nat.le_of_ble_eq_true rfl) d_Gate_init_68 (fun H locs hP hD hS => ?_)
  have hP : va_P (dC, dI) classes [(x0, .inr (0, [.int 0, .ref q_1, .ref q_6, .ref q_11, .ref q_16, .ref q_23, .ref q_25, .int 0, .int 0, .int 0, .int 0, .int 0])), (q_1, .inr (3, [.ref z_4, .ref z_5, .int 0])), (z_4, .inl (cI, 100, .inl (fun _ => 0))), (z_5, .inl (cI, 100, .inl (fun _ => 0))), (q_6, .inr (1, [.long 1, .ref z_9, .ref z_10, .int 0])), (z_9, .inl (cL, 18, .inr (.inl (fun _ => 0)))), (z_10, .inl (cL, 4, .inr (.inl (fun _ => 0)))), (q_11, .inr (1, [.long 58659, .ref z_14, .ref z_15, .int 0])), (z_14, .inl (cL, 18, .inr (.inl (fun _ => 0)))), (z_15, .inl (cL, 4, .inr (.inl (fun _ => 0)))), (q_16, .inr (2, [.ref z_19, .ref z_20, .ref z_21, .ref z_22, .int 0])), (z_19, .inl (cI, 4, .inl (fun _ => 0))), (z_20, .inl (cI, 4, .inl (fun _ => 0))), (z_21, .inl (cI, 4, .inl (fun _ => 0))), (z_22, .inl (cI, 4, .inl (fun _ => 0))), (q_23, .inl (cI, 4, .inl (fun _ => 0))), (q_25, .inl (cI, 4, .inl (fun _ => 0)))] H := hP
  have hD : va_D A [(x0, .inr (0, [.int 0, .ref q_1, .ref q_6, .ref q_11, .ref q_16, .ref q_23, .ref q_25, .int 0, .int 0, .int 0, .int 0, .int 0])), (q_1, .inr (3, [.ref z_4, .ref z_5, .int 0])), (z_4, .inl (cI, 100, .inl (fun _ => 0))), (z_5, .inl (cI, 100, .inl (fun _ => 0))), (q_6, .inr (1, [.long 1, .ref z_9, .ref z_10, .int 0])), (z_9, .inl (cL, 18, .inr (.inl (fun _ => 0)))), (z_10, .inl (cL, 4, .inr (.inl (fun _ => 0)))), (q_11, .inr (1, [.long 58659, .ref z_14, .ref z_15, .int 0])), (z_14, .inl (cL, 18, .inr (.inl (fun _ => 0)))), (z_15, .inl (cL, 4, .inr (.inl (fun _ => 0)))), (q_16, .inr (2, [.ref z_19, .ref z_20, .ref z_21, .ref z_22, .int 0])), (z_19, .inl (cI, 4, .inl (fun _ => 0))), (z_20, .inl (cI, 4, .inl (fun _ => 0))), (z_21, .inl (cI, 4, .inl (fun _ => 0))), (z_22, .inl (cI, 4, .inl (fun _ => 0))), (q_23, .inl (cI, 4, .inl (fun _ => 0))), (q_25, .inl (cI, 4, .inl (fun _ => 0)))] := hD
  refine lv_aload_n hx hb d_Gate_init_71 rfl (lv_at hl 0 rfl) ?_
  refine lv_iconst (v := 0) hx hb d_Gate_init_72 (by decide) ?_
  refine va_put (D := (dC, dI)) (ci := 0) (v := .int 0) (ty := .int) (C := R_Gate) (T := F_Gate) (N := 12) hx hb htb iw_Gate t_Gate t_Gate_ok n_Gate hown hK.1 hP hD hS 0 rfl rfl 8 (by decide) (htb _ tw_126) (fun _ h9 => h9) rfl (by decide +kernel) rfl rfl (Nat.le_of_ble_eq_true rfl) d_Gate_init_73 (fun H locs hP hD hS => ?_)
  have hP : va_P (dC, dI) classes [(x0, .inr (0, [.int 0, .ref q_1, .ref q_6, .ref q_11, .ref q_16, .ref q_23, .ref q_25, .int 0, .int 0, .int 0, .int 0, .int 0])), (q_1, .inr (3, [.ref z_4, .ref z_5, .int 0])), (z_4, .inl (cI, 100, .inl (fun _ => 0))), (z_5, .inl (cI, 100, .inl (fun _ => 0))), (q_6, .inr (1, [.long 1, .ref z_9, .ref z_10, .int 0])), (z_9, .inl (cL, 18, .inr (.inl (fun _ => 0)))), (z_10, .inl (cL, 4, .inr (.inl (fun _ => 0)))), (q_11, .inr (1, [.long 58659, .ref z_14, .ref z_15, .int 0])), (z_14, .inl (cL, 18, .inr (.inl (fun _ => 0)))), (z_15, .inl (cL, 4, .inr (.inl (fun _ => 0)))), (q_16, .inr (2, [.ref z_19, .ref z_20, .ref z_21, .ref z_22, .int 0])), (z_19, .inl (cI, 4, .inl (fun _ => 0))), (z_20, .inl (cI, 4, .inl (fun _ => 0))), (z_21, .inl (cI, 4, .inl (fun _ => 0))), (z_22, .inl (cI, 4, .inl (fun _ => 0))), (q_23, .inl (cI, 4, .inl (fun _ => 0))), (q_25, .inl (cI, 4, .inl (fun _ => 0)))] H := hP
  have hD : va_D A [(x0, .inr (0, [.int 0, .ref q_1, .ref q_6, .ref q_11, .ref q_16, .ref q_23, .ref q_25, .int 0, .int 0, .int 0, .int 0, .int 0])), (q_1, .inr (3, [.ref z_4, .ref z_5, .int 0])), (z_4, .inl (cI, 100, .inl (fun _ => 0))), (z_5, .inl (cI, 100, .inl (fun _ => 0))), (q_6, .inr (1, [.long 1, .ref z_9, .ref z_10, .int 0])), (z_9, .inl (cL, 18, .inr (.inl (fun _ => 0)))), (z_10, .inl (cL, 4, .inr (.inl (fun _ => 0)))), (q_11, .inr (1, [.long 58659, .ref z_14, .ref z_15, .int 0])), (z_14, .inl (cL, 18, .inr (.inl (fun _ => 0)))), (z_15, .inl (cL, 4, .inr (.inl (fun _ => 0)))), (q_16, .inr (2, [.ref z_19, .ref z_20, .ref z_21, .ref z_22, .int 0])), (z_19, .inl (cI, 4, .inl (fun _ => 0))), (z_20, .inl (cI, 4, .inl (fun _ => 0))), (z_21, .inl (cI, 4, .inl (fun _ => 0))), (z_22, .inl (cI, 4, .inl (fun _ => 0))), (q_23, .inl (cI, 4, .inl (fun _ => 0))), (q_25, .inl (cI, 4, .inl (fun _ => 0)))] := hD
  refine lv_aload_n hx hb d_Gate_init_76 rfl (lv_at hl 0 rfl) ?_
  refine lv_iconst (v := 0) hx hb d_Gate_init_77 (by decide) ?_
  refine va_put (D := (dC, dI)) (ci := 0) (v := .int 0) (ty := .int) (C := R_Gate) (T := F_Gate) (N := 12) hx hb htb iw_Gate t_Gate t_Gate_ok n_Gate hown hK.1 hP hD hS 0 rfl rfl 9 (by decide) (htb _ tw_127) (fun _ h9 => h9) rfl (by decide +kernel) rfl rfl (Nat.le_of_ble_eq_true rfl) d_Gate_init_78 (fun H locs hP hD hS => ?_)
  have hP : va_P (dC, dI) classes [(x0, .inr (0, [.int 0, .ref q_1, .ref q_6, .ref q_11, .ref q_16, .ref q_23, .ref q_25, .int 0, .int 0, .int 0, .int 0, .int 0])), (q_1, .inr (3, [.ref z_4, .ref z_5, .int 0])), (z_4, .inl (cI, 100, .inl (fun _ => 0))), (z_5, .inl (cI, 100, .inl (fun _ => 0))), (q_6, .inr (1, [.long 1, .ref z_9, .ref z_10, .int 0])), (z_9, .inl (cL, 18, .inr (.inl (fun _ => 0)))), (z_10, .inl (cL, 4, .inr (.inl (fun _ => 0)))), (q_11, .inr (1, [.long 58659, .ref z_14, .ref z_15, .int 0])), (z_14, .inl (cL, 18, .inr (.inl (fun _ => 0)))), (z_15, .inl (cL, 4, .inr (.inl (fun _ => 0)))), (q_16, .inr (2, [.ref z_19, .ref z_20, .ref z_21, .ref z_22, .int 0])), (z_19, .inl (cI, 4, .inl (fun _ => 0))), (z_20, .inl (cI, 4, .inl (fun _ => 0))), (z_21, .inl (cI, 4, .inl (fun _ => 0))), (z_22, .inl (cI, 4, .inl (fun _ => 0))), (q_23, .inl (cI, 4, .inl (fun _ => 0))), (q_25, .inl (cI, 4, .inl (fun _ => 0)))] H := hP
  have hD : va_D A [(x0, .inr (0, [.int 0, .ref q_1, .ref q_6, .ref q_11, .ref q_16, .ref q_23, .ref q_25, .int 0, .int 0, .int 0, .int 0, .int 0])), (q_1, .inr (3, [.ref z_4, .ref z_5, .int 0])), (z_4, .inl (cI, 100, .inl (fun _ => 0))), (z_5, .inl (cI, 100, .inl (fun _ => 0))), (q_6, .inr (1, [.long 1, .ref z_9, .ref z_10, .int 0])), (z_9, .inl (cL, 18, .inr (.inl (fun _ => 0)))), (z_10, .inl (cL, 4, .inr (.inl (fun _ => 0)))), (q_11, .inr (1, [.long 58659, .ref z_14, .ref z_15, .int 0])), (z_14, .inl (cL, 18, .inr (.inl (fun _ => 0)))), (z_15, .inl (cL, 4, .inr (.inl (fun _ => 0)))), (q_16, .inr (2, [.ref z_19, .ref z_20, .ref z_21, .ref z_22, .int 0])), (z_19, .inl (cI, 4, .inl (fun _ => 0))), (z_20, .inl (cI, 4, .inl (fun _ => 0))), (z_21, .inl (cI, 4, .inl (fun _ => 0))), (z_22, .inl (cI, 4, .inl (fun _ => 0))), (q_23, .inl (cI, 4, .inl (fun _ => 0))), (q_25, .inl (cI, 4, .inl (fun _ => 0)))] := hD
  refine lv_aload_n hx hb d_Gate_init_81 rfl (lv_at hl 0 rfl) ?_
  refine lv_iconst (v := 0) hx hb d_Gate_init_82 (by decide) ?_
  refine va_put (D := (dC, dI)) (ci := 0) (v := .int 0) (ty := .int) (C := R_Gate) (T := F_Gate) (N := 12) hx hb htb iw_Gate t_Gate t_Gate_ok n_Gate hown hK.1 hP hD hS 0 rfl rfl 10 (by decide) (htb _ tw_128) (fun _ h9 => h9) rfl (by decide +kernel) rfl rfl (Nat.le_of_ble_eq_true rfl) d_Gate_init_83 (fun H locs hP hD hS => ?_)
  have hP : va_P (dC, dI) classes [(x0, .inr (0, [.int 0, .ref q_1, .ref q_6, .ref q_11, .ref q_16, .ref q_23, .ref q_25, .int 0, .int 0, .int 0, .int 0, .int 0])), (q_1, .inr (3, [.ref z_4, .ref z_5, .int 0])), (z_4, .inl (cI, 100, .inl (fun _ => 0))), (z_5, .inl (cI, 100, .inl (fun _ => 0))), (q_6, .inr (1, [.long 1, .ref z_9, .ref z_10, .int 0])), (z_9, .inl (cL, 18, .inr (.inl (fun _ => 0)))), (z_10, .inl (cL, 4, .inr (.inl (fun _ => 0)))), (q_11, .inr (1, [.long 58659, .ref z_14, .ref z_15, .int 0])), (z_14, .inl (cL, 18, .inr (.inl (fun _ => 0)))), (z_15, .inl (cL, 4, .inr (.inl (fun _ => 0)))), (q_16, .inr (2, [.ref z_19, .ref z_20, .ref z_21, .ref z_22, .int 0])), (z_19, .inl (cI, 4, .inl (fun _ => 0))), (z_20, .inl (cI, 4, .inl (fun _ => 0))), (z_21, .inl (cI, 4, .inl (fun _ => 0))), (z_22, .inl (cI, 4, .inl (fun _ => 0))), (q_23, .inl (cI, 4, .inl (fun _ => 0))), (q_25, .inl (cI, 4, .inl (fun _ => 0)))] H := hP
  have hD : va_D A [(x0, .inr (0, [.int 0, .ref q_1, .ref q_6, .ref q_11, .ref q_16, .ref q_23, .ref q_25, .int 0, .int 0, .int 0, .int 0, .int 0])), (q_1, .inr (3, [.ref z_4, .ref z_5, .int 0])), (z_4, .inl (cI, 100, .inl (fun _ => 0))), (z_5, .inl (cI, 100, .inl (fun _ => 0))), (q_6, .inr (1, [.long 1, .ref z_9, .ref z_10, .int 0])), (z_9, .inl (cL, 18, .inr (.inl (fun _ => 0)))), (z_10, .inl (cL, 4, .inr (.inl (fun _ => 0)))), (q_11, .inr (1, [.long 58659, .ref z_14, .ref z_15, .int 0])), (z_14, .inl (cL, 18, .inr (.inl (fun _ => 0)))), (z_15, .inl (cL, 4, .inr (.inl (fun _ => 0)))), (q_16, .inr (2, [.ref z_19, .ref z_20, .ref z_21, .ref z_22, .int 0])), (z_19, .inl (cI, 4, .inl (fun _ => 0))), (z_20, .inl (cI, 4, .inl (fun _ => 0))), (z_21, .inl (cI, 4, .inl (fun _ => 0))), (z_22, .inl (cI, 4, .inl (fun _ => 0))), (q_23, .inl (cI, 4, .inl (fun _ => 0))), (q_25, .inl (cI, 4, .inl (fun _ => 0)))] := hD
  refine lv_aload_n hx hb d_Gate_init_86 rfl (lv_at hl 0 rfl) ?_
  refine lv_iconst (v := 0) hx hb d_Gate_init_87 (by decide) ?_
  refine va_put (D := (dC, dI)) (ci := 0) (v := .int 0) (ty := .int) (C := R_Gate) (T := F_Gate) (N := 12) hx hb htb iw_Gate t_Gate t_Gate_ok n_Gate hown hK.1 hP hD hS 0 rfl rfl 11 (by decide) (htb _ tw_129) (fun _ h9 => h9) rfl (by decide +kernel) rfl rfl (Nat.le_of_ble_eq_true rfl) d_Gate_init_88 (fun H locs hP hD hS => ?_)
  have hP : va_P (dC, dI) classes [(x0, .inr (0, [.int 0, .ref q_1, .ref q_6, .ref q_11, .ref q_16, .ref q_23, .ref q_25, .int 0, .int 0, .int 0, .int 0, .int 0])), (q_1, .inr (3, [.ref z_4, .ref z_5, .int 0])), (z_4, .inl (cI, 100, .inl (fun _ => 0))), (z_5, .inl (cI, 100, .inl (fun _ => 0))), (q_6, .inr (1, [.long 1, .ref z_9, .ref z_10, .int 0])), (z_9, .inl (cL, 18, .inr (.inl (fun _ => 0)))), (z_10, .inl (cL, 4, .inr (.inl (fun _ => 0)))), (q_11, .inr (1, [.long 58659, .ref z_14, .ref z_15, .int 0])), (z_14, .inl (cL, 18, .inr (.inl (fun _ => 0)))), (z_15, .inl (cL, 4, .inr (.inl (fun _ => 0)))), (q_16, .inr (2, [.ref z_19, .ref z_20, .ref z_21, .ref z_22, .int 0])), (z_19, .inl (cI, 4, .inl (fun _ => 0))), (z_20, .inl (cI, 4, .inl (fun _ => 0))), (z_21, .inl (cI, 4, .inl (fun _ => 0))), (z_22, .inl (cI, 4, .inl (fun _ => 0))), (q_23, .inl (cI, 4, .inl (fun _ => 0))), (q_25, .inl (cI, 4, .inl (fun _ => 0)))] H := hP
  have hD : va_D A [(x0, .inr (0, [.int 0, .ref q_1, .ref q_6, .ref q_11, .ref q_16, .ref q_23, .ref q_25, .int 0, .int 0, .int 0, .int 0, .int 0])), (q_1, .inr (3, [.ref z_4, .ref z_5, .int 0])), (z_4, .inl (cI, 100, .inl (fun _ => 0))), (z_5, .inl (cI, 100, .inl (fun _ => 0))), (q_6, .inr (1, [.long 1, .ref z_9, .ref z_10, .int 0])), (z_9, .inl (cL, 18, .inr (.inl (fun _ => 0)))), (z_10, .inl (cL, 4, .inr (.inl (fun _ => 0)))), (q_11, .inr (1, [.long 58659, .ref z_14, .ref z_15, .int 0])), (z_14, .inl (cL, 18, .inr (.inl (fun _ => 0)))), (z_15, .inl (cL, 4, .inr (.inl (fun _ => 0)))), (q_16, .inr (2, [.ref z_19, .ref z_20, .ref z_21, .ref z_22, .int 0])), (z_19, .inl (cI, 4, .inl (fun _ => 0))), (z_20, .inl (cI, 4, .inl (fun _ => 0))), (z_21, .inl (cI, 4, .inl (fun _ => 0))), (z_22, .inl (cI, 4, .inl (fun _ => 0))), (q_23, .inl (cI, 4, .inl (fun _ => 0))), (q_25, .inl (cI, 4, .inl (fun _ => 0)))] := hD
  refine lv_aload_n hx hb d_Gate_init_91 rfl (lv_at hl 0 rfl) ?_
  refine lv_iconst (v := 1) hx hb d_Gate_init_92 (by decide) ?_
  refine lv_sipush (v := 5000) hx hb d_Gate_init_93 (by decide) ?_
  refine lv_iload_n hx hb d_Gate_init_96 rfl (lv_at hl 1 rfl) ?_
  refine va_mmin hx hb (by rw [hml]; exact hl.1.symm) hown (htb _ tw_112) (htb _ tw_113) (htb _ tw_24) (htb _ tw_114) (Nat.le_of_ble_eq_true rfl) (Nat.le_of_ble_eq_true rfl) (Nat.le_of_ble_eq_true rfl) (Nat.le_of_ble_eq_true rfl) d_Gate_init_97 ?_
  refine va_mmax hx hb (by rw [hml]; exact hl.1.symm) hown (htb _ tw_115) (htb _ tw_116) (htb _ tw_24) (htb _ tw_117) (Nat.le_of_ble_eq_true rfl) (Nat.le_of_ble_eq_true rfl) (Nat.le_of_ble_eq_true rfl) (Nat.le_of_ble_eq_true rfl) d_Gate_init_100 ?_
  refine tp_i (li_e l0) ?_
  refine va_putF (D := (dC, dI)) (ci := 0) (v := .int (nI (li_w l0))) (ty := .int) (C := R_Gate) (T := F_Gate) (N := 12) hx hb htb iw_Gate t_Gate t_Gate_ok n_Gate hown hK.1 hP hD hS 0 rfl rfl 0 (by decide) (htb _ tw_118) (fun _ h9 => h9) rfl hin rfl (by decide +kernel) rfl rfl (Nat.le_of_ble_eq_true rfl) d_Gate_init_103 (fun H locs hP hD hS => ?_)
  have hP : va_P (dC, dI) classes [(x0, .inr (0, [.int (nI (li_w l0)), .ref q_1, .ref q_6, .ref q_11, .ref q_16, .ref q_23, .ref q_25, .int 0, .int 0, .int 0, .int 0, .int 0])), (q_1, .inr (3, [.ref z_4, .ref z_5, .int 0])), (z_4, .inl (cI, 100, .inl (fun _ => 0))), (z_5, .inl (cI, 100, .inl (fun _ => 0))), (q_6, .inr (1, [.long 1, .ref z_9, .ref z_10, .int 0])), (z_9, .inl (cL, 18, .inr (.inl (fun _ => 0)))), (z_10, .inl (cL, 4, .inr (.inl (fun _ => 0)))), (q_11, .inr (1, [.long 58659, .ref z_14, .ref z_15, .int 0])), (z_14, .inl (cL, 18, .inr (.inl (fun _ => 0)))), (z_15, .inl (cL, 4, .inr (.inl (fun _ => 0)))), (q_16, .inr (2, [.ref z_19, .ref z_20, .ref z_21, .ref z_22, .int 0])), (z_19, .inl (cI, 4, .inl (fun _ => 0))), (z_20, .inl (cI, 4, .inl (fun _ => 0))), (z_21, .inl (cI, 4, .inl (fun _ => 0))), (z_22, .inl (cI, 4, .inl (fun _ => 0))), (q_23, .inl (cI, 4, .inl (fun _ => 0))), (q_25, .inl (cI, 4, .inl (fun _ => 0)))] H := hP
  have hD : va_D A [(x0, .inr (0, [.int (nI (li_w l0)), .ref q_1, .ref q_6, .ref q_11, .ref q_16, .ref q_23, .ref q_25, .int 0, .int 0, .int 0, .int 0, .int 0])), (q_1, .inr (3, [.ref z_4, .ref z_5, .int 0])), (z_4, .inl (cI, 100, .inl (fun _ => 0))), (z_5, .inl (cI, 100, .inl (fun _ => 0))), (q_6, .inr (1, [.long 1, .ref z_9, .ref z_10, .int 0])), (z_9, .inl (cL, 18, .inr (.inl (fun _ => 0)))), (z_10, .inl (cL, 4, .inr (.inl (fun _ => 0)))), (q_11, .inr (1, [.long 58659, .ref z_14, .ref z_15, .int 0])), (z_14, .inl (cL, 18, .inr (.inl (fun _ => 0)))), (z_15, .inl (cL, 4, .inr (.inl (fun _ => 0)))), (q_16, .inr (2, [.ref z_19, .ref z_20, .ref z_21, .ref z_22, .int 0])), (z_19, .inl (cI, 4, .inl (fun _ => 0))), (z_20, .inl (cI, 4, .inl (fun _ => 0))), (z_21, .inl (cI, 4, .inl (fun _ => 0))), (z_22, .inl (cI, 4, .inl (fun _ => 0))), (q_23, .inl (cI, 4, .inl (fun _ => 0))), (q_25, .inl (cI, 4, .inl (fun _ => 0)))] := hD
  exact rt_v (q_1, z_4, z_5, q_6, z_9, z_10, q_11, z_14, z_15, q_16, z_19, z_20, z_21, z_22, q_23, q_25) hx hb hr hlocks (show True from trivial) (hP.sub (ws' := [(x0, .inr (0, [.int (nI (li_w l0)), .ref q_1, .ref q_6, .ref q_11, .ref q_16, .ref q_23, .ref q_25, .int 0, .int 0, .int 0, .int 0, .int 0])), (q_1, .inr (3, [.ref z_4, .ref z_5, .int 0])), (z_4, .inl (cI, 100, .inl (fun _ => 0))), (z_5, .inl (cI, 100, .inl (fun _ => 0))), (q_6, .inr (1, [.long 1, .ref z_9, .ref z_10, .int 0])), (z_9, .inl (cL, 18, .inr (.inl (fun _ => 0)))), (z_10, .inl (cL, 4, .inr (.inl (fun _ => 0)))), (q_11, .inr (1, [.long 58659, .ref z_14, .ref z_15, .int 0])), (z_14, .inl (cL, 18, .inr (.inl (fun _ => 0)))), (z_15, .inl (cL, 4, .inr (.inl (fun _ => 0)))), (q_16, .inr (2, [.ref z_19, .ref z_20, .ref z_21, .ref z_22, .int 0])), (z_19, .inl (cI, 4, .inl (fun _ => 0))), (z_20, .inl (cI, 4, .inl (fun _ => 0))), (z_21, .inl (cI, 4, .inl (fun _ => 0))), (z_22, .inl (cI, 4, .inl (fun _ => 0))), (q_23, .inl (cI, 4, .inl (fun _ => 0))), (q_25, .inl (cI, 4, .inl (fun _ => 0)))]) [0, 1, 2, 3, 4, 5, 6, 7, 8, 9, 10, 11, 12, 13, 14, 15, 16] rfl) (hD.sub (ws' := [(x0, .inr (0, [.int (nI (li_w l0)), .ref q_1, .ref q_6, .ref q_11, .ref q_16, .ref q_23, .ref q_25, .int 0, .int 0, .int 0, .int 0, .int 0])), (q_1, .inr (3, [.ref z_4, .ref z_5, .int 0])), (z_4, .inl (cI, 100, .inl (fun _ => 0))), (z_5, .inl (cI, 100, .inl (fun _ => 0))), (q_6, .inr (1, [.long 1, .ref z_9, .ref z_10, .int 0])), (z_9, .inl (cL, 18, .inr (.inl (fun _ => 0)))), (z_10, .inl (cL, 4, .inr (.inl (fun _ => 0)))), (q_11, .inr (1, [.long 58659, .ref z_14, .ref z_15, .int 0])), (z_14, .inl (cL, 18, .inr (.inl (fun _ => 0)))), (z_15, .inl (cL, 4, .inr (.inl (fun _ => 0)))), (q_16, .inr (2, [.ref z_19, .ref z_20, .ref z_21, .ref z_22, .int 0])), (z_19, .inl (cI, 4, .inl (fun _ => 0))), (z_20, .inl (cI, 4, .inl (fun _ => 0))), (z_21, .inl (cI, 4, .inl (fun _ => 0))), (z_22, .inl (cI, 4, .inl (fun _ => 0))), (q_23, .inl (cI, 4, .inl (fun _ => 0))), (q_25, .inl (cI, 4, .inl (fun _ => 0)))]) [0, 1, 2, 3, 4, 5, 6, 7, 8, 9, 10, 11, 12, 13, 14, 15, 16] (by decide) rfl) hS d_Gate_init_106
end
section
theorem d_Modl_thrown_0 : decode b_Modl_thrown 0 = .ok (.aload_n 0, 1) := by decide +kernel
theorem d_Modl_thrown_1 : decode b_Modl_thrown 1 = .ok (.getfield 1, 3) := by decide +kernel
theorem d_Modl_thrown_4 : decode b_Modl_thrown 4 = .ok (.ireturn, 1) := by decide +kernel
theorem d_Modl_init_0 : decode b_Modl_init 0 = .ok (.aload_n 0, 1) := by decide +kernel
theorem d_Modl_init_1 : decode b_Modl_init 1 = .ok (.invokespecial 7, 3) := by decide +kernel
theorem d_Modl_init_4 : decode b_Modl_init 4 = .ok (.aload_n 0, 1) := by decide +kernel
theorem d_Modl_init_5 : decode b_Modl_init 5 = .ok (.bipush 100, 2) := by decide +kernel
theorem d_Modl_init_7 : decode b_Modl_init 7 = .ok (.newarray .int, 2) := by decide +kernel
theorem d_Modl_init_9 : decode b_Modl_init 9 = .ok (.putfield 13, 3) := by decide +kernel
theorem d_Modl_init_12 : decode b_Modl_init 12 = .ok (.aload_n 0, 1) := by decide +kernel
theorem d_Modl_init_13 : decode b_Modl_init 13 = .ok (.bipush 100, 2) := by decide +kernel
theorem d_Modl_init_15 : decode b_Modl_init 15 = .ok (.newarray .int, 2) := by decide +kernel
theorem d_Modl_init_17 : decode b_Modl_init 17 = .ok (.putfield 17, 3) := by decide +kernel
theorem d_Modl_init_20 : decode b_Modl_init 20 = .ok (.aload_n 0, 1) := by decide +kernel
theorem d_Modl_init_21 : decode b_Modl_init 21 = .ok (.iconst 4, 1) := by decide +kernel
theorem d_Modl_init_22 : decode b_Modl_init 22 = .ok (.newarray .int, 2) := by decide +kernel
theorem d_Modl_init_24 : decode b_Modl_init 24 = .ok (.putfield 20, 3) := by decide +kernel
theorem d_Modl_init_27 : decode b_Modl_init 27 = .ok (.aload_n 0, 1) := by decide +kernel
theorem d_Modl_init_28 : decode b_Modl_init 28 = .ok (.iconst 4, 1) := by decide +kernel
theorem d_Modl_init_29 : decode b_Modl_init 29 = .ok (.newarray .int, 2) := by decide +kernel
theorem d_Modl_init_31 : decode b_Modl_init 31 = .ok (.putfield 23, 3) := by decide +kernel
theorem d_Modl_init_34 : decode b_Modl_init 34 = .ok (.aload_n 0, 1) := by decide +kernel
theorem d_Modl_init_35 : decode b_Modl_init 35 = .ok (.bipush 36, 2) := by decide +kernel
theorem d_Modl_init_37 : decode b_Modl_init 37 = .ok (.newarray .long, 2) := by decide +kernel
theorem d_Modl_init_39 : decode b_Modl_init 39 = .ok (.putfield 26, 3) := by decide +kernel
theorem d_Modl_init_42 : decode b_Modl_init 42 = .ok (.aload_n 0, 1) := by decide +kernel
theorem d_Modl_init_43 : decode b_Modl_init 43 = .ok (.bipush 8, 2) := by decide +kernel
theorem d_Modl_init_45 : decode b_Modl_init 45 = .ok (.newarray .long, 2) := by decide +kernel
theorem d_Modl_init_47 : decode b_Modl_init 47 = .ok (.putfield 30, 3) := by decide +kernel
theorem d_Modl_init_50 : decode b_Modl_init 50 = .ok (.aload_n 0, 1) := by decide +kernel
theorem d_Modl_init_51 : decode b_Modl_init 51 = .ok (.iconst 4, 1) := by decide +kernel
theorem d_Modl_init_52 : decode b_Modl_init 52 = .ok (.newarray .int, 2) := by decide +kernel
theorem d_Modl_init_54 : decode b_Modl_init 54 = .ok (.putfield 33, 3) := by decide +kernel
theorem d_Modl_init_57 : decode b_Modl_init 57 = .ok (.aload_n 0, 1) := by decide +kernel
theorem d_Modl_init_58 : decode b_Modl_init 58 = .ok (.iconst 4, 1) := by decide +kernel
theorem d_Modl_init_59 : decode b_Modl_init 59 = .ok (.newarray .int, 2) := by decide +kernel
theorem d_Modl_init_61 : decode b_Modl_init 61 = .ok (.putfield 36, 3) := by decide +kernel
theorem d_Modl_init_64 : decode b_Modl_init 64 = .ok (.aload_n 0, 1) := by decide +kernel
theorem d_Modl_init_65 : decode b_Modl_init 65 = .ok (.iconst 4, 1) := by decide +kernel
theorem d_Modl_init_66 : decode b_Modl_init 66 = .ok (.newarray .int, 2) := by decide +kernel
theorem d_Modl_init_68 : decode b_Modl_init 68 = .ok (.putfield 39, 3) := by decide +kernel
theorem d_Modl_init_71 : decode b_Modl_init 71 = .ok (.aload_n 0, 1) := by decide +kernel
theorem d_Modl_init_72 : decode b_Modl_init 72 = .ok (.iconst 4, 1) := by decide +kernel
theorem d_Modl_init_73 : decode b_Modl_init 73 = .ok (.newarray .int, 2) := by decide +kernel
theorem d_Modl_init_75 : decode b_Modl_init 75 = .ok (.putfield 42, 3) := by decide +kernel
theorem d_Modl_init_78 : decode b_Modl_init 78 = .ok (.aload_n 0, 1) := by decide +kernel
theorem d_Modl_init_79 : decode b_Modl_init 79 = .ok (.iload_n 1, 1) := by decide +kernel
theorem d_Modl_init_80 : decode b_Modl_init 80 = .ok (.iconst 1, 1) := by decide +kernel
theorem d_Modl_init_81 : decode b_Modl_init 81 = .ok (.if_icmp .ge 7, 3) := by decide +kernel
theorem d_Modl_init_84 : decode b_Modl_init 84 = .ok (.iconst 1, 1) := by decide +kernel
theorem d_Modl_init_85 : decode b_Modl_init 85 = .ok (.goto 17, 3) := by decide +kernel
theorem d_Modl_init_88 : decode b_Modl_init 88 = .ok (.iload_n 1, 1) := by decide +kernel
theorem d_Modl_init_89 : decode b_Modl_init 89 = .ok (.sipush 5000, 3) := by decide +kernel
theorem d_Modl_init_92 : decode b_Modl_init 92 = .ok (.if_icmp .le 9, 3) := by decide +kernel
theorem d_Modl_init_95 : decode b_Modl_init 95 = .ok (.sipush 5000, 3) := by decide +kernel
theorem d_Modl_init_98 : decode b_Modl_init 98 = .ok (.goto 4, 3) := by decide +kernel
theorem d_Modl_init_101 : decode b_Modl_init 101 = .ok (.iload_n 1, 1) := by decide +kernel
theorem d_Modl_init_102 : decode b_Modl_init 102 = .ok (.putfield 45, 3) := by decide +kernel
theorem d_Modl_init_105 : decode b_Modl_init 105 = .ok (.return_, 1) := by decide +kernel
theorem d_Modl_fits_0 : decode b_Modl_fits 0 = .ok (.lload_n 0, 1) := by decide +kernel
theorem d_Modl_fits_1 : decode b_Modl_fits 1 = .ok (.ldc2_w 48, 3) := by decide +kernel
theorem d_Modl_fits_4 : decode b_Modl_fits 4 = .ok (.lcmp, 1) := by decide +kernel
theorem d_Modl_fits_5 : decode b_Modl_fits 5 = .ok (.ifCond .lt 15, 3) := by decide +kernel
theorem d_Modl_fits_8 : decode b_Modl_fits 8 = .ok (.lload_n 0, 1) := by decide +kernel
theorem d_Modl_fits_9 : decode b_Modl_fits 9 = .ok (.ldc2_w 50, 3) := by decide +kernel
theorem d_Modl_fits_12 : decode b_Modl_fits 12 = .ok (.lcmp, 1) := by decide +kernel
theorem d_Modl_fits_13 : decode b_Modl_fits 13 = .ok (.ifCond .gt 7, 3) := by decide +kernel
theorem d_Modl_fits_16 : decode b_Modl_fits 16 = .ok (.iconst 1, 1) := by decide +kernel
theorem d_Modl_fits_17 : decode b_Modl_fits 17 = .ok (.goto 4, 3) := by decide +kernel
theorem d_Modl_fits_20 : decode b_Modl_fits 20 = .ok (.iconst 0, 1) := by decide +kernel
theorem d_Modl_fits_21 : decode b_Modl_fits 21 = .ok (.ireturn, 1) := by decide +kernel
theorem d_Modl_isGood_0 : decode b_Modl_isGood 0 = .ok (.iload_n 0, 1) := by decide +kernel
theorem d_Modl_isGood_1 : decode b_Modl_isGood 1 = .ok (.ifCond .lt 9, 3) := by decide +kernel
theorem d_Modl_isGood_4 : decode b_Modl_isGood 4 = .ok (.iload_n 0, 1) := by decide +kernel
theorem d_Modl_isGood_5 : decode b_Modl_isGood 5 = .ok (.bipush 15, 2) := by decide +kernel
theorem d_Modl_isGood_7 : decode b_Modl_isGood 7 = .ok (.if_icmp .le 5, 3) := by decide +kernel
theorem d_Modl_isGood_10 : decode b_Modl_isGood 10 = .ok (.iconst 0, 1) := by decide +kernel
theorem d_Modl_isGood_11 : decode b_Modl_isGood 11 = .ok (.ireturn, 1) := by decide +kernel
theorem d_Modl_isGood_12 : decode b_Modl_isGood 12 = .ok (.iload_n 0, 1) := by decide +kernel
theorem d_Modl_isGood_13 : decode b_Modl_isGood 13 = .ok (.ifCond .ne 9, 3) := by decide +kernel
theorem d_Modl_isGood_16 : decode b_Modl_isGood 16 = .ok (.iload_n 1, 1) := by decide +kernel
theorem d_Modl_isGood_17 : decode b_Modl_isGood 17 = .ok (.i2l, 1) := by decide +kernel
theorem d_Modl_isGood_18 : decode b_Modl_isGood 18 = .ok (.invokestatic 52, 3) := by decide +kernel
theorem d_Modl_isGood_21 : decode b_Modl_isGood 21 = .ok (.ireturn, 1) := by decide +kernel
theorem d_Modl_isGood_22 : decode b_Modl_isGood 22 = .ok (.iload_n 0, 1) := by decide +kernel
theorem d_Modl_isGood_23 : decode b_Modl_isGood 23 = .ok (.iconst 1, 1) := by decide +kernel
theorem d_Modl_isGood_24 : decode b_Modl_isGood 24 = .ok (.if_icmp .eq 8, 3) := by decide +kernel
theorem d_Modl_isGood_27 : decode b_Modl_isGood 27 = .ok (.iload_n 0, 1) := by decide +kernel
theorem d_Modl_isGood_28 : decode b_Modl_isGood 28 = .ok (.iconst 2, 1) := by decide +kernel
theorem d_Modl_isGood_29 : decode b_Modl_isGood 29 = .ok (.if_icmp .ne 19, 3) := by decide +kernel
theorem d_Modl_isGood_32 : decode b_Modl_isGood 32 = .ok (.iload_n 1, 1) := by decide +kernel
theorem d_Modl_isGood_33 : decode b_Modl_isGood 33 = .ok (.ifCond .lt 13, 3) := by decide +kernel
theorem d_Modl_isGood_36 : decode b_Modl_isGood 36 = .ok (.iload_n 1, 1) := by decide +kernel
theorem d_Modl_isGood_37 : decode b_Modl_isGood 37 = .ok (.bipush 16, 2) := by decide +kernel
theorem d_Modl_isGood_39 : decode b_Modl_isGood 39 = .ok (.if_icmp .ge 7, 3) := by decide +kernel
theorem d_Modl_isGood_42 : decode b_Modl_isGood 42 = .ok (.iconst 1, 1) := by decide +kernel
theorem d_Modl_isGood_43 : decode b_Modl_isGood 43 = .ok (.goto 4, 3) := by decide +kernel
theorem d_Modl_isGood_46 : decode b_Modl_isGood 46 = .ok (.iconst 0, 1) := by decide +kernel
theorem d_Modl_isGood_47 : decode b_Modl_isGood 47 = .ok (.ireturn, 1) := by decide +kernel
theorem d_Modl_isGood_48 : decode b_Modl_isGood 48 = .ok (.iload_n 0, 1) := by decide +kernel
theorem d_Modl_isGood_49 : decode b_Modl_isGood 49 = .ok (.bipush 12, 2) := by decide +kernel
theorem d_Modl_isGood_51 : decode b_Modl_isGood 51 = .ok (.if_icmp .eq 9, 3) := by decide +kernel
theorem d_Modl_isGood_54 : decode b_Modl_isGood 54 = .ok (.iload_n 0, 1) := by decide +kernel
theorem d_Modl_isGood_55 : decode b_Modl_isGood 55 = .ok (.bipush 13, 2) := by decide +kernel
theorem d_Modl_isGood_57 : decode b_Modl_isGood 57 = .ok (.if_icmp .ne 18, 3) := by decide +kernel
theorem d_Modl_isGood_60 : decode b_Modl_isGood 60 = .ok (.iload_n 1, 1) := by decide +kernel
theorem d_Modl_isGood_61 : decode b_Modl_isGood 61 = .ok (.ifCond .lt 12, 3) := by decide +kernel
theorem d_Modl_isGood_64 : decode b_Modl_isGood 64 = .ok (.iload_n 1, 1) := by decide +kernel
theorem d_Modl_isGood_65 : decode b_Modl_isGood 65 = .ok (.iconst 4, 1) := by decide +kernel
theorem d_Modl_isGood_66 : decode b_Modl_isGood 66 = .ok (.if_icmp .ge 7, 3) := by decide +kernel
theorem d_Modl_isGood_69 : decode b_Modl_isGood 69 = .ok (.iconst 1, 1) := by decide +kernel
theorem d_Modl_isGood_70 : decode b_Modl_isGood 70 = .ok (.goto 4, 3) := by decide +kernel
theorem d_Modl_isGood_73 : decode b_Modl_isGood 73 = .ok (.iconst 0, 1) := by decide +kernel
theorem d_Modl_isGood_74 : decode b_Modl_isGood 74 = .ok (.ireturn, 1) := by decide +kernel
theorem d_Modl_isGood_75 : decode b_Modl_isGood 75 = .ok (.iload_n 0, 1) := by decide +kernel
theorem d_Modl_isGood_76 : decode b_Modl_isGood 76 = .ok (.bipush 10, 2) := by decide +kernel
theorem d_Modl_isGood_78 : decode b_Modl_isGood 78 = .ok (.if_icmp .eq 9, 3) := by decide +kernel
theorem d_Modl_isGood_81 : decode b_Modl_isGood 81 = .ok (.iload_n 0, 1) := by decide +kernel
theorem d_Modl_isGood_82 : decode b_Modl_isGood 82 = .ok (.bipush 11, 2) := by decide +kernel
theorem d_Modl_isGood_84 : decode b_Modl_isGood 84 = .ok (.if_icmp .ne 13, 3) := by decide +kernel
theorem d_Modl_isGood_87 : decode b_Modl_isGood 87 = .ok (.iload_n 1, 1) := by decide +kernel
theorem d_Modl_isGood_88 : decode b_Modl_isGood 88 = .ok (.ifCond .lt 13, 3) := by decide +kernel
theorem d_Modl_isGood_91 : decode b_Modl_isGood 91 = .ok (.iload_n 1, 1) := by decide +kernel
theorem d_Modl_isGood_92 : decode b_Modl_isGood 92 = .ok (.bipush 100, 2) := by decide +kernel
theorem d_Modl_isGood_94 : decode b_Modl_isGood 94 = .ok (.if_icmp .ge 7, 3) := by decide +kernel
theorem d_Modl_isGood_97 : decode b_Modl_isGood 97 = .ok (.iconst 1, 1) := by decide +kernel
theorem d_Modl_isGood_98 : decode b_Modl_isGood 98 = .ok (.goto 4, 3) := by decide +kernel
theorem d_Modl_isGood_101 : decode b_Modl_isGood 101 = .ok (.iconst 0, 1) := by decide +kernel
theorem d_Modl_isGood_102 : decode b_Modl_isGood 102 = .ok (.ireturn, 1) := by decide +kernel
theorem d_Modl_add_0 : decode b_Modl_add 0 = .ok (.aload_n 0, 1) := by decide +kernel
theorem d_Modl_add_1 : decode b_Modl_add 1 = .ok (.iload_n 1, 1) := by decide +kernel
theorem d_Modl_add_2 : decode b_Modl_add 2 = .ok (.iload_n 2, 1) := by decide +kernel
theorem d_Modl_add_3 : decode b_Modl_add 3 = .ok (.invokestatic 56, 3) := by decide +kernel
theorem d_Modl_add_6 : decode b_Modl_add 6 = .ok (.ifCond .ne 7, 3) := by decide +kernel
theorem d_Modl_add_9 : decode b_Modl_add 9 = .ok (.iconst 1, 1) := by decide +kernel
theorem d_Modl_add_10 : decode b_Modl_add 10 = .ok (.goto 24, 3) := by decide +kernel
theorem d_Modl_add_13 : decode b_Modl_add 13 = .ok (.aload_n 0, 1) := by decide +kernel
theorem d_Modl_add_14 : decode b_Modl_add 14 = .ok (.getfield 60, 3) := by decide +kernel
theorem d_Modl_add_17 : decode b_Modl_add 17 = .ok (.bipush 100, 2) := by decide +kernel
theorem d_Modl_add_19 : decode b_Modl_add 19 = .ok (.if_icmp .eq 10, 3) := by decide +kernel
theorem d_Modl_add_22 : decode b_Modl_add 22 = .ok (.aload_n 0, 1) := by decide +kernel
theorem d_Modl_add_23 : decode b_Modl_add 23 = .ok (.getfield 63, 3) := by decide +kernel
theorem d_Modl_add_26 : decode b_Modl_add 26 = .ok (.ifCond .eq 7, 3) := by decide +kernel
theorem d_Modl_add_29 : decode b_Modl_add 29 = .ok (.iconst 2, 1) := by decide +kernel
theorem d_Modl_add_30 : decode b_Modl_add 30 = .ok (.goto 4, 3) := by decide +kernel
theorem d_Modl_add_33 : decode b_Modl_add 33 = .ok (.iconst 0, 1) := by decide +kernel
theorem d_Modl_add_34 : decode b_Modl_add 34 = .ok (.putfield 1, 3) := by decide +kernel
theorem d_Modl_add_37 : decode b_Modl_add 37 = .ok (.aload_n 0, 1) := by decide +kernel
theorem d_Modl_add_38 : decode b_Modl_add 38 = .ok (.getfield 1, 3) := by decide +kernel
theorem d_Modl_add_41 : decode b_Modl_add 41 = .ok (.ifCond .le 5, 3) := by decide +kernel
theorem d_Modl_add_44 : decode b_Modl_add 44 = .ok (.iconst 0, 1) := by decide +kernel
theorem d_Modl_add_45 : decode b_Modl_add 45 = .ok (.ireturn, 1) := by decide +kernel
theorem d_Modl_add_46 : decode b_Modl_add 46 = .ok (.aload_n 0, 1) := by decide +kernel
theorem d_Modl_add_47 : decode b_Modl_add 47 = .ok (.getfield 13, 3) := by decide +kernel
theorem d_Modl_add_50 : decode b_Modl_add 50 = .ok (.aload_n 0, 1) := by decide +kernel
theorem d_Modl_add_51 : decode b_Modl_add 51 = .ok (.getfield 60, 3) := by decide +kernel
theorem d_Modl_add_54 : decode b_Modl_add 54 = .ok (.iload_n 1, 1) := by decide +kernel
theorem d_Modl_add_55 : decode b_Modl_add 55 = .ok (.iastore, 1) := by decide +kernel
theorem d_Modl_add_56 : decode b_Modl_add 56 = .ok (.aload_n 0, 1) := by decide +kernel
theorem d_Modl_add_57 : decode b_Modl_add 57 = .ok (.getfield 17, 3) := by decide +kernel
theorem d_Modl_add_60 : decode b_Modl_add 60 = .ok (.aload_n 0, 1) := by decide +kernel
theorem d_Modl_add_61 : decode b_Modl_add 61 = .ok (.getfield 60, 3) := by decide +kernel
theorem d_Modl_add_64 : decode b_Modl_add 64 = .ok (.iload_n 2, 1) := by decide +kernel
theorem d_Modl_add_65 : decode b_Modl_add 65 = .ok (.iastore, 1) := by decide +kernel
theorem d_Modl_add_66 : decode b_Modl_add 66 = .ok (.aload_n 0, 1) := by decide +kernel
theorem d_Modl_add_67 : decode b_Modl_add 67 = .ok (.dup, 1) := by decide +kernel
theorem d_Modl_add_68 : decode b_Modl_add 68 = .ok (.getfield 60, 3) := by decide +kernel
theorem d_Modl_add_71 : decode b_Modl_add 71 = .ok (.iconst 1, 1) := by decide +kernel
theorem d_Modl_add_72 : decode b_Modl_add 72 = .ok (.iadd, 1) := by decide +kernel
theorem d_Modl_add_73 : decode b_Modl_add 73 = .ok (.putfield 60, 3) := by decide +kernel
theorem d_Modl_add_76 : decode b_Modl_add 76 = .ok (.aload_n 0, 1) := by decide +kernel
theorem d_Modl_add_77 : decode b_Modl_add 77 = .ok (.getfield 60, 3) := by decide +kernel
theorem d_Modl_add_80 : decode b_Modl_add 80 = .ok (.ireturn, 1) := by decide +kernel
theorem d_Modl_give_0 : decode b_Modl_give 0 = .ok (.aload_n 0, 1) := by decide +kernel
theorem d_Modl_give_1 : decode b_Modl_give 1 = .ok (.iconst 0, 1) := by decide +kernel
theorem d_Modl_give_2 : decode b_Modl_give 2 = .ok (.putfield 1, 3) := by decide +kernel
theorem d_Modl_give_5 : decode b_Modl_give 5 = .ok (.iload_n 1, 1) := by decide +kernel
theorem d_Modl_give_6 : decode b_Modl_give 6 = .ok (.ifCond .lt 16, 3) := by decide +kernel
theorem d_Modl_give_9 : decode b_Modl_give 9 = .ok (.iload_n 1, 1) := by decide +kernel
theorem d_Modl_give_10 : decode b_Modl_give 10 = .ok (.iconst 4, 1) := by decide +kernel
theorem d_Modl_give_11 : decode b_Modl_give 11 = .ok (.if_icmp .ge 11, 3) := by decide +kernel
theorem d_Modl_give_14 : decode b_Modl_give 14 = .ok (.iload_n 2, 1) := by decide +kernel
theorem d_Modl_give_15 : decode b_Modl_give 15 = .ok (.i2l, 1) := by decide +kernel
theorem d_Modl_give_16 : decode b_Modl_give 16 = .ok (.invokestatic 52, 3) := by decide +kernel
theorem d_Modl_give_19 : decode b_Modl_give 19 = .ok (.ifCond .ne 5, 3) := by decide +kernel
theorem d_Modl_give_22 : decode b_Modl_give 22 = .ok (.iconst 0, 1) := by decide +kernel
theorem d_Modl_give_23 : decode b_Modl_give 23 = .ok (.ireturn, 1) := by decide +kernel
theorem d_Modl_give_24 : decode b_Modl_give 24 = .ok (.aload_n 0, 1) := by decide +kernel
theorem d_Modl_give_25 : decode b_Modl_give 25 = .ok (.getfield 20, 3) := by decide +kernel
theorem d_Modl_give_28 : decode b_Modl_give 28 = .ok (.iload_n 1, 1) := by decide +kernel
theorem d_Modl_give_29 : decode b_Modl_give 29 = .ok (.iload_n 2, 1) := by decide +kernel
theorem d_Modl_give_30 : decode b_Modl_give 30 = .ok (.iastore, 1) := by decide +kernel
theorem d_Modl_give_31 : decode b_Modl_give 31 = .ok (.iconst 1, 1) := by decide +kernel
theorem d_Modl_give_32 : decode b_Modl_give 32 = .ok (.ireturn, 1) := by decide +kernel
theorem d_Modl_flipAll_0 : decode b_Modl_flipAll 0 = .ok (.iconst 0, 1) := by decide +kernel
theorem d_Modl_flipAll_1 : decode b_Modl_flipAll 1 = .ok (.istore_n 2, 1) := by decide +kernel
theorem d_Modl_flipAll_2 : decode b_Modl_flipAll 2 = .ok (.iload_n 2, 1) := by decide +kernel
theorem d_Modl_flipAll_3 : decode b_Modl_flipAll 3 = .ok (.aload_n 0, 1) := by decide +kernel
theorem d_Modl_flipAll_4 : decode b_Modl_flipAll 4 = .ok (.getfield 67, 3) := by decide +kernel
theorem d_Modl_flipAll_7 : decode b_Modl_flipAll 7 = .ok (.if_icmp .ge 64, 3) := by decide +kernel
theorem d_Modl_flipAll_10 : decode b_Modl_flipAll 10 = .ok (.aload_n 0, 1) := by decide +kernel
theorem d_Modl_flipAll_11 : decode b_Modl_flipAll 11 = .ok (.getfield 42, 3) := by decide +kernel
theorem d_Modl_flipAll_14 : decode b_Modl_flipAll 14 = .ok (.iload_n 2, 1) := by decide +kernel
theorem d_Modl_flipAll_15 : decode b_Modl_flipAll 15 = .ok (.iaload, 1) := by decide +kernel
theorem d_Modl_flipAll_16 : decode b_Modl_flipAll 16 = .ok (.iload_n 1, 1) := by decide +kernel
theorem d_Modl_flipAll_17 : decode b_Modl_flipAll 17 = .ok (.if_icmp .eq 6, 3) := by decide +kernel
theorem d_Modl_flipAll_20 : decode b_Modl_flipAll 20 = .ok (.goto 45, 3) := by decide +kernel
theorem d_Modl_flipAll_23 : decode b_Modl_flipAll 23 = .ok (.aload_n 0, 1) := by decide +kernel
theorem d_Modl_flipAll_24 : decode b_Modl_flipAll 24 = .ok (.getfield 26, 3) := by decide +kernel
theorem d_Modl_flipAll_27 : decode b_Modl_flipAll 27 = .ok (.bipush 18, 2) := by decide +kernel
theorem d_Modl_flipAll_29 : decode b_Modl_flipAll 29 = .ok (.aload_n 0, 1) := by decide +kernel
theorem d_Modl_flipAll_30 : decode b_Modl_flipAll 30 = .ok (.getfield 33, 3) := by decide +kernel
theorem d_Modl_flipAll_33 : decode b_Modl_flipAll 33 = .ok (.iload_n 2, 1) := by decide +kernel
theorem d_Modl_flipAll_34 : decode b_Modl_flipAll 34 = .ok (.iaload, 1) := by decide +kernel
theorem d_Modl_flipAll_35 : decode b_Modl_flipAll 35 = .ok (.imul, 1) := by decide +kernel
theorem d_Modl_flipAll_36 : decode b_Modl_flipAll 36 = .ok (.aload_n 0, 1) := by decide +kernel
theorem d_Modl_flipAll_37 : decode b_Modl_flipAll 37 = .ok (.getfield 36, 3) := by decide +kernel
theorem d_Modl_flipAll_40 : decode b_Modl_flipAll 40 = .ok (.iload_n 2, 1) := by decide +kernel
theorem d_Modl_flipAll_41 : decode b_Modl_flipAll 41 = .ok (.iaload, 1) := by decide +kernel
theorem d_Modl_flipAll_42 : decode b_Modl_flipAll 42 = .ok (.iadd, 1) := by decide +kernel
theorem d_Modl_flipAll_43 : decode b_Modl_flipAll 43 = .ok (.dup2, 1) := by decide +kernel
theorem d_Modl_flipAll_44 : decode b_Modl_flipAll 44 = .ok (.laload, 1) := by decide +kernel
theorem d_Modl_flipAll_45 : decode b_Modl_flipAll 45 = .ok (.lconst 1, 1) := by decide +kernel
theorem d_Modl_flipAll_46 : decode b_Modl_flipAll 46 = .ok (.aload_n 0, 1) := by decide +kernel
theorem d_Modl_flipAll_47 : decode b_Modl_flipAll 47 = .ok (.getfield 39, 3) := by decide +kernel
theorem d_Modl_flipAll_50 : decode b_Modl_flipAll 50 = .ok (.iload_n 2, 1) := by decide +kernel
theorem d_Modl_flipAll_51 : decode b_Modl_flipAll 51 = .ok (.iaload, 1) := by decide +kernel
theorem d_Modl_flipAll_52 : decode b_Modl_flipAll 52 = .ok (.lshl, 1) := by decide +kernel
theorem d_Modl_flipAll_53 : decode b_Modl_flipAll 53 = .ok (.lxor, 1) := by decide +kernel
theorem d_Modl_flipAll_54 : decode b_Modl_flipAll 54 = .ok (.lastore, 1) := by decide +kernel
theorem d_Modl_flipAll_55 : decode b_Modl_flipAll 55 = .ok (.aload_n 0, 1) := by decide +kernel
theorem d_Modl_flipAll_56 : decode b_Modl_flipAll 56 = .ok (.dup, 1) := by decide +kernel
theorem d_Modl_flipAll_57 : decode b_Modl_flipAll 57 = .ok (.getfield 70, 3) := by decide +kernel
theorem d_Modl_flipAll_60 : decode b_Modl_flipAll 60 = .ok (.iconst 1, 1) := by decide +kernel
theorem d_Modl_flipAll_61 : decode b_Modl_flipAll 61 = .ok (.iadd, 1) := by decide +kernel
theorem d_Modl_flipAll_62 : decode b_Modl_flipAll 62 = .ok (.putfield 70, 3) := by decide +kernel
theorem d_Modl_flipAll_65 : decode b_Modl_flipAll 65 = .ok (.iinc 2 1, 3) := by decide +kernel
theorem d_Modl_flipAll_68 : decode b_Modl_flipAll 68 = .ok (.goto (-66), 3) := by decide +kernel
theorem d_Modl_flipAll_71 : decode b_Modl_flipAll 71 = .ok (.return_, 1) := by decide +kernel
theorem d_Modl_times_0 : decode b_Modl_times 0 = .ok (.iload_n 1, 1) := by decide +kernel
theorem d_Modl_times_1 : decode b_Modl_times 1 = .ok (.ifCond .ne 7, 3) := by decide +kernel
theorem d_Modl_times_4 : decode b_Modl_times 4 = .ok (.lconst 1, 1) := by decide +kernel
theorem d_Modl_times_5 : decode b_Modl_times 5 = .ok (.goto 6, 3) := by decide +kernel
theorem d_Modl_times_8 : decode b_Modl_times 8 = .ok (.ldc2_w 73, 3) := by decide +kernel
theorem d_Modl_times_11 : decode b_Modl_times 11 = .ok (.lreturn, 1) := by decide +kernel
theorem d_Modl_may_0 : decode b_Modl_may 0 = .ok (.lload_n 2, 1) := by decide +kernel
theorem d_Modl_may_1 : decode b_Modl_may 1 = .ok (.ldc2_w 48, 3) := by decide +kernel
theorem d_Modl_may_4 : decode b_Modl_may 4 = .ok (.aload_n 0, 1) := by decide +kernel
theorem d_Modl_may_5 : decode b_Modl_may 5 = .ok (.iload_n 1, 1) := by decide +kernel
theorem d_Modl_may_6 : decode b_Modl_may 6 = .ok (.invokevirtual 75, 3) := by decide +kernel
theorem d_Modl_may_9 : decode b_Modl_may 9 = .ok (.lmul, 1) := by decide +kernel
theorem d_Modl_may_10 : decode b_Modl_may 10 = .ok (.lcmp, 1) := by decide +kernel
theorem d_Modl_may_11 : decode b_Modl_may 11 = .ok (.ifCond .lt 21, 3) := by decide +kernel
theorem d_Modl_may_14 : decode b_Modl_may 14 = .ok (.lload_n 2, 1) := by decide +kernel
theorem d_Modl_may_15 : decode b_Modl_may 15 = .ok (.ldc2_w 50, 3) := by decide +kernel
theorem d_Modl_may_18 : decode b_Modl_may 18 = .ok (.aload_n 0, 1) := by decide +kernel
theorem d_Modl_may_19 : decode b_Modl_may 19 = .ok (.iload_n 1, 1) := by decide +kernel
theorem d_Modl_may_20 : decode b_Modl_may 20 = .ok (.invokevirtual 75, 3) := by decide +kernel
theorem d_Modl_may_23 : decode b_Modl_may 23 = .ok (.lmul, 1) := by decide +kernel
theorem d_Modl_may_24 : decode b_Modl_may 24 = .ok (.lcmp, 1) := by decide +kernel
theorem d_Modl_may_25 : decode b_Modl_may 25 = .ok (.ifCond .gt 7, 3) := by decide +kernel
theorem d_Modl_may_28 : decode b_Modl_may 28 = .ok (.iconst 1, 1) := by decide +kernel
theorem d_Modl_may_29 : decode b_Modl_may 29 = .ok (.goto 4, 3) := by decide +kernel
theorem d_Modl_may_32 : decode b_Modl_may 32 = .ok (.iconst 0, 1) := by decide +kernel
theorem d_Modl_may_33 : decode b_Modl_may 33 = .ok (.ireturn, 1) := by decide +kernel
theorem d_Modl_copy_0 : decode b_Modl_copy 0 = .ok (.aload_n 0, 1) := by decide +kernel
theorem d_Modl_copy_1 : decode b_Modl_copy 1 = .ok (.getfield 26, 3) := by decide +kernel
theorem d_Modl_copy_4 : decode b_Modl_copy 4 = .ok (.bipush 18, 2) := by decide +kernel
theorem d_Modl_copy_6 : decode b_Modl_copy 6 = .ok (.iload_n 1, 1) := by decide +kernel
theorem d_Modl_copy_7 : decode b_Modl_copy 7 = .ok (.imul, 1) := by decide +kernel
theorem d_Modl_copy_8 : decode b_Modl_copy 8 = .ok (.bipush 16, 2) := by decide +kernel
theorem d_Modl_copy_10 : decode b_Modl_copy 10 = .ok (.iadd, 1) := by decide +kernel
theorem d_Modl_copy_11 : decode b_Modl_copy 11 = .ok (.lconst 0, 1) := by decide +kernel
theorem d_Modl_copy_12 : decode b_Modl_copy 12 = .ok (.lastore, 1) := by decide +kernel
theorem d_Modl_copy_13 : decode b_Modl_copy 13 = .ok (.aload_n 0, 1) := by decide +kernel
theorem d_Modl_copy_14 : decode b_Modl_copy 14 = .ok (.getfield 26, 3) := by decide +kernel
theorem d_Modl_copy_17 : decode b_Modl_copy 17 = .ok (.bipush 18, 2) := by decide +kernel
theorem d_Modl_copy_19 : decode b_Modl_copy 19 = .ok (.iload_n 1, 1) := by decide +kernel
theorem d_Modl_copy_20 : decode b_Modl_copy 20 = .ok (.imul, 1) := by decide +kernel
theorem d_Modl_copy_21 : decode b_Modl_copy 21 = .ok (.bipush 17, 2) := by decide +kernel
theorem d_Modl_copy_23 : decode b_Modl_copy 23 = .ok (.iadd, 1) := by decide +kernel
theorem d_Modl_copy_24 : decode b_Modl_copy 24 = .ok (.lconst 0, 1) := by decide +kernel
theorem d_Modl_copy_25 : decode b_Modl_copy 25 = .ok (.lastore, 1) := by decide +kernel
theorem d_Modl_copy_26 : decode b_Modl_copy 26 = .ok (.aload_n 0, 1) := by decide +kernel
theorem d_Modl_copy_27 : decode b_Modl_copy 27 = .ok (.iconst 0, 1) := by decide +kernel
theorem d_Modl_copy_28 : decode b_Modl_copy 28 = .ok (.putfield 83, 3) := by decide +kernel
theorem d_Modl_copy_31 : decode b_Modl_copy 31 = .ok (.aload_n 0, 1) := by decide +kernel
theorem d_Modl_copy_32 : decode b_Modl_copy 32 = .ok (.iconst 0, 1) := by decide +kernel
theorem d_Modl_copy_33 : decode b_Modl_copy 33 = .ok (.putfield 86, 3) := by decide +kernel
theorem d_Modl_copy_36 : decode b_Modl_copy 36 = .ok (.iconst 1, 1) := by decide +kernel
theorem d_Modl_copy_37 : decode b_Modl_copy 37 = .ok (.istore_n 2, 1) := by decide +kernel
theorem d_Modl_copy_38 : decode b_Modl_copy 38 = .ok (.iload_n 2, 1) := by decide +kernel
theorem d_Modl_copy_39 : decode b_Modl_copy 39 = .ok (.aload_n 0, 1) := by decide +kernel
theorem d_Modl_copy_40 : decode b_Modl_copy 40 = .ok (.getfield 45, 3) := by decide +kernel
theorem d_Modl_copy_43 : decode b_Modl_copy 43 = .ok (.if_icmp .gt 81, 3) := by decide +kernel
theorem d_Modl_copy_46 : decode b_Modl_copy 46 = .ok (.aload_n 0, 1) := by decide +kernel
theorem d_Modl_copy_47 : decode b_Modl_copy 47 = .ok (.aload_n 0, 1) := by decide +kernel
theorem d_Modl_copy_48 : decode b_Modl_copy 48 = .ok (.getfield 95, 3) := by decide +kernel
theorem d_Modl_copy_51 : decode b_Modl_copy 51 = .ok (.invokevirtual 98, 3) := by decide +kernel
theorem d_Modl_copy_54 : decode b_Modl_copy 54 = .ok (.aload_n 0, 1) := by decide +kernel
theorem d_Modl_copy_55 : decode b_Modl_copy 55 = .ok (.dup, 1) := by decide +kernel
theorem d_Modl_copy_56 : decode b_Modl_copy 56 = .ok (.getfield 95, 3) := by decide +kernel
theorem d_Modl_copy_59 : decode b_Modl_copy 59 = .ok (.iconst 1, 1) := by decide +kernel
theorem d_Modl_copy_60 : decode b_Modl_copy 60 = .ok (.iadd, 1) := by decide +kernel
theorem d_Modl_copy_61 : decode b_Modl_copy 61 = .ok (.putfield 95, 3) := by decide +kernel
theorem d_Modl_copy_64 : decode b_Modl_copy 64 = .ok (.aload_n 0, 1) := by decide +kernel
theorem d_Modl_copy_65 : decode b_Modl_copy 65 = .ok (.getfield 83, 3) := by decide +kernel
theorem d_Modl_copy_68 : decode b_Modl_copy 68 = .ok (.istore_n 3, 1) := by decide +kernel
theorem d_Modl_copy_69 : decode b_Modl_copy 69 = .ok (.aload_n 0, 1) := by decide +kernel
theorem d_Modl_copy_70 : decode b_Modl_copy 70 = .ok (.dup, 1) := by decide +kernel
theorem d_Modl_copy_71 : decode b_Modl_copy 71 = .ok (.getfield 83, 3) := by decide +kernel
theorem d_Modl_copy_74 : decode b_Modl_copy 74 = .ok (.iconst 1, 1) := by decide +kernel
theorem d_Modl_copy_75 : decode b_Modl_copy 75 = .ok (.iadd, 1) := by decide +kernel
theorem d_Modl_copy_76 : decode b_Modl_copy 76 = .ok (.putfield 83, 3) := by decide +kernel
theorem d_Modl_copy_79 : decode b_Modl_copy 79 = .ok (.iload_n 3, 1) := by decide +kernel
theorem d_Modl_copy_80 : decode b_Modl_copy 80 = .ok (.aload_n 0, 1) := by decide +kernel
theorem d_Modl_copy_81 : decode b_Modl_copy 81 = .ok (.getfield 60, 3) := by decide +kernel
theorem d_Modl_copy_84 : decode b_Modl_copy 84 = .ok (.if_icmp .ge 23, 3) := by decide +kernel
theorem d_Modl_copy_87 : decode b_Modl_copy 87 = .ok (.aload_n 0, 1) := by decide +kernel
theorem d_Modl_copy_88 : decode b_Modl_copy 88 = .ok (.iload_n 1, 1) := by decide +kernel
theorem d_Modl_copy_89 : decode b_Modl_copy 89 = .ok (.aload_n 0, 1) := by decide +kernel
theorem d_Modl_copy_90 : decode b_Modl_copy 90 = .ok (.getfield 13, 3) := by decide +kernel
theorem d_Modl_copy_93 : decode b_Modl_copy 93 = .ok (.iload_n 3, 1) := by decide +kernel
theorem d_Modl_copy_94 : decode b_Modl_copy 94 = .ok (.iaload, 1) := by decide +kernel
theorem d_Modl_copy_95 : decode b_Modl_copy 95 = .ok (.aload_n 0, 1) := by decide +kernel
theorem d_Modl_copy_96 : decode b_Modl_copy 96 = .ok (.getfield 17, 3) := by decide +kernel
theorem d_Modl_copy_99 : decode b_Modl_copy 99 = .ok (.iload_n 3, 1) := by decide +kernel
theorem d_Modl_copy_100 : decode b_Modl_copy 100 = .ok (.iaload, 1) := by decide +kernel
theorem d_Modl_copy_101 : decode b_Modl_copy 101 = .ok (.invokevirtual 102, 3) := by decide +kernel
theorem d_Modl_copy_104 : decode b_Modl_copy 104 = .ok (.ifCond .ne 5, 3) := by decide +kernel
theorem d_Modl_copy_107 : decode b_Modl_copy 107 = .ok (.iconst 1, 1) := by decide +kernel
theorem d_Modl_copy_108 : decode b_Modl_copy 108 = .ok (.ireturn, 1) := by decide +kernel
theorem d_Modl_copy_109 : decode b_Modl_copy 109 = .ok (.aload_n 0, 1) := by decide +kernel
theorem d_Modl_copy_110 : decode b_Modl_copy 110 = .ok (.getfield 86, 3) := by decide +kernel
theorem d_Modl_copy_113 : decode b_Modl_copy 113 = .ok (.ifCond .eq 5, 3) := by decide +kernel
theorem d_Modl_copy_116 : decode b_Modl_copy 116 = .ok (.iconst 0, 1) := by decide +kernel
theorem d_Modl_copy_117 : decode b_Modl_copy 117 = .ok (.ireturn, 1) := by decide +kernel
theorem d_Modl_copy_118 : decode b_Modl_copy 118 = .ok (.iinc 2 1, 3) := by decide +kernel
theorem d_Modl_copy_121 : decode b_Modl_copy 121 = .ok (.goto (-83), 3) := by decide +kernel
theorem d_Modl_copy_124 : decode b_Modl_copy 124 = .ok (.iconst 2, 1) := by decide +kernel
theorem d_Modl_copy_125 : decode b_Modl_copy 125 = .ok (.ireturn, 1) := by decide +kernel
theorem d_Modl_agree_0 : decode b_Modl_agree 0 = .ok (.iconst 0, 1) := by decide +kernel
theorem d_Modl_agree_1 : decode b_Modl_agree 1 = .ok (.istore_n 1, 1) := by decide +kernel
theorem d_Modl_agree_2 : decode b_Modl_agree 2 = .ok (.iload_n 1, 1) := by decide +kernel
theorem d_Modl_agree_3 : decode b_Modl_agree 3 = .ok (.iconst 4, 1) := by decide +kernel
theorem d_Modl_agree_4 : decode b_Modl_agree 4 = .ok (.if_icmp .ge 51, 3) := by decide +kernel
theorem d_Modl_agree_7 : decode b_Modl_agree 7 = .ok (.aload_n 0, 1) := by decide +kernel
theorem d_Modl_agree_8 : decode b_Modl_agree 8 = .ok (.getfield 30, 3) := by decide +kernel
theorem d_Modl_agree_11 : decode b_Modl_agree 11 = .ok (.iconst 4, 1) := by decide +kernel
theorem d_Modl_agree_12 : decode b_Modl_agree 12 = .ok (.iload_n 1, 1) := by decide +kernel
theorem d_Modl_agree_13 : decode b_Modl_agree 13 = .ok (.iadd, 1) := by decide +kernel
theorem d_Modl_agree_14 : decode b_Modl_agree 14 = .ok (.laload, 1) := by decide +kernel
theorem d_Modl_agree_15 : decode b_Modl_agree 15 = .ok (.ldc2_w 73, 3) := by decide +kernel
theorem d_Modl_agree_18 : decode b_Modl_agree 18 = .ok (.aload_n 0, 1) := by decide +kernel
theorem d_Modl_agree_19 : decode b_Modl_agree 19 = .ok (.getfield 30, 3) := by decide +kernel
theorem d_Modl_agree_22 : decode b_Modl_agree 22 = .ok (.iload_n 1, 1) := by decide +kernel
theorem d_Modl_agree_23 : decode b_Modl_agree 23 = .ok (.laload, 1) := by decide +kernel
theorem d_Modl_agree_24 : decode b_Modl_agree 24 = .ok (.lmul, 1) := by decide +kernel
theorem d_Modl_agree_25 : decode b_Modl_agree 25 = .ok (.lcmp, 1) := by decide +kernel
theorem d_Modl_agree_26 : decode b_Modl_agree 26 = .ok (.ifCond .ne 21, 3) := by decide +kernel
theorem d_Modl_agree_29 : decode b_Modl_agree 29 = .ok (.aload_n 0, 1) := by decide +kernel
theorem d_Modl_agree_30 : decode b_Modl_agree 30 = .ok (.getfield 30, 3) := by decide +kernel
theorem d_Modl_agree_33 : decode b_Modl_agree 33 = .ok (.iload_n 1, 1) := by decide +kernel
theorem d_Modl_agree_34 : decode b_Modl_agree 34 = .ok (.laload, 1) := by decide +kernel
theorem d_Modl_agree_35 : decode b_Modl_agree 35 = .ok (.aload_n 0, 1) := by decide +kernel
theorem d_Modl_agree_36 : decode b_Modl_agree 36 = .ok (.getfield 30, 3) := by decide +kernel
theorem d_Modl_agree_39 : decode b_Modl_agree 39 = .ok (.iload_n 1, 1) := by decide +kernel
theorem d_Modl_agree_40 : decode b_Modl_agree 40 = .ok (.laload, 1) := by decide +kernel
theorem d_Modl_agree_41 : decode b_Modl_agree 41 = .ok (.l2i, 1) := by decide +kernel
theorem d_Modl_agree_42 : decode b_Modl_agree 42 = .ok (.i2l, 1) := by decide +kernel
theorem d_Modl_agree_43 : decode b_Modl_agree 43 = .ok (.lcmp, 1) := by decide +kernel
theorem d_Modl_agree_44 : decode b_Modl_agree 44 = .ok (.ifCond .eq 5, 3) := by decide +kernel
theorem d_Modl_agree_47 : decode b_Modl_agree 47 = .ok (.iconst 0, 1) := by decide +kernel
theorem d_Modl_agree_48 : decode b_Modl_agree 48 = .ok (.ireturn, 1) := by decide +kernel
theorem d_Modl_agree_49 : decode b_Modl_agree 49 = .ok (.iinc 1 1, 3) := by decide +kernel
theorem d_Modl_agree_52 : decode b_Modl_agree 52 = .ok (.goto (-50), 3) := by decide +kernel
theorem d_Modl_agree_55 : decode b_Modl_agree 55 = .ok (.iconst 1, 1) := by decide +kernel
theorem d_Modl_agree_56 : decode b_Modl_agree 56 = .ok (.ireturn, 1) := by decide +kernel
theorem d_Modl_cycle_0 : decode b_Modl_cycle 0 = .ok (.aload_n 0, 1) := by decide +kernel
theorem d_Modl_cycle_1 : decode b_Modl_cycle 1 = .ok (.iconst 0, 1) := by decide +kernel
theorem d_Modl_cycle_2 : decode b_Modl_cycle 2 = .ok (.putfield 1, 3) := by decide +kernel
theorem d_Modl_cycle_5 : decode b_Modl_cycle 5 = .ok (.aload_n 0, 1) := by decide +kernel
theorem d_Modl_cycle_6 : decode b_Modl_cycle 6 = .ok (.getfield 106, 3) := by decide +kernel
theorem d_Modl_cycle_9 : decode b_Modl_cycle 9 = .ok (.ifCond .le 5, 3) := by decide +kernel
theorem d_Modl_cycle_12 : decode b_Modl_cycle 12 = .ok (.iconst 0, 1) := by decide +kernel
theorem d_Modl_cycle_13 : decode b_Modl_cycle 13 = .ok (.ireturn, 1) := by decide +kernel
theorem d_Modl_cycle_14 : decode b_Modl_cycle 14 = .ok (.aload_n 0, 1) := by decide +kernel
theorem d_Modl_cycle_15 : decode b_Modl_cycle 15 = .ok (.iconst 1, 1) := by decide +kernel
theorem d_Modl_cycle_16 : decode b_Modl_cycle 16 = .ok (.putfield 63, 3) := by decide +kernel
theorem d_Modl_cycle_19 : decode b_Modl_cycle 19 = .ok (.aload_n 0, 1) := by decide +kernel
theorem d_Modl_cycle_20 : decode b_Modl_cycle 20 = .ok (.iconst 0, 1) := by decide +kernel
theorem d_Modl_cycle_21 : decode b_Modl_cycle 21 = .ok (.putfield 95, 3) := by decide +kernel
theorem d_Modl_cycle_24 : decode b_Modl_cycle 24 = .ok (.iconst 0, 1) := by decide +kernel
theorem d_Modl_cycle_25 : decode b_Modl_cycle 25 = .ok (.istore_n 1, 1) := by decide +kernel
theorem d_Modl_cycle_26 : decode b_Modl_cycle 26 = .ok (.iload_n 1, 1) := by decide +kernel
theorem d_Modl_cycle_27 : decode b_Modl_cycle 27 = .ok (.bipush 8, 2) := by decide +kernel
theorem d_Modl_cycle_29 : decode b_Modl_cycle 29 = .ok (.if_icmp .ge 16, 3) := by decide +kernel
theorem d_Modl_cycle_32 : decode b_Modl_cycle 32 = .ok (.aload_n 0, 1) := by decide +kernel
theorem d_Modl_cycle_33 : decode b_Modl_cycle 33 = .ok (.getfield 30, 3) := by decide +kernel
theorem d_Modl_cycle_36 : decode b_Modl_cycle 36 = .ok (.iload_n 1, 1) := by decide +kernel
theorem d_Modl_cycle_37 : decode b_Modl_cycle 37 = .ok (.lconst 0, 1) := by decide +kernel
theorem d_Modl_cycle_38 : decode b_Modl_cycle 38 = .ok (.lastore, 1) := by decide +kernel
theorem d_Modl_cycle_39 : decode b_Modl_cycle 39 = .ok (.iinc 1 1, 3) := by decide +kernel
theorem d_Modl_cycle_42 : decode b_Modl_cycle 42 = .ok (.goto (-16), 3) := by decide +kernel
theorem d_Modl_cycle_45 : decode b_Modl_cycle 45 = .ok (.aload_n 0, 1) := by decide +kernel
theorem d_Modl_cycle_46 : decode b_Modl_cycle 46 = .ok (.aload_n 0, 1) := by decide +kernel
theorem d_Modl_cycle_47 : decode b_Modl_cycle 47 = .ok (.iconst 0, 1) := by decide +kernel
theorem d_Modl_cycle_48 : decode b_Modl_cycle 48 = .ok (.invokevirtual 109, 3) := by decide +kernel
theorem d_Modl_cycle_51 : decode b_Modl_cycle 51 = .ok (.putfield 106, 3) := by decide +kernel
theorem d_Modl_cycle_54 : decode b_Modl_cycle 54 = .ok (.aload_n 0, 1) := by decide +kernel
theorem d_Modl_cycle_55 : decode b_Modl_cycle 55 = .ok (.getfield 106, 3) := by decide +kernel
theorem d_Modl_cycle_58 : decode b_Modl_cycle 58 = .ok (.ifCond .ne 12, 3) := by decide +kernel
theorem d_Modl_cycle_61 : decode b_Modl_cycle 61 = .ok (.aload_n 0, 1) := by decide +kernel
theorem d_Modl_cycle_62 : decode b_Modl_cycle 62 = .ok (.aload_n 0, 1) := by decide +kernel
theorem d_Modl_cycle_63 : decode b_Modl_cycle 63 = .ok (.iconst 1, 1) := by decide +kernel
theorem d_Modl_cycle_64 : decode b_Modl_cycle 64 = .ok (.invokevirtual 109, 3) := by decide +kernel
theorem d_Modl_cycle_67 : decode b_Modl_cycle 67 = .ok (.putfield 106, 3) := by decide +kernel
theorem d_Modl_cycle_70 : decode b_Modl_cycle 70 = .ok (.aload_n 0, 1) := by decide +kernel
theorem d_Modl_cycle_71 : decode b_Modl_cycle 71 = .ok (.getfield 106, 3) := by decide +kernel
theorem d_Modl_cycle_74 : decode b_Modl_cycle 74 = .ok (.ifCond .ne 15, 3) := by decide +kernel
theorem d_Modl_cycle_77 : decode b_Modl_cycle 77 = .ok (.aload_n 0, 1) := by decide +kernel
theorem d_Modl_cycle_78 : decode b_Modl_cycle 78 = .ok (.invokevirtual 113, 3) := by decide +kernel
theorem d_Modl_cycle_81 : decode b_Modl_cycle 81 = .ok (.ifCond .ne 8, 3) := by decide +kernel
theorem d_Modl_cycle_84 : decode b_Modl_cycle 84 = .ok (.aload_n 0, 1) := by decide +kernel
theorem d_Modl_cycle_85 : decode b_Modl_cycle 85 = .ok (.iconst 3, 1) := by decide +kernel
theorem d_Modl_cycle_86 : decode b_Modl_cycle 86 = .ok (.putfield 106, 3) := by decide +kernel
theorem d_Modl_cycle_89 : decode b_Modl_cycle 89 = .ok (.aload_n 0, 1) := by decide +kernel
theorem d_Modl_cycle_90 : decode b_Modl_cycle 90 = .ok (.iconst 0, 1) := by decide +kernel
theorem d_Modl_cycle_91 : decode b_Modl_cycle 91 = .ok (.putfield 67, 3) := by decide +kernel
theorem d_Modl_cycle_94 : decode b_Modl_cycle 94 = .ok (.iconst 0, 1) := by decide +kernel
theorem d_Modl_cycle_95 : decode b_Modl_cycle 95 = .ok (.istore_n 1, 1) := by decide +kernel
theorem d_Modl_cycle_96 : decode b_Modl_cycle 96 = .ok (.iload_n 1, 1) := by decide +kernel
theorem d_Modl_cycle_97 : decode b_Modl_cycle 97 = .ok (.iconst 4, 1) := by decide +kernel
theorem d_Modl_cycle_98 : decode b_Modl_cycle 98 = .ok (.if_icmp .ge 33, 3) := by decide +kernel
theorem d_Modl_cycle_101 : decode b_Modl_cycle 101 = .ok (.aload_n 0, 1) := by decide +kernel
theorem d_Modl_cycle_102 : decode b_Modl_cycle 102 = .ok (.getfield 23, 3) := by decide +kernel
theorem d_Modl_cycle_105 : decode b_Modl_cycle 105 = .ok (.iload_n 1, 1) := by decide +kernel
theorem d_Modl_cycle_106 : decode b_Modl_cycle 106 = .ok (.aload_n 0, 1) := by decide +kernel
theorem d_Modl_cycle_107 : decode b_Modl_cycle 107 = .ok (.getfield 106, 3) := by decide +kernel
theorem d_Modl_cycle_110 : decode b_Modl_cycle 110 = .ok (.ifCond .le 7, 3) := by decide +kernel
theorem d_Modl_cycle_113 : decode b_Modl_cycle 113 = .ok (.iconst 0, 1) := by decide +kernel
theorem d_Modl_cycle_114 : decode b_Modl_cycle 114 = .ok (.goto 10, 3) := by decide +kernel
theorem d_Modl_cycle_117 : decode b_Modl_cycle 117 = .ok (.aload_n 0, 1) := by decide +kernel
theorem d_Modl_cycle_118 : decode b_Modl_cycle 118 = .ok (.getfield 30, 3) := by decide +kernel
theorem d_Modl_cycle_121 : decode b_Modl_cycle 121 = .ok (.iload_n 1, 1) := by decide +kernel
theorem d_Modl_cycle_122 : decode b_Modl_cycle 122 = .ok (.laload, 1) := by decide +kernel
theorem d_Modl_cycle_123 : decode b_Modl_cycle 123 = .ok (.l2i, 1) := by decide +kernel
theorem d_Modl_cycle_124 : decode b_Modl_cycle 124 = .ok (.iastore, 1) := by decide +kernel
theorem d_Modl_cycle_125 : decode b_Modl_cycle 125 = .ok (.iinc 1 1, 3) := by decide +kernel
theorem d_Modl_cycle_128 : decode b_Modl_cycle 128 = .ok (.goto (-32), 3) := by decide +kernel
theorem d_Modl_cycle_131 : decode b_Modl_cycle 131 = .ok (.aload_n 0, 1) := by decide +kernel
theorem d_Modl_cycle_132 : decode b_Modl_cycle 132 = .ok (.getfield 106, 3) := by decide +kernel
theorem d_Modl_cycle_135 : decode b_Modl_cycle 135 = .ok (.ifCond .le 5, 3) := by decide +kernel
theorem d_Modl_cycle_138 : decode b_Modl_cycle 138 = .ok (.iconst 0, 1) := by decide +kernel
theorem d_Modl_cycle_139 : decode b_Modl_cycle 139 = .ok (.ireturn, 1) := by decide +kernel
theorem d_Modl_cycle_140 : decode b_Modl_cycle 140 = .ok (.aload_n 0, 1) := by decide +kernel
theorem d_Modl_cycle_141 : decode b_Modl_cycle 141 = .ok (.dup, 1) := by decide +kernel
theorem d_Modl_cycle_142 : decode b_Modl_cycle 142 = .ok (.getfield 117, 3) := by decide +kernel
theorem d_Modl_cycle_145 : decode b_Modl_cycle 145 = .ok (.iconst 1, 1) := by decide +kernel
theorem d_Modl_cycle_146 : decode b_Modl_cycle 146 = .ok (.iadd, 1) := by decide +kernel
theorem d_Modl_cycle_147 : decode b_Modl_cycle 147 = .ok (.putfield 117, 3) := by decide +kernel
theorem d_Modl_cycle_150 : decode b_Modl_cycle 150 = .ok (.iconst 1, 1) := by decide +kernel
theorem d_Modl_cycle_151 : decode b_Modl_cycle 151 = .ok (.ireturn, 1) := by decide +kernel
theorem d_Modl_flip_0 : decode b_Modl_flip 0 = .ok (.aload_n 0, 1) := by decide +kernel
theorem d_Modl_flip_1 : decode b_Modl_flip 1 = .ok (.iconst 0, 1) := by decide +kernel
theorem d_Modl_flip_2 : decode b_Modl_flip 2 = .ok (.putfield 1, 3) := by decide +kernel
theorem d_Modl_flip_5 : decode b_Modl_flip 5 = .ok (.iload_n 1, 1) := by decide +kernel
theorem d_Modl_flip_6 : decode b_Modl_flip 6 = .ok (.ifCond .lt 48, 3) := by decide +kernel
theorem d_Modl_flip_9 : decode b_Modl_flip 9 = .ok (.iload_n 1, 1) := by decide +kernel
theorem d_Modl_flip_10 : decode b_Modl_flip 10 = .ok (.iconst 1, 1) := by decide +kernel
theorem d_Modl_flip_11 : decode b_Modl_flip 11 = .ok (.if_icmp .gt 43, 3) := by decide +kernel
theorem d_Modl_flip_14 : decode b_Modl_flip 14 = .ok (.iload_n 2, 1) := by decide +kernel
theorem d_Modl_flip_15 : decode b_Modl_flip 15 = .ok (.ifCond .lt 39, 3) := by decide +kernel
theorem d_Modl_flip_18 : decode b_Modl_flip 18 = .ok (.iload_n 2, 1) := by decide +kernel
theorem d_Modl_flip_19 : decode b_Modl_flip 19 = .ok (.bipush 17, 2) := by decide +kernel
theorem d_Modl_flip_21 : decode b_Modl_flip 21 = .ok (.if_icmp .gt 33, 3) := by decide +kernel
theorem d_Modl_flip_24 : decode b_Modl_flip 24 = .ok (.iload_n 3, 1) := by decide +kernel
theorem d_Modl_flip_25 : decode b_Modl_flip 25 = .ok (.ifCond .lt 29, 3) := by decide +kernel
theorem d_Modl_flip_28 : decode b_Modl_flip 28 = .ok (.iload_n 3, 1) := by decide +kernel
theorem d_Modl_flip_29 : decode b_Modl_flip 29 = .ok (.bipush 63, 2) := by decide +kernel
theorem d_Modl_flip_31 : decode b_Modl_flip 31 = .ok (.if_icmp .gt 23, 3) := by decide +kernel
theorem d_Modl_flip_34 : decode b_Modl_flip 34 = .ok (.iload 4, 2) := by decide +kernel
theorem d_Modl_flip_36 : decode b_Modl_flip 36 = .ok (.ifCond .lt 18, 3) := by decide +kernel
theorem d_Modl_flip_39 : decode b_Modl_flip 39 = .ok (.aload_n 0, 1) := by decide +kernel
theorem d_Modl_flip_40 : decode b_Modl_flip 40 = .ok (.getfield 106, 3) := by decide +kernel
theorem d_Modl_flip_43 : decode b_Modl_flip 43 = .ok (.ifCond .gt 11, 3) := by decide +kernel
theorem d_Modl_flip_46 : decode b_Modl_flip 46 = .ok (.aload_n 0, 1) := by decide +kernel
theorem d_Modl_flip_47 : decode b_Modl_flip 47 = .ok (.getfield 67, 3) := by decide +kernel
theorem d_Modl_flip_50 : decode b_Modl_flip 50 = .ok (.iconst 4, 1) := by decide +kernel
theorem d_Modl_flip_51 : decode b_Modl_flip 51 = .ok (.if_icmp .ne 5, 3) := by decide +kernel
theorem d_Modl_flip_54 : decode b_Modl_flip 54 = .ok (.iconst 0, 1) := by decide +kernel
theorem d_Modl_flip_55 : decode b_Modl_flip 55 = .ok (.ireturn, 1) := by decide +kernel
theorem d_Modl_flip_56 : decode b_Modl_flip 56 = .ok (.aload_n 0, 1) := by decide +kernel
theorem d_Modl_flip_57 : decode b_Modl_flip 57 = .ok (.getfield 33, 3) := by decide +kernel
theorem d_Modl_flip_60 : decode b_Modl_flip 60 = .ok (.aload_n 0, 1) := by decide +kernel
theorem d_Modl_flip_61 : decode b_Modl_flip 61 = .ok (.getfield 67, 3) := by decide +kernel
theorem d_Modl_flip_64 : decode b_Modl_flip 64 = .ok (.iload_n 1, 1) := by decide +kernel
theorem d_Modl_flip_65 : decode b_Modl_flip 65 = .ok (.iastore, 1) := by decide +kernel
theorem d_Modl_flip_66 : decode b_Modl_flip 66 = .ok (.aload_n 0, 1) := by decide +kernel
theorem d_Modl_flip_67 : decode b_Modl_flip 67 = .ok (.getfield 36, 3) := by decide +kernel
theorem d_Modl_flip_70 : decode b_Modl_flip 70 = .ok (.aload_n 0, 1) := by decide +kernel
theorem d_Modl_flip_71 : decode b_Modl_flip 71 = .ok (.getfield 67, 3) := by decide +kernel
theorem d_Modl_flip_74 : decode b_Modl_flip 74 = .ok (.iload_n 2, 1) := by decide +kernel
theorem d_Modl_flip_75 : decode b_Modl_flip 75 = .ok (.iastore, 1) := by decide +kernel
theorem d_Modl_flip_76 : decode b_Modl_flip 76 = .ok (.aload_n 0, 1) := by decide +kernel
theorem d_Modl_flip_77 : decode b_Modl_flip 77 = .ok (.getfield 39, 3) := by decide +kernel
theorem d_Modl_flip_80 : decode b_Modl_flip 80 = .ok (.aload_n 0, 1) := by decide +kernel
theorem d_Modl_flip_81 : decode b_Modl_flip 81 = .ok (.getfield 67, 3) := by decide +kernel
theorem d_Modl_flip_84 : decode b_Modl_flip 84 = .ok (.iload_n 3, 1) := by decide +kernel
theorem d_Modl_flip_85 : decode b_Modl_flip 85 = .ok (.iastore, 1) := by decide +kernel
theorem d_Modl_flip_86 : decode b_Modl_flip 86 = .ok (.aload_n 0, 1) := by decide +kernel
theorem d_Modl_flip_87 : decode b_Modl_flip 87 = .ok (.getfield 42, 3) := by decide +kernel
theorem d_Modl_flip_90 : decode b_Modl_flip 90 = .ok (.aload_n 0, 1) := by decide +kernel
theorem d_Modl_flip_91 : decode b_Modl_flip 91 = .ok (.getfield 67, 3) := by decide +kernel
theorem d_Modl_flip_94 : decode b_Modl_flip 94 = .ok (.iload 4, 2) := by decide +kernel
theorem d_Modl_flip_96 : decode b_Modl_flip 96 = .ok (.iastore, 1) := by decide +kernel
theorem d_Modl_flip_97 : decode b_Modl_flip 97 = .ok (.aload_n 0, 1) := by decide +kernel
theorem d_Modl_flip_98 : decode b_Modl_flip 98 = .ok (.dup, 1) := by decide +kernel
theorem d_Modl_flip_99 : decode b_Modl_flip 99 = .ok (.getfield 67, 3) := by decide +kernel
theorem d_Modl_flip_102 : decode b_Modl_flip 102 = .ok (.iconst 1, 1) := by decide +kernel
theorem d_Modl_flip_103 : decode b_Modl_flip 103 = .ok (.iadd, 1) := by decide +kernel
theorem d_Modl_flip_104 : decode b_Modl_flip 104 = .ok (.putfield 67, 3) := by decide +kernel
theorem d_Modl_flip_107 : decode b_Modl_flip 107 = .ok (.iconst 1, 1) := by decide +kernel
theorem d_Modl_flip_108 : decode b_Modl_flip 108 = .ok (.ireturn, 1) := by decide +kernel
theorem d_Modl_output_0 : decode b_Modl_output 0 = .ok (.aload_n 0, 1) := by decide +kernel
theorem d_Modl_output_1 : decode b_Modl_output 1 = .ok (.iconst 0, 1) := by decide +kernel
theorem d_Modl_output_2 : decode b_Modl_output 2 = .ok (.putfield 1, 3) := by decide +kernel
theorem d_Modl_output_5 : decode b_Modl_output 5 = .ok (.iload_n 1, 1) := by decide +kernel
theorem d_Modl_output_6 : decode b_Modl_output 6 = .ok (.ifCond .lt 8, 3) := by decide +kernel
theorem d_Modl_output_9 : decode b_Modl_output 9 = .ok (.iload_n 1, 1) := by decide +kernel
theorem d_Modl_output_10 : decode b_Modl_output 10 = .ok (.iconst 4, 1) := by decide +kernel
theorem d_Modl_output_11 : decode b_Modl_output 11 = .ok (.if_icmp .lt 7, 3) := by decide +kernel
theorem d_Modl_output_14 : decode b_Modl_output 14 = .ok (.iconst (-1), 1) := by decide +kernel
theorem d_Modl_output_15 : decode b_Modl_output 15 = .ok (.goto 9, 3) := by decide +kernel
theorem d_Modl_output_18 : decode b_Modl_output 18 = .ok (.aload_n 0, 1) := by decide +kernel
theorem d_Modl_output_19 : decode b_Modl_output 19 = .ok (.getfield 23, 3) := by decide +kernel
theorem d_Modl_output_22 : decode b_Modl_output 22 = .ok (.iload_n 1, 1) := by decide +kernel
theorem d_Modl_output_23 : decode b_Modl_output 23 = .ok (.iaload, 1) := by decide +kernel
theorem d_Modl_output_24 : decode b_Modl_output 24 = .ok (.ireturn, 1) := by decide +kernel
theorem d_Modl_cell_0 : decode b_Modl_cell 0 = .ok (.aload_n 0, 1) := by decide +kernel
theorem d_Modl_cell_1 : decode b_Modl_cell 1 = .ok (.iload_n 1, 1) := by decide +kernel
theorem d_Modl_cell_2 : decode b_Modl_cell 2 = .ok (.ifCond .lt 18, 3) := by decide +kernel
theorem d_Modl_cell_5 : decode b_Modl_cell 5 = .ok (.iload_n 1, 1) := by decide +kernel
theorem d_Modl_cell_6 : decode b_Modl_cell 6 = .ok (.iconst 1, 1) := by decide +kernel
theorem d_Modl_cell_7 : decode b_Modl_cell 7 = .ok (.if_icmp .gt 13, 3) := by decide +kernel
theorem d_Modl_cell_10 : decode b_Modl_cell 10 = .ok (.iload_n 2, 1) := by decide +kernel
theorem d_Modl_cell_11 : decode b_Modl_cell 11 = .ok (.ifCond .lt 9, 3) := by decide +kernel
theorem d_Modl_cell_14 : decode b_Modl_cell 14 = .ok (.iload_n 2, 1) := by decide +kernel
theorem d_Modl_cell_15 : decode b_Modl_cell 15 = .ok (.bipush 17, 2) := by decide +kernel
theorem d_Modl_cell_17 : decode b_Modl_cell 17 = .ok (.if_icmp .le 7, 3) := by decide +kernel
theorem d_Modl_cell_20 : decode b_Modl_cell 20 = .ok (.iconst 1, 1) := by decide +kernel
theorem d_Modl_cell_21 : decode b_Modl_cell 21 = .ok (.goto 4, 3) := by decide +kernel
theorem d_Modl_cell_24 : decode b_Modl_cell 24 = .ok (.iconst 0, 1) := by decide +kernel
theorem d_Modl_cell_25 : decode b_Modl_cell 25 = .ok (.putfield 1, 3) := by decide +kernel
theorem d_Modl_cell_28 : decode b_Modl_cell 28 = .ok (.aload_n 0, 1) := by decide +kernel
theorem d_Modl_cell_29 : decode b_Modl_cell 29 = .ok (.getfield 1, 3) := by decide +kernel
theorem d_Modl_cell_32 : decode b_Modl_cell 32 = .ok (.ifCond .le 7, 3) := by decide +kernel
theorem d_Modl_cell_35 : decode b_Modl_cell 35 = .ok (.lconst 0, 1) := by decide +kernel
theorem d_Modl_cell_36 : decode b_Modl_cell 36 = .ok (.goto 14, 3) := by decide +kernel
theorem d_Modl_cell_39 : decode b_Modl_cell 39 = .ok (.aload_n 0, 1) := by decide +kernel
theorem d_Modl_cell_40 : decode b_Modl_cell 40 = .ok (.getfield 26, 3) := by decide +kernel
theorem d_Modl_cell_43 : decode b_Modl_cell 43 = .ok (.bipush 18, 2) := by decide +kernel
theorem d_Modl_cell_45 : decode b_Modl_cell 45 = .ok (.iload_n 1, 1) := by decide +kernel
theorem d_Modl_cell_46 : decode b_Modl_cell 46 = .ok (.imul, 1) := by decide +kernel
theorem d_Modl_cell_47 : decode b_Modl_cell 47 = .ok (.iload_n 2, 1) := by decide +kernel
theorem d_Modl_cell_48 : decode b_Modl_cell 48 = .ok (.iadd, 1) := by decide +kernel
theorem d_Modl_cell_49 : decode b_Modl_cell 49 = .ok (.laload, 1) := by decide +kernel
theorem d_Modl_cell_50 : decode b_Modl_cell 50 = .ok (.lreturn, 1) := by decide +kernel
theorem d_Modl_count_0 : decode b_Modl_count 0 = .ok (.aload_n 0, 1) := by decide +kernel
theorem d_Modl_count_1 : decode b_Modl_count 1 = .ok (.iconst 0, 1) := by decide +kernel
theorem d_Modl_count_2 : decode b_Modl_count 2 = .ok (.putfield 1, 3) := by decide +kernel
theorem d_Modl_count_5 : decode b_Modl_count 5 = .ok (.iload_n 1, 1) := by decide +kernel
theorem d_Modl_count_6 : decode b_Modl_count 6 = .ok (.tableswitch 77 0 6 #[42, 47, 52, 57, 62, 67, 72], 42) := by decide +kernel
theorem d_Modl_count_48 : decode b_Modl_count 48 = .ok (.aload_n 0, 1) := by decide +kernel
theorem d_Modl_count_49 : decode b_Modl_count 49 = .ok (.getfield 60, 3) := by decide +kernel
theorem d_Modl_count_52 : decode b_Modl_count 52 = .ok (.ireturn, 1) := by decide +kernel
theorem d_Modl_count_53 : decode b_Modl_count 53 = .ok (.aload_n 0, 1) := by decide +kernel
theorem d_Modl_count_54 : decode b_Modl_count 54 = .ok (.getfield 117, 3) := by decide +kernel
theorem d_Modl_count_57 : decode b_Modl_count 57 = .ok (.ireturn, 1) := by decide +kernel
theorem d_Modl_count_58 : decode b_Modl_count 58 = .ok (.aload_n 0, 1) := by decide +kernel
theorem d_Modl_count_59 : decode b_Modl_count 59 = .ok (.getfield 106, 3) := by decide +kernel
theorem d_Modl_count_62 : decode b_Modl_count 62 = .ok (.ireturn, 1) := by decide +kernel
theorem d_Modl_count_63 : decode b_Modl_count 63 = .ok (.aload_n 0, 1) := by decide +kernel
theorem d_Modl_count_64 : decode b_Modl_count 64 = .ok (.getfield 95, 3) := by decide +kernel
theorem d_Modl_count_67 : decode b_Modl_count 67 = .ok (.ireturn, 1) := by decide +kernel
theorem d_Modl_count_68 : decode b_Modl_count 68 = .ok (.aload_n 0, 1) := by decide +kernel
theorem d_Modl_count_69 : decode b_Modl_count 69 = .ok (.getfield 67, 3) := by decide +kernel
theorem d_Modl_count_72 : decode b_Modl_count 72 = .ok (.ireturn, 1) := by decide +kernel
theorem d_Modl_count_73 : decode b_Modl_count 73 = .ok (.aload_n 0, 1) := by decide +kernel
theorem d_Modl_count_74 : decode b_Modl_count 74 = .ok (.getfield 70, 3) := by decide +kernel
theorem d_Modl_count_77 : decode b_Modl_count 77 = .ok (.ireturn, 1) := by decide +kernel
theorem d_Modl_count_78 : decode b_Modl_count 78 = .ok (.aload_n 0, 1) := by decide +kernel
theorem d_Modl_count_79 : decode b_Modl_count 79 = .ok (.getfield 45, 3) := by decide +kernel
theorem d_Modl_count_82 : decode b_Modl_count 82 = .ok (.ireturn, 1) := by decide +kernel
theorem d_Modl_count_83 : decode b_Modl_count 83 = .ok (.iconst (-1), 1) := by decide +kernel
theorem d_Modl_count_84 : decode b_Modl_count 84 = .ok (.ireturn, 1) := by decide +kernel
end
section
theorem d_Modl_does_0 : decode b_Modl_does 0 = .ok (.bipush 18, 2) := by decide +kernel
theorem d_Modl_does_2 : decode b_Modl_does 2 = .ok (.iload_n 1, 1) := by decide +kernel
theorem d_Modl_does_3 : decode b_Modl_does 3 = .ok (.imul, 1) := by decide +kernel
theorem d_Modl_does_4 : decode b_Modl_does 4 = .ok (.istore 4, 2) := by decide +kernel
theorem d_Modl_does_6 : decode b_Modl_does 6 = .ok (.aload_n 0, 1) := by decide +kernel
theorem d_Modl_does_7 : decode b_Modl_does 7 = .ok (.getfield 26, 3) := by decide +kernel
theorem d_Modl_does_10 : decode b_Modl_does 10 = .ok (.iload 4, 2) := by decide +kernel
theorem d_Modl_does_12 : decode b_Modl_does 12 = .ok (.bipush 16, 2) := by decide +kernel
theorem d_Modl_does_14 : decode b_Modl_does 14 = .ok (.iadd, 1) := by decide +kernel
theorem d_Modl_does_15 : decode b_Modl_does 15 = .ok (.laload, 1) := by decide +kernel
theorem d_Modl_does_16 : decode b_Modl_does 16 = .ok (.lstore 5, 2) := by decide +kernel
theorem d_Modl_does_18 : decode b_Modl_does 18 = .ok (.aload_n 0, 1) := by decide +kernel
theorem d_Modl_does_19 : decode b_Modl_does 19 = .ok (.getfield 26, 3) := by decide +kernel
theorem d_Modl_does_22 : decode b_Modl_does 22 = .ok (.iload 4, 2) := by decide +kernel
theorem d_Modl_does_24 : decode b_Modl_does 24 = .ok (.bipush 17, 2) := by decide +kernel
theorem d_Modl_does_26 : decode b_Modl_does 26 = .ok (.iadd, 1) := by decide +kernel
theorem d_Modl_does_27 : decode b_Modl_does 27 = .ok (.laload, 1) := by decide +kernel
theorem d_Modl_does_28 : decode b_Modl_does 28 = .ok (.lstore 7, 2) := by decide +kernel
theorem d_Modl_does_30 : decode b_Modl_does 30 = .ok (.lload 5, 2) := by decide +kernel
theorem d_Modl_does_32 : decode b_Modl_does 32 = .ok (.lstore 9, 2) := by decide +kernel
theorem d_Modl_does_34 : decode b_Modl_does 34 = .ok (.iload_n 2, 1) := by decide +kernel
theorem d_Modl_does_35 : decode b_Modl_does 35 = .ok (.tableswitch 345 0 14 #[73, 86, 100, 114, 129, 139, 149, 222, 244, 266, 274, 282, 304, 322, 337], 73) := by decide +kernel
theorem d_Modl_does_108 : decode b_Modl_does 108 = .ok (.iload_n 3, 1) := by decide +kernel
theorem d_Modl_does_109 : decode b_Modl_does 109 = .ok (.i2l, 1) := by decide +kernel
theorem d_Modl_does_110 : decode b_Modl_does 110 = .ok (.aload_n 0, 1) := by decide +kernel
theorem d_Modl_does_111 : decode b_Modl_does 111 = .ok (.iload_n 1, 1) := by decide +kernel
theorem d_Modl_does_112 : decode b_Modl_does 112 = .ok (.invokevirtual 75, 3) := by decide +kernel
theorem d_Modl_does_115 : decode b_Modl_does 115 = .ok (.lmul, 1) := by decide +kernel
theorem d_Modl_does_116 : decode b_Modl_does 116 = .ok (.lstore 9, 2) := by decide +kernel
theorem d_Modl_does_118 : decode b_Modl_does 118 = .ok (.goto 316, 3) := by decide +kernel
theorem d_Modl_does_121 : decode b_Modl_does 121 = .ok (.aload_n 0, 1) := by decide +kernel
theorem d_Modl_does_122 : decode b_Modl_does 122 = .ok (.getfield 26, 3) := by decide +kernel
theorem d_Modl_does_125 : decode b_Modl_does 125 = .ok (.iload 4, 2) := by decide +kernel
theorem d_Modl_does_127 : decode b_Modl_does 127 = .ok (.iload_n 3, 1) := by decide +kernel
theorem d_Modl_does_128 : decode b_Modl_does 128 = .ok (.iadd, 1) := by decide +kernel
theorem d_Modl_does_129 : decode b_Modl_does 129 = .ok (.laload, 1) := by decide +kernel
theorem d_Modl_does_130 : decode b_Modl_does 130 = .ok (.lstore 9, 2) := by decide +kernel
theorem d_Modl_does_132 : decode b_Modl_does 132 = .ok (.goto 302, 3) := by decide +kernel
theorem d_Modl_does_135 : decode b_Modl_does 135 = .ok (.aload_n 0, 1) := by decide +kernel
theorem d_Modl_does_136 : decode b_Modl_does 136 = .ok (.getfield 26, 3) := by decide +kernel
theorem d_Modl_does_139 : decode b_Modl_does 139 = .ok (.iload 4, 2) := by decide +kernel
theorem d_Modl_does_141 : decode b_Modl_does 141 = .ok (.iload_n 3, 1) := by decide +kernel
theorem d_Modl_does_142 : decode b_Modl_does 142 = .ok (.iadd, 1) := by decide +kernel
theorem d_Modl_does_143 : decode b_Modl_does 143 = .ok (.lload 5, 2) := by decide +kernel
theorem d_Modl_does_145 : decode b_Modl_does 145 = .ok (.lastore, 1) := by decide +kernel
theorem d_Modl_does_146 : decode b_Modl_does 146 = .ok (.goto 288, 3) := by decide +kernel
theorem d_Modl_does_149 : decode b_Modl_does 149 = .ok (.aload_n 0, 1) := by decide +kernel
theorem d_Modl_does_150 : decode b_Modl_does 150 = .ok (.getfield 26, 3) := by decide +kernel
theorem d_Modl_does_153 : decode b_Modl_does 153 = .ok (.iload 4, 2) := by decide +kernel
theorem d_Modl_does_155 : decode b_Modl_does 155 = .ok (.bipush 17, 2) := by decide +kernel
theorem d_Modl_does_157 : decode b_Modl_does 157 = .ok (.iadd, 1) := by decide +kernel
theorem d_Modl_does_158 : decode b_Modl_does 158 = .ok (.lload 5, 2) := by decide +kernel
theorem d_Modl_does_160 : decode b_Modl_does 160 = .ok (.lastore, 1) := by decide +kernel
theorem d_Modl_does_161 : decode b_Modl_does 161 = .ok (.goto 273, 3) := by decide +kernel
theorem d_Modl_does_164 : decode b_Modl_does 164 = .ok (.lload 5, 2) := by decide +kernel
theorem d_Modl_does_166 : decode b_Modl_does 166 = .ok (.lload 7, 2) := by decide +kernel
theorem d_Modl_does_168 : decode b_Modl_does 168 = .ok (.ladd, 1) := by decide +kernel
theorem d_Modl_does_169 : decode b_Modl_does 169 = .ok (.lstore 9, 2) := by decide +kernel
theorem d_Modl_does_171 : decode b_Modl_does 171 = .ok (.goto 263, 3) := by decide +kernel
theorem d_Modl_does_174 : decode b_Modl_does 174 = .ok (.lload 5, 2) := by decide +kernel
theorem d_Modl_does_176 : decode b_Modl_does 176 = .ok (.lload 7, 2) := by decide +kernel
theorem d_Modl_does_178 : decode b_Modl_does 178 = .ok (.lsub, 1) := by decide +kernel
theorem d_Modl_does_179 : decode b_Modl_does 179 = .ok (.lstore 9, 2) := by decide +kernel
theorem d_Modl_does_181 : decode b_Modl_does 181 = .ok (.goto 253, 3) := by decide +kernel
theorem d_Modl_does_184 : decode b_Modl_does 184 = .ok (.lload 5, 2) := by decide +kernel
theorem d_Modl_does_186 : decode b_Modl_does 186 = .ok (.lload 7, 2) := by decide +kernel
theorem d_Modl_does_188 : decode b_Modl_does 188 = .ok (.lmul, 1) := by decide +kernel
theorem d_Modl_does_189 : decode b_Modl_does 189 = .ok (.lstore 9, 2) := by decide +kernel
theorem d_Modl_does_191 : decode b_Modl_does 191 = .ok (.lload 5, 2) := by decide +kernel
theorem d_Modl_does_193 : decode b_Modl_does 193 = .ok (.lconst 0, 1) := by decide +kernel
theorem d_Modl_does_194 : decode b_Modl_does 194 = .ok (.lcmp, 1) := by decide +kernel
theorem d_Modl_does_195 : decode b_Modl_does 195 = .ok (.ifCond .eq 34, 3) := by decide +kernel
theorem d_Modl_does_198 : decode b_Modl_does 198 = .ok (.lload 9, 2) := by decide +kernel
theorem d_Modl_does_200 : decode b_Modl_does 200 = .ok (.lload 5, 2) := by decide +kernel
theorem d_Modl_does_202 : decode b_Modl_does 202 = .ok (.ldiv, 1) := by decide +kernel
theorem d_Modl_does_203 : decode b_Modl_does 203 = .ok (.lload 7, 2) := by decide +kernel
theorem d_Modl_does_205 : decode b_Modl_does 205 = .ok (.lcmp, 1) := by decide +kernel
theorem d_Modl_does_206 : decode b_Modl_does 206 = .ok (.ifCond .ne 21, 3) := by decide +kernel
theorem d_Modl_does_209 : decode b_Modl_does 209 = .ok (.lload 5, 2) := by decide +kernel
theorem d_Modl_does_211 : decode b_Modl_does 211 = .ok (.ldc2_w 79, 3) := by decide +kernel
theorem d_Modl_does_214 : decode b_Modl_does 214 = .ok (.lcmp, 1) := by decide +kernel
theorem d_Modl_does_215 : decode b_Modl_does 215 = .ok (.ifCond .ne 14, 3) := by decide +kernel
theorem d_Modl_does_218 : decode b_Modl_does 218 = .ok (.lload 7, 2) := by decide +kernel
theorem d_Modl_does_220 : decode b_Modl_does 220 = .ok (.ldc2_w 81, 3) := by decide +kernel
theorem d_Modl_does_223 : decode b_Modl_does 223 = .ok (.lcmp, 1) := by decide +kernel
theorem d_Modl_does_224 : decode b_Modl_does 224 = .ok (.ifCond .ne 5, 3) := by decide +kernel
theorem d_Modl_does_227 : decode b_Modl_does 227 = .ok (.iconst 0, 1) := by decide +kernel
theorem d_Modl_does_228 : decode b_Modl_does 228 = .ok (.ireturn, 1) := by decide +kernel
theorem d_Modl_does_229 : decode b_Modl_does 229 = .ok (.lload 9, 2) := by decide +kernel
theorem d_Modl_does_231 : decode b_Modl_does 231 = .ok (.aload_n 0, 1) := by decide +kernel
theorem d_Modl_does_232 : decode b_Modl_does 232 = .ok (.iload_n 1, 1) := by decide +kernel
theorem d_Modl_does_233 : decode b_Modl_does 233 = .ok (.invokevirtual 75, 3) := by decide +kernel
theorem d_Modl_does_236 : decode b_Modl_does 236 = .ok (.lrem, 1) := by decide +kernel
theorem d_Modl_does_237 : decode b_Modl_does 237 = .ok (.lconst 0, 1) := by decide +kernel
theorem d_Modl_does_238 : decode b_Modl_does 238 = .ok (.lcmp, 1) := by decide +kernel
theorem d_Modl_does_239 : decode b_Modl_does 239 = .ok (.ifCond .eq 5, 3) := by decide +kernel
theorem d_Modl_does_242 : decode b_Modl_does 242 = .ok (.iconst 0, 1) := by decide +kernel
theorem d_Modl_does_243 : decode b_Modl_does 243 = .ok (.ireturn, 1) := by decide +kernel
theorem d_Modl_does_244 : decode b_Modl_does 244 = .ok (.lload 9, 2) := by decide +kernel
theorem d_Modl_does_246 : decode b_Modl_does 246 = .ok (.aload_n 0, 1) := by decide +kernel
theorem d_Modl_does_247 : decode b_Modl_does 247 = .ok (.iload_n 1, 1) := by decide +kernel
theorem d_Modl_does_248 : decode b_Modl_does 248 = .ok (.invokevirtual 75, 3) := by decide +kernel
theorem d_Modl_does_251 : decode b_Modl_does 251 = .ok (.ldiv, 1) := by decide +kernel
theorem d_Modl_does_252 : decode b_Modl_does 252 = .ok (.lstore 9, 2) := by decide +kernel
theorem d_Modl_does_254 : decode b_Modl_does 254 = .ok (.goto 180, 3) := by decide +kernel
theorem d_Modl_does_257 : decode b_Modl_does 257 = .ok (.lload 5, 2) := by decide +kernel
theorem d_Modl_does_259 : decode b_Modl_does 259 = .ok (.lload 7, 2) := by decide +kernel
theorem d_Modl_does_261 : decode b_Modl_does 261 = .ok (.lcmp, 1) := by decide +kernel
theorem d_Modl_does_262 : decode b_Modl_does 262 = .ok (.ifCond .ge 11, 3) := by decide +kernel
theorem d_Modl_does_265 : decode b_Modl_does 265 = .ok (.aload_n 0, 1) := by decide +kernel
theorem d_Modl_does_266 : decode b_Modl_does 266 = .ok (.iload_n 1, 1) := by decide +kernel
theorem d_Modl_does_267 : decode b_Modl_does 267 = .ok (.invokevirtual 75, 3) := by decide +kernel
theorem d_Modl_does_270 : decode b_Modl_does 270 = .ok (.goto 4, 3) := by decide +kernel
theorem d_Modl_does_273 : decode b_Modl_does 273 = .ok (.lconst 0, 1) := by decide +kernel
theorem d_Modl_does_274 : decode b_Modl_does 274 = .ok (.lstore 9, 2) := by decide +kernel
theorem d_Modl_does_276 : decode b_Modl_does 276 = .ok (.goto 158, 3) := by decide +kernel
theorem d_Modl_does_279 : decode b_Modl_does 279 = .ok (.lload 5, 2) := by decide +kernel
theorem d_Modl_does_281 : decode b_Modl_does 281 = .ok (.lload 7, 2) := by decide +kernel
theorem d_Modl_does_283 : decode b_Modl_does 283 = .ok (.lcmp, 1) := by decide +kernel
theorem d_Modl_does_284 : decode b_Modl_does 284 = .ok (.ifCond .ne 11, 3) := by decide +kernel
theorem d_Modl_does_287 : decode b_Modl_does 287 = .ok (.aload_n 0, 1) := by decide +kernel
theorem d_Modl_does_288 : decode b_Modl_does 288 = .ok (.iload_n 1, 1) := by decide +kernel
theorem d_Modl_does_289 : decode b_Modl_does 289 = .ok (.invokevirtual 75, 3) := by decide +kernel
theorem d_Modl_does_292 : decode b_Modl_does 292 = .ok (.goto 4, 3) := by decide +kernel
theorem d_Modl_does_295 : decode b_Modl_does 295 = .ok (.lconst 0, 1) := by decide +kernel
theorem d_Modl_does_296 : decode b_Modl_does 296 = .ok (.lstore 9, 2) := by decide +kernel
theorem d_Modl_does_298 : decode b_Modl_does 298 = .ok (.goto 136, 3) := by decide +kernel
theorem d_Modl_does_301 : decode b_Modl_does 301 = .ok (.lload 5, 2) := by decide +kernel
theorem d_Modl_does_303 : decode b_Modl_does 303 = .ok (.lneg, 1) := by decide +kernel
theorem d_Modl_does_304 : decode b_Modl_does 304 = .ok (.lstore 9, 2) := by decide +kernel
theorem d_Modl_does_306 : decode b_Modl_does 306 = .ok (.goto 128, 3) := by decide +kernel
theorem d_Modl_does_309 : decode b_Modl_does 309 = .ok (.aload_n 0, 1) := by decide +kernel
theorem d_Modl_does_310 : decode b_Modl_does 310 = .ok (.iload_n 3, 1) := by decide +kernel
theorem d_Modl_does_311 : decode b_Modl_does 311 = .ok (.putfield 83, 3) := by decide +kernel
theorem d_Modl_does_314 : decode b_Modl_does 314 = .ok (.goto 120, 3) := by decide +kernel
theorem d_Modl_does_317 : decode b_Modl_does 317 = .ok (.aload_n 0, 1) := by decide +kernel
theorem d_Modl_does_318 : decode b_Modl_does 318 = .ok (.lload 5, 2) := by decide +kernel
theorem d_Modl_does_320 : decode b_Modl_does 320 = .ok (.lconst 0, 1) := by decide +kernel
theorem d_Modl_does_321 : decode b_Modl_does 321 = .ok (.lcmp, 1) := by decide +kernel
theorem d_Modl_does_322 : decode b_Modl_does 322 = .ok (.ifCond .ne 7, 3) := by decide +kernel
theorem d_Modl_does_325 : decode b_Modl_does 325 = .ok (.iload_n 3, 1) := by decide +kernel
theorem d_Modl_does_326 : decode b_Modl_does 326 = .ok (.goto 7, 3) := by decide +kernel
theorem d_Modl_does_329 : decode b_Modl_does 329 = .ok (.aload_n 0, 1) := by decide +kernel
theorem d_Modl_does_330 : decode b_Modl_does 330 = .ok (.getfield 83, 3) := by decide +kernel
theorem d_Modl_does_333 : decode b_Modl_does 333 = .ok (.putfield 83, 3) := by decide +kernel
theorem d_Modl_does_336 : decode b_Modl_does 336 = .ok (.goto 98, 3) := by decide +kernel
theorem d_Modl_does_339 : decode b_Modl_does 339 = .ok (.aload_n 0, 1) := by decide +kernel
theorem d_Modl_does_340 : decode b_Modl_does 340 = .ok (.getfield 20, 3) := by decide +kernel
theorem d_Modl_does_343 : decode b_Modl_does 343 = .ok (.iload_n 3, 1) := by decide +kernel
theorem d_Modl_does_344 : decode b_Modl_does 344 = .ok (.iaload, 1) := by decide +kernel
theorem d_Modl_does_345 : decode b_Modl_does 345 = .ok (.i2l, 1) := by decide +kernel
theorem d_Modl_does_346 : decode b_Modl_does 346 = .ok (.aload_n 0, 1) := by decide +kernel
theorem d_Modl_does_347 : decode b_Modl_does 347 = .ok (.iload_n 1, 1) := by decide +kernel
theorem d_Modl_does_348 : decode b_Modl_does 348 = .ok (.invokevirtual 75, 3) := by decide +kernel
theorem d_Modl_does_351 : decode b_Modl_does 351 = .ok (.lmul, 1) := by decide +kernel
theorem d_Modl_does_352 : decode b_Modl_does 352 = .ok (.lstore 9, 2) := by decide +kernel
theorem d_Modl_does_354 : decode b_Modl_does 354 = .ok (.goto 80, 3) := by decide +kernel
theorem d_Modl_does_357 : decode b_Modl_does 357 = .ok (.aload_n 0, 1) := by decide +kernel
theorem d_Modl_does_358 : decode b_Modl_does 358 = .ok (.getfield 30, 3) := by decide +kernel
theorem d_Modl_does_361 : decode b_Modl_does 361 = .ok (.iconst 4, 1) := by decide +kernel
theorem d_Modl_does_362 : decode b_Modl_does 362 = .ok (.iload_n 1, 1) := by decide +kernel
theorem d_Modl_does_363 : decode b_Modl_does 363 = .ok (.imul, 1) := by decide +kernel
theorem d_Modl_does_364 : decode b_Modl_does 364 = .ok (.iload_n 3, 1) := by decide +kernel
theorem d_Modl_does_365 : decode b_Modl_does 365 = .ok (.iadd, 1) := by decide +kernel
theorem d_Modl_does_366 : decode b_Modl_does 366 = .ok (.lload 5, 2) := by decide +kernel
theorem d_Modl_does_368 : decode b_Modl_does 368 = .ok (.lastore, 1) := by decide +kernel
theorem d_Modl_does_369 : decode b_Modl_does 369 = .ok (.goto 65, 3) := by decide +kernel
theorem d_Modl_does_372 : decode b_Modl_does 372 = .ok (.aload_n 0, 1) := by decide +kernel
theorem d_Modl_does_373 : decode b_Modl_does 373 = .ok (.iconst 1, 1) := by decide +kernel
theorem d_Modl_does_374 : decode b_Modl_does 374 = .ok (.putfield 86, 3) := by decide +kernel
theorem d_Modl_does_377 : decode b_Modl_does 377 = .ok (.goto 57, 3) := by decide +kernel
theorem d_Modl_does_380 : decode b_Modl_does 380 = .ok (.lload 5, 2) := by decide +kernel
theorem d_Modl_does_382 : decode b_Modl_does 382 = .ok (.aload_n 0, 1) := by decide +kernel
theorem d_Modl_does_383 : decode b_Modl_does 383 = .ok (.iload_n 1, 1) := by decide +kernel
theorem d_Modl_does_384 : decode b_Modl_does 384 = .ok (.invokevirtual 75, 3) := by decide +kernel
theorem d_Modl_does_387 : decode b_Modl_does 387 = .ok (.ldiv, 1) := by decide +kernel
theorem d_Modl_does_388 : decode b_Modl_does 388 = .ok (.lstore 11, 2) := by decide +kernel
theorem d_Modl_does_390 : decode b_Modl_does 390 = .ok (.lload 5, 2) := by decide +kernel
theorem d_Modl_does_392 : decode b_Modl_does 392 = .ok (.aload_n 0, 1) := by decide +kernel
theorem d_Modl_does_393 : decode b_Modl_does 393 = .ok (.iload_n 1, 1) := by decide +kernel
theorem d_Modl_does_394 : decode b_Modl_does 394 = .ok (.invokevirtual 75, 3) := by decide +kernel
theorem d_Modl_does_397 : decode b_Modl_does 397 = .ok (.lrem, 1) := by decide +kernel
theorem d_Modl_does_398 : decode b_Modl_does 398 = .ok (.lconst 0, 1) := by decide +kernel
theorem d_Modl_does_399 : decode b_Modl_does 399 = .ok (.lcmp, 1) := by decide +kernel
theorem d_Modl_does_400 : decode b_Modl_does 400 = .ok (.ifCond .ne 19, 3) := by decide +kernel
theorem d_Modl_does_403 : decode b_Modl_does 403 = .ok (.lload 11, 2) := by decide +kernel
theorem d_Modl_does_405 : decode b_Modl_does 405 = .ok (.lconst 0, 1) := by decide +kernel
theorem d_Modl_does_406 : decode b_Modl_does 406 = .ok (.lcmp, 1) := by decide +kernel
theorem d_Modl_does_407 : decode b_Modl_does 407 = .ok (.ifCond .lt 12, 3) := by decide +kernel
theorem d_Modl_does_410 : decode b_Modl_does 410 = .ok (.lload 11, 2) := by decide +kernel
theorem d_Modl_does_412 : decode b_Modl_does 412 = .ok (.ldc2_w 89, 3) := by decide +kernel
theorem d_Modl_does_415 : decode b_Modl_does 415 = .ok (.lcmp, 1) := by decide +kernel
theorem d_Modl_does_416 : decode b_Modl_does 416 = .ok (.ifCond .lt 5, 3) := by decide +kernel
theorem d_Modl_does_419 : decode b_Modl_does 419 = .ok (.iconst 0, 1) := by decide +kernel
theorem d_Modl_does_420 : decode b_Modl_does 420 = .ok (.ireturn, 1) := by decide +kernel
theorem d_Modl_does_421 : decode b_Modl_does 421 = .ok (.aload_n 0, 1) := by decide +kernel
theorem d_Modl_does_422 : decode b_Modl_does 422 = .ok (.getfield 26, 3) := by decide +kernel
theorem d_Modl_does_425 : decode b_Modl_does 425 = .ok (.iload 4, 2) := by decide +kernel
theorem d_Modl_does_427 : decode b_Modl_does 427 = .ok (.lload 11, 2) := by decide +kernel
theorem d_Modl_does_429 : decode b_Modl_does 429 = .ok (.l2i, 1) := by decide +kernel
theorem d_Modl_does_430 : decode b_Modl_does 430 = .ok (.iadd, 1) := by decide +kernel
theorem d_Modl_does_431 : decode b_Modl_does 431 = .ok (.laload, 1) := by decide +kernel
theorem d_Modl_does_432 : decode b_Modl_does 432 = .ok (.lstore 9, 2) := by decide +kernel
theorem d_Modl_does_434 : decode b_Modl_does 434 = .ok (.aload_n 0, 1) := by decide +kernel
theorem d_Modl_does_435 : decode b_Modl_does 435 = .ok (.getfield 26, 3) := by decide +kernel
theorem d_Modl_does_438 : decode b_Modl_does 438 = .ok (.iload 4, 2) := by decide +kernel
theorem d_Modl_does_440 : decode b_Modl_does 440 = .ok (.bipush 16, 2) := by decide +kernel
theorem d_Modl_does_442 : decode b_Modl_does 442 = .ok (.iadd, 1) := by decide +kernel
theorem d_Modl_does_443 : decode b_Modl_does 443 = .ok (.lload 9, 2) := by decide +kernel
theorem d_Modl_does_445 : decode b_Modl_does 445 = .ok (.lastore, 1) := by decide +kernel
theorem d_Modl_does_446 : decode b_Modl_does 446 = .ok (.iload_n 2, 1) := by decide +kernel
theorem d_Modl_does_447 : decode b_Modl_does 447 = .ok (.iconst 3, 1) := by decide +kernel
theorem d_Modl_does_448 : decode b_Modl_does 448 = .ok (.if_icmp .le 9, 3) := by decide +kernel
theorem d_Modl_does_451 : decode b_Modl_does 451 = .ok (.iload_n 2, 1) := by decide +kernel
theorem d_Modl_does_452 : decode b_Modl_does 452 = .ok (.bipush 7, 2) := by decide +kernel
theorem d_Modl_does_454 : decode b_Modl_does 454 = .ok (.if_icmp .lt 15, 3) := by decide +kernel
theorem d_Modl_does_457 : decode b_Modl_does 457 = .ok (.iload_n 2, 1) := by decide +kernel
theorem d_Modl_does_458 : decode b_Modl_does 458 = .ok (.bipush 9, 2) := by decide +kernel
theorem d_Modl_does_460 : decode b_Modl_does 460 = .ok (.if_icmp .eq 9, 3) := by decide +kernel
theorem d_Modl_does_463 : decode b_Modl_does 463 = .ok (.iload_n 2, 1) := by decide +kernel
theorem d_Modl_does_464 : decode b_Modl_does 464 = .ok (.bipush 12, 2) := by decide +kernel
theorem d_Modl_does_466 : decode b_Modl_does 466 = .ok (.if_icmp .ne 7, 3) := by decide +kernel
theorem d_Modl_does_469 : decode b_Modl_does 469 = .ok (.iconst 1, 1) := by decide +kernel
theorem d_Modl_does_470 : decode b_Modl_does 470 = .ok (.goto 4, 3) := by decide +kernel
theorem d_Modl_does_473 : decode b_Modl_does 473 = .ok (.iconst 0, 1) := by decide +kernel
theorem d_Modl_does_474 : decode b_Modl_does 474 = .ok (.istore 11, 2) := by decide +kernel
theorem d_Modl_does_476 : decode b_Modl_does 476 = .ok (.iload 11, 2) := by decide +kernel
theorem d_Modl_does_478 : decode b_Modl_does 478 = .ok (.ifCond .eq 13, 3) := by decide +kernel
theorem d_Modl_does_481 : decode b_Modl_does 481 = .ok (.aload_n 0, 1) := by decide +kernel
theorem d_Modl_does_482 : decode b_Modl_does 482 = .ok (.iload_n 1, 1) := by decide +kernel
theorem d_Modl_does_483 : decode b_Modl_does 483 = .ok (.lload 9, 2) := by decide +kernel
theorem d_Modl_does_485 : decode b_Modl_does 485 = .ok (.invokevirtual 91, 3) := by decide +kernel
theorem d_Modl_does_488 : decode b_Modl_does 488 = .ok (.ifCond .eq 7, 3) := by decide +kernel
theorem d_Modl_does_491 : decode b_Modl_does 491 = .ok (.iconst 1, 1) := by decide +kernel
theorem d_Modl_does_492 : decode b_Modl_does 492 = .ok (.goto 4, 3) := by decide +kernel
theorem d_Modl_does_495 : decode b_Modl_does 495 = .ok (.iconst 0, 1) := by decide +kernel
theorem d_Modl_does_496 : decode b_Modl_does 496 = .ok (.ireturn, 1) := by decide +kernel
end
section
/-! the reference's rows: one array for both copies -/
def hh_w (ra rb : Nat → Int64) : Nat → Int64 := fun j => if j < 18 then ra j else rb (j - 18)
def pp_w (qa qb : Nat → Int64) : Nat → Int64 := fun j => if j < 4 then qa j else qb (j - 4)
theorem vp_nat {x : Int32} {N : Nat} (h : vp_in x N) : x.toNatClampNeg < N := Nat.not_le.mp fun q => h (Or.inr q)
theorem vp_nn {x : Int32} {N : Nat} (h : vp_in x N) : ¬ x < 0 := fun q => h (Or.inl q)
theorem hh_r0 {ra rb : Nat → Int64} {n : Int32} (h : vp_in n 18) : hh_w ra rb n.toNatClampNeg = ra n.toNatClampNeg := if_pos (vp_nat h)
theorem ix_add {n : Int32} {N k : Nat} (h : vp_in n N) (hk : k + N < 2 ^ 31) (hN : N < 2 ^ 31) : nI k + n = nI (k + n.toNatClampNeg) ∧ n.toNatClampNeg < N := by
  obtain ⟨j, hj, rfl⟩ := vp_in_of h hN
  rw [nI_clamp (by omega), nI_add]
  exact ⟨rfl, hj⟩
theorem hh_i1 {n : Int32} (h : vp_in n 18) : (18 + n).toNatClampNeg = 18 + n.toNatClampNeg ∧ vp_in (18 + n) 36 := by
  obtain ⟨e, hj⟩ := ix_add (k := 18) h (by decide) (by decide)
  rw [show (18 : Int32) + n = nI (18 + n.toNatClampNeg) from e]
  exact ⟨nI_clamp (by omega), vp_in_nI (by omega) (by decide)⟩
theorem pp_i1 {n : Int32} (h : vp_in n 4) : (4 + n).toNatClampNeg = 4 + n.toNatClampNeg ∧ vp_in (4 + n) 8 := by
  obtain ⟨e, hj⟩ := ix_add (k := 4) h (by decide) (by decide)
  rw [show (4 : Int32) + n = nI (4 + n.toNatClampNeg) from e]
  exact ⟨nI_clamp (by omega), vp_in_nI (by omega) (by decide)⟩
theorem hh_r1 {ra rb : Nat → Int64} {n : Int32} (h : vp_in n 18) : hh_w ra rb (18 + n).toNatClampNeg = rb n.toNatClampNeg := by
  rw [(hh_i1 h).1]
  show (if 18 + n.toNatClampNeg < 18 then _ else rb (18 + n.toNatClampNeg - 18)) = _
  rw [if_neg (by omega), Nat.add_sub_cancel_left]
theorem hh_k0 {ra rb : Nat → Int64} {k : Nat} {x : Int64} (h : k < 18) : vp_updL (hh_w ra rb) k x = hh_w (vp_updL ra k x) rb := by
  funext j
  unfold vp_updL hh_w
  by_cases hj : j = k
  · subst hj; simp [h]
  · by_cases h2 : j < 18 <;> simp [hj, h2]
theorem hh_k1 {ra rb : Nat → Int64} {k : Nat} {x : Int64} : vp_updL (hh_w ra rb) (18 + k) x = hh_w ra (vp_updL rb k x) := by
  funext j
  unfold vp_updL hh_w
  by_cases hj : j = 18 + k
  · subst hj; simp; omega
  · by_cases h2 : j < 18
    · simp [hj, h2]
    · have : ¬ j - 18 = k := by omega
      simp [hj, h2, this]
theorem pp_k0 {qa qb : Nat → Int64} {k : Nat} {x : Int64} (h : k < 4) : vp_updL (pp_w qa qb) k x = pp_w (vp_updL qa k x) qb := by
  funext j
  unfold vp_updL pp_w
  by_cases hj : j = k
  · subst hj; simp [h]
  · by_cases h2 : j < 4 <;> simp [hj, h2]
theorem pp_k1 {qa qb : Nat → Int64} {k : Nat} {x : Int64} : vp_updL (pp_w qa qb) (4 + k) x = pp_w qa (vp_updL qb k x) := by
  funext j
  unfold vp_updL pp_w
  by_cases hj : j = 4 + k
  · subst hj; simp; omega
  · by_cases h2 : j < 4
    · simp [hj, h2]
    · have : ¬ j - 4 = k := by omega
      simp [hj, h2, this]
theorem hh_u0 {ra rb : Nat → Int64} {n : Int32} {x : Int64} (h : vp_in n 18) : vp_updL (hh_w ra rb) n.toNatClampNeg x = hh_w (vp_updL ra n.toNatClampNeg x) rb := hh_k0 (vp_nat h)
theorem hh_u1 {ra rb : Nat → Int64} {n : Int32} {x : Int64} (h : vp_in n 18) : vp_updL (hh_w ra rb) (18 + n).toNatClampNeg x = hh_w ra (vp_updL rb n.toNatClampNeg x) := by rw [(hh_i1 h).1]; exact hh_k1
theorem pp_u0 {qa qb : Nat → Int64} {n : Int32} {x : Int64} (h : vp_in n 4) : vp_updL (pp_w qa qb) n.toNatClampNeg x = pp_w (vp_updL qa n.toNatClampNeg x) qb := pp_k0 (vp_nat h)
theorem pp_u1 {qa qb : Nat → Int64} {n : Int32} {x : Int64} (h : vp_in n 4) : vp_updL (pp_w qa qb) (4 + n).toNatClampNeg x = pp_w qa (vp_updL qb n.toNatClampNeg x) := by rw [(pp_i1 h).1]; exact pp_k1
theorem up_same (r : Nat → Int64) : vp_updL r 16 (r 16) = r := by
  funext j
  unfold vp_updL
  by_cases hj : j = 16
  · subst hj; simp
  · simp [hj]
theorem up_n {r : Nat → Int64} {n : Int32} (h : vp_in n 16) : vp_updL (vp_updL r n.toNatClampNeg (r 16)) 16 (r 16) = vp_updL r n.toNatClampNeg (r 16) := by
  have := vp_nat h
  funext j
  unfold vp_updL
  by_cases hj : j = 16
  · subst hj; simp
  · simp [hj]
theorem up_17 (r : Nat → Int64) : vp_updL (vp_updL r 17 (r 16)) 16 (r 16) = vp_updL r 17 (r 16) := by
  funext j
  unfold vp_updL
  by_cases hj : j = 16
  · subst hj; simp
  · simp [hj]
def ft_w (v : Int64) : Int32 := if v < (-2000000000) then 0 else if 2000000000 < v then 0 else 1
def ma_w (lo hi a : Int64) : Int32 := if a < lo then 0 else if hi < a then 0 else 1
theorem ma_01 (lo hi a : Int64) : ma_w lo hi a = 0 ∨ ma_w lo hi a = 1 := by
  unfold ma_w
  split
  · exact Or.inl rfl
  · split
    · exact Or.inl rfl
    · exact Or.inr rfl
theorem ft_01 (a : Int64) : ft_w a = 0 ∨ ft_w a = 1 := ma_01 _ _ a
theorem ma_tb {fac lo hi : Int64} (h1 : 2000000000 * fac = hi) (h2 : -hi = lo) (a : Int64) : ma_w lo hi a = 0 ↔ tb_w fac a = 2 := by
  unfold ma_w tb_w
  rw [h1, h2]
  by_cases c1 : a < lo
  · rw [if_pos c1]
    by_cases c2 : hi < a
    · rw [if_pos c2]; simp
    · rw [if_neg c2, if_pos c1]; simp
  · rw [if_neg c1]
    by_cases c2 : hi < a
    · rw [if_pos c2, if_pos c2]; simp
    · rw [if_neg c2, if_neg c2, if_neg c1]; decide
theorem ma_tb0 (a : Int64) : ma_w (-2000000000) 2000000000 a = 0 ↔ tb_w 1 a = 2 := ma_tb (by decide) (by decide) a
theorem ma_tb1 (a : Int64) : ma_w (-117318000000000) 117318000000000 a = 0 ↔ tb_w 58659 a = 2 := ma_tb (by decide) (by decide) a
/-- does: whether it goes on, and whether it has ended, by the outcome -/
def dz_w (o : Int32) : Int32 := if o = 2 then 0 else 1
def en_w (o e : Int32) : Int32 := if o = 1 then 1 else e
theorem dz_0 {o : Int32} (h : o = 2) : dz_w o = 0 := if_pos h
theorem dz_1 {o : Int32} (h : ¬ o = 2) : dz_w o = 1 := if_neg h
theorem dz_01 (o : Int32) : dz_w o = 0 ∨ dz_w o = 1 := by
  by_cases h : o = 2
  · exact Or.inl (dz_0 h)
  · exact Or.inr (dz_1 h)
theorem tb_02 (fac a : Int64) : tb_w fac a = 0 ∨ tb_w fac a = 2 := by
  unfold tb_w
  split
  · exact Or.inr rfl
  · split
    · exact Or.inr rfl
    · exact Or.inl rfl
theorem tb_n1 (fac a : Int64) : ¬ tb_w fac a = 1 := by
  rcases tb_02 fac a with h | h <;> rw [h] <;> decide
theorem ii_15 {o n : Int32} (h : ii_w o n = 1) (h0 : ¬ o = 0) (h1 : ¬ o = 1) (h2 : ¬ o = 2) (h3 : ¬ o = 3) (h4 : ¬ o = 4) (h5 : ¬ o = 5) (h6 : ¬ o = 6) (h7 : ¬ o = 7) (h8 : ¬ o = 8) (h9 : ¬ o = 9) (h10 : ¬ o = 10) (h11 : ¬ o = 11) (h12 : ¬ o = 12) (h13 : ¬ o = 13) (h14 : ¬ o = 14) : o = 15 := by
  by_cases h15 : o = 15
  · exact h15
  · unfold ii_w at h
    rw [if_neg h0, if_neg h1, if_neg h2, if_neg h3, if_neg h4, if_neg h5, if_neg h6, if_neg h7, if_neg h8, if_neg h9, if_neg h10, if_neg h11, if_neg h12, if_neg h13, if_neg h14, if_neg h15] at h
    exact absurd h (by decide)
theorem ii_n16 {n : Int32} (h : ii_w 2 n = 1) : vp_in n 16 := bl_vp 16 (N := 16) (by decide) (by simpa [ii_w] using h)
end
section
theorem tw_415 : (Cond.fieldLink R_Modl 1 "TwinGateModel" "thrown" "I") ∈ TB_w := List.mem_filter.mpr ⟨List.mem_of_getElem? (i := 415) (by decide +kernel), by decide +kernel⟩
theorem tw_489 : (Cond.constantLong R_Modl 48 (-2000000000)) ∈ TB_w := List.mem_filter.mpr ⟨List.mem_of_getElem? (i := 489) (by decide +kernel), by decide +kernel⟩
theorem tw_490 : (Cond.constantLong R_Modl 50 2000000000) ∈ TB_w := List.mem_filter.mpr ⟨List.mem_of_getElem? (i := 490) (by decide +kernel), by decide +kernel⟩
theorem tw_515 : (Cond.constantLong R_Modl 73 58659) ∈ TB_w := List.mem_filter.mpr ⟨List.mem_of_getElem? (i := 515) (by decide +kernel), by decide +kernel⟩
set_option maxRecDepth 20000 in
theorem tw_514 : (Cond.code y_Modl_times b_Modl_times 2 (some .long)) ∈ TB_w := List.mem_filter.mpr ⟨List.mem_of_getElem? (i := 514) rfl, by decide +kernel⟩
theorem tw_25 : (Cond.initialized R_Modl) ∈ TB_w := List.mem_filter.mpr ⟨List.mem_of_getElem? (i := 25) (by decide +kernel), by decide +kernel⟩
theorem tw_511 : (Cond.methodLink R_Modl 75 y_Modl_times) ∈ TB_w := List.mem_filter.mpr ⟨List.mem_of_getElem? (i := 511) (by decide +kernel), by decide +kernel⟩
theorem tw_513 : (Cond.instanceMethod y_Modl_times) ∈ TB_w := List.mem_filter.mpr ⟨List.mem_of_getElem? (i := 513) (by decide +kernel), by decide +kernel⟩
theorem tw_16 : (Cond.selects R_Modl y_Modl_times y_Modl_times) ∈ TB_w := List.mem_filter.mpr ⟨List.mem_of_getElem? (i := 16) (by decide +kernel), by decide +kernel⟩
set_option maxHeartbeats 4000000 in
set_option maxRecDepth 100000 in
theorem c_Modl_thrown (l : Launch) (dC : Nat → ClassId) (dI : Nat → Nat → Nat) (cI cL : ClassId) (hs0 : Nat) (y0 : Nat) (th : Int32) (lm : Nat) (sz : Int32) (em : Int32) (lt : Int32) (sp : Int32) (np : Nat) (fd : Int32) (bg : Int32) (m_op : Nat) (m_nu : Nat) (m_gv : Nat) (m_sh : Nat) (m_he : Nat) (m_pu : Nat) (m_pc : Nat) (m_pl : Nat) (m_pb : Nat) (m_ps : Nat) (pv : Int32) (ev : Int32)  : ct_i l y_Modl_thrown b_Modl_thrown 1 (some .int) ({ frames := 0, cells := 0, slots := 0, locals := 0 }) (dC, dI) cI cL [.ref y0] [(y0, .inr (4, [.int th, .int (nI lm), .int sz, .int em, .int lt, .int sp, .int (nI np), .int fd, .int bg, .ref m_op, .ref m_nu, .ref m_gv, .ref m_sh, .ref m_he, .ref m_pu, .ref m_pc, .ref m_pl, .ref m_pb, .ref m_ps, .int pv, .int ev]))] hs0 (fun (r : Int32) (u : Unit) => r = th) (fun u => [(y0, .inr (4, [.int th, .int (nI lm), .int sz, .int em, .int lt, .int sp, .int (nI np), .int fd, .int bg, .ref m_op, .ref m_nu, .ref m_gv, .ref m_sh, .ref m_he, .ref m_pu, .ref m_pc, .ref m_pl, .ref m_pb, .ref m_ps, .int pv, .int ev]))]) 0 0 := by
  refine st_w (Qc := fun A => va_Qi (fun (r : Int32) (u : Unit) => r = th) (fun (u : Unit) t => pos_w (dC, dI) A [(y0, .inr (4, [.int th, .int (nI lm), .int sz, .int em, .int lt, .int sp, .int (nI np), .int fd, .int bg, .ref m_op, .ref m_nu, .ref m_gv, .ref m_sh, .ref m_he, .ref m_pu, .ref m_pc, .ref m_pl, .ref m_pb, .ref m_ps, .int pv, .int ev]))] t) A) (by decide) (Nat.le_of_ble_eq_true rfl) ?_
  intro p e s m below meth c A ls hfx hK hA hP hD hS hl
  obtain ⟨hx, hb, hml, hown, htb, hr, hlocks, hin⟩ := hfx
  have hl : lv_has ls 1 [(0, .ref y0)] := hl
  refine lv_aload_n hx hb d_Modl_thrown_0 rfl (lv_at hl 0 rfl) ?_
  refine va_get (D := (dC, dI)) (ci := 4) (v := .int th) (C := R_Modl) (T := F_Modl) (N := 21) hx hb htb iw_Modl hown hK.1 hP 0 rfl rfl 0 (by decide) (htb _ tw_415) (fun _ h9 => h9) rfl d_Modl_thrown_1 ?_
  exact rt_i (v := th) () hx hb hr hlocks (show th = th from (by simp only [and_self])) (hP.sub (ws' := [(y0, .inr (4, [.int th, .int (nI lm), .int sz, .int em, .int lt, .int sp, .int (nI np), .int fd, .int bg, .ref m_op, .ref m_nu, .ref m_gv, .ref m_sh, .ref m_he, .ref m_pu, .ref m_pc, .ref m_pl, .ref m_pb, .ref m_ps, .int pv, .int ev]))]) [0] rfl) (hD.sub (ws' := [(y0, .inr (4, [.int th, .int (nI lm), .int sz, .int em, .int lt, .int sp, .int (nI np), .int fd, .int bg, .ref m_op, .ref m_nu, .ref m_gv, .ref m_sh, .ref m_he, .ref m_pu, .ref m_pc, .ref m_pl, .ref m_pb, .ref m_ps, .int pv, .int ev]))]) [0] (by decide) rfl) hS d_Modl_thrown_4

set_option maxHeartbeats 4000000 in
set_option maxRecDepth 100000 in
theorem c_Modl_fits (l : Launch) (dC : Nat → ClassId) (dI : Nat → Nat → Nat) (cI cL : ClassId) (hs0 : Nat) (v0 : Int64)  : ct_i l y_Modl_fits b_Modl_fits 2 (some .boolean) ({ frames := 0, cells := 0, slots := 0, locals := 0 }) (dC, dI) cI cL [.long v0] [] hs0 (fun (r : Int32) (u : Unit) => r = ft_w v0) (fun u => []) 0 0 := by
  refine st_w (Qc := fun A => va_Qi (fun (r : Int32) (u : Unit) => r = ft_w v0) (fun (u : Unit) t => pos_w (dC, dI) A [] t) A) (by decide) (Nat.le_of_ble_eq_true rfl) ?_
  intro p e s m below meth c A ls hfx hK hA hP hD hS hl
  obtain ⟨hx, hb, hml, hown, htb, hr, hlocks, hin⟩ := hfx
  have hl : lv_has ls 2 [(0, .long v0)] := hl
  refine lv_lload_n hx hb d_Modl_fits_0 rfl (lv_at hl 0 rfl) ?_
  refine lv_ldc2 (v := (-2000000000)) hx hb hown (htb _ tw_489) d_Modl_fits_1 ?_
  refine W.lcmp hx hb d_Modl_fits_4 ?_
  refine lv_if_lt (tgt := 20) hx hb d_Modl_fits_5 (by decide) (fun c_1 => ?_) (fun c_1 => ?_)
  · have c_1 : (lg_cmp v0 (-2000000000)) < 0 := c_1
    rw [lc_lt] at c_1
    refine lv_iconst (v := 0) hx hb d_Modl_fits_20 (by decide) ?_
    exact rt_z (v := 0) () hx hb hr hlocks (by decide) (show (0 : Int32) = ft_w v0 from (by simp only [ft_w, if_pos c_1, and_self])) (hP.sub (ws' := []) [] rfl) (hD.sub (ws' := []) [] (by decide) rfl) hS d_Modl_fits_21
  · have c_1 : ¬ (lg_cmp v0 (-2000000000)) < 0 := c_1
    rw [lc_lt] at c_1
    refine lv_lload_n hx hb d_Modl_fits_8 rfl (lv_at hl 0 rfl) ?_
    refine lv_ldc2 (v := 2000000000) hx hb hown (htb _ tw_490) d_Modl_fits_9 ?_
    refine W.lcmp hx hb d_Modl_fits_12 ?_
    refine lv_if_gt (tgt := 20) hx hb d_Modl_fits_13 (by decide) (fun c_2 => ?_) (fun c_2 => ?_)
    · have c_2 : 0 < (lg_cmp v0 2000000000) := c_2
      rw [lc_gt] at c_2
      refine lv_iconst (v := 0) hx hb d_Modl_fits_20 (by decide) ?_
      exact rt_z (v := 0) () hx hb hr hlocks (by decide) (show (0 : Int32) = ft_w v0 from (by simp only [ft_w, if_neg c_1, if_pos c_2, and_self])) (hP.sub (ws' := []) [] rfl) (hD.sub (ws' := []) [] (by decide) rfl) hS d_Modl_fits_21
    · have c_2 : ¬ 0 < (lg_cmp v0 2000000000) := c_2
      rw [lc_gt] at c_2
      refine lv_iconst (v := 1) hx hb d_Modl_fits_16 (by decide) ?_
      refine lv_goto (tgt := 21) hx hb d_Modl_fits_17 (by decide) ?_
      exact rt_z (v := 1) () hx hb hr hlocks (by decide) (show (1 : Int32) = ft_w v0 from (by simp only [ft_w, if_neg c_1, if_neg c_2, and_self])) (hP.sub (ws' := []) [] rfl) (hD.sub (ws' := []) [] (by decide) rfl) hS d_Modl_fits_21

set_option maxHeartbeats 4000000 in
set_option maxRecDepth 100000 in
theorem c_Modl_times0 (l : Launch) (dC : Nat → ClassId) (dI : Nat → Nat → Nat) (cI cL : ClassId) (hs0 : Nat) (y0 : Nat) (th : Int32) (lm : Nat) (sz : Int32) (em : Int32) (lt : Int32) (sp : Int32) (np : Nat) (fd : Int32) (bg : Int32) (m_op : Nat) (m_nu : Nat) (m_gv : Nat) (m_sh : Nat) (m_he : Nat) (m_pu : Nat) (m_pc : Nat) (m_pl : Nat) (m_pb : Nat) (m_ps : Nat) (pv : Int32) (ev : Int32)  : ct_l l y_Modl_times b_Modl_times 2 (some .long) ({ frames := 0, cells := 0, slots := 0, locals := 0 }) (dC, dI) cI cL [.ref y0, .int 0] [(y0, .inr (4, [.int th, .int (nI lm), .int sz, .int em, .int lt, .int sp, .int (nI np), .int fd, .int bg, .ref m_op, .ref m_nu, .ref m_gv, .ref m_sh, .ref m_he, .ref m_pu, .ref m_pc, .ref m_pl, .ref m_pb, .ref m_ps, .int pv, .int ev]))] hs0 (fun (r : Int64) (u : Unit) => r = 1) (fun u => [(y0, .inr (4, [.int th, .int (nI lm), .int sz, .int em, .int lt, .int sp, .int (nI np), .int fd, .int bg, .ref m_op, .ref m_nu, .ref m_gv, .ref m_sh, .ref m_he, .ref m_pu, .ref m_pc, .ref m_pl, .ref m_pb, .ref m_ps, .int pv, .int ev]))]) 0 0 := by
  refine st_w (Qc := fun A => va_Ql (fun (r : Int64) (u : Unit) => r = 1) (fun (u : Unit) t => pos_w (dC, dI) A [(y0, .inr (4, [.int th, .int (nI lm), .int sz, .int em, .int lt, .int sp, .int (nI np), .int fd, .int bg, .ref m_op, .ref m_nu, .ref m_gv, .ref m_sh, .ref m_he, .ref m_pu, .ref m_pc, .ref m_pl, .ref m_pb, .ref m_ps, .int pv, .int ev]))] t) A) (by decide) (Nat.le_of_ble_eq_true rfl) ?_
  intro p e s m below meth c A ls hfx hK hA hP hD hS hl
  obtain ⟨hx, hb, hml, hown, htb, hr, hlocks, hin⟩ := hfx
  have hl : lv_has ls 2 [(0, .ref y0), (1, .int 0)] := hl
  refine lv_iload_n hx hb d_Modl_times_0 rfl (lv_at hl 1 rfl) ?_
  refine lv_if_ne (tgt := 8) hx hb d_Modl_times_1 (by decide) (fun c_1 => ?_) (fun c_1 => ?_)
  · exact absurd (by decide) c_1
  · skip
    refine lv_lconst (v := 1) hx hb d_Modl_times_4 (by decide) ?_
    refine lv_goto (tgt := 11) hx hb d_Modl_times_5 (by decide) ?_
    exact rt_l (v := 1) () hx hb hr hlocks (show (1 : Int64) = 1 from (by simp only [and_self])) (hP.sub (ws' := [(y0, .inr (4, [.int th, .int (nI lm), .int sz, .int em, .int lt, .int sp, .int (nI np), .int fd, .int bg, .ref m_op, .ref m_nu, .ref m_gv, .ref m_sh, .ref m_he, .ref m_pu, .ref m_pc, .ref m_pl, .ref m_pb, .ref m_ps, .int pv, .int ev]))]) [0] rfl) (hD.sub (ws' := [(y0, .inr (4, [.int th, .int (nI lm), .int sz, .int em, .int lt, .int sp, .int (nI np), .int fd, .int bg, .ref m_op, .ref m_nu, .ref m_gv, .ref m_sh, .ref m_he, .ref m_pu, .ref m_pc, .ref m_pl, .ref m_pb, .ref m_ps, .int pv, .int ev]))]) [0] (by decide) rfl) hS d_Modl_times_11

set_option maxHeartbeats 4000000 in
set_option maxRecDepth 100000 in
theorem c_Modl_times1 (l : Launch) (dC : Nat → ClassId) (dI : Nat → Nat → Nat) (cI cL : ClassId) (hs0 : Nat) (y0 : Nat) (th : Int32) (lm : Nat) (sz : Int32) (em : Int32) (lt : Int32) (sp : Int32) (np : Nat) (fd : Int32) (bg : Int32) (m_op : Nat) (m_nu : Nat) (m_gv : Nat) (m_sh : Nat) (m_he : Nat) (m_pu : Nat) (m_pc : Nat) (m_pl : Nat) (m_pb : Nat) (m_ps : Nat) (pv : Int32) (ev : Int32)  : ct_l l y_Modl_times b_Modl_times 2 (some .long) ({ frames := 0, cells := 0, slots := 0, locals := 0 }) (dC, dI) cI cL [.ref y0, .int 1] [(y0, .inr (4, [.int th, .int (nI lm), .int sz, .int em, .int lt, .int sp, .int (nI np), .int fd, .int bg, .ref m_op, .ref m_nu, .ref m_gv, .ref m_sh, .ref m_he, .ref m_pu, .ref m_pc, .ref m_pl, .ref m_pb, .ref m_ps, .int pv, .int ev]))] hs0 (fun (r : Int64) (u : Unit) => r = 58659) (fun u => [(y0, .inr (4, [.int th, .int (nI lm), .int sz, .int em, .int lt, .int sp, .int (nI np), .int fd, .int bg, .ref m_op, .ref m_nu, .ref m_gv, .ref m_sh, .ref m_he, .ref m_pu, .ref m_pc, .ref m_pl, .ref m_pb, .ref m_ps, .int pv, .int ev]))]) 0 0 := by
  refine st_w (Qc := fun A => va_Ql (fun (r : Int64) (u : Unit) => r = 58659) (fun (u : Unit) t => pos_w (dC, dI) A [(y0, .inr (4, [.int th, .int (nI lm), .int sz, .int em, .int lt, .int sp, .int (nI np), .int fd, .int bg, .ref m_op, .ref m_nu, .ref m_gv, .ref m_sh, .ref m_he, .ref m_pu, .ref m_pc, .ref m_pl, .ref m_pb, .ref m_ps, .int pv, .int ev]))] t) A) (by decide) (Nat.le_of_ble_eq_true rfl) ?_
  intro p e s m below meth c A ls hfx hK hA hP hD hS hl
  obtain ⟨hx, hb, hml, hown, htb, hr, hlocks, hin⟩ := hfx
  have hl : lv_has ls 2 [(0, .ref y0), (1, .int 1)] := hl
  refine lv_iload_n hx hb d_Modl_times_0 rfl (lv_at hl 1 rfl) ?_
  refine lv_if_ne (tgt := 8) hx hb d_Modl_times_1 (by decide) (fun c_1 => ?_) (fun c_1 => ?_)
  · skip
    refine lv_ldc2 (v := 58659) hx hb hown (htb _ tw_515) d_Modl_times_8 ?_
    exact rt_l (v := 58659) () hx hb hr hlocks (show (58659 : Int64) = 58659 from (by simp only [and_self])) (hP.sub (ws' := [(y0, .inr (4, [.int th, .int (nI lm), .int sz, .int em, .int lt, .int sp, .int (nI np), .int fd, .int bg, .ref m_op, .ref m_nu, .ref m_gv, .ref m_sh, .ref m_he, .ref m_pu, .ref m_pc, .ref m_pl, .ref m_pb, .ref m_ps, .int pv, .int ev]))]) [0] rfl) (hD.sub (ws' := [(y0, .inr (4, [.int th, .int (nI lm), .int sz, .int em, .int lt, .int sp, .int (nI np), .int fd, .int bg, .ref m_op, .ref m_nu, .ref m_gv, .ref m_sh, .ref m_he, .ref m_pu, .ref m_pc, .ref m_pl, .ref m_pb, .ref m_ps, .int pv, .int ev]))]) [0] (by decide) rfl) hS d_Modl_times_11
  · exact absurd c_1 (by decide)

set_option maxHeartbeats 4000000 in
set_option maxRecDepth 100000 in
theorem c_Modl_may0 (l : Launch) (dC : Nat → ClassId) (dI : Nat → Nat → Nat) (cI cL : ClassId) (hs0 : Nat) (y0 : Nat) (th : Int32) (lm : Nat) (sz : Int32) (em : Int32) (lt : Int32) (sp : Int32) (np : Nat) (fd : Int32) (bg : Int32) (m_op : Nat) (m_nu : Nat) (m_gv : Nat) (m_sh : Nat) (m_he : Nat) (m_pu : Nat) (m_pc : Nat) (m_pl : Nat) (m_pb : Nat) (m_ps : Nat) (pv : Int32) (ev : Int32) (a0 : Int64)  : ct_i l y_Modl_may b_Modl_may 4 (some .boolean) ({ frames := 1, cells := 0, slots := 0, locals := 40 }) (dC, dI) cI cL [.ref y0, .int 0, .long a0] [(y0, .inr (4, [.int th, .int (nI lm), .int sz, .int em, .int lt, .int sp, .int (nI np), .int fd, .int bg, .ref m_op, .ref m_nu, .ref m_gv, .ref m_sh, .ref m_he, .ref m_pu, .ref m_pc, .ref m_pl, .ref m_pb, .ref m_ps, .int pv, .int ev]))] hs0 (fun (r : Int32) (u : Unit) => r = ma_w (-2000000000) 2000000000 a0) (fun u => [(y0, .inr (4, [.int th, .int (nI lm), .int sz, .int em, .int lt, .int sp, .int (nI np), .int fd, .int bg, .ref m_op, .ref m_nu, .ref m_gv, .ref m_sh, .ref m_he, .ref m_pu, .ref m_pc, .ref m_pl, .ref m_pb, .ref m_ps, .int pv, .int ev]))]) 0 0 := by
  refine st_w (Qc := fun A => va_Qi (fun (r : Int32) (u : Unit) => r = ma_w (-2000000000) 2000000000 a0) (fun (u : Unit) t => pos_w (dC, dI) A [(y0, .inr (4, [.int th, .int (nI lm), .int sz, .int em, .int lt, .int sp, .int (nI np), .int fd, .int bg, .ref m_op, .ref m_nu, .ref m_gv, .ref m_sh, .ref m_he, .ref m_pu, .ref m_pc, .ref m_pl, .ref m_pb, .ref m_ps, .int pv, .int ev]))] t) A) (by decide) (Nat.le_of_ble_eq_true rfl) ?_
  intro p e s m below meth c A ls hfx hK hA hP hD hS hl
  obtain ⟨hx, hb, hml, hown, htb, hr, hlocks, hin⟩ := hfx
  have hl : lv_has ls 4 [(0, .ref y0), (1, .int 0), (2, .long a0)] := hl
  refine lv_lload_n hx hb d_Modl_may_0 rfl (lv_at hl 2 rfl) ?_
  refine lv_ldc2 (v := (-2000000000)) hx hb hown (htb _ tw_489) d_Modl_may_1 ?_
  refine lv_aload_n hx hb d_Modl_may_4 rfl (lv_at hl 0 rfl) ?_
  refine lv_iload_n hx hb d_Modl_may_5 rfl (lv_at hl 1 rfl) ?_
  refine af_l (wr := []) (va_runV (As := [.int 0]) (rest := [.long (-2000000000), .long a0]) ⟨hx, hb, hml, hown, htb⟩ (c_Modl_times0 l dC dI cI cL s.heap.size y0 th lm sz em lt sp np fd bg m_op m_nu m_gv m_sh m_he m_pu m_pc m_pl m_pb m_ps pv ev ) ⟨callB_of 1 htb (gd_w tw_514) rfl rfl rfl (htb _ tw_25) (htb _ tw_511) (by decide +kernel) ⟨Nat.le_of_ble_eq_true rfl, Nat.le_of_ble_eq_true rfl⟩, htb _ tw_513, htb _ tw_16⟩ (pv_V hK (hP.sub (ws' := [(y0, .inr (4, [.int th, .int (nI lm), .int sz, .int em, .int lt, .int sp, .int (nI np), .int fd, .int bg, .ref m_op, .ref m_nu, .ref m_gv, .ref m_sh, .ref m_he, .ref m_pu, .ref m_pc, .ref m_pl, .ref m_pb, .ref m_ps, .int pv, .int ev]))]) [0] rfl) (hD.sub (ws' := [(y0, .inr (4, [.int th, .int (nI lm), .int sz, .int em, .int lt, .int sp, .int (nI np), .int fd, .int bg, .ref m_op, .ref m_nu, .ref m_gv, .ref m_sh, .ref m_he, .ref m_pu, .ref m_pc, .ref m_pl, .ref m_pb, .ref m_ps, .int pv, .int ev]))]) [0] (by decide) rfl) (ci := 4) (q0 := 0) rfl rfl) rfl rfl hl.1 rfl (lv_room (Nat.le_of_ble_eq_true rfl)) d_Modl_may_6 ⟨Nat.le_of_ble_eq_true rfl, Nat.le_of_ble_eq_true rfl⟩) hP hD hS hA [0] [] rfl rfl (by decide) (by decide) (fun r_1 u_2 H locs hw hP hD hS => ?_)
  try dsimp only at hw
  subst hw
  have hP : va_P (dC, dI) classes [(y0, .inr (4, [.int th, .int (nI lm), .int sz, .int em, .int lt, .int sp, .int (nI np), .int fd, .int bg, .ref m_op, .ref m_nu, .ref m_gv, .ref m_sh, .ref m_he, .ref m_pu, .ref m_pc, .ref m_pl, .ref m_pb, .ref m_ps, .int pv, .int ev]))] H := hP
  have hD : va_D A [(y0, .inr (4, [.int th, .int (nI lm), .int sz, .int em, .int lt, .int sp, .int (nI np), .int fd, .int bg, .ref m_op, .ref m_nu, .ref m_gv, .ref m_sh, .ref m_he, .ref m_pu, .ref m_pc, .ref m_pl, .ref m_pb, .ref m_ps, .int pv, .int ev]))] := hD
  refine lv_lmul hx hb d_Modl_may_9 ?_
  refine W.eq (g2 := F0 m 10 ls [.long (-2000000000), .long a0]) rfl ?_
  refine W.lcmp hx hb d_Modl_may_10 ?_
  refine lv_if_lt (tgt := 32) hx hb d_Modl_may_11 (by decide) (fun c_3 => ?_) (fun c_3 => ?_)
  · have c_3 : (lg_cmp a0 (-2000000000)) < 0 := c_3
    rw [lc_lt] at c_3
    refine lv_iconst (v := 0) hx hb d_Modl_may_32 (by decide) ?_
    exact rt_z (v := 0) () hx hb hr hlocks (by decide) (show (0 : Int32) = ma_w (-2000000000) 2000000000 a0 from (by simp only [ma_w, if_pos c_3, and_self])) (hP.sub (ws' := [(y0, .inr (4, [.int th, .int (nI lm), .int sz, .int em, .int lt, .int sp, .int (nI np), .int fd, .int bg, .ref m_op, .ref m_nu, .ref m_gv, .ref m_sh, .ref m_he, .ref m_pu, .ref m_pc, .ref m_pl, .ref m_pb, .ref m_ps, .int pv, .int ev]))]) [0] rfl) (hD.sub (ws' := [(y0, .inr (4, [.int th, .int (nI lm), .int sz, .int em, .int lt, .int sp, .int (nI np), .int fd, .int bg, .ref m_op, .ref m_nu, .ref m_gv, .ref m_sh, .ref m_he, .ref m_pu, .ref m_pc, .ref m_pl, .ref m_pb, .ref m_ps, .int pv, .int ev]))]) [0] (by decide) rfl) hS d_Modl_may_33
  · have c_3 : ¬ (lg_cmp a0 (-2000000000)) < 0 := c_3
    rw [lc_lt] at c_3
    refine lv_lload_n hx hb d_Modl_may_14 rfl (lv_at hl 2 rfl) ?_
    refine lv_ldc2 (v := 2000000000) hx hb hown (htb _ tw_490) d_Modl_may_15 ?_
    refine lv_aload_n hx hb d_Modl_may_18 rfl (lv_at hl 0 rfl) ?_
    refine lv_iload_n hx hb d_Modl_may_19 rfl (lv_at hl 1 rfl) ?_
    refine af_l (wr := []) (va_runV (As := [.int 0]) (rest := [.long 2000000000, .long a0]) ⟨hx, hb, hml, hown, htb⟩ (c_Modl_times0 l dC dI cI cL H.size y0 th lm sz em lt sp np fd bg m_op m_nu m_gv m_sh m_he m_pu m_pc m_pl m_pb m_ps pv ev ) ⟨callB_of 1 htb (gd_w tw_514) rfl rfl rfl (htb _ tw_25) (htb _ tw_511) (by decide +kernel) ⟨Nat.le_of_ble_eq_true rfl, Nat.le_of_ble_eq_true rfl⟩, htb _ tw_513, htb _ tw_16⟩ (pv_V hK (hP.sub (ws' := [(y0, .inr (4, [.int th, .int (nI lm), .int sz, .int em, .int lt, .int sp, .int (nI np), .int fd, .int bg, .ref m_op, .ref m_nu, .ref m_gv, .ref m_sh, .ref m_he, .ref m_pu, .ref m_pc, .ref m_pl, .ref m_pb, .ref m_ps, .int pv, .int ev]))]) [0] rfl) (hD.sub (ws' := [(y0, .inr (4, [.int th, .int (nI lm), .int sz, .int em, .int lt, .int sp, .int (nI np), .int fd, .int bg, .ref m_op, .ref m_nu, .ref m_gv, .ref m_sh, .ref m_he, .ref m_pu, .ref m_pc, .ref m_pl, .ref m_pb, .ref m_ps, .int pv, .int ev]))]) [0] (by decide) rfl) (ci := 4) (q0 := 0) rfl rfl) rfl rfl hl.1 rfl (lv_room (Nat.le_of_ble_eq_true rfl)) d_Modl_may_20 ⟨Nat.le_of_ble_eq_true rfl, Nat.le_of_ble_eq_true rfl⟩) hP hD hS hA [0] [] rfl rfl (by decide) (by decide) (fun r_4 u_5 H locs hw hP hD hS => ?_)
    try dsimp only at hw
    subst hw
    have hP : va_P (dC, dI) classes [(y0, .inr (4, [.int th, .int (nI lm), .int sz, .int em, .int lt, .int sp, .int (nI np), .int fd, .int bg, .ref m_op, .ref m_nu, .ref m_gv, .ref m_sh, .ref m_he, .ref m_pu, .ref m_pc, .ref m_pl, .ref m_pb, .ref m_ps, .int pv, .int ev]))] H := hP
    have hD : va_D A [(y0, .inr (4, [.int th, .int (nI lm), .int sz, .int em, .int lt, .int sp, .int (nI np), .int fd, .int bg, .ref m_op, .ref m_nu, .ref m_gv, .ref m_sh, .ref m_he, .ref m_pu, .ref m_pc, .ref m_pl, .ref m_pb, .ref m_ps, .int pv, .int ev]))] := hD
    refine lv_lmul hx hb d_Modl_may_23 ?_
    refine W.eq (g2 := F0 m 24 ls [.long 2000000000, .long a0]) rfl ?_
    refine W.lcmp hx hb d_Modl_may_24 ?_
    refine lv_if_gt (tgt := 32) hx hb d_Modl_may_25 (by decide) (fun c_6 => ?_) (fun c_6 => ?_)
    · have c_6 : 0 < (lg_cmp a0 2000000000) := c_6
      rw [lc_gt] at c_6
      refine lv_iconst (v := 0) hx hb d_Modl_may_32 (by decide) ?_
      exact rt_z (v := 0) () hx hb hr hlocks (by decide) (show (0 : Int32) = ma_w (-2000000000) 2000000000 a0 from (by simp only [ma_w, if_neg c_3, if_pos c_6, and_self])) (hP.sub (ws' := [(y0, .inr (4, [.int th, .int (nI lm), .int sz, .int em, .int lt, .int sp, .int (nI np), .int fd, .int bg, .ref m_op, .ref m_nu, .ref m_gv, .ref m_sh, .ref m_he, .ref m_pu, .ref m_pc, .ref m_pl, .ref m_pb, .ref m_ps, .int pv, .int ev]))]) [0] rfl) (hD.sub (ws' := [(y0, .inr (4, [.int th, .int (nI lm), .int sz, .int em, .int lt, .int sp, .int (nI np), .int fd, .int bg, .ref m_op, .ref m_nu, .ref m_gv, .ref m_sh, .ref m_he, .ref m_pu, .ref m_pc, .ref m_pl, .ref m_pb, .ref m_ps, .int pv, .int ev]))]) [0] (by decide) rfl) hS d_Modl_may_33
    · have c_6 : ¬ 0 < (lg_cmp a0 2000000000) := c_6
      rw [lc_gt] at c_6
      refine lv_iconst (v := 1) hx hb d_Modl_may_28 (by decide) ?_
      refine lv_goto (tgt := 33) hx hb d_Modl_may_29 (by decide) ?_
      exact rt_z (v := 1) () hx hb hr hlocks (by decide) (show (1 : Int32) = ma_w (-2000000000) 2000000000 a0 from (by simp only [ma_w, if_neg c_3, if_neg c_6, and_self])) (hP.sub (ws' := [(y0, .inr (4, [.int th, .int (nI lm), .int sz, .int em, .int lt, .int sp, .int (nI np), .int fd, .int bg, .ref m_op, .ref m_nu, .ref m_gv, .ref m_sh, .ref m_he, .ref m_pu, .ref m_pc, .ref m_pl, .ref m_pb, .ref m_ps, .int pv, .int ev]))]) [0] rfl) (hD.sub (ws' := [(y0, .inr (4, [.int th, .int (nI lm), .int sz, .int em, .int lt, .int sp, .int (nI np), .int fd, .int bg, .ref m_op, .ref m_nu, .ref m_gv, .ref m_sh, .ref m_he, .ref m_pu, .ref m_pc, .ref m_pl, .ref m_pb, .ref m_ps, .int pv, .int ev]))]) [0] (by decide) rfl) hS d_Modl_may_33

set_option maxHeartbeats 4000000 in
set_option maxRecDepth 100000 in
theorem c_Modl_may1 (l : Launch) (dC : Nat → ClassId) (dI : Nat → Nat → Nat) (cI cL : ClassId) (hs0 : Nat) (y0 : Nat) (th : Int32) (lm : Nat) (sz : Int32) (em : Int32) (lt : Int32) (sp : Int32) (np : Nat) (fd : Int32) (bg : Int32) (m_op : Nat) (m_nu : Nat) (m_gv : Nat) (m_sh : Nat) (m_he : Nat) (m_pu : Nat) (m_pc : Nat) (m_pl : Nat) (m_pb : Nat) (m_ps : Nat) (pv : Int32) (ev : Int32) (a0 : Int64)  : ct_i l y_Modl_may b_Modl_may 4 (some .boolean) ({ frames := 1, cells := 0, slots := 0, locals := 40 }) (dC, dI) cI cL [.ref y0, .int 1, .long a0] [(y0, .inr (4, [.int th, .int (nI lm), .int sz, .int em, .int lt, .int sp, .int (nI np), .int fd, .int bg, .ref m_op, .ref m_nu, .ref m_gv, .ref m_sh, .ref m_he, .ref m_pu, .ref m_pc, .ref m_pl, .ref m_pb, .ref m_ps, .int pv, .int ev]))] hs0 (fun (r : Int32) (u : Unit) => r = ma_w (-117318000000000) 117318000000000 a0) (fun u => [(y0, .inr (4, [.int th, .int (nI lm), .int sz, .int em, .int lt, .int sp, .int (nI np), .int fd, .int bg, .ref m_op, .ref m_nu, .ref m_gv, .ref m_sh, .ref m_he, .ref m_pu, .ref m_pc, .ref m_pl, .ref m_pb, .ref m_ps, .int pv, .int ev]))]) 0 0 := by
  refine st_w (Qc := fun A => va_Qi (fun (r : Int32) (u : Unit) => r = ma_w (-117318000000000) 117318000000000 a0) (fun (u : Unit) t => pos_w (dC, dI) A [(y0, .inr (4, [.int th, .int (nI lm), .int sz, .int em, .int lt, .int sp, .int (nI np), .int fd, .int bg, .ref m_op, .ref m_nu, .ref m_gv, .ref m_sh, .ref m_he, .ref m_pu, .ref m_pc, .ref m_pl, .ref m_pb, .ref m_ps, .int pv, .int ev]))] t) A) (by decide) (Nat.le_of_ble_eq_true rfl) ?_
  intro p e s m below meth c A ls hfx hK hA hP hD hS hl
  obtain ⟨hx, hb, hml, hown, htb, hr, hlocks, hin⟩ := hfx
  have hl : lv_has ls 4 [(0, .ref y0), (1, .int 1), (2, .long a0)] := hl
  refine lv_lload_n hx hb d_Modl_may_0 rfl (lv_at hl 2 rfl) ?_
  refine lv_ldc2 (v := (-2000000000)) hx hb hown (htb _ tw_489) d_Modl_may_1 ?_
  refine lv_aload_n hx hb d_Modl_may_4 rfl (lv_at hl 0 rfl) ?_
  refine lv_iload_n hx hb d_Modl_may_5 rfl (lv_at hl 1 rfl) ?_
  refine af_l (wr := []) (va_runV (As := [.int 1]) (rest := [.long (-2000000000), .long a0]) ⟨hx, hb, hml, hown, htb⟩ (c_Modl_times1 l dC dI cI cL s.heap.size y0 th lm sz em lt sp np fd bg m_op m_nu m_gv m_sh m_he m_pu m_pc m_pl m_pb m_ps pv ev ) ⟨callB_of 1 htb (gd_w tw_514) rfl rfl rfl (htb _ tw_25) (htb _ tw_511) (by decide +kernel) ⟨Nat.le_of_ble_eq_true rfl, Nat.le_of_ble_eq_true rfl⟩, htb _ tw_513, htb _ tw_16⟩ (pv_V hK (hP.sub (ws' := [(y0, .inr (4, [.int th, .int (nI lm), .int sz, .int em, .int lt, .int sp, .int (nI np), .int fd, .int bg, .ref m_op, .ref m_nu, .ref m_gv, .ref m_sh, .ref m_he, .ref m_pu, .ref m_pc, .ref m_pl, .ref m_pb, .ref m_ps, .int pv, .int ev]))]) [0] rfl) (hD.sub (ws' := [(y0, .inr (4, [.int th, .int (nI lm), .int sz, .int em, .int lt, .int sp, .int (nI np), .int fd, .int bg, .ref m_op, .ref m_nu, .ref m_gv, .ref m_sh, .ref m_he, .ref m_pu, .ref m_pc, .ref m_pl, .ref m_pb, .ref m_ps, .int pv, .int ev]))]) [0] (by decide) rfl) (ci := 4) (q0 := 0) rfl rfl) rfl rfl hl.1 rfl (lv_room (Nat.le_of_ble_eq_true rfl)) d_Modl_may_6 ⟨Nat.le_of_ble_eq_true rfl, Nat.le_of_ble_eq_true rfl⟩) hP hD hS hA [0] [] rfl rfl (by decide) (by decide) (fun r_1 u_2 H locs hw hP hD hS => ?_)
  try dsimp only at hw
  subst hw
  have hP : va_P (dC, dI) classes [(y0, .inr (4, [.int th, .int (nI lm), .int sz, .int em, .int lt, .int sp, .int (nI np), .int fd, .int bg, .ref m_op, .ref m_nu, .ref m_gv, .ref m_sh, .ref m_he, .ref m_pu, .ref m_pc, .ref m_pl, .ref m_pb, .ref m_ps, .int pv, .int ev]))] H := hP
  have hD : va_D A [(y0, .inr (4, [.int th, .int (nI lm), .int sz, .int em, .int lt, .int sp, .int (nI np), .int fd, .int bg, .ref m_op, .ref m_nu, .ref m_gv, .ref m_sh, .ref m_he, .ref m_pu, .ref m_pc, .ref m_pl, .ref m_pb, .ref m_ps, .int pv, .int ev]))] := hD
  refine lv_lmul hx hb d_Modl_may_9 ?_
  refine W.eq (g2 := F0 m 10 ls [.long (-117318000000000), .long a0]) rfl ?_
  refine W.lcmp hx hb d_Modl_may_10 ?_
  refine lv_if_lt (tgt := 32) hx hb d_Modl_may_11 (by decide) (fun c_3 => ?_) (fun c_3 => ?_)
  · have c_3 : (lg_cmp a0 (-117318000000000)) < 0 := c_3
    rw [lc_lt] at c_3
    refine lv_iconst (v := 0) hx hb d_Modl_may_32 (by decide) ?_
    exact rt_z (v := 0) () hx hb hr hlocks (by decide) (show (0 : Int32) = ma_w (-117318000000000) 117318000000000 a0 from (by simp only [ma_w, if_pos c_3, and_self])) (hP.sub (ws' := [(y0, .inr (4, [.int th, .int (nI lm), .int sz, .int em, .int lt, .int sp, .int (nI np), .int fd, .int bg, .ref m_op, .ref m_nu, .ref m_gv, .ref m_sh, .ref m_he, .ref m_pu, .ref m_pc, .ref m_pl, .ref m_pb, .ref m_ps, .int pv, .int ev]))]) [0] rfl) (hD.sub (ws' := [(y0, .inr (4, [.int th, .int (nI lm), .int sz, .int em, .int lt, .int sp, .int (nI np), .int fd, .int bg, .ref m_op, .ref m_nu, .ref m_gv, .ref m_sh, .ref m_he, .ref m_pu, .ref m_pc, .ref m_pl, .ref m_pb, .ref m_ps, .int pv, .int ev]))]) [0] (by decide) rfl) hS d_Modl_may_33
  · have c_3 : ¬ (lg_cmp a0 (-117318000000000)) < 0 := c_3
    rw [lc_lt] at c_3
    refine lv_lload_n hx hb d_Modl_may_14 rfl (lv_at hl 2 rfl) ?_
    refine lv_ldc2 (v := 2000000000) hx hb hown (htb _ tw_490) d_Modl_may_15 ?_
    refine lv_aload_n hx hb d_Modl_may_18 rfl (lv_at hl 0 rfl) ?_
    refine lv_iload_n hx hb d_Modl_may_19 rfl (lv_at hl 1 rfl) ?_
    refine af_l (wr := []) (va_runV (As := [.int 1]) (rest := [.long 2000000000, .long a0]) ⟨hx, hb, hml, hown, htb⟩ (c_Modl_times1 l dC dI cI cL H.size y0 th lm sz em lt sp np fd bg m_op m_nu m_gv m_sh m_he m_pu m_pc m_pl m_pb m_ps pv ev ) ⟨callB_of 1 htb (gd_w tw_514) rfl rfl rfl (htb _ tw_25) (htb _ tw_511) (by decide +kernel) ⟨Nat.le_of_ble_eq_true rfl, Nat.le_of_ble_eq_true rfl⟩, htb _ tw_513, htb _ tw_16⟩ (pv_V hK (hP.sub (ws' := [(y0, .inr (4, [.int th, .int (nI lm), .int sz, .int em, .int lt, .int sp, .int (nI np), .int fd, .int bg, .ref m_op, .ref m_nu, .ref m_gv, .ref m_sh, .ref m_he, .ref m_pu, .ref m_pc, .ref m_pl, .ref m_pb, .ref m_ps, .int pv, .int ev]))]) [0] rfl) (hD.sub (ws' := [(y0, .inr (4, [.int th, .int (nI lm), .int sz, .int em, .int lt, .int sp, .int (nI np), .int fd, .int bg, .ref m_op, .ref m_nu, .ref m_gv, .ref m_sh, .ref m_he, .ref m_pu, .ref m_pc, .ref m_pl, .ref m_pb, .ref m_ps, .int pv, .int ev]))]) [0] (by decide) rfl) (ci := 4) (q0 := 0) rfl rfl) rfl rfl hl.1 rfl (lv_room (Nat.le_of_ble_eq_true rfl)) d_Modl_may_20 ⟨Nat.le_of_ble_eq_true rfl, Nat.le_of_ble_eq_true rfl⟩) hP hD hS hA [0] [] rfl rfl (by decide) (by decide) (fun r_4 u_5 H locs hw hP hD hS => ?_)
    try dsimp only at hw
    subst hw
    have hP : va_P (dC, dI) classes [(y0, .inr (4, [.int th, .int (nI lm), .int sz, .int em, .int lt, .int sp, .int (nI np), .int fd, .int bg, .ref m_op, .ref m_nu, .ref m_gv, .ref m_sh, .ref m_he, .ref m_pu, .ref m_pc, .ref m_pl, .ref m_pb, .ref m_ps, .int pv, .int ev]))] H := hP
    have hD : va_D A [(y0, .inr (4, [.int th, .int (nI lm), .int sz, .int em, .int lt, .int sp, .int (nI np), .int fd, .int bg, .ref m_op, .ref m_nu, .ref m_gv, .ref m_sh, .ref m_he, .ref m_pu, .ref m_pc, .ref m_pl, .ref m_pb, .ref m_ps, .int pv, .int ev]))] := hD
    refine lv_lmul hx hb d_Modl_may_23 ?_
    refine W.eq (g2 := F0 m 24 ls [.long 117318000000000, .long a0]) rfl ?_
    refine W.lcmp hx hb d_Modl_may_24 ?_
    refine lv_if_gt (tgt := 32) hx hb d_Modl_may_25 (by decide) (fun c_6 => ?_) (fun c_6 => ?_)
    · have c_6 : 0 < (lg_cmp a0 117318000000000) := c_6
      rw [lc_gt] at c_6
      refine lv_iconst (v := 0) hx hb d_Modl_may_32 (by decide) ?_
      exact rt_z (v := 0) () hx hb hr hlocks (by decide) (show (0 : Int32) = ma_w (-117318000000000) 117318000000000 a0 from (by simp only [ma_w, if_neg c_3, if_pos c_6, and_self])) (hP.sub (ws' := [(y0, .inr (4, [.int th, .int (nI lm), .int sz, .int em, .int lt, .int sp, .int (nI np), .int fd, .int bg, .ref m_op, .ref m_nu, .ref m_gv, .ref m_sh, .ref m_he, .ref m_pu, .ref m_pc, .ref m_pl, .ref m_pb, .ref m_ps, .int pv, .int ev]))]) [0] rfl) (hD.sub (ws' := [(y0, .inr (4, [.int th, .int (nI lm), .int sz, .int em, .int lt, .int sp, .int (nI np), .int fd, .int bg, .ref m_op, .ref m_nu, .ref m_gv, .ref m_sh, .ref m_he, .ref m_pu, .ref m_pc, .ref m_pl, .ref m_pb, .ref m_ps, .int pv, .int ev]))]) [0] (by decide) rfl) hS d_Modl_may_33
    · have c_6 : ¬ 0 < (lg_cmp a0 117318000000000) := c_6
      rw [lc_gt] at c_6
      refine lv_iconst (v := 1) hx hb d_Modl_may_28 (by decide) ?_
      refine lv_goto (tgt := 33) hx hb d_Modl_may_29 (by decide) ?_
      exact rt_z (v := 1) () hx hb hr hlocks (by decide) (show (1 : Int32) = ma_w (-117318000000000) 117318000000000 a0 from (by simp only [ma_w, if_neg c_3, if_neg c_6, and_self])) (hP.sub (ws' := [(y0, .inr (4, [.int th, .int (nI lm), .int sz, .int em, .int lt, .int sp, .int (nI np), .int fd, .int bg, .ref m_op, .ref m_nu, .ref m_gv, .ref m_sh, .ref m_he, .ref m_pu, .ref m_pc, .ref m_pl, .ref m_pb, .ref m_ps, .int pv, .int ev]))]) [0] rfl) (hD.sub (ws' := [(y0, .inr (4, [.int th, .int (nI lm), .int sz, .int em, .int lt, .int sp, .int (nI np), .int fd, .int bg, .ref m_op, .ref m_nu, .ref m_gv, .ref m_sh, .ref m_he, .ref m_pu, .ref m_pc, .ref m_pl, .ref m_pb, .ref m_ps, .int pv, .int ev]))]) [0] (by decide) rfl) hS d_Modl_may_33
end
