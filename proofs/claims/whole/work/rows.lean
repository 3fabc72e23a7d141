section
-- ===== PART A: goes FIRST, ahead of the names: the tables' words, and 'selects' of the private methods out of them =====
/-- a private method of a class that the tables say can be made, by its rows of tables_1 -/
def lw_okq (q : MethodName × Nat) : Prop := (q.1.cls ≠ "java/lang/invoke/MethodHandle" ∧ q.1.cls ≠ "java/lang/invoke/VarHandle") ∧ Cond.instantiable q.1.cls q.2 ∈ tables_1 ∧ Cond.privateMethod q.1 ∈ tables_1 ∧ Cond.instanceMethod q.1 ∈ tables_1
theorem lw_p0 : lw_okq (⟨"HireShed", "newTool", "(III)LHireShed$Tool;"⟩, 7) := ⟨⟨by decide +kernel, by decide +kernel⟩, List.mem_of_getElem? (i := 13) (by decide +kernel), List.mem_of_getElem? (i := 71) (by decide +kernel), List.mem_of_getElem? (i := 72) (by decide +kernel)⟩
theorem lw_p1 : lw_okq (⟨"HireShed", "toolAt", "(I)LHireShed$Tool;"⟩, 7) := ⟨⟨by decide +kernel, by decide +kernel⟩, List.mem_of_getElem? (i := 13) (by decide +kernel), List.mem_of_getElem? (i := 222) (by decide +kernel), List.mem_of_getElem? (i := 223) (by decide +kernel)⟩
theorem lw_p2 : lw_okq (⟨"HireShed", "pay", "(II)V"⟩, 7) := ⟨⟨by decide +kernel, by decide +kernel⟩, List.mem_of_getElem? (i := 13) (by decide +kernel), List.mem_of_getElem? (i := 432) (by decide +kernel), List.mem_of_getElem? (i := 433) (by decide +kernel)⟩
theorem lw_p3 : lw_okq (⟨"HireShed", "toolsThatAre", "(I)I"⟩, 7) := ⟨⟨by decide +kernel, by decide +kernel⟩, List.mem_of_getElem? (i := 13) (by decide +kernel), List.mem_of_getElem? (i := 495) (by decide +kernel), List.mem_of_getElem? (i := 496) (by decide +kernel)⟩
theorem lw_p4 : lw_okq (⟨"HireShedModel", "isTool", "(I)Z"⟩, 15) := ⟨⟨by decide +kernel, by decide +kernel⟩, List.mem_of_getElem? (i := 499) (by decide +kernel), List.mem_of_getElem? (i := 563) (by decide +kernel), List.mem_of_getElem? (i := 564) (by decide +kernel)⟩
theorem lw_p5 : lw_okq (⟨"HireShedModel", "answers", "(II)Z"⟩, 15) := ⟨⟨by decide +kernel, by decide +kernel⟩, List.mem_of_getElem? (i := 499) (by decide +kernel), List.mem_of_getElem? (i := 567) (by decide +kernel), List.mem_of_getElem? (i := 568) (by decide +kernel)⟩
theorem lw_p6 : lw_okq (⟨"HireShedModel", "isInsured", "(I)Z"⟩, 15) := ⟨⟨by decide +kernel, by decide +kernel⟩, List.mem_of_getElem? (i := 499) (by decide +kernel), List.mem_of_getElem? (i := 571) (by decide +kernel), List.mem_of_getElem? (i := 572) (by decide +kernel)⟩
theorem lw_p7 : lw_okq (⟨"HireShedModel", "isServiced", "(I)Z"⟩, 15) := ⟨⟨by decide +kernel, by decide +kernel⟩, List.mem_of_getElem? (i := 499) (by decide +kernel), List.mem_of_getElem? (i := 575) (by decide +kernel), List.mem_of_getElem? (i := 576) (by decide +kernel)⟩
theorem lw_p8 : lw_okq (⟨"HireShedModel", "charge", "(II)I"⟩, 15) := ⟨⟨by decide +kernel, by decide +kernel⟩, List.mem_of_getElem? (i := 499) (by decide +kernel), List.mem_of_getElem? (i := 579) (by decide +kernel), List.mem_of_getElem? (i := 580) (by decide +kernel)⟩
theorem lw_p9 : lw_okq (⟨"HireShedModel", "body", "(I)V"⟩, 15) := ⟨⟨by decide +kernel, by decide +kernel⟩, List.mem_of_getElem? (i := 499) (by decide +kernel), List.mem_of_getElem? (i := 583) (by decide +kernel), List.mem_of_getElem? (i := 584) (by decide +kernel)⟩
theorem lw_p10 : lw_okq (⟨"HireShedModel", "wear", "(II)I"⟩, 15) := ⟨⟨by decide +kernel, by decide +kernel⟩, List.mem_of_getElem? (i := 499) (by decide +kernel), List.mem_of_getElem? (i := 587) (by decide +kernel), List.mem_of_getElem? (i := 588) (by decide +kernel)⟩
theorem lw_p11 : lw_okq (⟨"HireShedModel", "check", "(I)I"⟩, 15) := ⟨⟨by decide +kernel, by decide +kernel⟩, List.mem_of_getElem? (i := 499) (by decide +kernel), List.mem_of_getElem? (i := 591) (by decide +kernel), List.mem_of_getElem? (i := 592) (by decide +kernel)⟩
theorem lw_p12 : lw_okq (⟨"HireShedModel", "deposit", "(I)I"⟩, 15) := ⟨⟨by decide +kernel, by decide +kernel⟩, List.mem_of_getElem? (i := 499) (by decide +kernel), List.mem_of_getElem? (i := 595) (by decide +kernel), List.mem_of_getElem? (i := 596) (by decide +kernel)⟩
theorem lw_p13 : lw_okq (⟨"HireShedModel", "premium", "(II)I"⟩, 15) := ⟨⟨by decide +kernel, by decide +kernel⟩, List.mem_of_getElem? (i := 499) (by decide +kernel), List.mem_of_getElem? (i := 599) (by decide +kernel), List.mem_of_getElem? (i := 600) (by decide +kernel)⟩
theorem lw_p14 : lw_okq (⟨"HireShedModel", "due", "(II)I"⟩, 15) := ⟨⟨by decide +kernel, by decide +kernel⟩, List.mem_of_getElem? (i := 499) (by decide +kernel), List.mem_of_getElem? (i := 603) (by decide +kernel), List.mem_of_getElem? (i := 604) (by decide +kernel)⟩
theorem lw_p15 : lw_okq (⟨"HireShedModel", "lent", "(I)I"⟩, 15) := ⟨⟨by decide +kernel, by decide +kernel⟩, List.mem_of_getElem? (i := 499) (by decide +kernel), List.mem_of_getElem? (i := 615) (by decide +kernel), List.mem_of_getElem? (i := 616) (by decide +kernel)⟩
def lw_privs_1 : List (MethodName × Nat) := [(⟨"HireShed", "newTool", "(III)LHireShed$Tool;"⟩, 7), (⟨"HireShed", "toolAt", "(I)LHireShed$Tool;"⟩, 7), (⟨"HireShed", "pay", "(II)V"⟩, 7), (⟨"HireShed", "toolsThatAre", "(I)I"⟩, 7), (⟨"HireShedModel", "isTool", "(I)Z"⟩, 15), (⟨"HireShedModel", "answers", "(II)Z"⟩, 15), (⟨"HireShedModel", "isInsured", "(I)Z"⟩, 15), (⟨"HireShedModel", "isServiced", "(I)Z"⟩, 15), (⟨"HireShedModel", "charge", "(II)I"⟩, 15), (⟨"HireShedModel", "body", "(I)V"⟩, 15), (⟨"HireShedModel", "wear", "(II)I"⟩, 15), (⟨"HireShedModel", "check", "(I)I"⟩, 15), (⟨"HireShedModel", "deposit", "(I)I"⟩, 15), (⟨"HireShedModel", "premium", "(II)I"⟩, 15), (⟨"HireShedModel", "due", "(II)I"⟩, 15), (⟨"HireShedModel", "lent", "(I)I"⟩, 15)]
theorem lw_r1 : ∀ q ∈ lw_privs_1, lw_okq q := List.forall_mem_cons.mpr ⟨lw_p0, List.forall_mem_cons.mpr ⟨lw_p1, List.forall_mem_cons.mpr ⟨lw_p2, List.forall_mem_cons.mpr ⟨lw_p3, List.forall_mem_cons.mpr ⟨lw_p4, List.forall_mem_cons.mpr ⟨lw_p5, List.forall_mem_cons.mpr ⟨lw_p6, List.forall_mem_cons.mpr ⟨lw_p7, List.forall_mem_cons.mpr ⟨lw_p8, List.forall_mem_cons.mpr ⟨lw_p9, List.forall_mem_cons.mpr ⟨lw_p10, List.forall_mem_cons.mpr ⟨lw_p11, List.forall_mem_cons.mpr ⟨lw_p12, List.forall_mem_cons.mpr ⟨lw_p13, List.forall_mem_cons.mpr ⟨lw_p14, List.forall_mem_cons.mpr ⟨lw_p15, fun _ h => absurd h List.not_mem_nil⟩⟩⟩⟩⟩⟩⟩⟩⟩⟩⟩⟩⟩⟩⟩⟩
def lw_privs : List (MethodName × Nat) := lw_privs_1
def lw_tbl : List Cond := k2_sels lw_privs ++ tables_1
theorem lw_privs_ok : ∀ q ∈ lw_privs, lw_okq q := lw_r1
end
section
def RX0 : String := "HireShed$BenchSaw"
def TX0 : u_T := fun k => match k with
  | 0 => ("HireShed$Tool", "trace", "LHireShed$Trace;", true)
  | 1 => ("HireShed$Tool", "kind", "I", true)
  | 2 => ("HireShed$Tool", "rate", "I", true)
  | 3 => ("HireShed$Tool", "value", "I", true)
  | 4 => ("HireShed$Tool", "hours", "I", false)
  | 5 => ("HireShed$Tool", "how", "I", false)
  | 6 => ("HireShed$Tool", "customer", "I", false)
  | _ => ("HireShed$Tool", "since", "I", false)
def tyX0 : Nat → FieldType := fun k => match k with
  | 0 => .object "HireShed$Trace"
  | 1 => .int
  | 2 => .int
  | 3 => .int
  | 4 => .int
  | 5 => .int
  | 6 => .int
  | _ => .int
theorem nmX0 : ∀ a, a < 8 → ∀ b, b < 8 → a ≠ b → (TX0 a).2.1 ≠ (TX0 b).2.1 := by decide +kernel
theorem tyX0_ok : ∀ k, k < 8 → parseFieldDescriptor (TX0 k).2.2.1 = some (tyX0 k) := by decide +kernel
abbrev cX0_init : ByteArray := prog_2_method_1_code
def yX0_init : MethodName := ⟨RX0, "<init>", "(IIILHireShed$Trace;)V"⟩
abbrev cX0_isServiced : ByteArray := prog_2_method_2_code
def yX0_isServiced : MethodName := ⟨RX0, "isServiced", "()Z"⟩
abbrev cX0_check : ByteArray := prog_2_method_3_code
def yX0_check : MethodName := ⟨RX0, "check", "()I"⟩
abbrev cX0_premium : ByteArray := prog_2_method_4_code
def yX0_premium : MethodName := ⟨RX0, "premium", "(I)I"⟩
def RX1 : String := "HireShed$DeepPump"
def TX1 : u_T := fun k => match k with
  | 0 => ("HireShed$Tool", "trace", "LHireShed$Trace;", true)
  | 1 => ("HireShed$Tool", "kind", "I", true)
  | 2 => ("HireShed$Tool", "rate", "I", true)
  | 3 => ("HireShed$Tool", "value", "I", true)
  | 4 => ("HireShed$Tool", "hours", "I", false)
  | 5 => ("HireShed$Tool", "how", "I", false)
  | 6 => ("HireShed$Tool", "customer", "I", false)
  | _ => ("HireShed$Tool", "since", "I", false)
def tyX1 : Nat → FieldType := fun k => match k with
  | 0 => .object "HireShed$Trace"
  | 1 => .int
  | 2 => .int
  | 3 => .int
  | 4 => .int
  | 5 => .int
  | 6 => .int
  | _ => .int
theorem nmX1 : ∀ a, a < 8 → ∀ b, b < 8 → a ≠ b → (TX1 a).2.1 ≠ (TX1 b).2.1 := by decide +kernel
theorem tyX1_ok : ∀ k, k < 8 → parseFieldDescriptor (TX1 k).2.2.1 = some (tyX1 k) := by decide +kernel
abbrev cX1_init : ByteArray := prog_3_method_1_code
def yX1_init : MethodName := ⟨RX1, "<init>", "(IIILHireShed$Trace;)V"⟩
abbrev cX1_charge : ByteArray := prog_3_method_2_code
def yX1_charge : MethodName := ⟨RX1, "charge", "(I)I"⟩
abbrev cX1_check : ByteArray := prog_3_method_3_code
def yX1_check : MethodName := ⟨RX1, "check", "()I"⟩
def RX2 : String := "HireShed$Powered"
def TX2 : u_T := fun k => match k with
  | 0 => ("HireShed$Tool", "trace", "LHireShed$Trace;", true)
  | 1 => ("HireShed$Tool", "kind", "I", true)
  | 2 => ("HireShed$Tool", "rate", "I", true)
  | 3 => ("HireShed$Tool", "value", "I", true)
  | 4 => ("HireShed$Tool", "hours", "I", false)
  | 5 => ("HireShed$Tool", "how", "I", false)
  | 6 => ("HireShed$Tool", "customer", "I", false)
  | _ => ("HireShed$Tool", "since", "I", false)
def tyX2 : Nat → FieldType := fun k => match k with
  | 0 => .object "HireShed$Trace"
  | 1 => .int
  | 2 => .int
  | 3 => .int
  | 4 => .int
  | 5 => .int
  | 6 => .int
  | _ => .int
theorem nmX2 : ∀ a, a < 8 → ∀ b, b < 8 → a ≠ b → (TX2 a).2.1 ≠ (TX2 b).2.1 := by decide +kernel
theorem tyX2_ok : ∀ k, k < 8 → parseFieldDescriptor (TX2 k).2.2.1 = some (tyX2 k) := by decide +kernel
abbrev cX2_init : ByteArray := prog_4_method_1_code
def yX2_init : MethodName := ⟨RX2, "<init>", "(IIILHireShed$Trace;)V"⟩
abbrev cX2_hasDeposit : ByteArray := prog_4_method_2_code
def yX2_hasDeposit : MethodName := ⟨RX2, "hasDeposit", "()Z"⟩
abbrev cX2_check : ByteArray := prog_4_method_3_code
def yX2_check : MethodName := ⟨RX2, "check", "()I"⟩
abbrev cX2_deposit : ByteArray := prog_4_method_4_code
def yX2_deposit : MethodName := ⟨RX2, "deposit", "()I"⟩
def RX3 : String := "HireShed$Pump"
def TX3 : u_T := fun k => match k with
  | 0 => ("HireShed$Tool", "trace", "LHireShed$Trace;", true)
  | 1 => ("HireShed$Tool", "kind", "I", true)
  | 2 => ("HireShed$Tool", "rate", "I", true)
  | 3 => ("HireShed$Tool", "value", "I", true)
  | 4 => ("HireShed$Tool", "hours", "I", false)
  | 5 => ("HireShed$Tool", "how", "I", false)
  | 6 => ("HireShed$Tool", "customer", "I", false)
  | _ => ("HireShed$Tool", "since", "I", false)
def tyX3 : Nat → FieldType := fun k => match k with
  | 0 => .object "HireShed$Trace"
  | 1 => .int
  | 2 => .int
  | 3 => .int
  | 4 => .int
  | 5 => .int
  | 6 => .int
  | _ => .int
theorem nmX3 : ∀ a, a < 8 → ∀ b, b < 8 → a ≠ b → (TX3 a).2.1 ≠ (TX3 b).2.1 := by decide +kernel
theorem tyX3_ok : ∀ k, k < 8 → parseFieldDescriptor (TX3 k).2.2.1 = some (tyX3 k) := by decide +kernel
abbrev cX3_init : ByteArray := prog_5_method_1_code
def yX3_init : MethodName := ⟨RX3, "<init>", "(IIILHireShed$Trace;)V"⟩
abbrev cX3_isServiced : ByteArray := prog_5_method_2_code
def yX3_isServiced : MethodName := ⟨RX3, "isServiced", "()Z"⟩
abbrev cX3_wear : ByteArray := prog_5_method_3_code
def yX3_wear : MethodName := ⟨RX3, "wear", "(I)I"⟩
def RX4 : String := "HireShed$Saw"
def TX4 : u_T := fun k => match k with
  | 0 => ("HireShed$Tool", "trace", "LHireShed$Trace;", true)
  | 1 => ("HireShed$Tool", "kind", "I", true)
  | 2 => ("HireShed$Tool", "rate", "I", true)
  | 3 => ("HireShed$Tool", "value", "I", true)
  | 4 => ("HireShed$Tool", "hours", "I", false)
  | 5 => ("HireShed$Tool", "how", "I", false)
  | 6 => ("HireShed$Tool", "customer", "I", false)
  | _ => ("HireShed$Tool", "since", "I", false)
def tyX4 : Nat → FieldType := fun k => match k with
  | 0 => .object "HireShed$Trace"
  | 1 => .int
  | 2 => .int
  | 3 => .int
  | 4 => .int
  | 5 => .int
  | 6 => .int
  | _ => .int
theorem nmX4 : ∀ a, a < 8 → ∀ b, b < 8 → a ≠ b → (TX4 a).2.1 ≠ (TX4 b).2.1 := by decide +kernel
theorem tyX4_ok : ∀ k, k < 8 → parseFieldDescriptor (TX4 k).2.2.1 = some (tyX4 k) := by decide +kernel
abbrev cX4_init : ByteArray := prog_6_method_1_code
def yX4_init : MethodName := ⟨RX4, "<init>", "(IIILHireShed$Trace;)V"⟩
abbrev cX4_isInsured : ByteArray := prog_6_method_2_code
def yX4_isInsured : MethodName := ⟨RX4, "isInsured", "()Z"⟩
abbrev cX4_charge : ByteArray := prog_6_method_3_code
def yX4_charge : MethodName := ⟨RX4, "charge", "(I)I"⟩
abbrev cX4_premium : ByteArray := prog_6_method_4_code
def yX4_premium : MethodName := ⟨RX4, "premium", "(I)I"⟩
def RX5 : String := "HireShed$Tool"
def TX5 : u_T := fun k => match k with
  | 0 => ("HireShed$Tool", "trace", "LHireShed$Trace;", true)
  | 1 => ("HireShed$Tool", "kind", "I", true)
  | 2 => ("HireShed$Tool", "rate", "I", true)
  | 3 => ("HireShed$Tool", "value", "I", true)
  | 4 => ("HireShed$Tool", "hours", "I", false)
  | 5 => ("HireShed$Tool", "how", "I", false)
  | 6 => ("HireShed$Tool", "customer", "I", false)
  | _ => ("HireShed$Tool", "since", "I", false)
def tyX5 : Nat → FieldType := fun k => match k with
  | 0 => .object "HireShed$Trace"
  | 1 => .int
  | 2 => .int
  | 3 => .int
  | 4 => .int
  | 5 => .int
  | 6 => .int
  | _ => .int
theorem nmX5 : ∀ a, a < 8 → ∀ b, b < 8 → a ≠ b → (TX5 a).2.1 ≠ (TX5 b).2.1 := by decide +kernel
theorem tyX5_ok : ∀ k, k < 8 → parseFieldDescriptor (TX5 k).2.2.1 = some (tyX5 k) := by decide +kernel
abbrev cX5_init : ByteArray := prog_7_method_1_code
def yX5_init : MethodName := ⟨RX5, "<init>", "(IIILHireShed$Trace;)V"⟩
abbrev cX5_hasDeposit : ByteArray := prog_7_method_2_code
def yX5_hasDeposit : MethodName := ⟨RX5, "hasDeposit", "()Z"⟩
abbrev cX5_isInsured : ByteArray := prog_7_method_3_code
def yX5_isInsured : MethodName := ⟨RX5, "isInsured", "()Z"⟩
abbrev cX5_isServiced : ByteArray := prog_7_method_4_code
def yX5_isServiced : MethodName := ⟨RX5, "isServiced", "()Z"⟩
abbrev cX5_charge : ByteArray := prog_7_method_5_code
def yX5_charge : MethodName := ⟨RX5, "charge", "(I)I"⟩
abbrev cX5_wear : ByteArray := prog_7_method_6_code
def yX5_wear : MethodName := ⟨RX5, "wear", "(I)I"⟩
abbrev cX5_check : ByteArray := prog_7_method_7_code
def yX5_check : MethodName := ⟨RX5, "check", "()I"⟩
abbrev cX5_deposit : ByteArray := prog_7_method_8_code
def yX5_deposit : MethodName := ⟨RX5, "deposit", "()I"⟩
abbrev cX5_premium : ByteArray := prog_7_method_9_code
def yX5_premium : MethodName := ⟨RX5, "premium", "(I)I"⟩
abbrev cX5_due : ByteArray := prog_7_method_10_code
def yX5_due : MethodName := ⟨RX5, "due", "(I)I"⟩
abbrev cX5_goOut : ByteArray := prog_7_method_11_code
def yX5_goOut : MethodName := ⟨RX5, "goOut", "(II)V"⟩
abbrev cX5_comeBack : ByteArray := prog_7_method_12_code
def yX5_comeBack : MethodName := ⟨RX5, "comeBack", "(I)V"⟩
abbrev cX5_renew : ByteArray := prog_7_method_13_code
def yX5_renew : MethodName := ⟨RX5, "renew", "()V"⟩
def RX6 : String := "HireShed$Trace"
def TX6 : u_T := fun k => match k with
  | 0 => ("HireShed$Trace", "numbers", "[I", true)
  | 1 => ("HireShed$Trace", "size", "I", false)
  | _ => ("HireShed$Trace", "open", "Z", false)
def tyX6 : Nat → FieldType := fun k => match k with
  | 0 => .array .int
  | 1 => .int
  | _ => .boolean
theorem nmX6 : ∀ a, a < 3 → ∀ b, b < 3 → a ≠ b → (TX6 a).2.1 ≠ (TX6 b).2.1 := by decide +kernel
theorem tyX6_ok : ∀ k, k < 3 → parseFieldDescriptor (TX6 k).2.2.1 = some (tyX6 k) := by decide +kernel
abbrev cX6_init : ByteArray := prog_8_method_1_code
def yX6_init : MethodName := ⟨RX6, "<init>", "()V"⟩
abbrev cX6_begin : ByteArray := prog_8_method_2_code
def yX6_begin : MethodName := ⟨RX6, "begin", "()V"⟩
abbrev cX6_end : ByteArray := prog_8_method_3_code
def yX6_end : MethodName := ⟨RX6, "end", "()V"⟩
abbrev cX6_leave : ByteArray := prog_8_method_4_code
def yX6_leave : MethodName := ⟨RX6, "leave", "(I)V"⟩
abbrev cX6_numberAt : ByteArray := prog_8_method_5_code
def yX6_numberAt : MethodName := ⟨RX6, "numberAt", "(I)I"⟩
def RX7 : String := "HireShed$TreeSaw"
def TX7 : u_T := fun k => match k with
  | 0 => ("HireShed$Tool", "trace", "LHireShed$Trace;", true)
  | 1 => ("HireShed$Tool", "kind", "I", true)
  | 2 => ("HireShed$Tool", "rate", "I", true)
  | 3 => ("HireShed$Tool", "value", "I", true)
  | 4 => ("HireShed$Tool", "hours", "I", false)
  | 5 => ("HireShed$Tool", "how", "I", false)
  | 6 => ("HireShed$Tool", "customer", "I", false)
  | _ => ("HireShed$Tool", "since", "I", false)
def tyX7 : Nat → FieldType := fun k => match k with
  | 0 => .object "HireShed$Trace"
  | 1 => .int
  | 2 => .int
  | 3 => .int
  | 4 => .int
  | 5 => .int
  | 6 => .int
  | _ => .int
theorem nmX7 : ∀ a, a < 8 → ∀ b, b < 8 → a ≠ b → (TX7 a).2.1 ≠ (TX7 b).2.1 := by decide +kernel
theorem tyX7_ok : ∀ k, k < 8 → parseFieldDescriptor (TX7 k).2.2.1 = some (tyX7 k) := by decide +kernel
abbrev cX7_init : ByteArray := prog_9_method_1_code
def yX7_init : MethodName := ⟨RX7, "<init>", "(IIILHireShed$Trace;)V"⟩
abbrev cX7_charge : ByteArray := prog_9_method_2_code
def yX7_charge : MethodName := ⟨RX7, "charge", "(I)I"⟩
abbrev cX7_wear : ByteArray := prog_9_method_3_code
def yX7_wear : MethodName := ⟨RX7, "wear", "(I)I"⟩
abbrev cX7_deposit : ByteArray := prog_9_method_4_code
def yX7_deposit : MethodName := ⟨RX7, "deposit", "()I"⟩
def RX8 : String := "HireShed"
def TX8 : u_T := fun k => match k with
  | 0 => ("HireShed", "latest", "LHireShed$Trace;", true)
  | 1 => ("HireShed", "tools", "[LHireShed$Tool;", true)
  | 2 => ("HireShed", "accounts", "[J", true)
  | 3 => ("HireShed", "toolCount", "I", false)
  | 4 => ("HireShed", "today", "I", false)
  | 5 => ("HireShed", "costs", "I", false)
  | _ => ("HireShed", "hires", "I", false)
def tyX8 : Nat → FieldType := fun k => match k with
  | 0 => .object "HireShed$Trace"
  | 1 => .array (.object "HireShed$Tool")
  | 2 => .array .long
  | 3 => .int
  | 4 => .int
  | 5 => .int
  | _ => .int
theorem nmX8 : ∀ a, a < 7 → ∀ b, b < 7 → a ≠ b → (TX8 a).2.1 ≠ (TX8 b).2.1 := by decide +kernel
theorem tyX8_ok : ∀ k, k < 7 → parseFieldDescriptor (TX8 k).2.2.1 = some (tyX8 k) := by decide +kernel
abbrev cX8_init : ByteArray := prog_1_method_1_code
def yX8_init : MethodName := ⟨RX8, "<init>", "()V"⟩
abbrev cX8_tool : ByteArray := prog_1_method_2_code
def yX8_tool : MethodName := ⟨RX8, "tool", "(III)I"⟩
abbrev cX8_ask : ByteArray := prog_1_method_3_code
def yX8_ask : MethodName := ⟨RX8, "ask", "(III)I"⟩
abbrev cX8_trace : ByteArray := prog_1_method_4_code
def yX8_trace : MethodName := ⟨RX8, "trace", "(I)I"⟩
abbrev cX8_hire : ByteArray := prog_1_method_5_code
def yX8_hire : MethodName := ⟨RX8, "hire", "(II)I"⟩
abbrev cX8_back : ByteArray := prog_1_method_6_code
def yX8_back : MethodName := ⟨RX8, "back", "(I)I"⟩
abbrev cX8_service : ByteArray := prog_1_method_7_code
def yX8_service : MethodName := ⟨RX8, "service", "(I)I"⟩
abbrev cX8_day : ByteArray := prog_1_method_8_code
def yX8_day : MethodName := ⟨RX8, "day", "(I)I"⟩
abbrev cX8_account : ByteArray := prog_1_method_9_code
def yX8_account : MethodName := ⟨RX8, "account", "(I)J"⟩
abbrev cX8_told : ByteArray := prog_1_method_10_code
def yX8_told : MethodName := ⟨RX8, "told", "(II)I"⟩
abbrev cX8_count : ByteArray := prog_1_method_11_code
def yX8_count : MethodName := ⟨RX8, "count", "(I)I"⟩
abbrev cX8_isWithin : ByteArray := prog_1_method_12_code
def yX8_isWithin : MethodName := ⟨RX8, "isWithin", "(III)Z"⟩
abbrev cX8_isCustomer : ByteArray := prog_1_method_13_code
def yX8_isCustomer : MethodName := ⟨RX8, "isCustomer", "(I)Z"⟩
abbrev cX8_toolAt : ByteArray := prog_1_method_14_code
def yX8_toolAt : MethodName := ⟨RX8, "toolAt", "(I)LHireShed$Tool;"⟩
abbrev cX8_newTool : ByteArray := prog_1_method_15_code
def yX8_newTool : MethodName := ⟨RX8, "newTool", "(III)LHireShed$Tool;"⟩
abbrev cX8_hasAnswer : ByteArray := prog_1_method_16_code
def yX8_hasAnswer : MethodName := ⟨RX8, "hasAnswer", "(LHireShed$Tool;I)Z"⟩
abbrev cX8_answerOf : ByteArray := prog_1_method_17_code
def yX8_answerOf : MethodName := ⟨RX8, "answerOf", "(LHireShed$Tool;II)I"⟩
abbrev cX8_pay : ByteArray := prog_1_method_18_code
def yX8_pay : MethodName := ⟨RX8, "pay", "(II)V"⟩
abbrev cX8_toolsThatAre : ByteArray := prog_1_method_19_code
def yX8_toolsThatAre : MethodName := ⟨RX8, "toolsThatAre", "(I)I"⟩
def RX9 : String := "HireShedModel"
def TX9 : u_T := fun k => match k with
  | 0 => ("HireShedModel", "tools", "I", false)
  | 1 => ("HireShedModel", "kind", "[I", true)
  | 2 => ("HireShedModel", "rate", "[I", true)
  | 3 => ("HireShedModel", "value", "[I", true)
  | 4 => ("HireShedModel", "hours", "[I", true)
  | 5 => ("HireShedModel", "how", "[I", true)
  | 6 => ("HireShedModel", "customer", "[I", true)
  | 7 => ("HireShedModel", "since", "[I", true)
  | 8 => ("HireShedModel", "accounts", "[J", true)
  | 9 => ("HireShedModel", "today", "I", false)
  | 10 => ("HireShedModel", "costs", "I", false)
  | 11 => ("HireShedModel", "hired", "I", false)
  | 12 => ("HireShedModel", "trace", "[I", true)
  | 13 => ("HireShedModel", "traced", "I", false)
  | _ => ("HireShedModel", "isTraced", "Z", false)
def tyX9 : Nat → FieldType := fun k => match k with
  | 0 => .int
  | 1 => .array .int
  | 2 => .array .int
  | 3 => .array .int
  | 4 => .array .int
  | 5 => .array .int
  | 6 => .array .int
  | 7 => .array .int
  | 8 => .array .long
  | 9 => .int
  | 10 => .int
  | 11 => .int
  | 12 => .array .int
  | 13 => .int
  | _ => .boolean
theorem nmX9 : ∀ a, a < 15 → ∀ b, b < 15 → a ≠ b → (TX9 a).2.1 ≠ (TX9 b).2.1 := by decide +kernel
theorem tyX9_ok : ∀ k, k < 15 → parseFieldDescriptor (TX9 k).2.2.1 = some (tyX9 k) := by decide +kernel
abbrev cX9_init : ByteArray := prog_11_method_1_code
def yX9_init : MethodName := ⟨RX9, "<init>", "()V"⟩
abbrev cX9_in : ByteArray := prog_11_method_3_code
def yX9_in : MethodName := ⟨RX9, "in", "(III)Z"⟩
abbrev cX9_isTool : ByteArray := prog_11_method_4_code
def yX9_isTool : MethodName := ⟨RX9, "isTool", "(I)Z"⟩
abbrev cX9_tool : ByteArray := prog_11_method_5_code
def yX9_tool : MethodName := ⟨RX9, "tool", "(III)I"⟩
abbrev cX9_body : ByteArray := prog_11_method_6_code
def yX9_body : MethodName := ⟨RX9, "body", "(I)V"⟩
abbrev cX9_charge : ByteArray := prog_11_method_7_code
def yX9_charge : MethodName := ⟨RX9, "charge", "(II)I"⟩
abbrev cX9_wear : ByteArray := prog_11_method_8_code
def yX9_wear : MethodName := ⟨RX9, "wear", "(II)I"⟩
abbrev cX9_check : ByteArray := prog_11_method_9_code
def yX9_check : MethodName := ⟨RX9, "check", "(I)I"⟩
abbrev cX9_deposit : ByteArray := prog_11_method_10_code
def yX9_deposit : MethodName := ⟨RX9, "deposit", "(I)I"⟩
abbrev cX9_isInsured : ByteArray := prog_11_method_11_code
def yX9_isInsured : MethodName := ⟨RX9, "isInsured", "(I)Z"⟩
abbrev cX9_isServiced : ByteArray := prog_11_method_12_code
def yX9_isServiced : MethodName := ⟨RX9, "isServiced", "(I)Z"⟩
abbrev cX9_premium : ByteArray := prog_11_method_13_code
def yX9_premium : MethodName := ⟨RX9, "premium", "(II)I"⟩
abbrev cX9_due : ByteArray := prog_11_method_14_code
def yX9_due : MethodName := ⟨RX9, "due", "(II)I"⟩
abbrev cX9_answers : ByteArray := prog_11_method_15_code
def yX9_answers : MethodName := ⟨RX9, "answers", "(II)Z"⟩
abbrev cX9_ask : ByteArray := prog_11_method_16_code
def yX9_ask : MethodName := ⟨RX9, "ask", "(III)I"⟩
abbrev cX9_trace : ByteArray := prog_11_method_17_code
def yX9_trace : MethodName := ⟨RX9, "trace", "(I)I"⟩
abbrev cX9_lent : ByteArray := prog_11_method_18_code
def yX9_lent : MethodName := ⟨RX9, "lent", "(I)I"⟩
abbrev cX9_hire : ByteArray := prog_11_method_19_code
def yX9_hire : MethodName := ⟨RX9, "hire", "(II)I"⟩
abbrev cX9_back : ByteArray := prog_11_method_20_code
def yX9_back : MethodName := ⟨RX9, "back", "(I)I"⟩
abbrev cX9_service : ByteArray := prog_11_method_21_code
def yX9_service : MethodName := ⟨RX9, "service", "(I)I"⟩
abbrev cX9_day : ByteArray := prog_11_method_22_code
def yX9_day : MethodName := ⟨RX9, "day", "(I)I"⟩
abbrev cX9_account : ByteArray := prog_11_method_23_code
def yX9_account : MethodName := ⟨RX9, "account", "(I)J"⟩
abbrev cX9_told : ByteArray := prog_11_method_24_code
def yX9_told : MethodName := ⟨RX9, "told", "(II)I"⟩
abbrev cX9_count : ByteArray := prog_11_method_25_code
def yX9_count : MethodName := ⟨RX9, "count", "(I)I"⟩
def RJ9 : String := "java/lang/Math"
abbrev cJ9_max_7cf53 : ByteArray := prog_12_method_65_code
def yJ9_max_7cf53 : MethodName := ⟨RJ9, "max", "(II)I"⟩
def RL : String := "HireShedLaw"
abbrev cL_law : ByteArray := code
def yL_law : MethodName := ⟨RL, "law", "([I)Z"⟩
end
section
theorem dX0_init_0 : decode cX0_init 0 = .ok (.aload_n 0, 1) := by decide +kernel
theorem dX0_init_1 : decode cX0_init 1 = .ok (.iload_n 1, 1) := by decide +kernel
theorem dX0_init_2 : decode cX0_init 2 = .ok (.iload_n 2, 1) := by decide +kernel
theorem dX0_init_3 : decode cX0_init 3 = .ok (.iload_n 3, 1) := by decide +kernel
theorem dX0_init_4 : decode cX0_init 4 = .ok (.aload 4, 2) := by decide +kernel
theorem dX0_init_6 : decode cX0_init 6 = .ok (.invokespecial 1, 3) := by decide +kernel
theorem dX0_init_9 : decode cX0_init 9 = .ok (.return_, 1) := by decide +kernel
theorem dX0_isServiced_0 : decode cX0_isServiced 0 = .ok (.iconst 1, 1) := by decide +kernel
theorem dX0_isServiced_1 : decode cX0_isServiced 1 = .ok (.ireturn, 1) := by decide +kernel
theorem dX0_check_0 : decode cX0_check 0 = .ok (.aload_n 0, 1) := by decide +kernel
theorem dX0_check_1 : decode cX0_check 1 = .ok (.getfield 7, 3) := by decide +kernel
theorem dX0_check_4 : decode cX0_check 4 = .ok (.bipush 22, 2) := by decide +kernel
theorem dX0_check_6 : decode cX0_check 6 = .ok (.invokevirtual 13, 3) := by decide +kernel
theorem dX0_check_9 : decode cX0_check 9 = .ok (.aload_n 0, 1) := by decide +kernel
theorem dX0_check_10 : decode cX0_check 10 = .ok (.invokespecial 19, 3) := by decide +kernel
theorem dX0_check_13 : decode cX0_check 13 = .ok (.iconst 2, 1) := by decide +kernel
theorem dX0_check_14 : decode cX0_check 14 = .ok (.iadd, 1) := by decide +kernel
theorem dX0_check_15 : decode cX0_check 15 = .ok (.ireturn, 1) := by decide +kernel
theorem dX0_premium_0 : decode cX0_premium 0 = .ok (.aload_n 0, 1) := by decide +kernel
theorem dX0_premium_1 : decode cX0_premium 1 = .ok (.getfield 7, 3) := by decide +kernel
theorem dX0_premium_4 : decode cX0_premium 4 = .ok (.bipush 42, 2) := by decide +kernel
theorem dX0_premium_6 : decode cX0_premium 6 = .ok (.invokevirtual 13, 3) := by decide +kernel
theorem dX0_premium_9 : decode cX0_premium 9 = .ok (.iload_n 1, 1) := by decide +kernel
theorem dX0_premium_10 : decode cX0_premium 10 = .ok (.aload_n 0, 1) := by decide +kernel
theorem dX0_premium_11 : decode cX0_premium 11 = .ok (.invokevirtual 23, 3) := by decide +kernel
theorem dX0_premium_14 : decode cX0_premium 14 = .ok (.aload_n 0, 1) := by decide +kernel
theorem dX0_premium_15 : decode cX0_premium 15 = .ok (.invokevirtual 24, 3) := by decide +kernel
theorem dX0_premium_18 : decode cX0_premium 18 = .ok (.sipush 200, 3) := by decide +kernel
theorem dX0_premium_21 : decode cX0_premium 21 = .ok (.idiv, 1) := by decide +kernel
theorem dX0_premium_22 : decode cX0_premium 22 = .ok (.iadd, 1) := by decide +kernel
theorem dX0_premium_23 : decode cX0_premium 23 = .ok (.imul, 1) := by decide +kernel
theorem dX0_premium_24 : decode cX0_premium 24 = .ok (.ireturn, 1) := by decide +kernel
theorem dX1_init_0 : decode cX1_init 0 = .ok (.aload_n 0, 1) := by decide +kernel
theorem dX1_init_1 : decode cX1_init 1 = .ok (.iload_n 1, 1) := by decide +kernel
theorem dX1_init_2 : decode cX1_init 2 = .ok (.iload_n 2, 1) := by decide +kernel
theorem dX1_init_3 : decode cX1_init 3 = .ok (.iload_n 3, 1) := by decide +kernel
theorem dX1_init_4 : decode cX1_init 4 = .ok (.aload 4, 2) := by decide +kernel
theorem dX1_init_6 : decode cX1_init 6 = .ok (.invokespecial 1, 3) := by decide +kernel
theorem dX1_init_9 : decode cX1_init 9 = .ok (.return_, 1) := by decide +kernel
theorem dX1_charge_0 : decode cX1_charge 0 = .ok (.aload_n 0, 1) := by decide +kernel
theorem dX1_charge_1 : decode cX1_charge 1 = .ok (.getfield 7, 3) := by decide +kernel
theorem dX1_charge_4 : decode cX1_charge 4 = .ok (.iconst 4, 1) := by decide +kernel
theorem dX1_charge_5 : decode cX1_charge 5 = .ok (.invokevirtual 13, 3) := by decide +kernel
theorem dX1_charge_8 : decode cX1_charge 8 = .ok (.aload_n 0, 1) := by decide +kernel
theorem dX1_charge_9 : decode cX1_charge 9 = .ok (.iload_n 1, 1) := by decide +kernel
theorem dX1_charge_10 : decode cX1_charge 10 = .ok (.invokespecial 19, 3) := by decide +kernel
theorem dX1_charge_13 : decode cX1_charge 13 = .ok (.aload_n 0, 1) := by decide +kernel
theorem dX1_charge_14 : decode cX1_charge 14 = .ok (.getfield 23, 3) := by decide +kernel
theorem dX1_charge_17 : decode cX1_charge 17 = .ok (.bipush 100, 2) := by decide +kernel
theorem dX1_charge_19 : decode cX1_charge 19 = .ok (.idiv, 1) := by decide +kernel
theorem dX1_charge_20 : decode cX1_charge 20 = .ok (.iadd, 1) := by decide +kernel
theorem dX1_charge_21 : decode cX1_charge 21 = .ok (.ireturn, 1) := by decide +kernel
theorem dX1_check_0 : decode cX1_check 0 = .ok (.aload_n 0, 1) := by decide +kernel
theorem dX1_check_1 : decode cX1_check 1 = .ok (.getfield 7, 3) := by decide +kernel
theorem dX1_check_4 : decode cX1_check 4 = .ok (.bipush 23, 2) := by decide +kernel
theorem dX1_check_6 : decode cX1_check 6 = .ok (.invokevirtual 13, 3) := by decide +kernel
theorem dX1_check_9 : decode cX1_check 9 = .ok (.aload_n 0, 1) := by decide +kernel
theorem dX1_check_10 : decode cX1_check 10 = .ok (.invokespecial 27, 3) := by decide +kernel
theorem dX1_check_13 : decode cX1_check 13 = .ok (.iconst 4, 1) := by decide +kernel
theorem dX1_check_14 : decode cX1_check 14 = .ok (.iadd, 1) := by decide +kernel
theorem dX1_check_15 : decode cX1_check 15 = .ok (.ireturn, 1) := by decide +kernel
theorem dX2_init_0 : decode cX2_init 0 = .ok (.aload_n 0, 1) := by decide +kernel
theorem dX2_init_1 : decode cX2_init 1 = .ok (.iload_n 1, 1) := by decide +kernel
theorem dX2_init_2 : decode cX2_init 2 = .ok (.iload_n 2, 1) := by decide +kernel
theorem dX2_init_3 : decode cX2_init 3 = .ok (.iload_n 3, 1) := by decide +kernel
theorem dX2_init_4 : decode cX2_init 4 = .ok (.aload 4, 2) := by decide +kernel
theorem dX2_init_6 : decode cX2_init 6 = .ok (.invokespecial 1, 3) := by decide +kernel
theorem dX2_init_9 : decode cX2_init 9 = .ok (.return_, 1) := by decide +kernel
theorem dX2_hasDeposit_0 : decode cX2_hasDeposit 0 = .ok (.iconst 1, 1) := by decide +kernel
theorem dX2_hasDeposit_1 : decode cX2_hasDeposit 1 = .ok (.ireturn, 1) := by decide +kernel
theorem dX2_check_0 : decode cX2_check 0 = .ok (.aload_n 0, 1) := by decide +kernel
theorem dX2_check_1 : decode cX2_check 1 = .ok (.getfield 7, 3) := by decide +kernel
theorem dX2_check_4 : decode cX2_check 4 = .ok (.bipush 21, 2) := by decide +kernel
theorem dX2_check_6 : decode cX2_check 6 = .ok (.invokevirtual 13, 3) := by decide +kernel
theorem dX2_check_9 : decode cX2_check 9 = .ok (.aload_n 0, 1) := by decide +kernel
theorem dX2_check_10 : decode cX2_check 10 = .ok (.invokespecial 19, 3) := by decide +kernel
theorem dX2_check_13 : decode cX2_check 13 = .ok (.iconst 1, 1) := by decide +kernel
theorem dX2_check_14 : decode cX2_check 14 = .ok (.iadd, 1) := by decide +kernel
theorem dX2_check_15 : decode cX2_check 15 = .ok (.ireturn, 1) := by decide +kernel
theorem dX2_deposit_0 : decode cX2_deposit 0 = .ok (.aload_n 0, 1) := by decide +kernel
theorem dX2_deposit_1 : decode cX2_deposit 1 = .ok (.getfield 7, 3) := by decide +kernel
theorem dX2_deposit_4 : decode cX2_deposit 4 = .ok (.bipush 31, 2) := by decide +kernel
theorem dX2_deposit_6 : decode cX2_deposit 6 = .ok (.invokevirtual 13, 3) := by decide +kernel
theorem dX2_deposit_9 : decode cX2_deposit 9 = .ok (.aload_n 0, 1) := by decide +kernel
theorem dX2_deposit_10 : decode cX2_deposit 10 = .ok (.getfield 23, 3) := by decide +kernel
theorem dX2_deposit_13 : decode cX2_deposit 13 = .ok (.iconst 2, 1) := by decide +kernel
theorem dX2_deposit_14 : decode cX2_deposit 14 = .ok (.idiv, 1) := by decide +kernel
theorem dX2_deposit_15 : decode cX2_deposit 15 = .ok (.ireturn, 1) := by decide +kernel
theorem dX3_init_0 : decode cX3_init 0 = .ok (.aload_n 0, 1) := by decide +kernel
theorem dX3_init_1 : decode cX3_init 1 = .ok (.iload_n 1, 1) := by decide +kernel
theorem dX3_init_2 : decode cX3_init 2 = .ok (.iload_n 2, 1) := by decide +kernel
theorem dX3_init_3 : decode cX3_init 3 = .ok (.iload_n 3, 1) := by decide +kernel
theorem dX3_init_4 : decode cX3_init 4 = .ok (.aload 4, 2) := by decide +kernel
theorem dX3_init_6 : decode cX3_init 6 = .ok (.invokespecial 1, 3) := by decide +kernel
theorem dX3_init_9 : decode cX3_init 9 = .ok (.return_, 1) := by decide +kernel
theorem dX3_isServiced_0 : decode cX3_isServiced 0 = .ok (.iconst 1, 1) := by decide +kernel
theorem dX3_isServiced_1 : decode cX3_isServiced 1 = .ok (.ireturn, 1) := by decide +kernel
theorem dX3_wear_0 : decode cX3_wear 0 = .ok (.aload_n 0, 1) := by decide +kernel
theorem dX3_wear_1 : decode cX3_wear 1 = .ok (.getfield 7, 3) := by decide +kernel
theorem dX3_wear_4 : decode cX3_wear 4 = .ok (.bipush 13, 2) := by decide +kernel
theorem dX3_wear_6 : decode cX3_wear 6 = .ok (.invokevirtual 13, 3) := by decide +kernel
theorem dX3_wear_9 : decode cX3_wear 9 = .ok (.iconst 3, 1) := by decide +kernel
theorem dX3_wear_10 : decode cX3_wear 10 = .ok (.aload_n 0, 1) := by decide +kernel
theorem dX3_wear_11 : decode cX3_wear 11 = .ok (.iload_n 1, 1) := by decide +kernel
theorem dX3_wear_12 : decode cX3_wear 12 = .ok (.invokespecial 19, 3) := by decide +kernel
theorem dX3_wear_15 : decode cX3_wear 15 = .ok (.imul, 1) := by decide +kernel
theorem dX3_wear_16 : decode cX3_wear 16 = .ok (.ireturn, 1) := by decide +kernel
theorem dX4_init_0 : decode cX4_init 0 = .ok (.aload_n 0, 1) := by decide +kernel
theorem dX4_init_1 : decode cX4_init 1 = .ok (.iload_n 1, 1) := by decide +kernel
theorem dX4_init_2 : decode cX4_init 2 = .ok (.iload_n 2, 1) := by decide +kernel
theorem dX4_init_3 : decode cX4_init 3 = .ok (.iload_n 3, 1) := by decide +kernel
theorem dX4_init_4 : decode cX4_init 4 = .ok (.aload 4, 2) := by decide +kernel
theorem dX4_init_6 : decode cX4_init 6 = .ok (.invokespecial 1, 3) := by decide +kernel
theorem dX4_init_9 : decode cX4_init 9 = .ok (.return_, 1) := by decide +kernel
theorem dX4_isInsured_0 : decode cX4_isInsured 0 = .ok (.iconst 1, 1) := by decide +kernel
theorem dX4_isInsured_1 : decode cX4_isInsured 1 = .ok (.ireturn, 1) := by decide +kernel
theorem dX4_charge_0 : decode cX4_charge 0 = .ok (.aload_n 0, 1) := by decide +kernel
theorem dX4_charge_1 : decode cX4_charge 1 = .ok (.getfield 7, 3) := by decide +kernel
theorem dX4_charge_4 : decode cX4_charge 4 = .ok (.iconst 2, 1) := by decide +kernel
theorem dX4_charge_5 : decode cX4_charge 5 = .ok (.invokevirtual 13, 3) := by decide +kernel
theorem dX4_charge_8 : decode cX4_charge 8 = .ok (.aload_n 0, 1) := by decide +kernel
theorem dX4_charge_9 : decode cX4_charge 9 = .ok (.iload_n 1, 1) := by decide +kernel
theorem dX4_charge_10 : decode cX4_charge 10 = .ok (.invokespecial 19, 3) := by decide +kernel
theorem dX4_charge_13 : decode cX4_charge 13 = .ok (.iconst 3, 1) := by decide +kernel
theorem dX4_charge_14 : decode cX4_charge 14 = .ok (.iload_n 1, 1) := by decide +kernel
theorem dX4_charge_15 : decode cX4_charge 15 = .ok (.imul, 1) := by decide +kernel
theorem dX4_charge_16 : decode cX4_charge 16 = .ok (.iadd, 1) := by decide +kernel
theorem dX4_charge_17 : decode cX4_charge 17 = .ok (.ireturn, 1) := by decide +kernel
theorem dX4_premium_0 : decode cX4_premium 0 = .ok (.aload_n 0, 1) := by decide +kernel
theorem dX4_premium_1 : decode cX4_premium 1 = .ok (.getfield 7, 3) := by decide +kernel
theorem dX4_premium_4 : decode cX4_premium 4 = .ok (.bipush 41, 2) := by decide +kernel
theorem dX4_premium_6 : decode cX4_premium 6 = .ok (.invokevirtual 13, 3) := by decide +kernel
theorem dX4_premium_9 : decode cX4_premium 9 = .ok (.iload_n 1, 1) := by decide +kernel
theorem dX4_premium_10 : decode cX4_premium 10 = .ok (.aload_n 0, 1) := by decide +kernel
theorem dX4_premium_11 : decode cX4_premium 11 = .ok (.invokevirtual 23, 3) := by decide +kernel
theorem dX4_premium_14 : decode cX4_premium 14 = .ok (.bipush 100, 2) := by decide +kernel
theorem dX4_premium_16 : decode cX4_premium 16 = .ok (.idiv, 1) := by decide +kernel
theorem dX4_premium_17 : decode cX4_premium 17 = .ok (.imul, 1) := by decide +kernel
theorem dX4_premium_18 : decode cX4_premium 18 = .ok (.ireturn, 1) := by decide +kernel
theorem dX5_init_0 : decode cX5_init 0 = .ok (.aload_n 0, 1) := by decide +kernel
theorem dX5_init_1 : decode cX5_init 1 = .ok (.invokespecial 3, 3) := by decide +kernel
theorem dX5_init_4 : decode cX5_init 4 = .ok (.aload_n 0, 1) := by decide +kernel
theorem dX5_init_5 : decode cX5_init 5 = .ok (.iconst 0, 1) := by decide +kernel
theorem dX5_init_6 : decode cX5_init 6 = .ok (.putfield 9, 3) := by decide +kernel
theorem dX5_init_9 : decode cX5_init 9 = .ok (.aload_n 0, 1) := by decide +kernel
theorem dX5_init_10 : decode cX5_init 10 = .ok (.iconst 0, 1) := by decide +kernel
theorem dX5_init_11 : decode cX5_init 11 = .ok (.putfield 15, 3) := by decide +kernel
theorem dX5_init_14 : decode cX5_init 14 = .ok (.aload_n 0, 1) := by decide +kernel
theorem dX5_init_15 : decode cX5_init 15 = .ok (.iconst (-1), 1) := by decide +kernel
theorem dX5_init_16 : decode cX5_init 16 = .ok (.putfield 18, 3) := by decide +kernel
theorem dX5_init_19 : decode cX5_init 19 = .ok (.aload_n 0, 1) := by decide +kernel
theorem dX5_init_20 : decode cX5_init 20 = .ok (.iconst (-1), 1) := by decide +kernel
theorem dX5_init_21 : decode cX5_init 21 = .ok (.putfield 21, 3) := by decide +kernel
theorem dX5_init_24 : decode cX5_init 24 = .ok (.aload_n 0, 1) := by decide +kernel
theorem dX5_init_25 : decode cX5_init 25 = .ok (.iload_n 1, 1) := by decide +kernel
theorem dX5_init_26 : decode cX5_init 26 = .ok (.putfield 24, 3) := by decide +kernel
theorem dX5_init_29 : decode cX5_init 29 = .ok (.aload_n 0, 1) := by decide +kernel
theorem dX5_init_30 : decode cX5_init 30 = .ok (.iload_n 2, 1) := by decide +kernel
theorem dX5_init_31 : decode cX5_init 31 = .ok (.putfield 27, 3) := by decide +kernel
theorem dX5_init_34 : decode cX5_init 34 = .ok (.aload_n 0, 1) := by decide +kernel
theorem dX5_init_35 : decode cX5_init 35 = .ok (.iload_n 3, 1) := by decide +kernel
theorem dX5_init_36 : decode cX5_init 36 = .ok (.putfield 30, 3) := by decide +kernel
theorem dX5_init_39 : decode cX5_init 39 = .ok (.aload_n 0, 1) := by decide +kernel
theorem dX5_init_40 : decode cX5_init 40 = .ok (.aload 4, 2) := by decide +kernel
theorem dX5_init_42 : decode cX5_init 42 = .ok (.putfield 33, 3) := by decide +kernel
theorem dX5_init_45 : decode cX5_init 45 = .ok (.return_, 1) := by decide +kernel
theorem dX5_hasDeposit_0 : decode cX5_hasDeposit 0 = .ok (.iconst 0, 1) := by decide +kernel
theorem dX5_hasDeposit_1 : decode cX5_hasDeposit 1 = .ok (.ireturn, 1) := by decide +kernel
theorem dX5_isInsured_0 : decode cX5_isInsured 0 = .ok (.iconst 0, 1) := by decide +kernel
theorem dX5_isInsured_1 : decode cX5_isInsured 1 = .ok (.ireturn, 1) := by decide +kernel
theorem dX5_isServiced_0 : decode cX5_isServiced 0 = .ok (.iconst 0, 1) := by decide +kernel
theorem dX5_isServiced_1 : decode cX5_isServiced 1 = .ok (.ireturn, 1) := by decide +kernel
theorem dX5_charge_0 : decode cX5_charge 0 = .ok (.aload_n 0, 1) := by decide +kernel
theorem dX5_charge_1 : decode cX5_charge 1 = .ok (.getfield 33, 3) := by decide +kernel
theorem dX5_charge_4 : decode cX5_charge 4 = .ok (.iconst 1, 1) := by decide +kernel
theorem dX5_charge_5 : decode cX5_charge 5 = .ok (.invokevirtual 37, 3) := by decide +kernel
theorem dX5_charge_8 : decode cX5_charge 8 = .ok (.aload_n 0, 1) := by decide +kernel
theorem dX5_charge_9 : decode cX5_charge 9 = .ok (.getfield 27, 3) := by decide +kernel
theorem dX5_charge_12 : decode cX5_charge 12 = .ok (.iload_n 1, 1) := by decide +kernel
theorem dX5_charge_13 : decode cX5_charge 13 = .ok (.imul, 1) := by decide +kernel
theorem dX5_charge_14 : decode cX5_charge 14 = .ok (.ireturn, 1) := by decide +kernel
theorem dX5_wear_0 : decode cX5_wear 0 = .ok (.aload_n 0, 1) := by decide +kernel
theorem dX5_wear_1 : decode cX5_wear 1 = .ok (.getfield 33, 3) := by decide +kernel
theorem dX5_wear_4 : decode cX5_wear 4 = .ok (.bipush 11, 2) := by decide +kernel
theorem dX5_wear_6 : decode cX5_wear 6 = .ok (.invokevirtual 37, 3) := by decide +kernel
theorem dX5_wear_9 : decode cX5_wear 9 = .ok (.iload_n 1, 1) := by decide +kernel
theorem dX5_wear_10 : decode cX5_wear 10 = .ok (.ireturn, 1) := by decide +kernel
theorem dX5_check_0 : decode cX5_check 0 = .ok (.aload_n 0, 1) := by decide +kernel
theorem dX5_check_1 : decode cX5_check 1 = .ok (.getfield 33, 3) := by decide +kernel
theorem dX5_check_4 : decode cX5_check 4 = .ok (.bipush 20, 2) := by decide +kernel
theorem dX5_check_6 : decode cX5_check 6 = .ok (.invokevirtual 37, 3) := by decide +kernel
theorem dX5_check_9 : decode cX5_check 9 = .ok (.aload_n 0, 1) := by decide +kernel
theorem dX5_check_10 : decode cX5_check 10 = .ok (.getfield 9, 3) := by decide +kernel
theorem dX5_check_13 : decode cX5_check 13 = .ok (.bipush 10, 2) := by decide +kernel
theorem dX5_check_15 : decode cX5_check 15 = .ok (.idiv, 1) := by decide +kernel
theorem dX5_check_16 : decode cX5_check 16 = .ok (.ireturn, 1) := by decide +kernel
theorem dX5_deposit_0 : decode cX5_deposit 0 = .ok (.iconst 0, 1) := by decide +kernel
theorem dX5_deposit_1 : decode cX5_deposit 1 = .ok (.ireturn, 1) := by decide +kernel
theorem dX5_premium_0 : decode cX5_premium 0 = .ok (.iconst 0, 1) := by decide +kernel
theorem dX5_premium_1 : decode cX5_premium 1 = .ok (.ireturn, 1) := by decide +kernel
theorem dX5_due_0 : decode cX5_due 0 = .ok (.aload_n 0, 1) := by decide +kernel
theorem dX5_due_1 : decode cX5_due 1 = .ok (.invokevirtual 43, 3) := by decide +kernel
theorem dX5_due_4 : decode cX5_due 4 = .ok (.ifCond .ne 5, 3) := by decide +kernel
theorem dX5_due_7 : decode cX5_due 7 = .ok (.iconst 0, 1) := by decide +kernel
theorem dX5_due_8 : decode cX5_due 8 = .ok (.ireturn, 1) := by decide +kernel
theorem dX5_due_9 : decode cX5_due 9 = .ok (.aload_n 0, 1) := by decide +kernel
theorem dX5_due_10 : decode cX5_due 10 = .ok (.getfield 33, 3) := by decide +kernel
theorem dX5_due_13 : decode cX5_due 13 = .ok (.bipush 43, 2) := by decide +kernel
theorem dX5_due_15 : decode cX5_due 15 = .ok (.invokevirtual 37, 3) := by decide +kernel
theorem dX5_due_18 : decode cX5_due 18 = .ok (.aload_n 0, 1) := by decide +kernel
theorem dX5_due_19 : decode cX5_due 19 = .ok (.getfield 9, 3) := by decide +kernel
theorem dX5_due_22 : decode cX5_due 22 = .ok (.aload_n 0, 1) := by decide +kernel
theorem dX5_due_23 : decode cX5_due 23 = .ok (.iload_n 1, 1) := by decide +kernel
theorem dX5_due_24 : decode cX5_due 24 = .ok (.invokevirtual 47, 3) := by decide +kernel
theorem dX5_due_27 : decode cX5_due 27 = .ok (.iadd, 1) := by decide +kernel
theorem dX5_due_28 : decode cX5_due 28 = .ok (.bipush 60, 2) := by decide +kernel
theorem dX5_due_30 : decode cX5_due 30 = .ok (.if_icmp .le 7, 3) := by decide +kernel
theorem dX5_due_33 : decode cX5_due 33 = .ok (.iconst 1, 1) := by decide +kernel
theorem dX5_due_34 : decode cX5_due 34 = .ok (.goto 4, 3) := by decide +kernel
theorem dX5_due_37 : decode cX5_due 37 = .ok (.iconst 0, 1) := by decide +kernel
theorem dX5_due_38 : decode cX5_due 38 = .ok (.ireturn, 1) := by decide +kernel
theorem dX5_goOut_0 : decode cX5_goOut 0 = .ok (.aload_n 0, 1) := by decide +kernel
theorem dX5_goOut_1 : decode cX5_goOut 1 = .ok (.iconst 1, 1) := by decide +kernel
theorem dX5_goOut_2 : decode cX5_goOut 2 = .ok (.putfield 15, 3) := by decide +kernel
theorem dX5_goOut_5 : decode cX5_goOut 5 = .ok (.aload_n 0, 1) := by decide +kernel
theorem dX5_goOut_6 : decode cX5_goOut 6 = .ok (.iload_n 1, 1) := by decide +kernel
theorem dX5_goOut_7 : decode cX5_goOut 7 = .ok (.putfield 18, 3) := by decide +kernel
theorem dX5_goOut_10 : decode cX5_goOut 10 = .ok (.aload_n 0, 1) := by decide +kernel
theorem dX5_goOut_11 : decode cX5_goOut 11 = .ok (.iload_n 2, 1) := by decide +kernel
theorem dX5_goOut_12 : decode cX5_goOut 12 = .ok (.putfield 21, 3) := by decide +kernel
theorem dX5_goOut_15 : decode cX5_goOut 15 = .ok (.return_, 1) := by decide +kernel
theorem dX5_comeBack_0 : decode cX5_comeBack 0 = .ok (.aload_n 0, 1) := by decide +kernel
theorem dX5_comeBack_1 : decode cX5_comeBack 1 = .ok (.iconst (-1), 1) := by decide +kernel
theorem dX5_comeBack_2 : decode cX5_comeBack 2 = .ok (.putfield 18, 3) := by decide +kernel
theorem dX5_comeBack_5 : decode cX5_comeBack 5 = .ok (.aload_n 0, 1) := by decide +kernel
theorem dX5_comeBack_6 : decode cX5_comeBack 6 = .ok (.iconst (-1), 1) := by decide +kernel
theorem dX5_comeBack_7 : decode cX5_comeBack 7 = .ok (.putfield 21, 3) := by decide +kernel
theorem dX5_comeBack_10 : decode cX5_comeBack 10 = .ok (.aload_n 0, 1) := by decide +kernel
theorem dX5_comeBack_11 : decode cX5_comeBack 11 = .ok (.dup, 1) := by decide +kernel
theorem dX5_comeBack_12 : decode cX5_comeBack 12 = .ok (.getfield 9, 3) := by decide +kernel
theorem dX5_comeBack_15 : decode cX5_comeBack 15 = .ok (.aload_n 0, 1) := by decide +kernel
theorem dX5_comeBack_16 : decode cX5_comeBack 16 = .ok (.iload_n 1, 1) := by decide +kernel
theorem dX5_comeBack_17 : decode cX5_comeBack 17 = .ok (.invokevirtual 47, 3) := by decide +kernel
theorem dX5_comeBack_20 : decode cX5_comeBack 20 = .ok (.iadd, 1) := by decide +kernel
theorem dX5_comeBack_21 : decode cX5_comeBack 21 = .ok (.putfield 9, 3) := by decide +kernel
theorem dX5_comeBack_24 : decode cX5_comeBack 24 = .ok (.aload_n 0, 1) := by decide +kernel
theorem dX5_comeBack_25 : decode cX5_comeBack 25 = .ok (.aload_n 0, 1) := by decide +kernel
theorem dX5_comeBack_26 : decode cX5_comeBack 26 = .ok (.invokevirtual 51, 3) := by decide +kernel
theorem dX5_comeBack_29 : decode cX5_comeBack 29 = .ok (.bipush 9, 2) := by decide +kernel
theorem dX5_comeBack_31 : decode cX5_comeBack 31 = .ok (.if_icmp .le 7, 3) := by decide +kernel
theorem dX5_comeBack_34 : decode cX5_comeBack 34 = .ok (.iconst 2, 1) := by decide +kernel
theorem dX5_comeBack_35 : decode cX5_comeBack 35 = .ok (.goto 4, 3) := by decide +kernel
theorem dX5_comeBack_38 : decode cX5_comeBack 38 = .ok (.iconst 0, 1) := by decide +kernel
theorem dX5_comeBack_39 : decode cX5_comeBack 39 = .ok (.putfield 15, 3) := by decide +kernel
theorem dX5_comeBack_42 : decode cX5_comeBack 42 = .ok (.return_, 1) := by decide +kernel
theorem dX5_renew_0 : decode cX5_renew 0 = .ok (.aload_n 0, 1) := by decide +kernel
theorem dX5_renew_1 : decode cX5_renew 1 = .ok (.iconst 0, 1) := by decide +kernel
theorem dX5_renew_2 : decode cX5_renew 2 = .ok (.putfield 9, 3) := by decide +kernel
theorem dX5_renew_5 : decode cX5_renew 5 = .ok (.aload_n 0, 1) := by decide +kernel
theorem dX5_renew_6 : decode cX5_renew 6 = .ok (.iconst 0, 1) := by decide +kernel
theorem dX5_renew_7 : decode cX5_renew 7 = .ok (.putfield 15, 3) := by decide +kernel
theorem dX5_renew_10 : decode cX5_renew 10 = .ok (.return_, 1) := by decide +kernel
theorem dX6_init_0 : decode cX6_init 0 = .ok (.aload_n 0, 1) := by decide +kernel
theorem dX6_init_1 : decode cX6_init 1 = .ok (.invokespecial 3, 3) := by decide +kernel
theorem dX6_init_4 : decode cX6_init 4 = .ok (.aload_n 0, 1) := by decide +kernel
theorem dX6_init_5 : decode cX6_init 5 = .ok (.bipush 8, 2) := by decide +kernel
theorem dX6_init_7 : decode cX6_init 7 = .ok (.newarray .int, 2) := by decide +kernel
theorem dX6_init_9 : decode cX6_init 9 = .ok (.putfield 11, 3) := by decide +kernel
theorem dX6_init_12 : decode cX6_init 12 = .ok (.aload_n 0, 1) := by decide +kernel
theorem dX6_init_13 : decode cX6_init 13 = .ok (.iconst 0, 1) := by decide +kernel
theorem dX6_init_14 : decode cX6_init 14 = .ok (.putfield 15, 3) := by decide +kernel
theorem dX6_init_17 : decode cX6_init 17 = .ok (.aload_n 0, 1) := by decide +kernel
theorem dX6_init_18 : decode cX6_init 18 = .ok (.iconst 0, 1) := by decide +kernel
theorem dX6_init_19 : decode cX6_init 19 = .ok (.putfield 19, 3) := by decide +kernel
theorem dX6_init_22 : decode cX6_init 22 = .ok (.return_, 1) := by decide +kernel
theorem dX6_begin_0 : decode cX6_begin 0 = .ok (.aload_n 0, 1) := by decide +kernel
theorem dX6_begin_1 : decode cX6_begin 1 = .ok (.iconst 0, 1) := by decide +kernel
theorem dX6_begin_2 : decode cX6_begin 2 = .ok (.putfield 15, 3) := by decide +kernel
theorem dX6_begin_5 : decode cX6_begin 5 = .ok (.aload_n 0, 1) := by decide +kernel
theorem dX6_begin_6 : decode cX6_begin 6 = .ok (.iconst 1, 1) := by decide +kernel
theorem dX6_begin_7 : decode cX6_begin 7 = .ok (.putfield 19, 3) := by decide +kernel
theorem dX6_begin_10 : decode cX6_begin 10 = .ok (.return_, 1) := by decide +kernel
theorem dX6_end_0 : decode cX6_end 0 = .ok (.aload_n 0, 1) := by decide +kernel
theorem dX6_end_1 : decode cX6_end 1 = .ok (.iconst 0, 1) := by decide +kernel
theorem dX6_end_2 : decode cX6_end 2 = .ok (.putfield 19, 3) := by decide +kernel
theorem dX6_end_5 : decode cX6_end 5 = .ok (.return_, 1) := by decide +kernel
theorem dX6_leave_0 : decode cX6_leave 0 = .ok (.aload_n 0, 1) := by decide +kernel
theorem dX6_leave_1 : decode cX6_leave 1 = .ok (.getfield 19, 3) := by decide +kernel
theorem dX6_leave_4 : decode cX6_leave 4 = .ok (.ifCond .eq 35, 3) := by decide +kernel
theorem dX6_leave_7 : decode cX6_leave 7 = .ok (.aload_n 0, 1) := by decide +kernel
theorem dX6_leave_8 : decode cX6_leave 8 = .ok (.getfield 15, 3) := by decide +kernel
theorem dX6_leave_11 : decode cX6_leave 11 = .ok (.aload_n 0, 1) := by decide +kernel
theorem dX6_leave_12 : decode cX6_leave 12 = .ok (.getfield 11, 3) := by decide +kernel
theorem dX6_leave_15 : decode cX6_leave 15 = .ok (.arraylength, 1) := by decide +kernel
theorem dX6_leave_16 : decode cX6_leave 16 = .ok (.if_icmp .ge 23, 3) := by decide +kernel
theorem dX6_leave_19 : decode cX6_leave 19 = .ok (.aload_n 0, 1) := by decide +kernel
theorem dX6_leave_20 : decode cX6_leave 20 = .ok (.getfield 11, 3) := by decide +kernel
theorem dX6_leave_23 : decode cX6_leave 23 = .ok (.aload_n 0, 1) := by decide +kernel
theorem dX6_leave_24 : decode cX6_leave 24 = .ok (.getfield 15, 3) := by decide +kernel
theorem dX6_leave_27 : decode cX6_leave 27 = .ok (.iload_n 1, 1) := by decide +kernel
theorem dX6_leave_28 : decode cX6_leave 28 = .ok (.iastore, 1) := by decide +kernel
theorem dX6_leave_29 : decode cX6_leave 29 = .ok (.aload_n 0, 1) := by decide +kernel
theorem dX6_leave_30 : decode cX6_leave 30 = .ok (.dup, 1) := by decide +kernel
theorem dX6_leave_31 : decode cX6_leave 31 = .ok (.getfield 15, 3) := by decide +kernel
theorem dX6_leave_34 : decode cX6_leave 34 = .ok (.iconst 1, 1) := by decide +kernel
theorem dX6_leave_35 : decode cX6_leave 35 = .ok (.iadd, 1) := by decide +kernel
theorem dX6_leave_36 : decode cX6_leave 36 = .ok (.putfield 15, 3) := by decide +kernel
theorem dX6_leave_39 : decode cX6_leave 39 = .ok (.return_, 1) := by decide +kernel
theorem dX6_numberAt_0 : decode cX6_numberAt 0 = .ok (.iload_n 1, 1) := by decide +kernel
theorem dX6_numberAt_1 : decode cX6_numberAt 1 = .ok (.ifCond .lt 29, 3) := by decide +kernel
theorem dX6_numberAt_4 : decode cX6_numberAt 4 = .ok (.iload_n 1, 1) := by decide +kernel
theorem dX6_numberAt_5 : decode cX6_numberAt 5 = .ok (.aload_n 0, 1) := by decide +kernel
theorem dX6_numberAt_6 : decode cX6_numberAt 6 = .ok (.getfield 15, 3) := by decide +kernel
theorem dX6_numberAt_9 : decode cX6_numberAt 9 = .ok (.if_icmp .ge 21, 3) := by decide +kernel
theorem dX6_numberAt_12 : decode cX6_numberAt 12 = .ok (.iload_n 1, 1) := by decide +kernel
theorem dX6_numberAt_13 : decode cX6_numberAt 13 = .ok (.aload_n 0, 1) := by decide +kernel
theorem dX6_numberAt_14 : decode cX6_numberAt 14 = .ok (.getfield 11, 3) := by decide +kernel
theorem dX6_numberAt_17 : decode cX6_numberAt 17 = .ok (.arraylength, 1) := by decide +kernel
theorem dX6_numberAt_18 : decode cX6_numberAt 18 = .ok (.if_icmp .ge 12, 3) := by decide +kernel
theorem dX6_numberAt_21 : decode cX6_numberAt 21 = .ok (.aload_n 0, 1) := by decide +kernel
theorem dX6_numberAt_22 : decode cX6_numberAt 22 = .ok (.getfield 11, 3) := by decide +kernel
theorem dX6_numberAt_25 : decode cX6_numberAt 25 = .ok (.iload_n 1, 1) := by decide +kernel
theorem dX6_numberAt_26 : decode cX6_numberAt 26 = .ok (.iaload, 1) := by decide +kernel
theorem dX6_numberAt_27 : decode cX6_numberAt 27 = .ok (.goto 4, 3) := by decide +kernel
theorem dX6_numberAt_30 : decode cX6_numberAt 30 = .ok (.iconst (-1), 1) := by decide +kernel
theorem dX6_numberAt_31 : decode cX6_numberAt 31 = .ok (.ireturn, 1) := by decide +kernel
theorem dX7_init_0 : decode cX7_init 0 = .ok (.aload_n 0, 1) := by decide +kernel
theorem dX7_init_1 : decode cX7_init 1 = .ok (.iload_n 1, 1) := by decide +kernel
theorem dX7_init_2 : decode cX7_init 2 = .ok (.iload_n 2, 1) := by decide +kernel
theorem dX7_init_3 : decode cX7_init 3 = .ok (.iload_n 3, 1) := by decide +kernel
theorem dX7_init_4 : decode cX7_init 4 = .ok (.aload 4, 2) := by decide +kernel
theorem dX7_init_6 : decode cX7_init 6 = .ok (.invokespecial 1, 3) := by decide +kernel
theorem dX7_init_9 : decode cX7_init 9 = .ok (.return_, 1) := by decide +kernel
theorem dX7_charge_0 : decode cX7_charge 0 = .ok (.aload_n 0, 1) := by decide +kernel
theorem dX7_charge_1 : decode cX7_charge 1 = .ok (.getfield 7, 3) := by decide +kernel
theorem dX7_charge_4 : decode cX7_charge 4 = .ok (.iconst 3, 1) := by decide +kernel
theorem dX7_charge_5 : decode cX7_charge 5 = .ok (.invokevirtual 13, 3) := by decide +kernel
theorem dX7_charge_8 : decode cX7_charge 8 = .ok (.iconst 2, 1) := by decide +kernel
theorem dX7_charge_9 : decode cX7_charge 9 = .ok (.aload_n 0, 1) := by decide +kernel
theorem dX7_charge_10 : decode cX7_charge 10 = .ok (.iload_n 1, 1) := by decide +kernel
theorem dX7_charge_11 : decode cX7_charge 11 = .ok (.invokespecial 19, 3) := by decide +kernel
theorem dX7_charge_14 : decode cX7_charge 14 = .ok (.imul, 1) := by decide +kernel
theorem dX7_charge_15 : decode cX7_charge 15 = .ok (.iconst 5, 1) := by decide +kernel
theorem dX7_charge_16 : decode cX7_charge 16 = .ok (.iconst 0, 1) := by decide +kernel
theorem dX7_charge_17 : decode cX7_charge 17 = .ok (.iload_n 1, 1) := by decide +kernel
theorem dX7_charge_18 : decode cX7_charge 18 = .ok (.bipush 7, 2) := by decide +kernel
theorem dX7_charge_20 : decode cX7_charge 20 = .ok (.isub, 1) := by decide +kernel
theorem dX7_charge_21 : decode cX7_charge 21 = .ok (.invokestatic 23, 3) := by decide +kernel
theorem dX7_charge_24 : decode cX7_charge 24 = .ok (.imul, 1) := by decide +kernel
theorem dX7_charge_25 : decode cX7_charge 25 = .ok (.isub, 1) := by decide +kernel
theorem dX7_charge_26 : decode cX7_charge 26 = .ok (.ireturn, 1) := by decide +kernel
theorem dX7_wear_0 : decode cX7_wear 0 = .ok (.aload_n 0, 1) := by decide +kernel
theorem dX7_wear_1 : decode cX7_wear 1 = .ok (.getfield 7, 3) := by decide +kernel
theorem dX7_wear_4 : decode cX7_wear 4 = .ok (.bipush 12, 2) := by decide +kernel
theorem dX7_wear_6 : decode cX7_wear 6 = .ok (.invokevirtual 13, 3) := by decide +kernel
theorem dX7_wear_9 : decode cX7_wear 9 = .ok (.aload_n 0, 1) := by decide +kernel
theorem dX7_wear_10 : decode cX7_wear 10 = .ok (.iload_n 1, 1) := by decide +kernel
theorem dX7_wear_11 : decode cX7_wear 11 = .ok (.invokespecial 29, 3) := by decide +kernel
theorem dX7_wear_14 : decode cX7_wear 14 = .ok (.aload_n 0, 1) := by decide +kernel
theorem dX7_wear_15 : decode cX7_wear 15 = .ok (.getfield 32, 3) := by decide +kernel
theorem dX7_wear_18 : decode cX7_wear 18 = .ok (.bipush 10, 2) := by decide +kernel
theorem dX7_wear_20 : decode cX7_wear 20 = .ok (.idiv, 1) := by decide +kernel
theorem dX7_wear_21 : decode cX7_wear 21 = .ok (.iadd, 1) := by decide +kernel
theorem dX7_wear_22 : decode cX7_wear 22 = .ok (.ireturn, 1) := by decide +kernel
theorem dX7_deposit_0 : decode cX7_deposit 0 = .ok (.aload_n 0, 1) := by decide +kernel
theorem dX7_deposit_1 : decode cX7_deposit 1 = .ok (.getfield 7, 3) := by decide +kernel
theorem dX7_deposit_4 : decode cX7_deposit 4 = .ok (.bipush 32, 2) := by decide +kernel
theorem dX7_deposit_6 : decode cX7_deposit 6 = .ok (.invokevirtual 13, 3) := by decide +kernel
theorem dX7_deposit_9 : decode cX7_deposit 9 = .ok (.aload_n 0, 1) := by decide +kernel
theorem dX7_deposit_10 : decode cX7_deposit 10 = .ok (.invokespecial 36, 3) := by decide +kernel
theorem dX7_deposit_13 : decode cX7_deposit 13 = .ok (.sipush 500, 3) := by decide +kernel
theorem dX7_deposit_16 : decode cX7_deposit 16 = .ok (.iadd, 1) := by decide +kernel
theorem dX7_deposit_17 : decode cX7_deposit 17 = .ok (.ireturn, 1) := by decide +kernel
theorem dX8_init_0 : decode cX8_init 0 = .ok (.aload_n 0, 1) := by decide +kernel
theorem dX8_init_1 : decode cX8_init 1 = .ok (.invokespecial 1, 3) := by decide +kernel
theorem dX8_init_4 : decode cX8_init 4 = .ok (.aload_n 0, 1) := by decide +kernel
theorem dX8_init_5 : decode cX8_init 5 = .ok (.new 7, 3) := by decide +kernel
theorem dX8_init_8 : decode cX8_init 8 = .ok (.dup, 1) := by decide +kernel
theorem dX8_init_9 : decode cX8_init 9 = .ok (.invokespecial 9, 3) := by decide +kernel
theorem dX8_init_12 : decode cX8_init 12 = .ok (.putfield 10, 3) := by decide +kernel
theorem dX8_init_15 : decode cX8_init 15 = .ok (.aload_n 0, 1) := by decide +kernel
theorem dX8_init_16 : decode cX8_init 16 = .ok (.bipush 24, 2) := by decide +kernel
theorem dX8_init_18 : decode cX8_init 18 = .ok (.anewarray 16, 3) := by decide +kernel
theorem dX8_init_21 : decode cX8_init 21 = .ok (.putfield 18, 3) := by decide +kernel
theorem dX8_init_24 : decode cX8_init 24 = .ok (.aload_n 0, 1) := by decide +kernel
theorem dX8_init_25 : decode cX8_init 25 = .ok (.bipush 6, 2) := by decide +kernel
theorem dX8_init_27 : decode cX8_init 27 = .ok (.newarray .long, 2) := by decide +kernel
theorem dX8_init_29 : decode cX8_init 29 = .ok (.putfield 22, 3) := by decide +kernel
theorem dX8_init_32 : decode cX8_init 32 = .ok (.aload_n 0, 1) := by decide +kernel
theorem dX8_init_33 : decode cX8_init 33 = .ok (.iconst 0, 1) := by decide +kernel
theorem dX8_init_34 : decode cX8_init 34 = .ok (.putfield 26, 3) := by decide +kernel
theorem dX8_init_37 : decode cX8_init 37 = .ok (.aload_n 0, 1) := by decide +kernel
theorem dX8_init_38 : decode cX8_init 38 = .ok (.iconst 0, 1) := by decide +kernel
theorem dX8_init_39 : decode cX8_init 39 = .ok (.putfield 30, 3) := by decide +kernel
theorem dX8_init_42 : decode cX8_init 42 = .ok (.aload_n 0, 1) := by decide +kernel
theorem dX8_init_43 : decode cX8_init 43 = .ok (.iconst 0, 1) := by decide +kernel
theorem dX8_init_44 : decode cX8_init 44 = .ok (.putfield 33, 3) := by decide +kernel
theorem dX8_init_47 : decode cX8_init 47 = .ok (.aload_n 0, 1) := by decide +kernel
theorem dX8_init_48 : decode cX8_init 48 = .ok (.iconst 0, 1) := by decide +kernel
theorem dX8_init_49 : decode cX8_init 49 = .ok (.putfield 36, 3) := by decide +kernel
theorem dX8_init_52 : decode cX8_init 52 = .ok (.return_, 1) := by decide +kernel
theorem dX8_tool_0 : decode cX8_tool 0 = .ok (.iload_n 1, 1) := by decide +kernel
theorem dX8_tool_1 : decode cX8_tool 1 = .ok (.iconst 0, 1) := by decide +kernel
theorem dX8_tool_2 : decode cX8_tool 2 = .ok (.bipush 6, 2) := by decide +kernel
theorem dX8_tool_4 : decode cX8_tool 4 = .ok (.invokestatic 39, 3) := by decide +kernel
theorem dX8_tool_7 : decode cX8_tool 7 = .ok (.ifCond .eq 24, 3) := by decide +kernel
theorem dX8_tool_10 : decode cX8_tool 10 = .ok (.iload_n 2, 1) := by decide +kernel
theorem dX8_tool_11 : decode cX8_tool 11 = .ok (.iconst 1, 1) := by decide +kernel
theorem dX8_tool_12 : decode cX8_tool 12 = .ok (.sipush 1000, 3) := by decide +kernel
theorem dX8_tool_15 : decode cX8_tool 15 = .ok (.invokestatic 39, 3) := by decide +kernel
theorem dX8_tool_18 : decode cX8_tool 18 = .ok (.ifCond .eq 13, 3) := by decide +kernel
theorem dX8_tool_21 : decode cX8_tool 21 = .ok (.iload_n 3, 1) := by decide +kernel
theorem dX8_tool_22 : decode cX8_tool 22 = .ok (.iconst 0, 1) := by decide +kernel
theorem dX8_tool_23 : decode cX8_tool 23 = .ok (.ldc 43, 2) := by decide +kernel
theorem dX8_tool_25 : decode cX8_tool 25 = .ok (.invokestatic 39, 3) := by decide +kernel
theorem dX8_tool_28 : decode cX8_tool 28 = .ok (.ifCond .ne 6, 3) := by decide +kernel
theorem dX8_tool_31 : decode cX8_tool 31 = .ok (.bipush (-2), 2) := by decide +kernel
theorem dX8_tool_33 : decode cX8_tool 33 = .ok (.ireturn, 1) := by decide +kernel
theorem dX8_tool_34 : decode cX8_tool 34 = .ok (.aload_n 0, 1) := by decide +kernel
theorem dX8_tool_35 : decode cX8_tool 35 = .ok (.getfield 26, 3) := by decide +kernel
theorem dX8_tool_38 : decode cX8_tool 38 = .ok (.aload_n 0, 1) := by decide +kernel
theorem dX8_tool_39 : decode cX8_tool 39 = .ok (.getfield 18, 3) := by decide +kernel
theorem dX8_tool_42 : decode cX8_tool 42 = .ok (.arraylength, 1) := by decide +kernel
theorem dX8_tool_43 : decode cX8_tool 43 = .ok (.if_icmp .lt 6, 3) := by decide +kernel
theorem dX8_tool_46 : decode cX8_tool 46 = .ok (.bipush (-4), 2) := by decide +kernel
theorem dX8_tool_48 : decode cX8_tool 48 = .ok (.ireturn, 1) := by decide +kernel
theorem dX8_tool_49 : decode cX8_tool 49 = .ok (.aload_n 0, 1) := by decide +kernel
theorem dX8_tool_50 : decode cX8_tool 50 = .ok (.getfield 26, 3) := by decide +kernel
theorem dX8_tool_53 : decode cX8_tool 53 = .ok (.istore 4, 2) := by decide +kernel
theorem dX8_tool_55 : decode cX8_tool 55 = .ok (.aload_n 0, 1) := by decide +kernel
theorem dX8_tool_56 : decode cX8_tool 56 = .ok (.getfield 18, 3) := by decide +kernel
theorem dX8_tool_59 : decode cX8_tool 59 = .ok (.iload 4, 2) := by decide +kernel
theorem dX8_tool_61 : decode cX8_tool 61 = .ok (.aload_n 0, 1) := by decide +kernel
theorem dX8_tool_62 : decode cX8_tool 62 = .ok (.iload_n 1, 1) := by decide +kernel
theorem dX8_tool_63 : decode cX8_tool 63 = .ok (.iload_n 2, 1) := by decide +kernel
theorem dX8_tool_64 : decode cX8_tool 64 = .ok (.iload_n 3, 1) := by decide +kernel
theorem dX8_tool_65 : decode cX8_tool 65 = .ok (.invokevirtual 44, 3) := by decide +kernel
theorem dX8_tool_68 : decode cX8_tool 68 = .ok (.aastore, 1) := by decide +kernel
theorem dX8_tool_69 : decode cX8_tool 69 = .ok (.aload_n 0, 1) := by decide +kernel
theorem dX8_tool_70 : decode cX8_tool 70 = .ok (.dup, 1) := by decide +kernel
theorem dX8_tool_71 : decode cX8_tool 71 = .ok (.getfield 26, 3) := by decide +kernel
theorem dX8_tool_74 : decode cX8_tool 74 = .ok (.iconst 1, 1) := by decide +kernel
theorem dX8_tool_75 : decode cX8_tool 75 = .ok (.iadd, 1) := by decide +kernel
theorem dX8_tool_76 : decode cX8_tool 76 = .ok (.putfield 26, 3) := by decide +kernel
theorem dX8_tool_79 : decode cX8_tool 79 = .ok (.iload 4, 2) := by decide +kernel
theorem dX8_tool_81 : decode cX8_tool 81 = .ok (.ireturn, 1) := by decide +kernel
theorem dX8_ask_0 : decode cX8_ask 0 = .ok (.aload_n 0, 1) := by decide +kernel
theorem dX8_ask_1 : decode cX8_ask 1 = .ok (.iload_n 1, 1) := by decide +kernel
theorem dX8_ask_2 : decode cX8_ask 2 = .ok (.invokevirtual 48, 3) := by decide +kernel
theorem dX8_ask_5 : decode cX8_ask 5 = .ok (.astore 4, 2) := by decide +kernel
theorem dX8_ask_7 : decode cX8_ask 7 = .ok (.aload 4, 2) := by decide +kernel
theorem dX8_ask_9 : decode cX8_ask 9 = .ok (.ifnull 23, 3) := by decide +kernel
theorem dX8_ask_12 : decode cX8_ask 12 = .ok (.iload_n 2, 1) := by decide +kernel
theorem dX8_ask_13 : decode cX8_ask 13 = .ok (.iconst 0, 1) := by decide +kernel
theorem dX8_ask_14 : decode cX8_ask 14 = .ok (.iconst 5, 1) := by decide +kernel
theorem dX8_ask_15 : decode cX8_ask 15 = .ok (.invokestatic 39, 3) := by decide +kernel
theorem dX8_ask_18 : decode cX8_ask 18 = .ok (.ifCond .eq 14, 3) := by decide +kernel
theorem dX8_ask_21 : decode cX8_ask 21 = .ok (.iload_n 3, 1) := by decide +kernel
theorem dX8_ask_22 : decode cX8_ask 22 = .ok (.iconst 0, 1) := by decide +kernel
theorem dX8_ask_23 : decode cX8_ask 23 = .ok (.sipush 400, 3) := by decide +kernel
theorem dX8_ask_26 : decode cX8_ask 26 = .ok (.invokestatic 39, 3) := by decide +kernel
theorem dX8_ask_29 : decode cX8_ask 29 = .ok (.ifCond .ne 6, 3) := by decide +kernel
theorem dX8_ask_32 : decode cX8_ask 32 = .ok (.bipush (-2), 2) := by decide +kernel
theorem dX8_ask_34 : decode cX8_ask 34 = .ok (.ireturn, 1) := by decide +kernel
theorem dX8_ask_35 : decode cX8_ask 35 = .ok (.aload_n 0, 1) := by decide +kernel
theorem dX8_ask_36 : decode cX8_ask 36 = .ok (.getfield 10, 3) := by decide +kernel
theorem dX8_ask_39 : decode cX8_ask 39 = .ok (.invokevirtual 52, 3) := by decide +kernel
theorem dX8_ask_42 : decode cX8_ask 42 = .ok (.aload 4, 2) := by decide +kernel
theorem dX8_ask_44 : decode cX8_ask 44 = .ok (.iload_n 2, 1) := by decide +kernel
theorem dX8_ask_45 : decode cX8_ask 45 = .ok (.invokestatic 55, 3) := by decide +kernel
theorem dX8_ask_48 : decode cX8_ask 48 = .ok (.ifCond .eq 13, 3) := by decide +kernel
theorem dX8_ask_51 : decode cX8_ask 51 = .ok (.aload 4, 2) := by decide +kernel
theorem dX8_ask_53 : decode cX8_ask 53 = .ok (.iload_n 2, 1) := by decide +kernel
theorem dX8_ask_54 : decode cX8_ask 54 = .ok (.iload_n 3, 1) := by decide +kernel
theorem dX8_ask_55 : decode cX8_ask 55 = .ok (.invokestatic 59, 3) := by decide +kernel
theorem dX8_ask_58 : decode cX8_ask 58 = .ok (.goto 5, 3) := by decide +kernel
theorem dX8_ask_61 : decode cX8_ask 61 = .ok (.bipush (-3), 2) := by decide +kernel
theorem dX8_ask_63 : decode cX8_ask 63 = .ok (.istore 5, 2) := by decide +kernel
theorem dX8_ask_65 : decode cX8_ask 65 = .ok (.aload_n 0, 1) := by decide +kernel
theorem dX8_ask_66 : decode cX8_ask 66 = .ok (.getfield 10, 3) := by decide +kernel
theorem dX8_ask_69 : decode cX8_ask 69 = .ok (.invokevirtual 63, 3) := by decide +kernel
theorem dX8_ask_72 : decode cX8_ask 72 = .ok (.iload 5, 2) := by decide +kernel
theorem dX8_ask_74 : decode cX8_ask 74 = .ok (.ireturn, 1) := by decide +kernel
theorem dX8_trace_0 : decode cX8_trace 0 = .ok (.aload_n 0, 1) := by decide +kernel
theorem dX8_trace_1 : decode cX8_trace 1 = .ok (.getfield 10, 3) := by decide +kernel
theorem dX8_trace_4 : decode cX8_trace 4 = .ok (.iload_n 1, 1) := by decide +kernel
theorem dX8_trace_5 : decode cX8_trace 5 = .ok (.invokevirtual 66, 3) := by decide +kernel
theorem dX8_trace_8 : decode cX8_trace 8 = .ok (.ireturn, 1) := by decide +kernel
theorem dX8_hire_0 : decode cX8_hire 0 = .ok (.aload_n 0, 1) := by decide +kernel
theorem dX8_hire_1 : decode cX8_hire 1 = .ok (.iload_n 1, 1) := by decide +kernel
theorem dX8_hire_2 : decode cX8_hire 2 = .ok (.invokevirtual 48, 3) := by decide +kernel
theorem dX8_hire_5 : decode cX8_hire 5 = .ok (.astore_n 3, 1) := by decide +kernel
theorem dX8_hire_6 : decode cX8_hire 6 = .ok (.aload_n 3, 1) := by decide +kernel
theorem dX8_hire_7 : decode cX8_hire 7 = .ok (.ifnull 10, 3) := by decide +kernel
theorem dX8_hire_10 : decode cX8_hire 10 = .ok (.iload_n 2, 1) := by decide +kernel
theorem dX8_hire_11 : decode cX8_hire 11 = .ok (.invokestatic 70, 3) := by decide +kernel
theorem dX8_hire_14 : decode cX8_hire 14 = .ok (.ifCond .ne 6, 3) := by decide +kernel
theorem dX8_hire_17 : decode cX8_hire 17 = .ok (.bipush (-2), 2) := by decide +kernel
theorem dX8_hire_19 : decode cX8_hire 19 = .ok (.ireturn, 1) := by decide +kernel
theorem dX8_hire_20 : decode cX8_hire 20 = .ok (.aload_n 3, 1) := by decide +kernel
theorem dX8_hire_21 : decode cX8_hire 21 = .ok (.getfield 74, 3) := by decide +kernel
theorem dX8_hire_24 : decode cX8_hire 24 = .ok (.ifCond .ne 12, 3) := by decide +kernel
theorem dX8_hire_27 : decode cX8_hire 27 = .ok (.aload_n 3, 1) := by decide +kernel
end
section
theorem dX8_hire_28 : decode cX8_hire 28 = .ok (.iconst 1, 1) := by decide +kernel
theorem dX8_hire_29 : decode cX8_hire 29 = .ok (.invokevirtual 77, 3) := by decide +kernel
theorem dX8_hire_32 : decode cX8_hire 32 = .ok (.iconst 1, 1) := by decide +kernel
theorem dX8_hire_33 : decode cX8_hire 33 = .ok (.if_icmp .ne 6, 3) := by decide +kernel
theorem dX8_hire_36 : decode cX8_hire 36 = .ok (.bipush (-3), 2) := by decide +kernel
theorem dX8_hire_38 : decode cX8_hire 38 = .ok (.ireturn, 1) := by decide +kernel
theorem dX8_hire_39 : decode cX8_hire 39 = .ok (.aload_n 3, 1) := by decide +kernel
theorem dX8_hire_40 : decode cX8_hire 40 = .ok (.invokevirtual 80, 3) := by decide +kernel
theorem dX8_hire_43 : decode cX8_hire 43 = .ok (.istore 4, 2) := by decide +kernel
theorem dX8_hire_45 : decode cX8_hire 45 = .ok (.aload_n 0, 1) := by decide +kernel
theorem dX8_hire_46 : decode cX8_hire 46 = .ok (.iload_n 2, 1) := by decide +kernel
theorem dX8_hire_47 : decode cX8_hire 47 = .ok (.iload 4, 2) := by decide +kernel
theorem dX8_hire_49 : decode cX8_hire 49 = .ok (.ineg, 1) := by decide +kernel
theorem dX8_hire_50 : decode cX8_hire 50 = .ok (.invokevirtual 84, 3) := by decide +kernel
theorem dX8_hire_53 : decode cX8_hire 53 = .ok (.aload_n 3, 1) := by decide +kernel
theorem dX8_hire_54 : decode cX8_hire 54 = .ok (.iload_n 2, 1) := by decide +kernel
theorem dX8_hire_55 : decode cX8_hire 55 = .ok (.aload_n 0, 1) := by decide +kernel
theorem dX8_hire_56 : decode cX8_hire 56 = .ok (.getfield 30, 3) := by decide +kernel
theorem dX8_hire_59 : decode cX8_hire 59 = .ok (.invokevirtual 88, 3) := by decide +kernel
theorem dX8_hire_62 : decode cX8_hire 62 = .ok (.aload_n 0, 1) := by decide +kernel
theorem dX8_hire_63 : decode cX8_hire 63 = .ok (.dup, 1) := by decide +kernel
theorem dX8_hire_64 : decode cX8_hire 64 = .ok (.getfield 36, 3) := by decide +kernel
theorem dX8_hire_67 : decode cX8_hire 67 = .ok (.iconst 1, 1) := by decide +kernel
theorem dX8_hire_68 : decode cX8_hire 68 = .ok (.iadd, 1) := by decide +kernel
theorem dX8_hire_69 : decode cX8_hire 69 = .ok (.putfield 36, 3) := by decide +kernel
theorem dX8_hire_72 : decode cX8_hire 72 = .ok (.iload 4, 2) := by decide +kernel
theorem dX8_hire_74 : decode cX8_hire 74 = .ok (.ireturn, 1) := by decide +kernel
theorem dX8_back_0 : decode cX8_back 0 = .ok (.aload_n 0, 1) := by decide +kernel
theorem dX8_back_1 : decode cX8_back 1 = .ok (.iload_n 1, 1) := by decide +kernel
theorem dX8_back_2 : decode cX8_back 2 = .ok (.invokevirtual 48, 3) := by decide +kernel
theorem dX8_back_5 : decode cX8_back 5 = .ok (.astore_n 2, 1) := by decide +kernel
theorem dX8_back_6 : decode cX8_back 6 = .ok (.aload_n 2, 1) := by decide +kernel
theorem dX8_back_7 : decode cX8_back 7 = .ok (.ifnonnull 6, 3) := by decide +kernel
theorem dX8_back_10 : decode cX8_back 10 = .ok (.bipush (-2), 2) := by decide +kernel
theorem dX8_back_12 : decode cX8_back 12 = .ok (.ireturn, 1) := by decide +kernel
theorem dX8_back_13 : decode cX8_back 13 = .ok (.aload_n 2, 1) := by decide +kernel
theorem dX8_back_14 : decode cX8_back 14 = .ok (.getfield 74, 3) := by decide +kernel
theorem dX8_back_17 : decode cX8_back 17 = .ok (.iconst 1, 1) := by decide +kernel
theorem dX8_back_18 : decode cX8_back 18 = .ok (.if_icmp .eq 6, 3) := by decide +kernel
theorem dX8_back_21 : decode cX8_back 21 = .ok (.bipush (-3), 2) := by decide +kernel
theorem dX8_back_23 : decode cX8_back 23 = .ok (.ireturn, 1) := by decide +kernel
theorem dX8_back_24 : decode cX8_back 24 = .ok (.iconst 1, 1) := by decide +kernel
theorem dX8_back_25 : decode cX8_back 25 = .ok (.aload_n 0, 1) := by decide +kernel
theorem dX8_back_26 : decode cX8_back 26 = .ok (.getfield 30, 3) := by decide +kernel
theorem dX8_back_29 : decode cX8_back 29 = .ok (.aload_n 2, 1) := by decide +kernel
theorem dX8_back_30 : decode cX8_back 30 = .ok (.getfield 91, 3) := by decide +kernel
theorem dX8_back_33 : decode cX8_back 33 = .ok (.isub, 1) := by decide +kernel
theorem dX8_back_34 : decode cX8_back 34 = .ok (.invokestatic 94, 3) := by decide +kernel
theorem dX8_back_37 : decode cX8_back 37 = .ok (.istore_n 3, 1) := by decide +kernel
theorem dX8_back_38 : decode cX8_back 38 = .ok (.aload_n 2, 1) := by decide +kernel
theorem dX8_back_39 : decode cX8_back 39 = .ok (.iload_n 3, 1) := by decide +kernel
theorem dX8_back_40 : decode cX8_back 40 = .ok (.invokevirtual 100, 3) := by decide +kernel
theorem dX8_back_43 : decode cX8_back 43 = .ok (.aload_n 2, 1) := by decide +kernel
theorem dX8_back_44 : decode cX8_back 44 = .ok (.iload_n 3, 1) := by decide +kernel
theorem dX8_back_45 : decode cX8_back 45 = .ok (.invokevirtual 103, 3) := by decide +kernel
theorem dX8_back_48 : decode cX8_back 48 = .ok (.iadd, 1) := by decide +kernel
theorem dX8_back_49 : decode cX8_back 49 = .ok (.istore 4, 2) := by decide +kernel
theorem dX8_back_51 : decode cX8_back 51 = .ok (.aload_n 0, 1) := by decide +kernel
theorem dX8_back_52 : decode cX8_back 52 = .ok (.aload_n 2, 1) := by decide +kernel
theorem dX8_back_53 : decode cX8_back 53 = .ok (.getfield 106, 3) := by decide +kernel
theorem dX8_back_56 : decode cX8_back 56 = .ok (.aload_n 2, 1) := by decide +kernel
theorem dX8_back_57 : decode cX8_back 57 = .ok (.invokevirtual 80, 3) := by decide +kernel
theorem dX8_back_60 : decode cX8_back 60 = .ok (.iload 4, 2) := by decide +kernel
theorem dX8_back_62 : decode cX8_back 62 = .ok (.isub, 1) := by decide +kernel
theorem dX8_back_63 : decode cX8_back 63 = .ok (.invokevirtual 84, 3) := by decide +kernel
theorem dX8_back_66 : decode cX8_back 66 = .ok (.aload_n 2, 1) := by decide +kernel
theorem dX8_back_67 : decode cX8_back 67 = .ok (.iload_n 3, 1) := by decide +kernel
theorem dX8_back_68 : decode cX8_back 68 = .ok (.invokevirtual 109, 3) := by decide +kernel
theorem dX8_back_71 : decode cX8_back 71 = .ok (.iload 4, 2) := by decide +kernel
theorem dX8_back_73 : decode cX8_back 73 = .ok (.ireturn, 1) := by decide +kernel
theorem dX8_service_0 : decode cX8_service 0 = .ok (.aload_n 0, 1) := by decide +kernel
theorem dX8_service_1 : decode cX8_service 1 = .ok (.iload_n 1, 1) := by decide +kernel
theorem dX8_service_2 : decode cX8_service 2 = .ok (.invokevirtual 48, 3) := by decide +kernel
theorem dX8_service_5 : decode cX8_service 5 = .ok (.astore_n 2, 1) := by decide +kernel
theorem dX8_service_6 : decode cX8_service 6 = .ok (.aload_n 2, 1) := by decide +kernel
theorem dX8_service_7 : decode cX8_service 7 = .ok (.ifnonnull 6, 3) := by decide +kernel
theorem dX8_service_10 : decode cX8_service 10 = .ok (.bipush (-2), 2) := by decide +kernel
theorem dX8_service_12 : decode cX8_service 12 = .ok (.ireturn, 1) := by decide +kernel
theorem dX8_service_13 : decode cX8_service 13 = .ok (.aload_n 2, 1) := by decide +kernel
theorem dX8_service_14 : decode cX8_service 14 = .ok (.getfield 74, 3) := by decide +kernel
theorem dX8_service_17 : decode cX8_service 17 = .ok (.iconst 1, 1) := by decide +kernel
theorem dX8_service_18 : decode cX8_service 18 = .ok (.if_icmp .ne 6, 3) := by decide +kernel
theorem dX8_service_21 : decode cX8_service 21 = .ok (.bipush (-3), 2) := by decide +kernel
theorem dX8_service_23 : decode cX8_service 23 = .ok (.ireturn, 1) := by decide +kernel
theorem dX8_service_24 : decode cX8_service 24 = .ok (.bipush 100, 2) := by decide +kernel
theorem dX8_service_26 : decode cX8_service 26 = .ok (.bipush 50, 2) := by decide +kernel
theorem dX8_service_28 : decode cX8_service 28 = .ok (.aload_n 2, 1) := by decide +kernel
theorem dX8_service_29 : decode cX8_service 29 = .ok (.invokevirtual 113, 3) := by decide +kernel
theorem dX8_service_32 : decode cX8_service 32 = .ok (.imul, 1) := by decide +kernel
theorem dX8_service_33 : decode cX8_service 33 = .ok (.iadd, 1) := by decide +kernel
theorem dX8_service_34 : decode cX8_service 34 = .ok (.istore_n 3, 1) := by decide +kernel
theorem dX8_service_35 : decode cX8_service 35 = .ok (.aload_n 2, 1) := by decide +kernel
theorem dX8_service_36 : decode cX8_service 36 = .ok (.invokevirtual 116, 3) := by decide +kernel
theorem dX8_service_39 : decode cX8_service 39 = .ok (.aload_n 0, 1) := by decide +kernel
theorem dX8_service_40 : decode cX8_service 40 = .ok (.dup, 1) := by decide +kernel
theorem dX8_service_41 : decode cX8_service 41 = .ok (.getfield 33, 3) := by decide +kernel
theorem dX8_service_44 : decode cX8_service 44 = .ok (.iload_n 3, 1) := by decide +kernel
theorem dX8_service_45 : decode cX8_service 45 = .ok (.iadd, 1) := by decide +kernel
theorem dX8_service_46 : decode cX8_service 46 = .ok (.putfield 33, 3) := by decide +kernel
theorem dX8_service_49 : decode cX8_service 49 = .ok (.iload_n 3, 1) := by decide +kernel
theorem dX8_service_50 : decode cX8_service 50 = .ok (.ireturn, 1) := by decide +kernel
theorem dX8_day_0 : decode cX8_day 0 = .ok (.iload_n 1, 1) := by decide +kernel
theorem dX8_day_1 : decode cX8_day 1 = .ok (.iconst 1, 1) := by decide +kernel
theorem dX8_day_2 : decode cX8_day 2 = .ok (.bipush 50, 2) := by decide +kernel
theorem dX8_day_4 : decode cX8_day 4 = .ok (.invokestatic 39, 3) := by decide +kernel
theorem dX8_day_7 : decode cX8_day 7 = .ok (.ifCond .ne 6, 3) := by decide +kernel
theorem dX8_day_10 : decode cX8_day 10 = .ok (.bipush (-2), 2) := by decide +kernel
theorem dX8_day_12 : decode cX8_day 12 = .ok (.ireturn, 1) := by decide +kernel
theorem dX8_day_13 : decode cX8_day 13 = .ok (.aload_n 0, 1) := by decide +kernel
theorem dX8_day_14 : decode cX8_day 14 = .ok (.getfield 30, 3) := by decide +kernel
theorem dX8_day_17 : decode cX8_day 17 = .ok (.iload_n 1, 1) := by decide +kernel
theorem dX8_day_18 : decode cX8_day 18 = .ok (.iadd, 1) := by decide +kernel
theorem dX8_day_19 : decode cX8_day 19 = .ok (.sipush 20000, 3) := by decide +kernel
theorem dX8_day_22 : decode cX8_day 22 = .ok (.if_icmp .le 6, 3) := by decide +kernel
theorem dX8_day_25 : decode cX8_day 25 = .ok (.bipush (-4), 2) := by decide +kernel
theorem dX8_day_27 : decode cX8_day 27 = .ok (.ireturn, 1) := by decide +kernel
theorem dX8_day_28 : decode cX8_day 28 = .ok (.aload_n 0, 1) := by decide +kernel
theorem dX8_day_29 : decode cX8_day 29 = .ok (.dup, 1) := by decide +kernel
theorem dX8_day_30 : decode cX8_day 30 = .ok (.getfield 30, 3) := by decide +kernel
theorem dX8_day_33 : decode cX8_day 33 = .ok (.iload_n 1, 1) := by decide +kernel
theorem dX8_day_34 : decode cX8_day 34 = .ok (.iadd, 1) := by decide +kernel
theorem dX8_day_35 : decode cX8_day 35 = .ok (.putfield 30, 3) := by decide +kernel
theorem dX8_day_38 : decode cX8_day 38 = .ok (.aload_n 0, 1) := by decide +kernel
theorem dX8_day_39 : decode cX8_day 39 = .ok (.getfield 30, 3) := by decide +kernel
theorem dX8_day_42 : decode cX8_day 42 = .ok (.ireturn, 1) := by decide +kernel
theorem dX8_account_0 : decode cX8_account 0 = .ok (.iload_n 1, 1) := by decide +kernel
theorem dX8_account_1 : decode cX8_account 1 = .ok (.invokestatic 70, 3) := by decide +kernel
theorem dX8_account_4 : decode cX8_account 4 = .ok (.ifCond .eq 12, 3) := by decide +kernel
theorem dX8_account_7 : decode cX8_account 7 = .ok (.aload_n 0, 1) := by decide +kernel
theorem dX8_account_8 : decode cX8_account 8 = .ok (.getfield 22, 3) := by decide +kernel
theorem dX8_account_11 : decode cX8_account 11 = .ok (.iload_n 1, 1) := by decide +kernel
theorem dX8_account_12 : decode cX8_account 12 = .ok (.laload, 1) := by decide +kernel
theorem dX8_account_13 : decode cX8_account 13 = .ok (.goto 4, 3) := by decide +kernel
theorem dX8_account_16 : decode cX8_account 16 = .ok (.lconst 0, 1) := by decide +kernel
theorem dX8_account_17 : decode cX8_account 17 = .ok (.lreturn, 1) := by decide +kernel
theorem dX8_told_0 : decode cX8_told 0 = .ok (.aload_n 0, 1) := by decide +kernel
theorem dX8_told_1 : decode cX8_told 1 = .ok (.iload_n 1, 1) := by decide +kernel
theorem dX8_told_2 : decode cX8_told 2 = .ok (.invokevirtual 48, 3) := by decide +kernel
theorem dX8_told_5 : decode cX8_told 5 = .ok (.astore_n 3, 1) := by decide +kernel
theorem dX8_told_6 : decode cX8_told 6 = .ok (.aload_n 3, 1) := by decide +kernel
theorem dX8_told_7 : decode cX8_told 7 = .ok (.ifnonnull 6, 3) := by decide +kernel
theorem dX8_told_10 : decode cX8_told 10 = .ok (.bipush (-2), 2) := by decide +kernel
theorem dX8_told_12 : decode cX8_told 12 = .ok (.ireturn, 1) := by decide +kernel
theorem dX8_told_13 : decode cX8_told 13 = .ok (.iload_n 2, 1) := by decide +kernel
theorem dX8_told_14 : decode cX8_told 14 = .ok (.tableswitch 93 0 6 #[42, 47, 52, 57, 62, 67, 80], 42) := by decide +kernel
theorem dX8_told_56 : decode cX8_told 56 = .ok (.aload_n 3, 1) := by decide +kernel
theorem dX8_told_57 : decode cX8_told 57 = .ok (.getfield 119, 3) := by decide +kernel
theorem dX8_told_60 : decode cX8_told 60 = .ok (.ireturn, 1) := by decide +kernel
theorem dX8_told_61 : decode cX8_told 61 = .ok (.aload_n 3, 1) := by decide +kernel
theorem dX8_told_62 : decode cX8_told 62 = .ok (.getfield 122, 3) := by decide +kernel
theorem dX8_told_65 : decode cX8_told 65 = .ok (.ireturn, 1) := by decide +kernel
theorem dX8_told_66 : decode cX8_told 66 = .ok (.aload_n 3, 1) := by decide +kernel
theorem dX8_told_67 : decode cX8_told 67 = .ok (.getfield 74, 3) := by decide +kernel
theorem dX8_told_70 : decode cX8_told 70 = .ok (.ireturn, 1) := by decide +kernel
theorem dX8_told_71 : decode cX8_told 71 = .ok (.aload_n 3, 1) := by decide +kernel
theorem dX8_told_72 : decode cX8_told 72 = .ok (.getfield 106, 3) := by decide +kernel
theorem dX8_told_75 : decode cX8_told 75 = .ok (.ireturn, 1) := by decide +kernel
theorem dX8_told_76 : decode cX8_told 76 = .ok (.aload_n 3, 1) := by decide +kernel
theorem dX8_told_77 : decode cX8_told 77 = .ok (.getfield 91, 3) := by decide +kernel
theorem dX8_told_80 : decode cX8_told 80 = .ok (.ireturn, 1) := by decide +kernel
theorem dX8_told_81 : decode cX8_told 81 = .ok (.aload_n 3, 1) := by decide +kernel
theorem dX8_told_82 : decode cX8_told 82 = .ok (.invokevirtual 125, 3) := by decide +kernel
theorem dX8_told_85 : decode cX8_told 85 = .ok (.ifCond .eq 7, 3) := by decide +kernel
theorem dX8_told_88 : decode cX8_told 88 = .ok (.iconst 1, 1) := by decide +kernel
theorem dX8_told_89 : decode cX8_told 89 = .ok (.goto 4, 3) := by decide +kernel
theorem dX8_told_92 : decode cX8_told 92 = .ok (.iconst 0, 1) := by decide +kernel
theorem dX8_told_93 : decode cX8_told 93 = .ok (.ireturn, 1) := by decide +kernel
theorem dX8_told_94 : decode cX8_told 94 = .ok (.aload_n 3, 1) := by decide +kernel
theorem dX8_told_95 : decode cX8_told 95 = .ok (.invokevirtual 129, 3) := by decide +kernel
theorem dX8_told_98 : decode cX8_told 98 = .ok (.ifCond .eq 7, 3) := by decide +kernel
theorem dX8_told_101 : decode cX8_told 101 = .ok (.iconst 1, 1) := by decide +kernel
theorem dX8_told_102 : decode cX8_told 102 = .ok (.goto 4, 3) := by decide +kernel
theorem dX8_told_105 : decode cX8_told 105 = .ok (.iconst 0, 1) := by decide +kernel
theorem dX8_told_106 : decode cX8_told 106 = .ok (.ireturn, 1) := by decide +kernel
theorem dX8_told_107 : decode cX8_told 107 = .ok (.bipush (-2), 2) := by decide +kernel
theorem dX8_told_109 : decode cX8_told 109 = .ok (.ireturn, 1) := by decide +kernel
theorem dX8_count_0 : decode cX8_count 0 = .ok (.iload_n 1, 1) := by decide +kernel
theorem dX8_count_1 : decode cX8_count 1 = .ok (.tableswitch 72 0 5 #[39, 45, 51, 57, 62, 67], 39) := by decide +kernel
theorem dX8_count_40 : decode cX8_count 40 = .ok (.aload_n 0, 1) := by decide +kernel
theorem dX8_count_41 : decode cX8_count 41 = .ok (.iconst 0, 1) := by decide +kernel
theorem dX8_count_42 : decode cX8_count 42 = .ok (.invokevirtual 132, 3) := by decide +kernel
theorem dX8_count_45 : decode cX8_count 45 = .ok (.ireturn, 1) := by decide +kernel
theorem dX8_count_46 : decode cX8_count 46 = .ok (.aload_n 0, 1) := by decide +kernel
theorem dX8_count_47 : decode cX8_count 47 = .ok (.iconst 1, 1) := by decide +kernel
theorem dX8_count_48 : decode cX8_count 48 = .ok (.invokevirtual 132, 3) := by decide +kernel
theorem dX8_count_51 : decode cX8_count 51 = .ok (.ireturn, 1) := by decide +kernel
theorem dX8_count_52 : decode cX8_count 52 = .ok (.aload_n 0, 1) := by decide +kernel
theorem dX8_count_53 : decode cX8_count 53 = .ok (.iconst 2, 1) := by decide +kernel
theorem dX8_count_54 : decode cX8_count 54 = .ok (.invokevirtual 132, 3) := by decide +kernel
theorem dX8_count_57 : decode cX8_count 57 = .ok (.ireturn, 1) := by decide +kernel
theorem dX8_count_58 : decode cX8_count 58 = .ok (.aload_n 0, 1) := by decide +kernel
theorem dX8_count_59 : decode cX8_count 59 = .ok (.getfield 30, 3) := by decide +kernel
theorem dX8_count_62 : decode cX8_count 62 = .ok (.ireturn, 1) := by decide +kernel
theorem dX8_count_63 : decode cX8_count 63 = .ok (.aload_n 0, 1) := by decide +kernel
theorem dX8_count_64 : decode cX8_count 64 = .ok (.getfield 33, 3) := by decide +kernel
theorem dX8_count_67 : decode cX8_count 67 = .ok (.ireturn, 1) := by decide +kernel
theorem dX8_count_68 : decode cX8_count 68 = .ok (.aload_n 0, 1) := by decide +kernel
theorem dX8_count_69 : decode cX8_count 69 = .ok (.getfield 36, 3) := by decide +kernel
theorem dX8_count_72 : decode cX8_count 72 = .ok (.ireturn, 1) := by decide +kernel
theorem dX8_count_73 : decode cX8_count 73 = .ok (.bipush (-2), 2) := by decide +kernel
theorem dX8_count_75 : decode cX8_count 75 = .ok (.ireturn, 1) := by decide +kernel
theorem dX8_isWithin_0 : decode cX8_isWithin 0 = .ok (.iload_n 0, 1) := by decide +kernel
theorem dX8_isWithin_1 : decode cX8_isWithin 1 = .ok (.iload_n 1, 1) := by decide +kernel
theorem dX8_isWithin_2 : decode cX8_isWithin 2 = .ok (.if_icmp .lt 12, 3) := by decide +kernel
theorem dX8_isWithin_5 : decode cX8_isWithin 5 = .ok (.iload_n 0, 1) := by decide +kernel
theorem dX8_isWithin_6 : decode cX8_isWithin 6 = .ok (.iload_n 2, 1) := by decide +kernel
theorem dX8_isWithin_7 : decode cX8_isWithin 7 = .ok (.if_icmp .gt 7, 3) := by decide +kernel
theorem dX8_isWithin_10 : decode cX8_isWithin 10 = .ok (.iconst 1, 1) := by decide +kernel
theorem dX8_isWithin_11 : decode cX8_isWithin 11 = .ok (.goto 4, 3) := by decide +kernel
theorem dX8_isWithin_14 : decode cX8_isWithin 14 = .ok (.iconst 0, 1) := by decide +kernel
theorem dX8_isWithin_15 : decode cX8_isWithin 15 = .ok (.ireturn, 1) := by decide +kernel
theorem dX8_isCustomer_0 : decode cX8_isCustomer 0 = .ok (.iload_n 0, 1) := by decide +kernel
theorem dX8_isCustomer_1 : decode cX8_isCustomer 1 = .ok (.iconst 0, 1) := by decide +kernel
theorem dX8_isCustomer_2 : decode cX8_isCustomer 2 = .ok (.iconst 5, 1) := by decide +kernel
theorem dX8_isCustomer_3 : decode cX8_isCustomer 3 = .ok (.invokestatic 39, 3) := by decide +kernel
theorem dX8_isCustomer_6 : decode cX8_isCustomer 6 = .ok (.ireturn, 1) := by decide +kernel
theorem dX8_toolAt_0 : decode cX8_toolAt 0 = .ok (.iload_n 1, 1) := by decide +kernel
theorem dX8_toolAt_1 : decode cX8_toolAt 1 = .ok (.ifCond .lt 21, 3) := by decide +kernel
theorem dX8_toolAt_4 : decode cX8_toolAt 4 = .ok (.iload_n 1, 1) := by decide +kernel
theorem dX8_toolAt_5 : decode cX8_toolAt 5 = .ok (.aload_n 0, 1) := by decide +kernel
theorem dX8_toolAt_6 : decode cX8_toolAt 6 = .ok (.getfield 18, 3) := by decide +kernel
theorem dX8_toolAt_9 : decode cX8_toolAt 9 = .ok (.arraylength, 1) := by decide +kernel
theorem dX8_toolAt_10 : decode cX8_toolAt 10 = .ok (.if_icmp .ge 12, 3) := by decide +kernel
theorem dX8_toolAt_13 : decode cX8_toolAt 13 = .ok (.aload_n 0, 1) := by decide +kernel
theorem dX8_toolAt_14 : decode cX8_toolAt 14 = .ok (.getfield 18, 3) := by decide +kernel
theorem dX8_toolAt_17 : decode cX8_toolAt 17 = .ok (.iload_n 1, 1) := by decide +kernel
theorem dX8_toolAt_18 : decode cX8_toolAt 18 = .ok (.aaload, 1) := by decide +kernel
theorem dX8_toolAt_19 : decode cX8_toolAt 19 = .ok (.goto 4, 3) := by decide +kernel
theorem dX8_toolAt_22 : decode cX8_toolAt 22 = .ok (.aconst_null, 1) := by decide +kernel
theorem dX8_toolAt_23 : decode cX8_toolAt 23 = .ok (.areturn, 1) := by decide +kernel
theorem dX8_newTool_0 : decode cX8_newTool 0 = .ok (.iload_n 1, 1) := by decide +kernel
theorem dX8_newTool_1 : decode cX8_newTool 1 = .ok (.tableswitch 129 1 6 #[39, 54, 69, 84, 99, 114], 39) := by decide +kernel
theorem dX8_newTool_40 : decode cX8_newTool 40 = .ok (.new 135, 3) := by decide +kernel
theorem dX8_newTool_43 : decode cX8_newTool 43 = .ok (.dup, 1) := by decide +kernel
theorem dX8_newTool_44 : decode cX8_newTool 44 = .ok (.iload_n 1, 1) := by decide +kernel
theorem dX8_newTool_45 : decode cX8_newTool 45 = .ok (.iload_n 2, 1) := by decide +kernel
theorem dX8_newTool_46 : decode cX8_newTool 46 = .ok (.iload_n 3, 1) := by decide +kernel
theorem dX8_newTool_47 : decode cX8_newTool 47 = .ok (.aload_n 0, 1) := by decide +kernel
theorem dX8_newTool_48 : decode cX8_newTool 48 = .ok (.getfield 10, 3) := by decide +kernel
theorem dX8_newTool_51 : decode cX8_newTool 51 = .ok (.invokespecial 137, 3) := by decide +kernel
theorem dX8_newTool_54 : decode cX8_newTool 54 = .ok (.areturn, 1) := by decide +kernel
theorem dX8_newTool_55 : decode cX8_newTool 55 = .ok (.new 140, 3) := by decide +kernel
theorem dX8_newTool_58 : decode cX8_newTool 58 = .ok (.dup, 1) := by decide +kernel
theorem dX8_newTool_59 : decode cX8_newTool 59 = .ok (.iload_n 1, 1) := by decide +kernel
theorem dX8_newTool_60 : decode cX8_newTool 60 = .ok (.iload_n 2, 1) := by decide +kernel
theorem dX8_newTool_61 : decode cX8_newTool 61 = .ok (.iload_n 3, 1) := by decide +kernel
theorem dX8_newTool_62 : decode cX8_newTool 62 = .ok (.aload_n 0, 1) := by decide +kernel
theorem dX8_newTool_63 : decode cX8_newTool 63 = .ok (.getfield 10, 3) := by decide +kernel
theorem dX8_newTool_66 : decode cX8_newTool 66 = .ok (.invokespecial 142, 3) := by decide +kernel
theorem dX8_newTool_69 : decode cX8_newTool 69 = .ok (.areturn, 1) := by decide +kernel
theorem dX8_newTool_70 : decode cX8_newTool 70 = .ok (.new 143, 3) := by decide +kernel
theorem dX8_newTool_73 : decode cX8_newTool 73 = .ok (.dup, 1) := by decide +kernel
theorem dX8_newTool_74 : decode cX8_newTool 74 = .ok (.iload_n 1, 1) := by decide +kernel
theorem dX8_newTool_75 : decode cX8_newTool 75 = .ok (.iload_n 2, 1) := by decide +kernel
theorem dX8_newTool_76 : decode cX8_newTool 76 = .ok (.iload_n 3, 1) := by decide +kernel
theorem dX8_newTool_77 : decode cX8_newTool 77 = .ok (.aload_n 0, 1) := by decide +kernel
theorem dX8_newTool_78 : decode cX8_newTool 78 = .ok (.getfield 10, 3) := by decide +kernel
theorem dX8_newTool_81 : decode cX8_newTool 81 = .ok (.invokespecial 145, 3) := by decide +kernel
theorem dX8_newTool_84 : decode cX8_newTool 84 = .ok (.areturn, 1) := by decide +kernel
theorem dX8_newTool_85 : decode cX8_newTool 85 = .ok (.new 146, 3) := by decide +kernel
theorem dX8_newTool_88 : decode cX8_newTool 88 = .ok (.dup, 1) := by decide +kernel
theorem dX8_newTool_89 : decode cX8_newTool 89 = .ok (.iload_n 1, 1) := by decide +kernel
theorem dX8_newTool_90 : decode cX8_newTool 90 = .ok (.iload_n 2, 1) := by decide +kernel
theorem dX8_newTool_91 : decode cX8_newTool 91 = .ok (.iload_n 3, 1) := by decide +kernel
theorem dX8_newTool_92 : decode cX8_newTool 92 = .ok (.aload_n 0, 1) := by decide +kernel
theorem dX8_newTool_93 : decode cX8_newTool 93 = .ok (.getfield 10, 3) := by decide +kernel
theorem dX8_newTool_96 : decode cX8_newTool 96 = .ok (.invokespecial 148, 3) := by decide +kernel
theorem dX8_newTool_99 : decode cX8_newTool 99 = .ok (.areturn, 1) := by decide +kernel
theorem dX8_newTool_100 : decode cX8_newTool 100 = .ok (.new 149, 3) := by decide +kernel
theorem dX8_newTool_103 : decode cX8_newTool 103 = .ok (.dup, 1) := by decide +kernel
theorem dX8_newTool_104 : decode cX8_newTool 104 = .ok (.iload_n 1, 1) := by decide +kernel
theorem dX8_newTool_105 : decode cX8_newTool 105 = .ok (.iload_n 2, 1) := by decide +kernel
theorem dX8_newTool_106 : decode cX8_newTool 106 = .ok (.iload_n 3, 1) := by decide +kernel
theorem dX8_newTool_107 : decode cX8_newTool 107 = .ok (.aload_n 0, 1) := by decide +kernel
theorem dX8_newTool_108 : decode cX8_newTool 108 = .ok (.getfield 10, 3) := by decide +kernel
theorem dX8_newTool_111 : decode cX8_newTool 111 = .ok (.invokespecial 151, 3) := by decide +kernel
theorem dX8_newTool_114 : decode cX8_newTool 114 = .ok (.areturn, 1) := by decide +kernel
theorem dX8_newTool_115 : decode cX8_newTool 115 = .ok (.new 152, 3) := by decide +kernel
theorem dX8_newTool_118 : decode cX8_newTool 118 = .ok (.dup, 1) := by decide +kernel
theorem dX8_newTool_119 : decode cX8_newTool 119 = .ok (.iload_n 1, 1) := by decide +kernel
theorem dX8_newTool_120 : decode cX8_newTool 120 = .ok (.iload_n 2, 1) := by decide +kernel
theorem dX8_newTool_121 : decode cX8_newTool 121 = .ok (.iload_n 3, 1) := by decide +kernel
theorem dX8_newTool_122 : decode cX8_newTool 122 = .ok (.aload_n 0, 1) := by decide +kernel
theorem dX8_newTool_123 : decode cX8_newTool 123 = .ok (.getfield 10, 3) := by decide +kernel
theorem dX8_newTool_126 : decode cX8_newTool 126 = .ok (.invokespecial 154, 3) := by decide +kernel
theorem dX8_newTool_129 : decode cX8_newTool 129 = .ok (.areturn, 1) := by decide +kernel
theorem dX8_newTool_130 : decode cX8_newTool 130 = .ok (.new 16, 3) := by decide +kernel
theorem dX8_newTool_133 : decode cX8_newTool 133 = .ok (.dup, 1) := by decide +kernel
theorem dX8_newTool_134 : decode cX8_newTool 134 = .ok (.iload_n 1, 1) := by decide +kernel
theorem dX8_newTool_135 : decode cX8_newTool 135 = .ok (.iload_n 2, 1) := by decide +kernel
theorem dX8_newTool_136 : decode cX8_newTool 136 = .ok (.iload_n 3, 1) := by decide +kernel
theorem dX8_newTool_137 : decode cX8_newTool 137 = .ok (.aload_n 0, 1) := by decide +kernel
theorem dX8_newTool_138 : decode cX8_newTool 138 = .ok (.getfield 10, 3) := by decide +kernel
theorem dX8_newTool_141 : decode cX8_newTool 141 = .ok (.invokespecial 155, 3) := by decide +kernel
theorem dX8_newTool_144 : decode cX8_newTool 144 = .ok (.areturn, 1) := by decide +kernel
theorem dX8_hasAnswer_0 : decode cX8_hasAnswer 0 = .ok (.iload_n 1, 1) := by decide +kernel
theorem dX8_hasAnswer_1 : decode cX8_hasAnswer 1 = .ok (.tableswitch 42 3 5 #[27, 32, 37], 27) := by decide +kernel
theorem dX8_hasAnswer_28 : decode cX8_hasAnswer 28 = .ok (.aload_n 0, 1) := by decide +kernel
theorem dX8_hasAnswer_29 : decode cX8_hasAnswer 29 = .ok (.invokevirtual 156, 3) := by decide +kernel
theorem dX8_hasAnswer_32 : decode cX8_hasAnswer 32 = .ok (.ireturn, 1) := by decide +kernel
theorem dX8_hasAnswer_33 : decode cX8_hasAnswer 33 = .ok (.aload_n 0, 1) := by decide +kernel
theorem dX8_hasAnswer_34 : decode cX8_hasAnswer 34 = .ok (.invokevirtual 125, 3) := by decide +kernel
theorem dX8_hasAnswer_37 : decode cX8_hasAnswer 37 = .ok (.ireturn, 1) := by decide +kernel
theorem dX8_hasAnswer_38 : decode cX8_hasAnswer 38 = .ok (.aload_n 0, 1) := by decide +kernel
theorem dX8_hasAnswer_39 : decode cX8_hasAnswer 39 = .ok (.invokevirtual 129, 3) := by decide +kernel
theorem dX8_hasAnswer_42 : decode cX8_hasAnswer 42 = .ok (.ireturn, 1) := by decide +kernel
theorem dX8_hasAnswer_43 : decode cX8_hasAnswer 43 = .ok (.iconst 1, 1) := by decide +kernel
theorem dX8_hasAnswer_44 : decode cX8_hasAnswer 44 = .ok (.ireturn, 1) := by decide +kernel
theorem dX8_answerOf_0 : decode cX8_answerOf 0 = .ok (.iload_n 1, 1) := by decide +kernel
theorem dX8_answerOf_1 : decode cX8_answerOf 1 = .ok (.tableswitch 73 0 5 #[39, 45, 51, 56, 61, 67], 39) := by decide +kernel
theorem dX8_answerOf_40 : decode cX8_answerOf 40 = .ok (.aload_n 0, 1) := by decide +kernel
theorem dX8_answerOf_41 : decode cX8_answerOf 41 = .ok (.iload_n 2, 1) := by decide +kernel
theorem dX8_answerOf_42 : decode cX8_answerOf 42 = .ok (.invokevirtual 100, 3) := by decide +kernel
theorem dX8_answerOf_45 : decode cX8_answerOf 45 = .ok (.ireturn, 1) := by decide +kernel
theorem dX8_answerOf_46 : decode cX8_answerOf 46 = .ok (.aload_n 0, 1) := by decide +kernel
theorem dX8_answerOf_47 : decode cX8_answerOf 47 = .ok (.iload_n 2, 1) := by decide +kernel
theorem dX8_answerOf_48 : decode cX8_answerOf 48 = .ok (.invokevirtual 159, 3) := by decide +kernel
theorem dX8_answerOf_51 : decode cX8_answerOf 51 = .ok (.ireturn, 1) := by decide +kernel
theorem dX8_answerOf_52 : decode cX8_answerOf 52 = .ok (.aload_n 0, 1) := by decide +kernel
theorem dX8_answerOf_53 : decode cX8_answerOf 53 = .ok (.invokevirtual 113, 3) := by decide +kernel
theorem dX8_answerOf_56 : decode cX8_answerOf 56 = .ok (.ireturn, 1) := by decide +kernel
theorem dX8_answerOf_57 : decode cX8_answerOf 57 = .ok (.aload_n 0, 1) := by decide +kernel
theorem dX8_answerOf_58 : decode cX8_answerOf 58 = .ok (.invokevirtual 80, 3) := by decide +kernel
theorem dX8_answerOf_61 : decode cX8_answerOf 61 = .ok (.ireturn, 1) := by decide +kernel
theorem dX8_answerOf_62 : decode cX8_answerOf 62 = .ok (.aload_n 0, 1) := by decide +kernel
theorem dX8_answerOf_63 : decode cX8_answerOf 63 = .ok (.iload_n 2, 1) := by decide +kernel
theorem dX8_answerOf_64 : decode cX8_answerOf 64 = .ok (.invokevirtual 103, 3) := by decide +kernel
theorem dX8_answerOf_67 : decode cX8_answerOf 67 = .ok (.ireturn, 1) := by decide +kernel
theorem dX8_answerOf_68 : decode cX8_answerOf 68 = .ok (.aload_n 0, 1) := by decide +kernel
theorem dX8_answerOf_69 : decode cX8_answerOf 69 = .ok (.iload_n 2, 1) := by decide +kernel
theorem dX8_answerOf_70 : decode cX8_answerOf 70 = .ok (.invokevirtual 77, 3) := by decide +kernel
theorem dX8_answerOf_73 : decode cX8_answerOf 73 = .ok (.ireturn, 1) := by decide +kernel
theorem dX8_answerOf_74 : decode cX8_answerOf 74 = .ok (.bipush (-2), 2) := by decide +kernel
theorem dX8_answerOf_76 : decode cX8_answerOf 76 = .ok (.ireturn, 1) := by decide +kernel
theorem dX8_pay_0 : decode cX8_pay 0 = .ok (.iload_n 1, 1) := by decide +kernel
theorem dX8_pay_1 : decode cX8_pay 1 = .ok (.invokestatic 70, 3) := by decide +kernel
theorem dX8_pay_4 : decode cX8_pay 4 = .ok (.ifCond .eq 14, 3) := by decide +kernel
theorem dX8_pay_7 : decode cX8_pay 7 = .ok (.aload_n 0, 1) := by decide +kernel
theorem dX8_pay_8 : decode cX8_pay 8 = .ok (.getfield 22, 3) := by decide +kernel
theorem dX8_pay_11 : decode cX8_pay 11 = .ok (.iload_n 1, 1) := by decide +kernel
theorem dX8_pay_12 : decode cX8_pay 12 = .ok (.dup2, 1) := by decide +kernel
theorem dX8_pay_13 : decode cX8_pay 13 = .ok (.laload, 1) := by decide +kernel
theorem dX8_pay_14 : decode cX8_pay 14 = .ok (.iload_n 2, 1) := by decide +kernel
theorem dX8_pay_15 : decode cX8_pay 15 = .ok (.i2l, 1) := by decide +kernel
theorem dX8_pay_16 : decode cX8_pay 16 = .ok (.ladd, 1) := by decide +kernel
theorem dX8_pay_17 : decode cX8_pay 17 = .ok (.lastore, 1) := by decide +kernel
theorem dX8_pay_18 : decode cX8_pay 18 = .ok (.return_, 1) := by decide +kernel
theorem dX8_toolsThatAre_0 : decode cX8_toolsThatAre 0 = .ok (.iconst 0, 1) := by decide +kernel
theorem dX8_toolsThatAre_1 : decode cX8_toolsThatAre 1 = .ok (.istore_n 2, 1) := by decide +kernel
theorem dX8_toolsThatAre_2 : decode cX8_toolsThatAre 2 = .ok (.aload_n 0, 1) := by decide +kernel
theorem dX8_toolsThatAre_3 : decode cX8_toolsThatAre 3 = .ok (.getfield 18, 3) := by decide +kernel
theorem dX8_toolsThatAre_6 : decode cX8_toolsThatAre 6 = .ok (.astore_n 3, 1) := by decide +kernel
theorem dX8_toolsThatAre_7 : decode cX8_toolsThatAre 7 = .ok (.aload_n 3, 1) := by decide +kernel
theorem dX8_toolsThatAre_8 : decode cX8_toolsThatAre 8 = .ok (.arraylength, 1) := by decide +kernel
theorem dX8_toolsThatAre_9 : decode cX8_toolsThatAre 9 = .ok (.istore 4, 2) := by decide +kernel
theorem dX8_toolsThatAre_11 : decode cX8_toolsThatAre 11 = .ok (.iconst 0, 1) := by decide +kernel
theorem dX8_toolsThatAre_12 : decode cX8_toolsThatAre 12 = .ok (.istore 5, 2) := by decide +kernel
theorem dX8_toolsThatAre_14 : decode cX8_toolsThatAre 14 = .ok (.iload 5, 2) := by decide +kernel
theorem dX8_toolsThatAre_16 : decode cX8_toolsThatAre 16 = .ok (.iload 4, 2) := by decide +kernel
theorem dX8_toolsThatAre_18 : decode cX8_toolsThatAre 18 = .ok (.if_icmp .ge 32, 3) := by decide +kernel
theorem dX8_toolsThatAre_21 : decode cX8_toolsThatAre 21 = .ok (.aload_n 3, 1) := by decide +kernel
theorem dX8_toolsThatAre_22 : decode cX8_toolsThatAre 22 = .ok (.iload 5, 2) := by decide +kernel
theorem dX8_toolsThatAre_24 : decode cX8_toolsThatAre 24 = .ok (.aaload, 1) := by decide +kernel
theorem dX8_toolsThatAre_25 : decode cX8_toolsThatAre 25 = .ok (.astore 6, 2) := by decide +kernel
theorem dX8_toolsThatAre_27 : decode cX8_toolsThatAre 27 = .ok (.aload 6, 2) := by decide +kernel
theorem dX8_toolsThatAre_29 : decode cX8_toolsThatAre 29 = .ok (.ifnull 15, 3) := by decide +kernel
theorem dX8_toolsThatAre_32 : decode cX8_toolsThatAre 32 = .ok (.aload 6, 2) := by decide +kernel
theorem dX8_toolsThatAre_34 : decode cX8_toolsThatAre 34 = .ok (.getfield 74, 3) := by decide +kernel
theorem dX8_toolsThatAre_37 : decode cX8_toolsThatAre 37 = .ok (.iload_n 1, 1) := by decide +kernel
theorem dX8_toolsThatAre_38 : decode cX8_toolsThatAre 38 = .ok (.if_icmp .ne 6, 3) := by decide +kernel
theorem dX8_toolsThatAre_41 : decode cX8_toolsThatAre 41 = .ok (.iinc 2 1, 3) := by decide +kernel
theorem dX8_toolsThatAre_44 : decode cX8_toolsThatAre 44 = .ok (.iinc 5 1, 3) := by decide +kernel
theorem dX8_toolsThatAre_47 : decode cX8_toolsThatAre 47 = .ok (.goto (-33), 3) := by decide +kernel
theorem dX8_toolsThatAre_50 : decode cX8_toolsThatAre 50 = .ok (.iload_n 2, 1) := by decide +kernel
theorem dX8_toolsThatAre_51 : decode cX8_toolsThatAre 51 = .ok (.ireturn, 1) := by decide +kernel
theorem dX9_init_0 : decode cX9_init 0 = .ok (.aload_n 0, 1) := by decide +kernel
theorem dX9_init_1 : decode cX9_init 1 = .ok (.invokespecial 1, 3) := by decide +kernel
theorem dX9_init_4 : decode cX9_init 4 = .ok (.aload_n 0, 1) := by decide +kernel
theorem dX9_init_5 : decode cX9_init 5 = .ok (.bipush 24, 2) := by decide +kernel
theorem dX9_init_7 : decode cX9_init 7 = .ok (.newarray .int, 2) := by decide +kernel
theorem dX9_init_9 : decode cX9_init 9 = .ok (.putfield 7, 3) := by decide +kernel
theorem dX9_init_12 : decode cX9_init 12 = .ok (.aload_n 0, 1) := by decide +kernel
theorem dX9_init_13 : decode cX9_init 13 = .ok (.bipush 24, 2) := by decide +kernel
theorem dX9_init_15 : decode cX9_init 15 = .ok (.newarray .int, 2) := by decide +kernel
theorem dX9_init_17 : decode cX9_init 17 = .ok (.putfield 13, 3) := by decide +kernel
theorem dX9_init_20 : decode cX9_init 20 = .ok (.aload_n 0, 1) := by decide +kernel
theorem dX9_init_21 : decode cX9_init 21 = .ok (.bipush 24, 2) := by decide +kernel
theorem dX9_init_23 : decode cX9_init 23 = .ok (.newarray .int, 2) := by decide +kernel
theorem dX9_init_25 : decode cX9_init 25 = .ok (.putfield 16, 3) := by decide +kernel
theorem dX9_init_28 : decode cX9_init 28 = .ok (.aload_n 0, 1) := by decide +kernel
theorem dX9_init_29 : decode cX9_init 29 = .ok (.bipush 24, 2) := by decide +kernel
theorem dX9_init_31 : decode cX9_init 31 = .ok (.newarray .int, 2) := by decide +kernel
theorem dX9_init_33 : decode cX9_init 33 = .ok (.putfield 19, 3) := by decide +kernel
theorem dX9_init_36 : decode cX9_init 36 = .ok (.aload_n 0, 1) := by decide +kernel
theorem dX9_init_37 : decode cX9_init 37 = .ok (.bipush 24, 2) := by decide +kernel
theorem dX9_init_39 : decode cX9_init 39 = .ok (.newarray .int, 2) := by decide +kernel
theorem dX9_init_41 : decode cX9_init 41 = .ok (.putfield 22, 3) := by decide +kernel
theorem dX9_init_44 : decode cX9_init 44 = .ok (.aload_n 0, 1) := by decide +kernel
theorem dX9_init_45 : decode cX9_init 45 = .ok (.bipush 24, 2) := by decide +kernel
theorem dX9_init_47 : decode cX9_init 47 = .ok (.newarray .int, 2) := by decide +kernel
theorem dX9_init_49 : decode cX9_init 49 = .ok (.putfield 25, 3) := by decide +kernel
theorem dX9_init_52 : decode cX9_init 52 = .ok (.aload_n 0, 1) := by decide +kernel
theorem dX9_init_53 : decode cX9_init 53 = .ok (.bipush 24, 2) := by decide +kernel
theorem dX9_init_55 : decode cX9_init 55 = .ok (.newarray .int, 2) := by decide +kernel
theorem dX9_init_57 : decode cX9_init 57 = .ok (.putfield 28, 3) := by decide +kernel
theorem dX9_init_60 : decode cX9_init 60 = .ok (.aload_n 0, 1) := by decide +kernel
theorem dX9_init_61 : decode cX9_init 61 = .ok (.bipush 6, 2) := by decide +kernel
theorem dX9_init_63 : decode cX9_init 63 = .ok (.newarray .long, 2) := by decide +kernel
theorem dX9_init_65 : decode cX9_init 65 = .ok (.putfield 31, 3) := by decide +kernel
theorem dX9_init_68 : decode cX9_init 68 = .ok (.aload_n 0, 1) := by decide +kernel
theorem dX9_init_69 : decode cX9_init 69 = .ok (.bipush 16, 2) := by decide +kernel
theorem dX9_init_71 : decode cX9_init 71 = .ok (.newarray .int, 2) := by decide +kernel
theorem dX9_init_73 : decode cX9_init 73 = .ok (.putfield 35, 3) := by decide +kernel
theorem dX9_init_76 : decode cX9_init 76 = .ok (.aload_n 0, 1) := by decide +kernel
theorem dX9_init_77 : decode cX9_init 77 = .ok (.iconst 0, 1) := by decide +kernel
theorem dX9_init_78 : decode cX9_init 78 = .ok (.putfield 38, 3) := by decide +kernel
theorem dX9_init_81 : decode cX9_init 81 = .ok (.return_, 1) := by decide +kernel
theorem dX9_in_0 : decode cX9_in 0 = .ok (.iload_n 0, 1) := by decide +kernel
theorem dX9_in_1 : decode cX9_in 1 = .ok (.iload_n 1, 1) := by decide +kernel
theorem dX9_in_2 : decode cX9_in 2 = .ok (.if_icmp .lt 12, 3) := by decide +kernel
theorem dX9_in_5 : decode cX9_in 5 = .ok (.iload_n 0, 1) := by decide +kernel
theorem dX9_in_6 : decode cX9_in 6 = .ok (.iload_n 2, 1) := by decide +kernel
theorem dX9_in_7 : decode cX9_in 7 = .ok (.if_icmp .gt 7, 3) := by decide +kernel
theorem dX9_in_10 : decode cX9_in 10 = .ok (.iconst 1, 1) := by decide +kernel
theorem dX9_in_11 : decode cX9_in 11 = .ok (.goto 4, 3) := by decide +kernel
theorem dX9_in_14 : decode cX9_in 14 = .ok (.iconst 0, 1) := by decide +kernel
theorem dX9_in_15 : decode cX9_in 15 = .ok (.ireturn, 1) := by decide +kernel
theorem dX9_isTool_0 : decode cX9_isTool 0 = .ok (.iload_n 1, 1) := by decide +kernel
theorem dX9_isTool_1 : decode cX9_isTool 1 = .ok (.iconst 0, 1) := by decide +kernel
theorem dX9_isTool_2 : decode cX9_isTool 2 = .ok (.aload_n 0, 1) := by decide +kernel
theorem dX9_isTool_3 : decode cX9_isTool 3 = .ok (.getfield 42, 3) := by decide +kernel
theorem dX9_isTool_6 : decode cX9_isTool 6 = .ok (.iconst 1, 1) := by decide +kernel
theorem dX9_isTool_7 : decode cX9_isTool 7 = .ok (.isub, 1) := by decide +kernel
theorem dX9_isTool_8 : decode cX9_isTool 8 = .ok (.invokestatic 45, 3) := by decide +kernel
theorem dX9_isTool_11 : decode cX9_isTool 11 = .ok (.ireturn, 1) := by decide +kernel
theorem dX9_tool_0 : decode cX9_tool 0 = .ok (.iload_n 1, 1) := by decide +kernel
theorem dX9_tool_1 : decode cX9_tool 1 = .ok (.iconst 0, 1) := by decide +kernel
theorem dX9_tool_2 : decode cX9_tool 2 = .ok (.bipush 6, 2) := by decide +kernel
theorem dX9_tool_4 : decode cX9_tool 4 = .ok (.invokestatic 45, 3) := by decide +kernel
theorem dX9_tool_7 : decode cX9_tool 7 = .ok (.ifCond .eq 24, 3) := by decide +kernel
theorem dX9_tool_10 : decode cX9_tool 10 = .ok (.iload_n 2, 1) := by decide +kernel
theorem dX9_tool_11 : decode cX9_tool 11 = .ok (.iconst 1, 1) := by decide +kernel
theorem dX9_tool_12 : decode cX9_tool 12 = .ok (.sipush 1000, 3) := by decide +kernel
theorem dX9_tool_15 : decode cX9_tool 15 = .ok (.invokestatic 45, 3) := by decide +kernel
theorem dX9_tool_18 : decode cX9_tool 18 = .ok (.ifCond .eq 13, 3) := by decide +kernel
theorem dX9_tool_21 : decode cX9_tool 21 = .ok (.iload_n 3, 1) := by decide +kernel
theorem dX9_tool_22 : decode cX9_tool 22 = .ok (.iconst 0, 1) := by decide +kernel
theorem dX9_tool_23 : decode cX9_tool 23 = .ok (.ldc 49, 2) := by decide +kernel
theorem dX9_tool_25 : decode cX9_tool 25 = .ok (.invokestatic 45, 3) := by decide +kernel
theorem dX9_tool_28 : decode cX9_tool 28 = .ok (.ifCond .ne 6, 3) := by decide +kernel
theorem dX9_tool_31 : decode cX9_tool 31 = .ok (.bipush (-2), 2) := by decide +kernel
theorem dX9_tool_33 : decode cX9_tool 33 = .ok (.ireturn, 1) := by decide +kernel
theorem dX9_tool_34 : decode cX9_tool 34 = .ok (.aload_n 0, 1) := by decide +kernel
theorem dX9_tool_35 : decode cX9_tool 35 = .ok (.getfield 42, 3) := by decide +kernel
theorem dX9_tool_38 : decode cX9_tool 38 = .ok (.bipush 24, 2) := by decide +kernel
theorem dX9_tool_40 : decode cX9_tool 40 = .ok (.if_icmp .ne 6, 3) := by decide +kernel
theorem dX9_tool_43 : decode cX9_tool 43 = .ok (.bipush (-4), 2) := by decide +kernel
theorem dX9_tool_45 : decode cX9_tool 45 = .ok (.ireturn, 1) := by decide +kernel
theorem dX9_tool_46 : decode cX9_tool 46 = .ok (.aload_n 0, 1) := by decide +kernel
theorem dX9_tool_47 : decode cX9_tool 47 = .ok (.getfield 7, 3) := by decide +kernel
theorem dX9_tool_50 : decode cX9_tool 50 = .ok (.aload_n 0, 1) := by decide +kernel
theorem dX9_tool_51 : decode cX9_tool 51 = .ok (.getfield 42, 3) := by decide +kernel
theorem dX9_tool_54 : decode cX9_tool 54 = .ok (.iload_n 1, 1) := by decide +kernel
theorem dX9_tool_55 : decode cX9_tool 55 = .ok (.iastore, 1) := by decide +kernel
theorem dX9_tool_56 : decode cX9_tool 56 = .ok (.aload_n 0, 1) := by decide +kernel
theorem dX9_tool_57 : decode cX9_tool 57 = .ok (.getfield 13, 3) := by decide +kernel
theorem dX9_tool_60 : decode cX9_tool 60 = .ok (.aload_n 0, 1) := by decide +kernel
theorem dX9_tool_61 : decode cX9_tool 61 = .ok (.getfield 42, 3) := by decide +kernel
theorem dX9_tool_64 : decode cX9_tool 64 = .ok (.iload_n 2, 1) := by decide +kernel
theorem dX9_tool_65 : decode cX9_tool 65 = .ok (.iastore, 1) := by decide +kernel
theorem dX9_tool_66 : decode cX9_tool 66 = .ok (.aload_n 0, 1) := by decide +kernel
theorem dX9_tool_67 : decode cX9_tool 67 = .ok (.getfield 16, 3) := by decide +kernel
theorem dX9_tool_70 : decode cX9_tool 70 = .ok (.aload_n 0, 1) := by decide +kernel
theorem dX9_tool_71 : decode cX9_tool 71 = .ok (.getfield 42, 3) := by decide +kernel
theorem dX9_tool_74 : decode cX9_tool 74 = .ok (.iload_n 3, 1) := by decide +kernel
theorem dX9_tool_75 : decode cX9_tool 75 = .ok (.iastore, 1) := by decide +kernel
theorem dX9_tool_76 : decode cX9_tool 76 = .ok (.aload_n 0, 1) := by decide +kernel
theorem dX9_tool_77 : decode cX9_tool 77 = .ok (.dup, 1) := by decide +kernel
theorem dX9_tool_78 : decode cX9_tool 78 = .ok (.getfield 42, 3) := by decide +kernel
theorem dX9_tool_81 : decode cX9_tool 81 = .ok (.iconst 1, 1) := by decide +kernel
theorem dX9_tool_82 : decode cX9_tool 82 = .ok (.iadd, 1) := by decide +kernel
theorem dX9_tool_83 : decode cX9_tool 83 = .ok (.putfield 42, 3) := by decide +kernel
theorem dX9_tool_86 : decode cX9_tool 86 = .ok (.aload_n 0, 1) := by decide +kernel
theorem dX9_tool_87 : decode cX9_tool 87 = .ok (.getfield 42, 3) := by decide +kernel
theorem dX9_tool_90 : decode cX9_tool 90 = .ok (.iconst 1, 1) := by decide +kernel
theorem dX9_tool_91 : decode cX9_tool 91 = .ok (.isub, 1) := by decide +kernel
theorem dX9_tool_92 : decode cX9_tool 92 = .ok (.ireturn, 1) := by decide +kernel
theorem dX9_body_0 : decode cX9_body 0 = .ok (.aload_n 0, 1) := by decide +kernel
theorem dX9_body_1 : decode cX9_body 1 = .ok (.getfield 50, 3) := by decide +kernel
theorem dX9_body_4 : decode cX9_body 4 = .ok (.ifCond .eq 23, 3) := by decide +kernel
theorem dX9_body_7 : decode cX9_body 7 = .ok (.aload_n 0, 1) := by decide +kernel
theorem dX9_body_8 : decode cX9_body 8 = .ok (.getfield 35, 3) := by decide +kernel
theorem dX9_body_11 : decode cX9_body 11 = .ok (.aload_n 0, 1) := by decide +kernel
theorem dX9_body_12 : decode cX9_body 12 = .ok (.getfield 54, 3) := by decide +kernel
theorem dX9_body_15 : decode cX9_body 15 = .ok (.iload_n 1, 1) := by decide +kernel
theorem dX9_body_16 : decode cX9_body 16 = .ok (.iastore, 1) := by decide +kernel
theorem dX9_body_17 : decode cX9_body 17 = .ok (.aload_n 0, 1) := by decide +kernel
theorem dX9_body_18 : decode cX9_body 18 = .ok (.dup, 1) := by decide +kernel
theorem dX9_body_19 : decode cX9_body 19 = .ok (.getfield 54, 3) := by decide +kernel
theorem dX9_body_22 : decode cX9_body 22 = .ok (.iconst 1, 1) := by decide +kernel
theorem dX9_body_23 : decode cX9_body 23 = .ok (.iadd, 1) := by decide +kernel
theorem dX9_body_24 : decode cX9_body 24 = .ok (.putfield 54, 3) := by decide +kernel
theorem dX9_body_27 : decode cX9_body 27 = .ok (.return_, 1) := by decide +kernel
end
section
theorem dX9_charge_0 : decode cX9_charge 0 = .ok (.aload_n 0, 1) := by decide +kernel
theorem dX9_charge_1 : decode cX9_charge 1 = .ok (.getfield 7, 3) := by decide +kernel
theorem dX9_charge_4 : decode cX9_charge 4 = .ok (.iload_n 1, 1) := by decide +kernel
theorem dX9_charge_5 : decode cX9_charge 5 = .ok (.iaload, 1) := by decide +kernel
theorem dX9_charge_6 : decode cX9_charge 6 = .ok (.istore_n 3, 1) := by decide +kernel
theorem dX9_charge_7 : decode cX9_charge 7 = .ok (.aload_n 0, 1) := by decide +kernel
theorem dX9_charge_8 : decode cX9_charge 8 = .ok (.getfield 13, 3) := by decide +kernel
theorem dX9_charge_11 : decode cX9_charge 11 = .ok (.iload_n 1, 1) := by decide +kernel
theorem dX9_charge_12 : decode cX9_charge 12 = .ok (.iaload, 1) := by decide +kernel
theorem dX9_charge_13 : decode cX9_charge 13 = .ok (.iload_n 2, 1) := by decide +kernel
theorem dX9_charge_14 : decode cX9_charge 14 = .ok (.imul, 1) := by decide +kernel
theorem dX9_charge_15 : decode cX9_charge 15 = .ok (.istore 4, 2) := by decide +kernel
theorem dX9_charge_17 : decode cX9_charge 17 = .ok (.iload_n 3, 1) := by decide +kernel
theorem dX9_charge_18 : decode cX9_charge 18 = .ok (.iconst 4, 1) := by decide +kernel
theorem dX9_charge_19 : decode cX9_charge 19 = .ok (.if_icmp .ne 8, 3) := by decide +kernel
theorem dX9_charge_22 : decode cX9_charge 22 = .ok (.aload_n 0, 1) := by decide +kernel
theorem dX9_charge_23 : decode cX9_charge 23 = .ok (.iconst 3, 1) := by decide +kernel
theorem dX9_charge_24 : decode cX9_charge 24 = .ok (.invokevirtual 57, 3) := by decide +kernel
theorem dX9_charge_27 : decode cX9_charge 27 = .ok (.iload_n 3, 1) := by decide +kernel
theorem dX9_charge_28 : decode cX9_charge 28 = .ok (.iconst 2, 1) := by decide +kernel
theorem dX9_charge_29 : decode cX9_charge 29 = .ok (.iconst 4, 1) := by decide +kernel
theorem dX9_charge_30 : decode cX9_charge 30 = .ok (.invokestatic 45, 3) := by decide +kernel
theorem dX9_charge_33 : decode cX9_charge 33 = .ok (.ifCond .eq 8, 3) := by decide +kernel
theorem dX9_charge_36 : decode cX9_charge 36 = .ok (.aload_n 0, 1) := by decide +kernel
theorem dX9_charge_37 : decode cX9_charge 37 = .ok (.iconst 2, 1) := by decide +kernel
theorem dX9_charge_38 : decode cX9_charge 38 = .ok (.invokevirtual 57, 3) := by decide +kernel
theorem dX9_charge_41 : decode cX9_charge 41 = .ok (.iload_n 3, 1) := by decide +kernel
theorem dX9_charge_42 : decode cX9_charge 42 = .ok (.bipush 6, 2) := by decide +kernel
theorem dX9_charge_44 : decode cX9_charge 44 = .ok (.if_icmp .ne 8, 3) := by decide +kernel
theorem dX9_charge_47 : decode cX9_charge 47 = .ok (.aload_n 0, 1) := by decide +kernel
theorem dX9_charge_48 : decode cX9_charge 48 = .ok (.iconst 4, 1) := by decide +kernel
theorem dX9_charge_49 : decode cX9_charge 49 = .ok (.invokevirtual 57, 3) := by decide +kernel
theorem dX9_charge_52 : decode cX9_charge 52 = .ok (.aload_n 0, 1) := by decide +kernel
theorem dX9_charge_53 : decode cX9_charge 53 = .ok (.iconst 1, 1) := by decide +kernel
theorem dX9_charge_54 : decode cX9_charge 54 = .ok (.invokevirtual 57, 3) := by decide +kernel
theorem dX9_charge_57 : decode cX9_charge 57 = .ok (.iload_n 2, 1) := by decide +kernel
theorem dX9_charge_58 : decode cX9_charge 58 = .ok (.bipush 7, 2) := by decide +kernel
theorem dX9_charge_60 : decode cX9_charge 60 = .ok (.if_icmp .le 10, 3) := by decide +kernel
theorem dX9_charge_63 : decode cX9_charge 63 = .ok (.iload_n 2, 1) := by decide +kernel
theorem dX9_charge_64 : decode cX9_charge 64 = .ok (.bipush 7, 2) := by decide +kernel
theorem dX9_charge_66 : decode cX9_charge 66 = .ok (.isub, 1) := by decide +kernel
theorem dX9_charge_67 : decode cX9_charge 67 = .ok (.goto 4, 3) := by decide +kernel
theorem dX9_charge_70 : decode cX9_charge 70 = .ok (.iconst 0, 1) := by decide +kernel
theorem dX9_charge_71 : decode cX9_charge 71 = .ok (.istore 5, 2) := by decide +kernel
theorem dX9_charge_73 : decode cX9_charge 73 = .ok (.iload_n 3, 1) := by decide +kernel
theorem dX9_charge_74 : decode cX9_charge 74 = .ok (.bipush 6, 2) := by decide +kernel
theorem dX9_charge_76 : decode cX9_charge 76 = .ok (.if_icmp .ne 18, 3) := by decide +kernel
theorem dX9_charge_79 : decode cX9_charge 79 = .ok (.iload 4, 2) := by decide +kernel
theorem dX9_charge_81 : decode cX9_charge 81 = .ok (.aload_n 0, 1) := by decide +kernel
theorem dX9_charge_82 : decode cX9_charge 82 = .ok (.getfield 16, 3) := by decide +kernel
theorem dX9_charge_85 : decode cX9_charge 85 = .ok (.iload_n 1, 1) := by decide +kernel
theorem dX9_charge_86 : decode cX9_charge 86 = .ok (.iaload, 1) := by decide +kernel
theorem dX9_charge_87 : decode cX9_charge 87 = .ok (.bipush 100, 2) := by decide +kernel
theorem dX9_charge_89 : decode cX9_charge 89 = .ok (.idiv, 1) := by decide +kernel
theorem dX9_charge_90 : decode cX9_charge 90 = .ok (.iadd, 1) := by decide +kernel
theorem dX9_charge_91 : decode cX9_charge 91 = .ok (.goto 44, 3) := by decide +kernel
theorem dX9_charge_94 : decode cX9_charge 94 = .ok (.iload_n 3, 1) := by decide +kernel
theorem dX9_charge_95 : decode cX9_charge 95 = .ok (.iconst 4, 1) := by decide +kernel
theorem dX9_charge_96 : decode cX9_charge 96 = .ok (.if_icmp .ne 19, 3) := by decide +kernel
theorem dX9_charge_99 : decode cX9_charge 99 = .ok (.iconst 2, 1) := by decide +kernel
theorem dX9_charge_100 : decode cX9_charge 100 = .ok (.iload 4, 2) := by decide +kernel
theorem dX9_charge_102 : decode cX9_charge 102 = .ok (.iconst 3, 1) := by decide +kernel
theorem dX9_charge_103 : decode cX9_charge 103 = .ok (.iload_n 2, 1) := by decide +kernel
theorem dX9_charge_104 : decode cX9_charge 104 = .ok (.imul, 1) := by decide +kernel
theorem dX9_charge_105 : decode cX9_charge 105 = .ok (.iadd, 1) := by decide +kernel
theorem dX9_charge_106 : decode cX9_charge 106 = .ok (.imul, 1) := by decide +kernel
theorem dX9_charge_107 : decode cX9_charge 107 = .ok (.iconst 5, 1) := by decide +kernel
theorem dX9_charge_108 : decode cX9_charge 108 = .ok (.iload 5, 2) := by decide +kernel
theorem dX9_charge_110 : decode cX9_charge 110 = .ok (.imul, 1) := by decide +kernel
theorem dX9_charge_111 : decode cX9_charge 111 = .ok (.isub, 1) := by decide +kernel
theorem dX9_charge_112 : decode cX9_charge 112 = .ok (.goto 23, 3) := by decide +kernel
theorem dX9_charge_115 : decode cX9_charge 115 = .ok (.iload_n 3, 1) := by decide +kernel
theorem dX9_charge_116 : decode cX9_charge 116 = .ok (.iconst 2, 1) := by decide +kernel
theorem dX9_charge_117 : decode cX9_charge 117 = .ok (.iconst 3, 1) := by decide +kernel
theorem dX9_charge_118 : decode cX9_charge 118 = .ok (.invokestatic 45, 3) := by decide +kernel
theorem dX9_charge_121 : decode cX9_charge 121 = .ok (.ifCond .eq 12, 3) := by decide +kernel
theorem dX9_charge_124 : decode cX9_charge 124 = .ok (.iload 4, 2) := by decide +kernel
theorem dX9_charge_126 : decode cX9_charge 126 = .ok (.iconst 3, 1) := by decide +kernel
theorem dX9_charge_127 : decode cX9_charge 127 = .ok (.iload_n 2, 1) := by decide +kernel
theorem dX9_charge_128 : decode cX9_charge 128 = .ok (.imul, 1) := by decide +kernel
theorem dX9_charge_129 : decode cX9_charge 129 = .ok (.iadd, 1) := by decide +kernel
theorem dX9_charge_130 : decode cX9_charge 130 = .ok (.goto 5, 3) := by decide +kernel
theorem dX9_charge_133 : decode cX9_charge 133 = .ok (.iload 4, 2) := by decide +kernel
theorem dX9_charge_135 : decode cX9_charge 135 = .ok (.ireturn, 1) := by decide +kernel
theorem dX9_wear_0 : decode cX9_wear 0 = .ok (.aload_n 0, 1) := by decide +kernel
theorem dX9_wear_1 : decode cX9_wear 1 = .ok (.getfield 7, 3) := by decide +kernel
theorem dX9_wear_4 : decode cX9_wear 4 = .ok (.iload_n 1, 1) := by decide +kernel
theorem dX9_wear_5 : decode cX9_wear 5 = .ok (.iaload, 1) := by decide +kernel
theorem dX9_wear_6 : decode cX9_wear 6 = .ok (.istore_n 3, 1) := by decide +kernel
theorem dX9_wear_7 : decode cX9_wear 7 = .ok (.iload_n 3, 1) := by decide +kernel
theorem dX9_wear_8 : decode cX9_wear 8 = .ok (.iconst 4, 1) := by decide +kernel
theorem dX9_wear_9 : decode cX9_wear 9 = .ok (.if_icmp .ne 9, 3) := by decide +kernel
theorem dX9_wear_12 : decode cX9_wear 12 = .ok (.aload_n 0, 1) := by decide +kernel
theorem dX9_wear_13 : decode cX9_wear 13 = .ok (.bipush 12, 2) := by decide +kernel
theorem dX9_wear_15 : decode cX9_wear 15 = .ok (.invokevirtual 57, 3) := by decide +kernel
theorem dX9_wear_18 : decode cX9_wear 18 = .ok (.iload_n 3, 1) := by decide +kernel
theorem dX9_wear_19 : decode cX9_wear 19 = .ok (.iconst 5, 1) := by decide +kernel
theorem dX9_wear_20 : decode cX9_wear 20 = .ok (.if_icmp .lt 9, 3) := by decide +kernel
theorem dX9_wear_23 : decode cX9_wear 23 = .ok (.aload_n 0, 1) := by decide +kernel
theorem dX9_wear_24 : decode cX9_wear 24 = .ok (.bipush 13, 2) := by decide +kernel
theorem dX9_wear_26 : decode cX9_wear 26 = .ok (.invokevirtual 57, 3) := by decide +kernel
theorem dX9_wear_29 : decode cX9_wear 29 = .ok (.aload_n 0, 1) := by decide +kernel
theorem dX9_wear_30 : decode cX9_wear 30 = .ok (.bipush 11, 2) := by decide +kernel
theorem dX9_wear_32 : decode cX9_wear 32 = .ok (.invokevirtual 57, 3) := by decide +kernel
theorem dX9_wear_35 : decode cX9_wear 35 = .ok (.iload_n 3, 1) := by decide +kernel
theorem dX9_wear_36 : decode cX9_wear 36 = .ok (.iconst 4, 1) := by decide +kernel
theorem dX9_wear_37 : decode cX9_wear 37 = .ok (.if_icmp .ne 17, 3) := by decide +kernel
theorem dX9_wear_40 : decode cX9_wear 40 = .ok (.iload_n 2, 1) := by decide +kernel
theorem dX9_wear_41 : decode cX9_wear 41 = .ok (.aload_n 0, 1) := by decide +kernel
theorem dX9_wear_42 : decode cX9_wear 42 = .ok (.getfield 19, 3) := by decide +kernel
theorem dX9_wear_45 : decode cX9_wear 45 = .ok (.iload_n 1, 1) := by decide +kernel
theorem dX9_wear_46 : decode cX9_wear 46 = .ok (.iaload, 1) := by decide +kernel
theorem dX9_wear_47 : decode cX9_wear 47 = .ok (.bipush 10, 2) := by decide +kernel
theorem dX9_wear_49 : decode cX9_wear 49 = .ok (.idiv, 1) := by decide +kernel
theorem dX9_wear_50 : decode cX9_wear 50 = .ok (.iadd, 1) := by decide +kernel
theorem dX9_wear_51 : decode cX9_wear 51 = .ok (.goto 15, 3) := by decide +kernel
theorem dX9_wear_54 : decode cX9_wear 54 = .ok (.iload_n 3, 1) := by decide +kernel
theorem dX9_wear_55 : decode cX9_wear 55 = .ok (.iconst 5, 1) := by decide +kernel
theorem dX9_wear_56 : decode cX9_wear 56 = .ok (.if_icmp .lt 9, 3) := by decide +kernel
theorem dX9_wear_59 : decode cX9_wear 59 = .ok (.iconst 3, 1) := by decide +kernel
theorem dX9_wear_60 : decode cX9_wear 60 = .ok (.iload_n 2, 1) := by decide +kernel
theorem dX9_wear_61 : decode cX9_wear 61 = .ok (.imul, 1) := by decide +kernel
theorem dX9_wear_62 : decode cX9_wear 62 = .ok (.goto 4, 3) := by decide +kernel
theorem dX9_wear_65 : decode cX9_wear 65 = .ok (.iload_n 2, 1) := by decide +kernel
theorem dX9_wear_66 : decode cX9_wear 66 = .ok (.ireturn, 1) := by decide +kernel
theorem dX9_check_0 : decode cX9_check 0 = .ok (.aload_n 0, 1) := by decide +kernel
theorem dX9_check_1 : decode cX9_check 1 = .ok (.getfield 7, 3) := by decide +kernel
theorem dX9_check_4 : decode cX9_check 4 = .ok (.iload_n 1, 1) := by decide +kernel
theorem dX9_check_5 : decode cX9_check 5 = .ok (.iaload, 1) := by decide +kernel
theorem dX9_check_6 : decode cX9_check 6 = .ok (.istore_n 2, 1) := by decide +kernel
theorem dX9_check_7 : decode cX9_check 7 = .ok (.iconst 0, 1) := by decide +kernel
theorem dX9_check_8 : decode cX9_check 8 = .ok (.istore_n 3, 1) := by decide +kernel
theorem dX9_check_9 : decode cX9_check 9 = .ok (.iload_n 2, 1) := by decide +kernel
theorem dX9_check_10 : decode cX9_check 10 = .ok (.iconst 3, 1) := by decide +kernel
theorem dX9_check_11 : decode cX9_check 11 = .ok (.if_icmp .eq 8, 3) := by decide +kernel
theorem dX9_check_14 : decode cX9_check 14 = .ok (.iload_n 2, 1) := by decide +kernel
theorem dX9_check_15 : decode cX9_check 15 = .ok (.iconst 4, 1) := by decide +kernel
theorem dX9_check_16 : decode cX9_check 16 = .ok (.if_icmp .ne 11, 3) := by decide +kernel
theorem dX9_check_19 : decode cX9_check 19 = .ok (.aload_n 0, 1) := by decide +kernel
theorem dX9_check_20 : decode cX9_check 20 = .ok (.bipush 22, 2) := by decide +kernel
theorem dX9_check_22 : decode cX9_check 22 = .ok (.invokevirtual 57, 3) := by decide +kernel
theorem dX9_check_25 : decode cX9_check 25 = .ok (.iconst 2, 1) := by decide +kernel
theorem dX9_check_26 : decode cX9_check 26 = .ok (.istore_n 3, 1) := by decide +kernel
theorem dX9_check_27 : decode cX9_check 27 = .ok (.iload_n 2, 1) := by decide +kernel
theorem dX9_check_28 : decode cX9_check 28 = .ok (.bipush 6, 2) := by decide +kernel
theorem dX9_check_30 : decode cX9_check 30 = .ok (.if_icmp .ne 11, 3) := by decide +kernel
theorem dX9_check_33 : decode cX9_check 33 = .ok (.aload_n 0, 1) := by decide +kernel
theorem dX9_check_34 : decode cX9_check 34 = .ok (.bipush 23, 2) := by decide +kernel
theorem dX9_check_36 : decode cX9_check 36 = .ok (.invokevirtual 57, 3) := by decide +kernel
theorem dX9_check_39 : decode cX9_check 39 = .ok (.iconst 4, 1) := by decide +kernel
theorem dX9_check_40 : decode cX9_check 40 = .ok (.istore_n 3, 1) := by decide +kernel
theorem dX9_check_41 : decode cX9_check 41 = .ok (.iload_n 2, 1) := by decide +kernel
theorem dX9_check_42 : decode cX9_check 42 = .ok (.ifCond .le 12, 3) := by decide +kernel
theorem dX9_check_45 : decode cX9_check 45 = .ok (.aload_n 0, 1) := by decide +kernel
theorem dX9_check_46 : decode cX9_check 46 = .ok (.bipush 21, 2) := by decide +kernel
theorem dX9_check_48 : decode cX9_check 48 = .ok (.invokevirtual 57, 3) := by decide +kernel
theorem dX9_check_51 : decode cX9_check 51 = .ok (.iinc 3 1, 3) := by decide +kernel
theorem dX9_check_54 : decode cX9_check 54 = .ok (.aload_n 0, 1) := by decide +kernel
theorem dX9_check_55 : decode cX9_check 55 = .ok (.bipush 20, 2) := by decide +kernel
theorem dX9_check_57 : decode cX9_check 57 = .ok (.invokevirtual 57, 3) := by decide +kernel
theorem dX9_check_60 : decode cX9_check 60 = .ok (.aload_n 0, 1) := by decide +kernel
theorem dX9_check_61 : decode cX9_check 61 = .ok (.getfield 19, 3) := by decide +kernel
theorem dX9_check_64 : decode cX9_check 64 = .ok (.iload_n 1, 1) := by decide +kernel
theorem dX9_check_65 : decode cX9_check 65 = .ok (.iaload, 1) := by decide +kernel
theorem dX9_check_66 : decode cX9_check 66 = .ok (.bipush 10, 2) := by decide +kernel
theorem dX9_check_68 : decode cX9_check 68 = .ok (.idiv, 1) := by decide +kernel
theorem dX9_check_69 : decode cX9_check 69 = .ok (.iload_n 3, 1) := by decide +kernel
theorem dX9_check_70 : decode cX9_check 70 = .ok (.iadd, 1) := by decide +kernel
theorem dX9_check_71 : decode cX9_check 71 = .ok (.ireturn, 1) := by decide +kernel
theorem dX9_deposit_0 : decode cX9_deposit 0 = .ok (.aload_n 0, 1) := by decide +kernel
theorem dX9_deposit_1 : decode cX9_deposit 1 = .ok (.getfield 7, 3) := by decide +kernel
theorem dX9_deposit_4 : decode cX9_deposit 4 = .ok (.iload_n 1, 1) := by decide +kernel
theorem dX9_deposit_5 : decode cX9_deposit 5 = .ok (.iaload, 1) := by decide +kernel
theorem dX9_deposit_6 : decode cX9_deposit 6 = .ok (.iconst 4, 1) := by decide +kernel
theorem dX9_deposit_7 : decode cX9_deposit 7 = .ok (.if_icmp .ne 9, 3) := by decide +kernel
theorem dX9_deposit_10 : decode cX9_deposit 10 = .ok (.aload_n 0, 1) := by decide +kernel
theorem dX9_deposit_11 : decode cX9_deposit 11 = .ok (.bipush 32, 2) := by decide +kernel
theorem dX9_deposit_13 : decode cX9_deposit 13 = .ok (.invokevirtual 57, 3) := by decide +kernel
theorem dX9_deposit_16 : decode cX9_deposit 16 = .ok (.aload_n 0, 1) := by decide +kernel
theorem dX9_deposit_17 : decode cX9_deposit 17 = .ok (.bipush 31, 2) := by decide +kernel
theorem dX9_deposit_19 : decode cX9_deposit 19 = .ok (.invokevirtual 57, 3) := by decide +kernel
theorem dX9_deposit_22 : decode cX9_deposit 22 = .ok (.aload_n 0, 1) := by decide +kernel
theorem dX9_deposit_23 : decode cX9_deposit 23 = .ok (.getfield 16, 3) := by decide +kernel
theorem dX9_deposit_26 : decode cX9_deposit 26 = .ok (.iload_n 1, 1) := by decide +kernel
theorem dX9_deposit_27 : decode cX9_deposit 27 = .ok (.iaload, 1) := by decide +kernel
theorem dX9_deposit_28 : decode cX9_deposit 28 = .ok (.iconst 2, 1) := by decide +kernel
theorem dX9_deposit_29 : decode cX9_deposit 29 = .ok (.idiv, 1) := by decide +kernel
theorem dX9_deposit_30 : decode cX9_deposit 30 = .ok (.aload_n 0, 1) := by decide +kernel
theorem dX9_deposit_31 : decode cX9_deposit 31 = .ok (.getfield 7, 3) := by decide +kernel
theorem dX9_deposit_34 : decode cX9_deposit 34 = .ok (.iload_n 1, 1) := by decide +kernel
theorem dX9_deposit_35 : decode cX9_deposit 35 = .ok (.iaload, 1) := by decide +kernel
theorem dX9_deposit_36 : decode cX9_deposit 36 = .ok (.iconst 4, 1) := by decide +kernel
theorem dX9_deposit_37 : decode cX9_deposit 37 = .ok (.if_icmp .ne 9, 3) := by decide +kernel
theorem dX9_deposit_40 : decode cX9_deposit 40 = .ok (.sipush 500, 3) := by decide +kernel
theorem dX9_deposit_43 : decode cX9_deposit 43 = .ok (.goto 4, 3) := by decide +kernel
theorem dX9_deposit_46 : decode cX9_deposit 46 = .ok (.iconst 0, 1) := by decide +kernel
theorem dX9_deposit_47 : decode cX9_deposit 47 = .ok (.iadd, 1) := by decide +kernel
theorem dX9_deposit_48 : decode cX9_deposit 48 = .ok (.ireturn, 1) := by decide +kernel
theorem dX9_isInsured_0 : decode cX9_isInsured 0 = .ok (.aload_n 0, 1) := by decide +kernel
theorem dX9_isInsured_1 : decode cX9_isInsured 1 = .ok (.getfield 7, 3) := by decide +kernel
theorem dX9_isInsured_4 : decode cX9_isInsured 4 = .ok (.iload_n 1, 1) := by decide +kernel
theorem dX9_isInsured_5 : decode cX9_isInsured 5 = .ok (.iaload, 1) := by decide +kernel
theorem dX9_isInsured_6 : decode cX9_isInsured 6 = .ok (.iconst 2, 1) := by decide +kernel
theorem dX9_isInsured_7 : decode cX9_isInsured 7 = .ok (.iconst 4, 1) := by decide +kernel
theorem dX9_isInsured_8 : decode cX9_isInsured 8 = .ok (.invokestatic 45, 3) := by decide +kernel
theorem dX9_isInsured_11 : decode cX9_isInsured 11 = .ok (.ireturn, 1) := by decide +kernel
theorem dX9_isServiced_0 : decode cX9_isServiced 0 = .ok (.aload_n 0, 1) := by decide +kernel
theorem dX9_isServiced_1 : decode cX9_isServiced 1 = .ok (.getfield 7, 3) := by decide +kernel
theorem dX9_isServiced_4 : decode cX9_isServiced 4 = .ok (.iload_n 1, 1) := by decide +kernel
theorem dX9_isServiced_5 : decode cX9_isServiced 5 = .ok (.iaload, 1) := by decide +kernel
theorem dX9_isServiced_6 : decode cX9_isServiced 6 = .ok (.iconst 3, 1) := by decide +kernel
theorem dX9_isServiced_7 : decode cX9_isServiced 7 = .ok (.if_icmp .lt 7, 3) := by decide +kernel
theorem dX9_isServiced_10 : decode cX9_isServiced 10 = .ok (.iconst 1, 1) := by decide +kernel
theorem dX9_isServiced_11 : decode cX9_isServiced 11 = .ok (.goto 4, 3) := by decide +kernel
theorem dX9_isServiced_14 : decode cX9_isServiced 14 = .ok (.iconst 0, 1) := by decide +kernel
theorem dX9_isServiced_15 : decode cX9_isServiced 15 = .ok (.ireturn, 1) := by decide +kernel
theorem dX9_premium_0 : decode cX9_premium 0 = .ok (.aload_n 0, 1) := by decide +kernel
theorem dX9_premium_1 : decode cX9_premium 1 = .ok (.getfield 7, 3) := by decide +kernel
theorem dX9_premium_4 : decode cX9_premium 4 = .ok (.iload_n 1, 1) := by decide +kernel
theorem dX9_premium_5 : decode cX9_premium 5 = .ok (.iaload, 1) := by decide +kernel
theorem dX9_premium_6 : decode cX9_premium 6 = .ok (.iconst 2, 1) := by decide +kernel
theorem dX9_premium_7 : decode cX9_premium 7 = .ok (.if_icmp .ne 20, 3) := by decide +kernel
theorem dX9_premium_10 : decode cX9_premium 10 = .ok (.aload_n 0, 1) := by decide +kernel
theorem dX9_premium_11 : decode cX9_premium 11 = .ok (.bipush 41, 2) := by decide +kernel
theorem dX9_premium_13 : decode cX9_premium 13 = .ok (.invokevirtual 57, 3) := by decide +kernel
theorem dX9_premium_16 : decode cX9_premium 16 = .ok (.iload_n 2, 1) := by decide +kernel
theorem dX9_premium_17 : decode cX9_premium 17 = .ok (.aload_n 0, 1) := by decide +kernel
theorem dX9_premium_18 : decode cX9_premium 18 = .ok (.iload_n 1, 1) := by decide +kernel
theorem dX9_premium_19 : decode cX9_premium 19 = .ok (.invokevirtual 61, 3) := by decide +kernel
theorem dX9_premium_22 : decode cX9_premium 22 = .ok (.bipush 100, 2) := by decide +kernel
theorem dX9_premium_24 : decode cX9_premium 24 = .ok (.idiv, 1) := by decide +kernel
theorem dX9_premium_25 : decode cX9_premium 25 = .ok (.imul, 1) := by decide +kernel
theorem dX9_premium_26 : decode cX9_premium 26 = .ok (.ireturn, 1) := by decide +kernel
theorem dX9_premium_27 : decode cX9_premium 27 = .ok (.aload_n 0, 1) := by decide +kernel
theorem dX9_premium_28 : decode cX9_premium 28 = .ok (.bipush 42, 2) := by decide +kernel
theorem dX9_premium_30 : decode cX9_premium 30 = .ok (.invokevirtual 57, 3) := by decide +kernel
theorem dX9_premium_33 : decode cX9_premium 33 = .ok (.aload_n 0, 1) := by decide +kernel
theorem dX9_premium_34 : decode cX9_premium 34 = .ok (.iload_n 1, 1) := by decide +kernel
theorem dX9_premium_35 : decode cX9_premium 35 = .ok (.invokevirtual 65, 3) := by decide +kernel
theorem dX9_premium_38 : decode cX9_premium 38 = .ok (.istore_n 3, 1) := by decide +kernel
theorem dX9_premium_39 : decode cX9_premium 39 = .ok (.iload_n 2, 1) := by decide +kernel
theorem dX9_premium_40 : decode cX9_premium 40 = .ok (.iload_n 3, 1) := by decide +kernel
theorem dX9_premium_41 : decode cX9_premium 41 = .ok (.aload_n 0, 1) := by decide +kernel
theorem dX9_premium_42 : decode cX9_premium 42 = .ok (.iload_n 1, 1) := by decide +kernel
theorem dX9_premium_43 : decode cX9_premium 43 = .ok (.invokevirtual 61, 3) := by decide +kernel
theorem dX9_premium_46 : decode cX9_premium 46 = .ok (.sipush 200, 3) := by decide +kernel
theorem dX9_premium_49 : decode cX9_premium 49 = .ok (.idiv, 1) := by decide +kernel
theorem dX9_premium_50 : decode cX9_premium 50 = .ok (.iadd, 1) := by decide +kernel
theorem dX9_premium_51 : decode cX9_premium 51 = .ok (.imul, 1) := by decide +kernel
theorem dX9_premium_52 : decode cX9_premium 52 = .ok (.ireturn, 1) := by decide +kernel
theorem dX9_due_0 : decode cX9_due 0 = .ok (.aload_n 0, 1) := by decide +kernel
theorem dX9_due_1 : decode cX9_due 1 = .ok (.bipush 43, 2) := by decide +kernel
theorem dX9_due_3 : decode cX9_due 3 = .ok (.invokevirtual 57, 3) := by decide +kernel
theorem dX9_due_6 : decode cX9_due 6 = .ok (.aload_n 0, 1) := by decide +kernel
theorem dX9_due_7 : decode cX9_due 7 = .ok (.getfield 19, 3) := by decide +kernel
theorem dX9_due_10 : decode cX9_due 10 = .ok (.iload_n 1, 1) := by decide +kernel
theorem dX9_due_11 : decode cX9_due 11 = .ok (.iaload, 1) := by decide +kernel
theorem dX9_due_12 : decode cX9_due 12 = .ok (.aload_n 0, 1) := by decide +kernel
theorem dX9_due_13 : decode cX9_due 13 = .ok (.iload_n 1, 1) := by decide +kernel
theorem dX9_due_14 : decode cX9_due 14 = .ok (.iload_n 2, 1) := by decide +kernel
theorem dX9_due_15 : decode cX9_due 15 = .ok (.invokevirtual 68, 3) := by decide +kernel
theorem dX9_due_18 : decode cX9_due 18 = .ok (.iadd, 1) := by decide +kernel
theorem dX9_due_19 : decode cX9_due 19 = .ok (.bipush 60, 2) := by decide +kernel
theorem dX9_due_21 : decode cX9_due 21 = .ok (.if_icmp .le 7, 3) := by decide +kernel
theorem dX9_due_24 : decode cX9_due 24 = .ok (.iconst 1, 1) := by decide +kernel
theorem dX9_due_25 : decode cX9_due 25 = .ok (.goto 4, 3) := by decide +kernel
theorem dX9_due_28 : decode cX9_due 28 = .ok (.iconst 0, 1) := by decide +kernel
theorem dX9_due_29 : decode cX9_due 29 = .ok (.ireturn, 1) := by decide +kernel
theorem dX9_answers_0 : decode cX9_answers 0 = .ok (.iload_n 2, 1) := by decide +kernel
theorem dX9_answers_1 : decode cX9_answers 1 = .ok (.iconst 3, 1) := by decide +kernel
theorem dX9_answers_2 : decode cX9_answers 2 = .ok (.if_icmp .ne 20, 3) := by decide +kernel
theorem dX9_answers_5 : decode cX9_answers 5 = .ok (.aload_n 0, 1) := by decide +kernel
theorem dX9_answers_6 : decode cX9_answers 6 = .ok (.getfield 7, 3) := by decide +kernel
theorem dX9_answers_9 : decode cX9_answers 9 = .ok (.iload_n 1, 1) := by decide +kernel
theorem dX9_answers_10 : decode cX9_answers 10 = .ok (.iaload, 1) := by decide +kernel
theorem dX9_answers_11 : decode cX9_answers 11 = .ok (.ifCond .le 7, 3) := by decide +kernel
theorem dX9_answers_14 : decode cX9_answers 14 = .ok (.iconst 1, 1) := by decide +kernel
theorem dX9_answers_15 : decode cX9_answers 15 = .ok (.goto 34, 3) := by decide +kernel
theorem dX9_answers_18 : decode cX9_answers 18 = .ok (.iconst 0, 1) := by decide +kernel
theorem dX9_answers_19 : decode cX9_answers 19 = .ok (.goto 30, 3) := by decide +kernel
theorem dX9_answers_22 : decode cX9_answers 22 = .ok (.iload_n 2, 1) := by decide +kernel
theorem dX9_answers_23 : decode cX9_answers 23 = .ok (.iconst 4, 1) := by decide +kernel
theorem dX9_answers_24 : decode cX9_answers 24 = .ok (.if_icmp .ne 11, 3) := by decide +kernel
theorem dX9_answers_27 : decode cX9_answers 27 = .ok (.aload_n 0, 1) := by decide +kernel
theorem dX9_answers_28 : decode cX9_answers 28 = .ok (.iload_n 1, 1) := by decide +kernel
theorem dX9_answers_29 : decode cX9_answers 29 = .ok (.invokevirtual 72, 3) := by decide +kernel
theorem dX9_answers_32 : decode cX9_answers 32 = .ok (.goto 17, 3) := by decide +kernel
theorem dX9_answers_35 : decode cX9_answers 35 = .ok (.iload_n 2, 1) := by decide +kernel
theorem dX9_answers_36 : decode cX9_answers 36 = .ok (.iconst 5, 1) := by decide +kernel
theorem dX9_answers_37 : decode cX9_answers 37 = .ok (.if_icmp .ne 11, 3) := by decide +kernel
theorem dX9_answers_40 : decode cX9_answers 40 = .ok (.aload_n 0, 1) := by decide +kernel
theorem dX9_answers_41 : decode cX9_answers 41 = .ok (.iload_n 1, 1) := by decide +kernel
theorem dX9_answers_42 : decode cX9_answers 42 = .ok (.invokevirtual 76, 3) := by decide +kernel
theorem dX9_answers_45 : decode cX9_answers 45 = .ok (.goto 4, 3) := by decide +kernel
theorem dX9_answers_48 : decode cX9_answers 48 = .ok (.iconst 1, 1) := by decide +kernel
theorem dX9_answers_49 : decode cX9_answers 49 = .ok (.ireturn, 1) := by decide +kernel
theorem dX9_ask_0 : decode cX9_ask 0 = .ok (.aload_n 0, 1) := by decide +kernel
theorem dX9_ask_1 : decode cX9_ask 1 = .ok (.iload_n 1, 1) := by decide +kernel
theorem dX9_ask_2 : decode cX9_ask 2 = .ok (.invokevirtual 79, 3) := by decide +kernel
theorem dX9_ask_5 : decode cX9_ask 5 = .ok (.ifCond .eq 23, 3) := by decide +kernel
theorem dX9_ask_8 : decode cX9_ask 8 = .ok (.iload_n 2, 1) := by decide +kernel
theorem dX9_ask_9 : decode cX9_ask 9 = .ok (.iconst 0, 1) := by decide +kernel
theorem dX9_ask_10 : decode cX9_ask 10 = .ok (.iconst 5, 1) := by decide +kernel
theorem dX9_ask_11 : decode cX9_ask 11 = .ok (.invokestatic 45, 3) := by decide +kernel
theorem dX9_ask_14 : decode cX9_ask 14 = .ok (.ifCond .eq 14, 3) := by decide +kernel
theorem dX9_ask_17 : decode cX9_ask 17 = .ok (.iload_n 3, 1) := by decide +kernel
theorem dX9_ask_18 : decode cX9_ask 18 = .ok (.iconst 0, 1) := by decide +kernel
theorem dX9_ask_19 : decode cX9_ask 19 = .ok (.sipush 400, 3) := by decide +kernel
theorem dX9_ask_22 : decode cX9_ask 22 = .ok (.invokestatic 45, 3) := by decide +kernel
theorem dX9_ask_25 : decode cX9_ask 25 = .ok (.ifCond .ne 6, 3) := by decide +kernel
theorem dX9_ask_28 : decode cX9_ask 28 = .ok (.bipush (-2), 2) := by decide +kernel
theorem dX9_ask_30 : decode cX9_ask 30 = .ok (.ireturn, 1) := by decide +kernel
theorem dX9_ask_31 : decode cX9_ask 31 = .ok (.aload_n 0, 1) := by decide +kernel
theorem dX9_ask_32 : decode cX9_ask 32 = .ok (.iconst 0, 1) := by decide +kernel
theorem dX9_ask_33 : decode cX9_ask 33 = .ok (.putfield 54, 3) := by decide +kernel
theorem dX9_ask_36 : decode cX9_ask 36 = .ok (.aload_n 0, 1) := by decide +kernel
theorem dX9_ask_37 : decode cX9_ask 37 = .ok (.iload_n 1, 1) := by decide +kernel
theorem dX9_ask_38 : decode cX9_ask 38 = .ok (.iload_n 2, 1) := by decide +kernel
theorem dX9_ask_39 : decode cX9_ask 39 = .ok (.invokevirtual 82, 3) := by decide +kernel
theorem dX9_ask_42 : decode cX9_ask 42 = .ok (.ifCond .ne 6, 3) := by decide +kernel
theorem dX9_ask_45 : decode cX9_ask 45 = .ok (.bipush (-3), 2) := by decide +kernel
theorem dX9_ask_47 : decode cX9_ask 47 = .ok (.ireturn, 1) := by decide +kernel
theorem dX9_ask_48 : decode cX9_ask 48 = .ok (.aload_n 0, 1) := by decide +kernel
theorem dX9_ask_49 : decode cX9_ask 49 = .ok (.iconst 1, 1) := by decide +kernel
theorem dX9_ask_50 : decode cX9_ask 50 = .ok (.putfield 50, 3) := by decide +kernel
theorem dX9_ask_53 : decode cX9_ask 53 = .ok (.iload_n 2, 1) := by decide +kernel
theorem dX9_ask_54 : decode cX9_ask 54 = .ok (.ifCond .ne 12, 3) := by decide +kernel
theorem dX9_ask_57 : decode cX9_ask 57 = .ok (.aload_n 0, 1) := by decide +kernel
theorem dX9_ask_58 : decode cX9_ask 58 = .ok (.iload_n 1, 1) := by decide +kernel
theorem dX9_ask_59 : decode cX9_ask 59 = .ok (.iload_n 3, 1) := by decide +kernel
theorem dX9_ask_60 : decode cX9_ask 60 = .ok (.invokevirtual 86, 3) := by decide +kernel
theorem dX9_ask_63 : decode cX9_ask 63 = .ok (.goto 63, 3) := by decide +kernel
theorem dX9_ask_66 : decode cX9_ask 66 = .ok (.iload_n 2, 1) := by decide +kernel
theorem dX9_ask_67 : decode cX9_ask 67 = .ok (.iconst 1, 1) := by decide +kernel
theorem dX9_ask_68 : decode cX9_ask 68 = .ok (.if_icmp .ne 12, 3) := by decide +kernel
theorem dX9_ask_71 : decode cX9_ask 71 = .ok (.aload_n 0, 1) := by decide +kernel
theorem dX9_ask_72 : decode cX9_ask 72 = .ok (.iload_n 1, 1) := by decide +kernel
theorem dX9_ask_73 : decode cX9_ask 73 = .ok (.iload_n 3, 1) := by decide +kernel
theorem dX9_ask_74 : decode cX9_ask 74 = .ok (.invokevirtual 68, 3) := by decide +kernel
theorem dX9_ask_77 : decode cX9_ask 77 = .ok (.goto 49, 3) := by decide +kernel
theorem dX9_ask_80 : decode cX9_ask 80 = .ok (.iload_n 2, 1) := by decide +kernel
theorem dX9_ask_81 : decode cX9_ask 81 = .ok (.iconst 2, 1) := by decide +kernel
theorem dX9_ask_82 : decode cX9_ask 82 = .ok (.if_icmp .ne 11, 3) := by decide +kernel
theorem dX9_ask_85 : decode cX9_ask 85 = .ok (.aload_n 0, 1) := by decide +kernel
theorem dX9_ask_86 : decode cX9_ask 86 = .ok (.iload_n 1, 1) := by decide +kernel
theorem dX9_ask_87 : decode cX9_ask 87 = .ok (.invokevirtual 65, 3) := by decide +kernel
theorem dX9_ask_90 : decode cX9_ask 90 = .ok (.goto 36, 3) := by decide +kernel
theorem dX9_ask_93 : decode cX9_ask 93 = .ok (.iload_n 2, 1) := by decide +kernel
theorem dX9_ask_94 : decode cX9_ask 94 = .ok (.iconst 3, 1) := by decide +kernel
theorem dX9_ask_95 : decode cX9_ask 95 = .ok (.if_icmp .ne 11, 3) := by decide +kernel
theorem dX9_ask_98 : decode cX9_ask 98 = .ok (.aload_n 0, 1) := by decide +kernel
theorem dX9_ask_99 : decode cX9_ask 99 = .ok (.iload_n 1, 1) := by decide +kernel
theorem dX9_ask_100 : decode cX9_ask 100 = .ok (.invokevirtual 61, 3) := by decide +kernel
theorem dX9_ask_103 : decode cX9_ask 103 = .ok (.goto 23, 3) := by decide +kernel
theorem dX9_ask_106 : decode cX9_ask 106 = .ok (.iload_n 2, 1) := by decide +kernel
theorem dX9_ask_107 : decode cX9_ask 107 = .ok (.iconst 4, 1) := by decide +kernel
theorem dX9_ask_108 : decode cX9_ask 108 = .ok (.if_icmp .ne 12, 3) := by decide +kernel
theorem dX9_ask_111 : decode cX9_ask 111 = .ok (.aload_n 0, 1) := by decide +kernel
theorem dX9_ask_112 : decode cX9_ask 112 = .ok (.iload_n 1, 1) := by decide +kernel
theorem dX9_ask_113 : decode cX9_ask 113 = .ok (.iload_n 3, 1) := by decide +kernel
theorem dX9_ask_114 : decode cX9_ask 114 = .ok (.invokevirtual 89, 3) := by decide +kernel
theorem dX9_ask_117 : decode cX9_ask 117 = .ok (.goto 9, 3) := by decide +kernel
theorem dX9_ask_120 : decode cX9_ask 120 = .ok (.aload_n 0, 1) := by decide +kernel
theorem dX9_ask_121 : decode cX9_ask 121 = .ok (.iload_n 1, 1) := by decide +kernel
theorem dX9_ask_122 : decode cX9_ask 122 = .ok (.iload_n 3, 1) := by decide +kernel
theorem dX9_ask_123 : decode cX9_ask 123 = .ok (.invokevirtual 92, 3) := by decide +kernel
theorem dX9_ask_126 : decode cX9_ask 126 = .ok (.istore 4, 2) := by decide +kernel
theorem dX9_ask_128 : decode cX9_ask 128 = .ok (.aload_n 0, 1) := by decide +kernel
theorem dX9_ask_129 : decode cX9_ask 129 = .ok (.iconst 0, 1) := by decide +kernel
theorem dX9_ask_130 : decode cX9_ask 130 = .ok (.putfield 50, 3) := by decide +kernel
theorem dX9_ask_133 : decode cX9_ask 133 = .ok (.iload 4, 2) := by decide +kernel
theorem dX9_ask_135 : decode cX9_ask 135 = .ok (.ireturn, 1) := by decide +kernel
theorem dX9_trace_0 : decode cX9_trace 0 = .ok (.iload_n 1, 1) := by decide +kernel
theorem dX9_trace_1 : decode cX9_trace 1 = .ok (.iconst 0, 1) := by decide +kernel
theorem dX9_trace_2 : decode cX9_trace 2 = .ok (.aload_n 0, 1) := by decide +kernel
theorem dX9_trace_3 : decode cX9_trace 3 = .ok (.getfield 54, 3) := by decide +kernel
theorem dX9_trace_6 : decode cX9_trace 6 = .ok (.iconst 1, 1) := by decide +kernel
theorem dX9_trace_7 : decode cX9_trace 7 = .ok (.isub, 1) := by decide +kernel
theorem dX9_trace_8 : decode cX9_trace 8 = .ok (.invokestatic 45, 3) := by decide +kernel
theorem dX9_trace_11 : decode cX9_trace 11 = .ok (.ifCond .eq 12, 3) := by decide +kernel
theorem dX9_trace_14 : decode cX9_trace 14 = .ok (.aload_n 0, 1) := by decide +kernel
theorem dX9_trace_15 : decode cX9_trace 15 = .ok (.getfield 35, 3) := by decide +kernel
theorem dX9_trace_18 : decode cX9_trace 18 = .ok (.iload_n 1, 1) := by decide +kernel
theorem dX9_trace_19 : decode cX9_trace 19 = .ok (.iaload, 1) := by decide +kernel
theorem dX9_trace_20 : decode cX9_trace 20 = .ok (.goto 4, 3) := by decide +kernel
theorem dX9_trace_23 : decode cX9_trace 23 = .ok (.iconst (-1), 1) := by decide +kernel
theorem dX9_trace_24 : decode cX9_trace 24 = .ok (.ireturn, 1) := by decide +kernel
theorem dX9_lent_0 : decode cX9_lent 0 = .ok (.aload_n 0, 1) := by decide +kernel
theorem dX9_lent_1 : decode cX9_lent 1 = .ok (.getfield 7, 3) := by decide +kernel
theorem dX9_lent_4 : decode cX9_lent 4 = .ok (.iload_n 1, 1) := by decide +kernel
theorem dX9_lent_5 : decode cX9_lent 5 = .ok (.iaload, 1) := by decide +kernel
theorem dX9_lent_6 : decode cX9_lent 6 = .ok (.ifCond .le 11, 3) := by decide +kernel
theorem dX9_lent_9 : decode cX9_lent 9 = .ok (.aload_n 0, 1) := by decide +kernel
theorem dX9_lent_10 : decode cX9_lent 10 = .ok (.iload_n 1, 1) := by decide +kernel
theorem dX9_lent_11 : decode cX9_lent 11 = .ok (.invokevirtual 61, 3) := by decide +kernel
theorem dX9_lent_14 : decode cX9_lent 14 = .ok (.goto 4, 3) := by decide +kernel
theorem dX9_lent_17 : decode cX9_lent 17 = .ok (.iconst 0, 1) := by decide +kernel
theorem dX9_lent_18 : decode cX9_lent 18 = .ok (.ireturn, 1) := by decide +kernel
theorem dX9_hire_0 : decode cX9_hire 0 = .ok (.aload_n 0, 1) := by decide +kernel
theorem dX9_hire_1 : decode cX9_hire 1 = .ok (.iload_n 1, 1) := by decide +kernel
theorem dX9_hire_2 : decode cX9_hire 2 = .ok (.invokevirtual 79, 3) := by decide +kernel
theorem dX9_hire_5 : decode cX9_hire 5 = .ok (.ifCond .eq 12, 3) := by decide +kernel
theorem dX9_hire_8 : decode cX9_hire 8 = .ok (.iload_n 2, 1) := by decide +kernel
theorem dX9_hire_9 : decode cX9_hire 9 = .ok (.iconst 0, 1) := by decide +kernel
theorem dX9_hire_10 : decode cX9_hire 10 = .ok (.iconst 5, 1) := by decide +kernel
theorem dX9_hire_11 : decode cX9_hire 11 = .ok (.invokestatic 45, 3) := by decide +kernel
theorem dX9_hire_14 : decode cX9_hire 14 = .ok (.ifCond .ne 6, 3) := by decide +kernel
theorem dX9_hire_17 : decode cX9_hire 17 = .ok (.bipush (-2), 2) := by decide +kernel
theorem dX9_hire_19 : decode cX9_hire 19 = .ok (.ireturn, 1) := by decide +kernel
theorem dX9_hire_20 : decode cX9_hire 20 = .ok (.aload_n 0, 1) := by decide +kernel
theorem dX9_hire_21 : decode cX9_hire 21 = .ok (.getfield 22, 3) := by decide +kernel
theorem dX9_hire_24 : decode cX9_hire 24 = .ok (.iload_n 1, 1) := by decide +kernel
theorem dX9_hire_25 : decode cX9_hire 25 = .ok (.iaload, 1) := by decide +kernel
theorem dX9_hire_26 : decode cX9_hire 26 = .ok (.ifCond .ne 21, 3) := by decide +kernel
theorem dX9_hire_29 : decode cX9_hire 29 = .ok (.aload_n 0, 1) := by decide +kernel
theorem dX9_hire_30 : decode cX9_hire 30 = .ok (.iload_n 1, 1) := by decide +kernel
theorem dX9_hire_31 : decode cX9_hire 31 = .ok (.invokevirtual 76, 3) := by decide +kernel
theorem dX9_hire_34 : decode cX9_hire 34 = .ok (.ifCond .eq 16, 3) := by decide +kernel
theorem dX9_hire_37 : decode cX9_hire 37 = .ok (.aload_n 0, 1) := by decide +kernel
theorem dX9_hire_38 : decode cX9_hire 38 = .ok (.iload_n 1, 1) := by decide +kernel
theorem dX9_hire_39 : decode cX9_hire 39 = .ok (.iconst 1, 1) := by decide +kernel
theorem dX9_hire_40 : decode cX9_hire 40 = .ok (.invokevirtual 92, 3) := by decide +kernel
theorem dX9_hire_43 : decode cX9_hire 43 = .ok (.iconst 1, 1) := by decide +kernel
theorem dX9_hire_44 : decode cX9_hire 44 = .ok (.if_icmp .ne 6, 3) := by decide +kernel
theorem dX9_hire_47 : decode cX9_hire 47 = .ok (.bipush (-3), 2) := by decide +kernel
theorem dX9_hire_49 : decode cX9_hire 49 = .ok (.ireturn, 1) := by decide +kernel
theorem dX9_hire_50 : decode cX9_hire 50 = .ok (.aload_n 0, 1) := by decide +kernel
theorem dX9_hire_51 : decode cX9_hire 51 = .ok (.getfield 31, 3) := by decide +kernel
theorem dX9_hire_54 : decode cX9_hire 54 = .ok (.iload_n 2, 1) := by decide +kernel
theorem dX9_hire_55 : decode cX9_hire 55 = .ok (.dup2, 1) := by decide +kernel
theorem dX9_hire_56 : decode cX9_hire 56 = .ok (.laload, 1) := by decide +kernel
theorem dX9_hire_57 : decode cX9_hire 57 = .ok (.aload_n 0, 1) := by decide +kernel
theorem dX9_hire_58 : decode cX9_hire 58 = .ok (.iload_n 1, 1) := by decide +kernel
theorem dX9_hire_59 : decode cX9_hire 59 = .ok (.invokevirtual 95, 3) := by decide +kernel
theorem dX9_hire_62 : decode cX9_hire 62 = .ok (.i2l, 1) := by decide +kernel
theorem dX9_hire_63 : decode cX9_hire 63 = .ok (.lsub, 1) := by decide +kernel
theorem dX9_hire_64 : decode cX9_hire 64 = .ok (.lastore, 1) := by decide +kernel
theorem dX9_hire_65 : decode cX9_hire 65 = .ok (.aload_n 0, 1) := by decide +kernel
theorem dX9_hire_66 : decode cX9_hire 66 = .ok (.getfield 22, 3) := by decide +kernel
theorem dX9_hire_69 : decode cX9_hire 69 = .ok (.iload_n 1, 1) := by decide +kernel
theorem dX9_hire_70 : decode cX9_hire 70 = .ok (.iconst 1, 1) := by decide +kernel
theorem dX9_hire_71 : decode cX9_hire 71 = .ok (.iastore, 1) := by decide +kernel
theorem dX9_hire_72 : decode cX9_hire 72 = .ok (.aload_n 0, 1) := by decide +kernel
theorem dX9_hire_73 : decode cX9_hire 73 = .ok (.getfield 25, 3) := by decide +kernel
theorem dX9_hire_76 : decode cX9_hire 76 = .ok (.iload_n 1, 1) := by decide +kernel
theorem dX9_hire_77 : decode cX9_hire 77 = .ok (.iload_n 2, 1) := by decide +kernel
theorem dX9_hire_78 : decode cX9_hire 78 = .ok (.iastore, 1) := by decide +kernel
theorem dX9_hire_79 : decode cX9_hire 79 = .ok (.aload_n 0, 1) := by decide +kernel
theorem dX9_hire_80 : decode cX9_hire 80 = .ok (.getfield 28, 3) := by decide +kernel
theorem dX9_hire_83 : decode cX9_hire 83 = .ok (.iload_n 1, 1) := by decide +kernel
theorem dX9_hire_84 : decode cX9_hire 84 = .ok (.aload_n 0, 1) := by decide +kernel
theorem dX9_hire_85 : decode cX9_hire 85 = .ok (.getfield 38, 3) := by decide +kernel
theorem dX9_hire_88 : decode cX9_hire 88 = .ok (.iastore, 1) := by decide +kernel
theorem dX9_hire_89 : decode cX9_hire 89 = .ok (.aload_n 0, 1) := by decide +kernel
theorem dX9_hire_90 : decode cX9_hire 90 = .ok (.dup, 1) := by decide +kernel
theorem dX9_hire_91 : decode cX9_hire 91 = .ok (.getfield 98, 3) := by decide +kernel
theorem dX9_hire_94 : decode cX9_hire 94 = .ok (.iconst 1, 1) := by decide +kernel
theorem dX9_hire_95 : decode cX9_hire 95 = .ok (.iadd, 1) := by decide +kernel
theorem dX9_hire_96 : decode cX9_hire 96 = .ok (.putfield 98, 3) := by decide +kernel
theorem dX9_hire_99 : decode cX9_hire 99 = .ok (.aload_n 0, 1) := by decide +kernel
theorem dX9_hire_100 : decode cX9_hire 100 = .ok (.iload_n 1, 1) := by decide +kernel
theorem dX9_hire_101 : decode cX9_hire 101 = .ok (.invokevirtual 95, 3) := by decide +kernel
theorem dX9_hire_104 : decode cX9_hire 104 = .ok (.ireturn, 1) := by decide +kernel
theorem dX9_back_0 : decode cX9_back 0 = .ok (.aload_n 0, 1) := by decide +kernel
theorem dX9_back_1 : decode cX9_back 1 = .ok (.iload_n 1, 1) := by decide +kernel
theorem dX9_back_2 : decode cX9_back 2 = .ok (.invokevirtual 79, 3) := by decide +kernel
theorem dX9_back_5 : decode cX9_back 5 = .ok (.ifCond .ne 6, 3) := by decide +kernel
theorem dX9_back_8 : decode cX9_back 8 = .ok (.bipush (-2), 2) := by decide +kernel
theorem dX9_back_10 : decode cX9_back 10 = .ok (.ireturn, 1) := by decide +kernel
theorem dX9_back_11 : decode cX9_back 11 = .ok (.aload_n 0, 1) := by decide +kernel
theorem dX9_back_12 : decode cX9_back 12 = .ok (.getfield 22, 3) := by decide +kernel
theorem dX9_back_15 : decode cX9_back 15 = .ok (.iload_n 1, 1) := by decide +kernel
theorem dX9_back_16 : decode cX9_back 16 = .ok (.iaload, 1) := by decide +kernel
theorem dX9_back_17 : decode cX9_back 17 = .ok (.iconst 1, 1) := by decide +kernel
theorem dX9_back_18 : decode cX9_back 18 = .ok (.if_icmp .eq 6, 3) := by decide +kernel
theorem dX9_back_21 : decode cX9_back 21 = .ok (.bipush (-3), 2) := by decide +kernel
theorem dX9_back_23 : decode cX9_back 23 = .ok (.ireturn, 1) := by decide +kernel
theorem dX9_back_24 : decode cX9_back 24 = .ok (.aload_n 0, 1) := by decide +kernel
theorem dX9_back_25 : decode cX9_back 25 = .ok (.getfield 38, 3) := by decide +kernel
theorem dX9_back_28 : decode cX9_back 28 = .ok (.aload_n 0, 1) := by decide +kernel
theorem dX9_back_29 : decode cX9_back 29 = .ok (.getfield 28, 3) := by decide +kernel
theorem dX9_back_32 : decode cX9_back 32 = .ok (.iload_n 1, 1) := by decide +kernel
theorem dX9_back_33 : decode cX9_back 33 = .ok (.iaload, 1) := by decide +kernel
theorem dX9_back_34 : decode cX9_back 34 = .ok (.isub, 1) := by decide +kernel
theorem dX9_back_35 : decode cX9_back 35 = .ok (.iconst 1, 1) := by decide +kernel
theorem dX9_back_36 : decode cX9_back 36 = .ok (.if_icmp .ge 7, 3) := by decide +kernel
theorem dX9_back_39 : decode cX9_back 39 = .ok (.iconst 1, 1) := by decide +kernel
theorem dX9_back_40 : decode cX9_back 40 = .ok (.goto 14, 3) := by decide +kernel
theorem dX9_back_43 : decode cX9_back 43 = .ok (.aload_n 0, 1) := by decide +kernel
theorem dX9_back_44 : decode cX9_back 44 = .ok (.getfield 38, 3) := by decide +kernel
theorem dX9_back_47 : decode cX9_back 47 = .ok (.aload_n 0, 1) := by decide +kernel
theorem dX9_back_48 : decode cX9_back 48 = .ok (.getfield 28, 3) := by decide +kernel
theorem dX9_back_51 : decode cX9_back 51 = .ok (.iload_n 1, 1) := by decide +kernel
theorem dX9_back_52 : decode cX9_back 52 = .ok (.iaload, 1) := by decide +kernel
theorem dX9_back_53 : decode cX9_back 53 = .ok (.isub, 1) := by decide +kernel
theorem dX9_back_54 : decode cX9_back 54 = .ok (.istore_n 2, 1) := by decide +kernel
theorem dX9_back_55 : decode cX9_back 55 = .ok (.aload_n 0, 1) := by decide +kernel
theorem dX9_back_56 : decode cX9_back 56 = .ok (.iload_n 1, 1) := by decide +kernel
theorem dX9_back_57 : decode cX9_back 57 = .ok (.iload_n 2, 1) := by decide +kernel
theorem dX9_back_58 : decode cX9_back 58 = .ok (.invokevirtual 86, 3) := by decide +kernel
theorem dX9_back_61 : decode cX9_back 61 = .ok (.aload_n 0, 1) := by decide +kernel
theorem dX9_back_62 : decode cX9_back 62 = .ok (.iload_n 1, 1) := by decide +kernel
theorem dX9_back_63 : decode cX9_back 63 = .ok (.invokevirtual 72, 3) := by decide +kernel
end
section
theorem dX9_back_66 : decode cX9_back 66 = .ok (.ifCond .eq 12, 3) := by decide +kernel
theorem dX9_back_69 : decode cX9_back 69 = .ok (.aload_n 0, 1) := by decide +kernel
theorem dX9_back_70 : decode cX9_back 70 = .ok (.iload_n 1, 1) := by decide +kernel
theorem dX9_back_71 : decode cX9_back 71 = .ok (.iload_n 2, 1) := by decide +kernel
theorem dX9_back_72 : decode cX9_back 72 = .ok (.invokevirtual 89, 3) := by decide +kernel
theorem dX9_back_75 : decode cX9_back 75 = .ok (.goto 4, 3) := by decide +kernel
theorem dX9_back_78 : decode cX9_back 78 = .ok (.iconst 0, 1) := by decide +kernel
theorem dX9_back_79 : decode cX9_back 79 = .ok (.iadd, 1) := by decide +kernel
theorem dX9_back_80 : decode cX9_back 80 = .ok (.istore_n 3, 1) := by decide +kernel
theorem dX9_back_81 : decode cX9_back 81 = .ok (.aload_n 0, 1) := by decide +kernel
theorem dX9_back_82 : decode cX9_back 82 = .ok (.getfield 31, 3) := by decide +kernel
theorem dX9_back_85 : decode cX9_back 85 = .ok (.aload_n 0, 1) := by decide +kernel
theorem dX9_back_86 : decode cX9_back 86 = .ok (.getfield 25, 3) := by decide +kernel
theorem dX9_back_89 : decode cX9_back 89 = .ok (.iload_n 1, 1) := by decide +kernel
theorem dX9_back_90 : decode cX9_back 90 = .ok (.iaload, 1) := by decide +kernel
theorem dX9_back_91 : decode cX9_back 91 = .ok (.dup2, 1) := by decide +kernel
theorem dX9_back_92 : decode cX9_back 92 = .ok (.laload, 1) := by decide +kernel
theorem dX9_back_93 : decode cX9_back 93 = .ok (.aload_n 0, 1) := by decide +kernel
theorem dX9_back_94 : decode cX9_back 94 = .ok (.iload_n 1, 1) := by decide +kernel
theorem dX9_back_95 : decode cX9_back 95 = .ok (.invokevirtual 95, 3) := by decide +kernel
theorem dX9_back_98 : decode cX9_back 98 = .ok (.iload_n 3, 1) := by decide +kernel
theorem dX9_back_99 : decode cX9_back 99 = .ok (.isub, 1) := by decide +kernel
theorem dX9_back_100 : decode cX9_back 100 = .ok (.i2l, 1) := by decide +kernel
theorem dX9_back_101 : decode cX9_back 101 = .ok (.ladd, 1) := by decide +kernel
theorem dX9_back_102 : decode cX9_back 102 = .ok (.lastore, 1) := by decide +kernel
theorem dX9_back_103 : decode cX9_back 103 = .ok (.aload_n 0, 1) := by decide +kernel
theorem dX9_back_104 : decode cX9_back 104 = .ok (.getfield 19, 3) := by decide +kernel
theorem dX9_back_107 : decode cX9_back 107 = .ok (.iload_n 1, 1) := by decide +kernel
theorem dX9_back_108 : decode cX9_back 108 = .ok (.dup2, 1) := by decide +kernel
theorem dX9_back_109 : decode cX9_back 109 = .ok (.iaload, 1) := by decide +kernel
theorem dX9_back_110 : decode cX9_back 110 = .ok (.aload_n 0, 1) := by decide +kernel
theorem dX9_back_111 : decode cX9_back 111 = .ok (.iload_n 1, 1) := by decide +kernel
theorem dX9_back_112 : decode cX9_back 112 = .ok (.iload_n 2, 1) := by decide +kernel
theorem dX9_back_113 : decode cX9_back 113 = .ok (.invokevirtual 68, 3) := by decide +kernel
theorem dX9_back_116 : decode cX9_back 116 = .ok (.iadd, 1) := by decide +kernel
theorem dX9_back_117 : decode cX9_back 117 = .ok (.iastore, 1) := by decide +kernel
theorem dX9_back_118 : decode cX9_back 118 = .ok (.aload_n 0, 1) := by decide +kernel
theorem dX9_back_119 : decode cX9_back 119 = .ok (.getfield 22, 3) := by decide +kernel
theorem dX9_back_122 : decode cX9_back 122 = .ok (.iload_n 1, 1) := by decide +kernel
theorem dX9_back_123 : decode cX9_back 123 = .ok (.aload_n 0, 1) := by decide +kernel
theorem dX9_back_124 : decode cX9_back 124 = .ok (.iload_n 1, 1) := by decide +kernel
theorem dX9_back_125 : decode cX9_back 125 = .ok (.invokevirtual 65, 3) := by decide +kernel
theorem dX9_back_128 : decode cX9_back 128 = .ok (.bipush 9, 2) := by decide +kernel
theorem dX9_back_130 : decode cX9_back 130 = .ok (.if_icmp .le 7, 3) := by decide +kernel
theorem dX9_back_133 : decode cX9_back 133 = .ok (.iconst 2, 1) := by decide +kernel
theorem dX9_back_134 : decode cX9_back 134 = .ok (.goto 4, 3) := by decide +kernel
theorem dX9_back_137 : decode cX9_back 137 = .ok (.iconst 0, 1) := by decide +kernel
theorem dX9_back_138 : decode cX9_back 138 = .ok (.iastore, 1) := by decide +kernel
theorem dX9_back_139 : decode cX9_back 139 = .ok (.iload_n 3, 1) := by decide +kernel
theorem dX9_back_140 : decode cX9_back 140 = .ok (.ireturn, 1) := by decide +kernel
theorem dX9_service_0 : decode cX9_service 0 = .ok (.aload_n 0, 1) := by decide +kernel
theorem dX9_service_1 : decode cX9_service 1 = .ok (.iload_n 1, 1) := by decide +kernel
theorem dX9_service_2 : decode cX9_service 2 = .ok (.invokevirtual 79, 3) := by decide +kernel
theorem dX9_service_5 : decode cX9_service 5 = .ok (.ifCond .ne 6, 3) := by decide +kernel
theorem dX9_service_8 : decode cX9_service 8 = .ok (.bipush (-2), 2) := by decide +kernel
theorem dX9_service_10 : decode cX9_service 10 = .ok (.ireturn, 1) := by decide +kernel
theorem dX9_service_11 : decode cX9_service 11 = .ok (.aload_n 0, 1) := by decide +kernel
theorem dX9_service_12 : decode cX9_service 12 = .ok (.getfield 22, 3) := by decide +kernel
theorem dX9_service_15 : decode cX9_service 15 = .ok (.iload_n 1, 1) := by decide +kernel
theorem dX9_service_16 : decode cX9_service 16 = .ok (.iaload, 1) := by decide +kernel
theorem dX9_service_17 : decode cX9_service 17 = .ok (.iconst 1, 1) := by decide +kernel
theorem dX9_service_18 : decode cX9_service 18 = .ok (.if_icmp .ne 6, 3) := by decide +kernel
theorem dX9_service_21 : decode cX9_service 21 = .ok (.bipush (-3), 2) := by decide +kernel
theorem dX9_service_23 : decode cX9_service 23 = .ok (.ireturn, 1) := by decide +kernel
theorem dX9_service_24 : decode cX9_service 24 = .ok (.bipush 100, 2) := by decide +kernel
theorem dX9_service_26 : decode cX9_service 26 = .ok (.bipush 50, 2) := by decide +kernel
theorem dX9_service_28 : decode cX9_service 28 = .ok (.aload_n 0, 1) := by decide +kernel
theorem dX9_service_29 : decode cX9_service 29 = .ok (.iload_n 1, 1) := by decide +kernel
theorem dX9_service_30 : decode cX9_service 30 = .ok (.invokevirtual 65, 3) := by decide +kernel
theorem dX9_service_33 : decode cX9_service 33 = .ok (.imul, 1) := by decide +kernel
theorem dX9_service_34 : decode cX9_service 34 = .ok (.iadd, 1) := by decide +kernel
theorem dX9_service_35 : decode cX9_service 35 = .ok (.istore_n 2, 1) := by decide +kernel
theorem dX9_service_36 : decode cX9_service 36 = .ok (.aload_n 0, 1) := by decide +kernel
theorem dX9_service_37 : decode cX9_service 37 = .ok (.getfield 19, 3) := by decide +kernel
theorem dX9_service_40 : decode cX9_service 40 = .ok (.iload_n 1, 1) := by decide +kernel
theorem dX9_service_41 : decode cX9_service 41 = .ok (.iconst 0, 1) := by decide +kernel
theorem dX9_service_42 : decode cX9_service 42 = .ok (.iastore, 1) := by decide +kernel
theorem dX9_service_43 : decode cX9_service 43 = .ok (.aload_n 0, 1) := by decide +kernel
theorem dX9_service_44 : decode cX9_service 44 = .ok (.getfield 22, 3) := by decide +kernel
theorem dX9_service_47 : decode cX9_service 47 = .ok (.iload_n 1, 1) := by decide +kernel
theorem dX9_service_48 : decode cX9_service 48 = .ok (.iconst 0, 1) := by decide +kernel
theorem dX9_service_49 : decode cX9_service 49 = .ok (.iastore, 1) := by decide +kernel
theorem dX9_service_50 : decode cX9_service 50 = .ok (.aload_n 0, 1) := by decide +kernel
theorem dX9_service_51 : decode cX9_service 51 = .ok (.dup, 1) := by decide +kernel
theorem dX9_service_52 : decode cX9_service 52 = .ok (.getfield 101, 3) := by decide +kernel
theorem dX9_service_55 : decode cX9_service 55 = .ok (.iload_n 2, 1) := by decide +kernel
theorem dX9_service_56 : decode cX9_service 56 = .ok (.iadd, 1) := by decide +kernel
theorem dX9_service_57 : decode cX9_service 57 = .ok (.putfield 101, 3) := by decide +kernel
theorem dX9_service_60 : decode cX9_service 60 = .ok (.iload_n 2, 1) := by decide +kernel
theorem dX9_service_61 : decode cX9_service 61 = .ok (.ireturn, 1) := by decide +kernel
theorem dX9_day_0 : decode cX9_day 0 = .ok (.iload_n 1, 1) := by decide +kernel
theorem dX9_day_1 : decode cX9_day 1 = .ok (.iconst 1, 1) := by decide +kernel
theorem dX9_day_2 : decode cX9_day 2 = .ok (.bipush 50, 2) := by decide +kernel
theorem dX9_day_4 : decode cX9_day 4 = .ok (.invokestatic 45, 3) := by decide +kernel
theorem dX9_day_7 : decode cX9_day 7 = .ok (.ifCond .ne 6, 3) := by decide +kernel
theorem dX9_day_10 : decode cX9_day 10 = .ok (.bipush (-2), 2) := by decide +kernel
theorem dX9_day_12 : decode cX9_day 12 = .ok (.ireturn, 1) := by decide +kernel
theorem dX9_day_13 : decode cX9_day 13 = .ok (.aload_n 0, 1) := by decide +kernel
theorem dX9_day_14 : decode cX9_day 14 = .ok (.getfield 38, 3) := by decide +kernel
theorem dX9_day_17 : decode cX9_day 17 = .ok (.iload_n 1, 1) := by decide +kernel
theorem dX9_day_18 : decode cX9_day 18 = .ok (.iadd, 1) := by decide +kernel
theorem dX9_day_19 : decode cX9_day 19 = .ok (.sipush 20000, 3) := by decide +kernel
theorem dX9_day_22 : decode cX9_day 22 = .ok (.if_icmp .le 6, 3) := by decide +kernel
theorem dX9_day_25 : decode cX9_day 25 = .ok (.bipush (-4), 2) := by decide +kernel
theorem dX9_day_27 : decode cX9_day 27 = .ok (.ireturn, 1) := by decide +kernel
theorem dX9_day_28 : decode cX9_day 28 = .ok (.aload_n 0, 1) := by decide +kernel
theorem dX9_day_29 : decode cX9_day 29 = .ok (.dup, 1) := by decide +kernel
theorem dX9_day_30 : decode cX9_day 30 = .ok (.getfield 38, 3) := by decide +kernel
theorem dX9_day_33 : decode cX9_day 33 = .ok (.iload_n 1, 1) := by decide +kernel
theorem dX9_day_34 : decode cX9_day 34 = .ok (.iadd, 1) := by decide +kernel
theorem dX9_day_35 : decode cX9_day 35 = .ok (.putfield 38, 3) := by decide +kernel
theorem dX9_day_38 : decode cX9_day 38 = .ok (.aload_n 0, 1) := by decide +kernel
theorem dX9_day_39 : decode cX9_day 39 = .ok (.getfield 38, 3) := by decide +kernel
theorem dX9_day_42 : decode cX9_day 42 = .ok (.ireturn, 1) := by decide +kernel
theorem dX9_account_0 : decode cX9_account 0 = .ok (.iload_n 1, 1) := by decide +kernel
theorem dX9_account_1 : decode cX9_account 1 = .ok (.iconst 0, 1) := by decide +kernel
theorem dX9_account_2 : decode cX9_account 2 = .ok (.iconst 5, 1) := by decide +kernel
theorem dX9_account_3 : decode cX9_account 3 = .ok (.invokestatic 45, 3) := by decide +kernel
theorem dX9_account_6 : decode cX9_account 6 = .ok (.ifCond .eq 12, 3) := by decide +kernel
theorem dX9_account_9 : decode cX9_account 9 = .ok (.aload_n 0, 1) := by decide +kernel
theorem dX9_account_10 : decode cX9_account 10 = .ok (.getfield 31, 3) := by decide +kernel
theorem dX9_account_13 : decode cX9_account 13 = .ok (.iload_n 1, 1) := by decide +kernel
theorem dX9_account_14 : decode cX9_account 14 = .ok (.laload, 1) := by decide +kernel
theorem dX9_account_15 : decode cX9_account 15 = .ok (.goto 4, 3) := by decide +kernel
theorem dX9_account_18 : decode cX9_account 18 = .ok (.lconst 0, 1) := by decide +kernel
theorem dX9_account_19 : decode cX9_account 19 = .ok (.lreturn, 1) := by decide +kernel
theorem dX9_told_0 : decode cX9_told 0 = .ok (.aload_n 0, 1) := by decide +kernel
theorem dX9_told_1 : decode cX9_told 1 = .ok (.iload_n 1, 1) := by decide +kernel
theorem dX9_told_2 : decode cX9_told 2 = .ok (.invokevirtual 79, 3) := by decide +kernel
theorem dX9_told_5 : decode cX9_told 5 = .ok (.ifCond .ne 6, 3) := by decide +kernel
theorem dX9_told_8 : decode cX9_told 8 = .ok (.bipush (-2), 2) := by decide +kernel
theorem dX9_told_10 : decode cX9_told 10 = .ok (.ireturn, 1) := by decide +kernel
theorem dX9_told_11 : decode cX9_told 11 = .ok (.iload_n 2, 1) := by decide +kernel
theorem dX9_told_12 : decode cX9_told 12 = .ok (.tableswitch 135 0 6 #[44, 51, 58, 65, 86, 107, 121], 44) := by decide +kernel
theorem dX9_told_56 : decode cX9_told 56 = .ok (.aload_n 0, 1) := by decide +kernel
theorem dX9_told_57 : decode cX9_told 57 = .ok (.getfield 7, 3) := by decide +kernel
theorem dX9_told_60 : decode cX9_told 60 = .ok (.iload_n 1, 1) := by decide +kernel
theorem dX9_told_61 : decode cX9_told 61 = .ok (.iaload, 1) := by decide +kernel
theorem dX9_told_62 : decode cX9_told 62 = .ok (.ireturn, 1) := by decide +kernel
theorem dX9_told_63 : decode cX9_told 63 = .ok (.aload_n 0, 1) := by decide +kernel
theorem dX9_told_64 : decode cX9_told 64 = .ok (.getfield 19, 3) := by decide +kernel
theorem dX9_told_67 : decode cX9_told 67 = .ok (.iload_n 1, 1) := by decide +kernel
theorem dX9_told_68 : decode cX9_told 68 = .ok (.iaload, 1) := by decide +kernel
theorem dX9_told_69 : decode cX9_told 69 = .ok (.ireturn, 1) := by decide +kernel
theorem dX9_told_70 : decode cX9_told 70 = .ok (.aload_n 0, 1) := by decide +kernel
theorem dX9_told_71 : decode cX9_told 71 = .ok (.getfield 22, 3) := by decide +kernel
theorem dX9_told_74 : decode cX9_told 74 = .ok (.iload_n 1, 1) := by decide +kernel
theorem dX9_told_75 : decode cX9_told 75 = .ok (.iaload, 1) := by decide +kernel
theorem dX9_told_76 : decode cX9_told 76 = .ok (.ireturn, 1) := by decide +kernel
theorem dX9_told_77 : decode cX9_told 77 = .ok (.aload_n 0, 1) := by decide +kernel
theorem dX9_told_78 : decode cX9_told 78 = .ok (.getfield 22, 3) := by decide +kernel
theorem dX9_told_81 : decode cX9_told 81 = .ok (.iload_n 1, 1) := by decide +kernel
theorem dX9_told_82 : decode cX9_told 82 = .ok (.iaload, 1) := by decide +kernel
theorem dX9_told_83 : decode cX9_told 83 = .ok (.iconst 1, 1) := by decide +kernel
theorem dX9_told_84 : decode cX9_told 84 = .ok (.if_icmp .ne 12, 3) := by decide +kernel
theorem dX9_told_87 : decode cX9_told 87 = .ok (.aload_n 0, 1) := by decide +kernel
theorem dX9_told_88 : decode cX9_told 88 = .ok (.getfield 25, 3) := by decide +kernel
theorem dX9_told_91 : decode cX9_told 91 = .ok (.iload_n 1, 1) := by decide +kernel
theorem dX9_told_92 : decode cX9_told 92 = .ok (.iaload, 1) := by decide +kernel
theorem dX9_told_93 : decode cX9_told 93 = .ok (.goto 4, 3) := by decide +kernel
theorem dX9_told_96 : decode cX9_told 96 = .ok (.iconst (-1), 1) := by decide +kernel
theorem dX9_told_97 : decode cX9_told 97 = .ok (.ireturn, 1) := by decide +kernel
theorem dX9_told_98 : decode cX9_told 98 = .ok (.aload_n 0, 1) := by decide +kernel
theorem dX9_told_99 : decode cX9_told 99 = .ok (.getfield 22, 3) := by decide +kernel
theorem dX9_told_102 : decode cX9_told 102 = .ok (.iload_n 1, 1) := by decide +kernel
theorem dX9_told_103 : decode cX9_told 103 = .ok (.iaload, 1) := by decide +kernel
theorem dX9_told_104 : decode cX9_told 104 = .ok (.iconst 1, 1) := by decide +kernel
theorem dX9_told_105 : decode cX9_told 105 = .ok (.if_icmp .ne 12, 3) := by decide +kernel
theorem dX9_told_108 : decode cX9_told 108 = .ok (.aload_n 0, 1) := by decide +kernel
theorem dX9_told_109 : decode cX9_told 109 = .ok (.getfield 28, 3) := by decide +kernel
theorem dX9_told_112 : decode cX9_told 112 = .ok (.iload_n 1, 1) := by decide +kernel
theorem dX9_told_113 : decode cX9_told 113 = .ok (.iaload, 1) := by decide +kernel
theorem dX9_told_114 : decode cX9_told 114 = .ok (.goto 4, 3) := by decide +kernel
theorem dX9_told_117 : decode cX9_told 117 = .ok (.iconst (-1), 1) := by decide +kernel
theorem dX9_told_118 : decode cX9_told 118 = .ok (.ireturn, 1) := by decide +kernel
theorem dX9_told_119 : decode cX9_told 119 = .ok (.aload_n 0, 1) := by decide +kernel
theorem dX9_told_120 : decode cX9_told 120 = .ok (.iload_n 1, 1) := by decide +kernel
theorem dX9_told_121 : decode cX9_told 121 = .ok (.invokevirtual 72, 3) := by decide +kernel
theorem dX9_told_124 : decode cX9_told 124 = .ok (.ifCond .eq 7, 3) := by decide +kernel
theorem dX9_told_127 : decode cX9_told 127 = .ok (.iconst 1, 1) := by decide +kernel
theorem dX9_told_128 : decode cX9_told 128 = .ok (.goto 4, 3) := by decide +kernel
theorem dX9_told_131 : decode cX9_told 131 = .ok (.iconst 0, 1) := by decide +kernel
theorem dX9_told_132 : decode cX9_told 132 = .ok (.ireturn, 1) := by decide +kernel
theorem dX9_told_133 : decode cX9_told 133 = .ok (.aload_n 0, 1) := by decide +kernel
theorem dX9_told_134 : decode cX9_told 134 = .ok (.iload_n 1, 1) := by decide +kernel
theorem dX9_told_135 : decode cX9_told 135 = .ok (.invokevirtual 76, 3) := by decide +kernel
theorem dX9_told_138 : decode cX9_told 138 = .ok (.ifCond .eq 7, 3) := by decide +kernel
theorem dX9_told_141 : decode cX9_told 141 = .ok (.iconst 1, 1) := by decide +kernel
theorem dX9_told_142 : decode cX9_told 142 = .ok (.goto 4, 3) := by decide +kernel
theorem dX9_told_145 : decode cX9_told 145 = .ok (.iconst 0, 1) := by decide +kernel
theorem dX9_told_146 : decode cX9_told 146 = .ok (.ireturn, 1) := by decide +kernel
theorem dX9_told_147 : decode cX9_told 147 = .ok (.bipush (-2), 2) := by decide +kernel
theorem dX9_told_149 : decode cX9_told 149 = .ok (.ireturn, 1) := by decide +kernel
theorem dX9_count_0 : decode cX9_count 0 = .ok (.iload_n 1, 1) := by decide +kernel
theorem dX9_count_1 : decode cX9_count 1 = .ok (.iconst 0, 1) := by decide +kernel
theorem dX9_count_2 : decode cX9_count 2 = .ok (.iconst 5, 1) := by decide +kernel
theorem dX9_count_3 : decode cX9_count 3 = .ok (.invokestatic 45, 3) := by decide +kernel
theorem dX9_count_6 : decode cX9_count 6 = .ok (.ifCond .ne 6, 3) := by decide +kernel
theorem dX9_count_9 : decode cX9_count 9 = .ok (.bipush (-2), 2) := by decide +kernel
theorem dX9_count_11 : decode cX9_count 11 = .ok (.ireturn, 1) := by decide +kernel
theorem dX9_count_12 : decode cX9_count 12 = .ok (.iconst 0, 1) := by decide +kernel
theorem dX9_count_13 : decode cX9_count 13 = .ok (.istore_n 2, 1) := by decide +kernel
theorem dX9_count_14 : decode cX9_count 14 = .ok (.iconst 0, 1) := by decide +kernel
theorem dX9_count_15 : decode cX9_count 15 = .ok (.istore_n 3, 1) := by decide +kernel
theorem dX9_count_16 : decode cX9_count 16 = .ok (.iload_n 3, 1) := by decide +kernel
theorem dX9_count_17 : decode cX9_count 17 = .ok (.aload_n 0, 1) := by decide +kernel
theorem dX9_count_18 : decode cX9_count 18 = .ok (.getfield 42, 3) := by decide +kernel
theorem dX9_count_21 : decode cX9_count 21 = .ok (.if_icmp .ge 27, 3) := by decide +kernel
theorem dX9_count_24 : decode cX9_count 24 = .ok (.iload_n 2, 1) := by decide +kernel
theorem dX9_count_25 : decode cX9_count 25 = .ok (.aload_n 0, 1) := by decide +kernel
theorem dX9_count_26 : decode cX9_count 26 = .ok (.getfield 22, 3) := by decide +kernel
theorem dX9_count_29 : decode cX9_count 29 = .ok (.iload_n 3, 1) := by decide +kernel
theorem dX9_count_30 : decode cX9_count 30 = .ok (.iaload, 1) := by decide +kernel
theorem dX9_count_31 : decode cX9_count 31 = .ok (.iload_n 1, 1) := by decide +kernel
theorem dX9_count_32 : decode cX9_count 32 = .ok (.if_icmp .ne 7, 3) := by decide +kernel
theorem dX9_count_35 : decode cX9_count 35 = .ok (.iconst 1, 1) := by decide +kernel
theorem dX9_count_36 : decode cX9_count 36 = .ok (.goto 4, 3) := by decide +kernel
theorem dX9_count_39 : decode cX9_count 39 = .ok (.iconst 0, 1) := by decide +kernel
theorem dX9_count_40 : decode cX9_count 40 = .ok (.iadd, 1) := by decide +kernel
theorem dX9_count_41 : decode cX9_count 41 = .ok (.istore_n 2, 1) := by decide +kernel
theorem dX9_count_42 : decode cX9_count 42 = .ok (.iinc 3 1, 3) := by decide +kernel
theorem dX9_count_45 : decode cX9_count 45 = .ok (.goto (-29), 3) := by decide +kernel
theorem dX9_count_48 : decode cX9_count 48 = .ok (.iload_n 1, 1) := by decide +kernel
theorem dX9_count_49 : decode cX9_count 49 = .ok (.iconst 3, 1) := by decide +kernel
theorem dX9_count_50 : decode cX9_count 50 = .ok (.if_icmp .ge 7, 3) := by decide +kernel
theorem dX9_count_53 : decode cX9_count 53 = .ok (.iload_n 2, 1) := by decide +kernel
theorem dX9_count_54 : decode cX9_count 54 = .ok (.goto 31, 3) := by decide +kernel
theorem dX9_count_57 : decode cX9_count 57 = .ok (.iload_n 1, 1) := by decide +kernel
theorem dX9_count_58 : decode cX9_count 58 = .ok (.iconst 3, 1) := by decide +kernel
theorem dX9_count_59 : decode cX9_count 59 = .ok (.if_icmp .ne 10, 3) := by decide +kernel
theorem dX9_count_62 : decode cX9_count 62 = .ok (.aload_n 0, 1) := by decide +kernel
theorem dX9_count_63 : decode cX9_count 63 = .ok (.getfield 38, 3) := by decide +kernel
theorem dX9_count_66 : decode cX9_count 66 = .ok (.goto 19, 3) := by decide +kernel
theorem dX9_count_69 : decode cX9_count 69 = .ok (.iload_n 1, 1) := by decide +kernel
theorem dX9_count_70 : decode cX9_count 70 = .ok (.iconst 4, 1) := by decide +kernel
theorem dX9_count_71 : decode cX9_count 71 = .ok (.if_icmp .ne 10, 3) := by decide +kernel
theorem dX9_count_74 : decode cX9_count 74 = .ok (.aload_n 0, 1) := by decide +kernel
theorem dX9_count_75 : decode cX9_count 75 = .ok (.getfield 101, 3) := by decide +kernel
theorem dX9_count_78 : decode cX9_count 78 = .ok (.goto 7, 3) := by decide +kernel
theorem dX9_count_81 : decode cX9_count 81 = .ok (.aload_n 0, 1) := by decide +kernel
theorem dX9_count_82 : decode cX9_count 82 = .ok (.getfield 98, 3) := by decide +kernel
theorem dX9_count_85 : decode cX9_count 85 = .ok (.ireturn, 1) := by decide +kernel
theorem dL_law_0 : decode cL_law 0 = .ok (.new 7, 3) := by decide +kernel
theorem dL_law_3 : decode cL_law 3 = .ok (.dup, 1) := by decide +kernel
theorem dL_law_4 : decode cL_law 4 = .ok (.invokespecial 9, 3) := by decide +kernel
theorem dL_law_7 : decode cL_law 7 = .ok (.astore_n 1, 1) := by decide +kernel
theorem dL_law_8 : decode cL_law 8 = .ok (.new 10, 3) := by decide +kernel
theorem dL_law_11 : decode cL_law 11 = .ok (.dup, 1) := by decide +kernel
theorem dL_law_12 : decode cL_law 12 = .ok (.invokespecial 12, 3) := by decide +kernel
theorem dL_law_15 : decode cL_law 15 = .ok (.astore_n 2, 1) := by decide +kernel
theorem dL_law_16 : decode cL_law 16 = .ok (.iconst 0, 1) := by decide +kernel
theorem dL_law_17 : decode cL_law 17 = .ok (.istore_n 3, 1) := by decide +kernel
theorem dL_law_18 : decode cL_law 18 = .ok (.iload_n 3, 1) := by decide +kernel
theorem dL_law_19 : decode cL_law 19 = .ok (.aload_n 0, 1) := by decide +kernel
theorem dL_law_20 : decode cL_law 20 = .ok (.arraylength, 1) := by decide +kernel
theorem dL_law_21 : decode cL_law 21 = .ok (.iconst 4, 1) := by decide +kernel
theorem dL_law_22 : decode cL_law 22 = .ok (.isub, 1) := by decide +kernel
theorem dL_law_23 : decode cL_law 23 = .ok (.if_icmp .gt 362, 3) := by decide +kernel
theorem dL_law_26 : decode cL_law 26 = .ok (.aload_n 0, 1) := by decide +kernel
theorem dL_law_27 : decode cL_law 27 = .ok (.iload_n 3, 1) := by decide +kernel
theorem dL_law_28 : decode cL_law 28 = .ok (.iaload, 1) := by decide +kernel
theorem dL_law_29 : decode cL_law 29 = .ok (.bipush 15, 2) := by decide +kernel
theorem dL_law_31 : decode cL_law 31 = .ok (.iand, 1) := by decide +kernel
theorem dL_law_32 : decode cL_law 32 = .ok (.tableswitch 347 0 9 #[56, 99, 142, 165, 198, 221, 244, 267, 291, 324], 56) := by decide +kernel
theorem dL_law_88 : decode cL_law 88 = .ok (.aload_n 1, 1) := by decide +kernel
theorem dL_law_89 : decode cL_law 89 = .ok (.aload_n 0, 1) := by decide +kernel
theorem dL_law_90 : decode cL_law 90 = .ok (.iload_n 3, 1) := by decide +kernel
theorem dL_law_91 : decode cL_law 91 = .ok (.iconst 1, 1) := by decide +kernel
theorem dL_law_92 : decode cL_law 92 = .ok (.iadd, 1) := by decide +kernel
theorem dL_law_93 : decode cL_law 93 = .ok (.iaload, 1) := by decide +kernel
theorem dL_law_94 : decode cL_law 94 = .ok (.aload_n 0, 1) := by decide +kernel
theorem dL_law_95 : decode cL_law 95 = .ok (.iload_n 3, 1) := by decide +kernel
theorem dL_law_96 : decode cL_law 96 = .ok (.iconst 2, 1) := by decide +kernel
theorem dL_law_97 : decode cL_law 97 = .ok (.iadd, 1) := by decide +kernel
theorem dL_law_98 : decode cL_law 98 = .ok (.iaload, 1) := by decide +kernel
theorem dL_law_99 : decode cL_law 99 = .ok (.aload_n 0, 1) := by decide +kernel
theorem dL_law_100 : decode cL_law 100 = .ok (.iload_n 3, 1) := by decide +kernel
theorem dL_law_101 : decode cL_law 101 = .ok (.iconst 3, 1) := by decide +kernel
theorem dL_law_102 : decode cL_law 102 = .ok (.iadd, 1) := by decide +kernel
theorem dL_law_103 : decode cL_law 103 = .ok (.iaload, 1) := by decide +kernel
theorem dL_law_104 : decode cL_law 104 = .ok (.invokevirtual 13, 3) := by decide +kernel
theorem dL_law_107 : decode cL_law 107 = .ok (.aload_n 2, 1) := by decide +kernel
theorem dL_law_108 : decode cL_law 108 = .ok (.aload_n 0, 1) := by decide +kernel
theorem dL_law_109 : decode cL_law 109 = .ok (.iload_n 3, 1) := by decide +kernel
theorem dL_law_110 : decode cL_law 110 = .ok (.iconst 1, 1) := by decide +kernel
theorem dL_law_111 : decode cL_law 111 = .ok (.iadd, 1) := by decide +kernel
theorem dL_law_112 : decode cL_law 112 = .ok (.iaload, 1) := by decide +kernel
theorem dL_law_113 : decode cL_law 113 = .ok (.aload_n 0, 1) := by decide +kernel
theorem dL_law_114 : decode cL_law 114 = .ok (.iload_n 3, 1) := by decide +kernel
theorem dL_law_115 : decode cL_law 115 = .ok (.iconst 2, 1) := by decide +kernel
theorem dL_law_116 : decode cL_law 116 = .ok (.iadd, 1) := by decide +kernel
theorem dL_law_117 : decode cL_law 117 = .ok (.iaload, 1) := by decide +kernel
theorem dL_law_118 : decode cL_law 118 = .ok (.aload_n 0, 1) := by decide +kernel
theorem dL_law_119 : decode cL_law 119 = .ok (.iload_n 3, 1) := by decide +kernel
theorem dL_law_120 : decode cL_law 120 = .ok (.iconst 3, 1) := by decide +kernel
theorem dL_law_121 : decode cL_law 121 = .ok (.iadd, 1) := by decide +kernel
theorem dL_law_122 : decode cL_law 122 = .ok (.iaload, 1) := by decide +kernel
theorem dL_law_123 : decode cL_law 123 = .ok (.invokevirtual 17, 3) := by decide +kernel
theorem dL_law_126 : decode cL_law 126 = .ok (.if_icmp .eq 253, 3) := by decide +kernel
theorem dL_law_129 : decode cL_law 129 = .ok (.iconst 0, 1) := by decide +kernel
theorem dL_law_130 : decode cL_law 130 = .ok (.ireturn, 1) := by decide +kernel
theorem dL_law_131 : decode cL_law 131 = .ok (.aload_n 1, 1) := by decide +kernel
theorem dL_law_132 : decode cL_law 132 = .ok (.aload_n 0, 1) := by decide +kernel
theorem dL_law_133 : decode cL_law 133 = .ok (.iload_n 3, 1) := by decide +kernel
theorem dL_law_134 : decode cL_law 134 = .ok (.iconst 1, 1) := by decide +kernel
theorem dL_law_135 : decode cL_law 135 = .ok (.iadd, 1) := by decide +kernel
theorem dL_law_136 : decode cL_law 136 = .ok (.iaload, 1) := by decide +kernel
theorem dL_law_137 : decode cL_law 137 = .ok (.aload_n 0, 1) := by decide +kernel
theorem dL_law_138 : decode cL_law 138 = .ok (.iload_n 3, 1) := by decide +kernel
theorem dL_law_139 : decode cL_law 139 = .ok (.iconst 2, 1) := by decide +kernel
theorem dL_law_140 : decode cL_law 140 = .ok (.iadd, 1) := by decide +kernel
theorem dL_law_141 : decode cL_law 141 = .ok (.iaload, 1) := by decide +kernel
theorem dL_law_142 : decode cL_law 142 = .ok (.aload_n 0, 1) := by decide +kernel
theorem dL_law_143 : decode cL_law 143 = .ok (.iload_n 3, 1) := by decide +kernel
theorem dL_law_144 : decode cL_law 144 = .ok (.iconst 3, 1) := by decide +kernel
theorem dL_law_145 : decode cL_law 145 = .ok (.iadd, 1) := by decide +kernel
theorem dL_law_146 : decode cL_law 146 = .ok (.iaload, 1) := by decide +kernel
theorem dL_law_147 : decode cL_law 147 = .ok (.invokevirtual 18, 3) := by decide +kernel
theorem dL_law_150 : decode cL_law 150 = .ok (.aload_n 2, 1) := by decide +kernel
theorem dL_law_151 : decode cL_law 151 = .ok (.aload_n 0, 1) := by decide +kernel
theorem dL_law_152 : decode cL_law 152 = .ok (.iload_n 3, 1) := by decide +kernel
theorem dL_law_153 : decode cL_law 153 = .ok (.iconst 1, 1) := by decide +kernel
theorem dL_law_154 : decode cL_law 154 = .ok (.iadd, 1) := by decide +kernel
theorem dL_law_155 : decode cL_law 155 = .ok (.iaload, 1) := by decide +kernel
theorem dL_law_156 : decode cL_law 156 = .ok (.aload_n 0, 1) := by decide +kernel
theorem dL_law_157 : decode cL_law 157 = .ok (.iload_n 3, 1) := by decide +kernel
theorem dL_law_158 : decode cL_law 158 = .ok (.iconst 2, 1) := by decide +kernel
theorem dL_law_159 : decode cL_law 159 = .ok (.iadd, 1) := by decide +kernel
theorem dL_law_160 : decode cL_law 160 = .ok (.iaload, 1) := by decide +kernel
theorem dL_law_161 : decode cL_law 161 = .ok (.aload_n 0, 1) := by decide +kernel
theorem dL_law_162 : decode cL_law 162 = .ok (.iload_n 3, 1) := by decide +kernel
theorem dL_law_163 : decode cL_law 163 = .ok (.iconst 3, 1) := by decide +kernel
theorem dL_law_164 : decode cL_law 164 = .ok (.iadd, 1) := by decide +kernel
theorem dL_law_165 : decode cL_law 165 = .ok (.iaload, 1) := by decide +kernel
theorem dL_law_166 : decode cL_law 166 = .ok (.invokevirtual 21, 3) := by decide +kernel
theorem dL_law_169 : decode cL_law 169 = .ok (.if_icmp .eq 210, 3) := by decide +kernel
theorem dL_law_172 : decode cL_law 172 = .ok (.iconst 0, 1) := by decide +kernel
theorem dL_law_173 : decode cL_law 173 = .ok (.ireturn, 1) := by decide +kernel
theorem dL_law_174 : decode cL_law 174 = .ok (.aload_n 1, 1) := by decide +kernel
theorem dL_law_175 : decode cL_law 175 = .ok (.aload_n 0, 1) := by decide +kernel
theorem dL_law_176 : decode cL_law 176 = .ok (.iload_n 3, 1) := by decide +kernel
theorem dL_law_177 : decode cL_law 177 = .ok (.iconst 1, 1) := by decide +kernel
theorem dL_law_178 : decode cL_law 178 = .ok (.iadd, 1) := by decide +kernel
theorem dL_law_179 : decode cL_law 179 = .ok (.iaload, 1) := by decide +kernel
theorem dL_law_180 : decode cL_law 180 = .ok (.invokevirtual 22, 3) := by decide +kernel
theorem dL_law_183 : decode cL_law 183 = .ok (.aload_n 2, 1) := by decide +kernel
theorem dL_law_184 : decode cL_law 184 = .ok (.aload_n 0, 1) := by decide +kernel
theorem dL_law_185 : decode cL_law 185 = .ok (.iload_n 3, 1) := by decide +kernel
theorem dL_law_186 : decode cL_law 186 = .ok (.iconst 1, 1) := by decide +kernel
theorem dL_law_187 : decode cL_law 187 = .ok (.iadd, 1) := by decide +kernel
theorem dL_law_188 : decode cL_law 188 = .ok (.iaload, 1) := by decide +kernel
theorem dL_law_189 : decode cL_law 189 = .ok (.invokevirtual 26, 3) := by decide +kernel
theorem dL_law_192 : decode cL_law 192 = .ok (.if_icmp .eq 187, 3) := by decide +kernel
theorem dL_law_195 : decode cL_law 195 = .ok (.iconst 0, 1) := by decide +kernel
theorem dL_law_196 : decode cL_law 196 = .ok (.ireturn, 1) := by decide +kernel
theorem dL_law_197 : decode cL_law 197 = .ok (.aload_n 1, 1) := by decide +kernel
theorem dL_law_198 : decode cL_law 198 = .ok (.aload_n 0, 1) := by decide +kernel
theorem dL_law_199 : decode cL_law 199 = .ok (.iload_n 3, 1) := by decide +kernel
theorem dL_law_200 : decode cL_law 200 = .ok (.iconst 1, 1) := by decide +kernel
theorem dL_law_201 : decode cL_law 201 = .ok (.iadd, 1) := by decide +kernel
theorem dL_law_202 : decode cL_law 202 = .ok (.iaload, 1) := by decide +kernel
theorem dL_law_203 : decode cL_law 203 = .ok (.aload_n 0, 1) := by decide +kernel
theorem dL_law_204 : decode cL_law 204 = .ok (.iload_n 3, 1) := by decide +kernel
theorem dL_law_205 : decode cL_law 205 = .ok (.iconst 2, 1) := by decide +kernel
theorem dL_law_206 : decode cL_law 206 = .ok (.iadd, 1) := by decide +kernel
theorem dL_law_207 : decode cL_law 207 = .ok (.iaload, 1) := by decide +kernel
theorem dL_law_208 : decode cL_law 208 = .ok (.invokevirtual 27, 3) := by decide +kernel
theorem dL_law_211 : decode cL_law 211 = .ok (.aload_n 2, 1) := by decide +kernel
theorem dL_law_212 : decode cL_law 212 = .ok (.aload_n 0, 1) := by decide +kernel
theorem dL_law_213 : decode cL_law 213 = .ok (.iload_n 3, 1) := by decide +kernel
theorem dL_law_214 : decode cL_law 214 = .ok (.iconst 1, 1) := by decide +kernel
theorem dL_law_215 : decode cL_law 215 = .ok (.iadd, 1) := by decide +kernel
theorem dL_law_216 : decode cL_law 216 = .ok (.iaload, 1) := by decide +kernel
theorem dL_law_217 : decode cL_law 217 = .ok (.aload_n 0, 1) := by decide +kernel
theorem dL_law_218 : decode cL_law 218 = .ok (.iload_n 3, 1) := by decide +kernel
theorem dL_law_219 : decode cL_law 219 = .ok (.iconst 2, 1) := by decide +kernel
theorem dL_law_220 : decode cL_law 220 = .ok (.iadd, 1) := by decide +kernel
theorem dL_law_221 : decode cL_law 221 = .ok (.iaload, 1) := by decide +kernel
theorem dL_law_222 : decode cL_law 222 = .ok (.invokevirtual 31, 3) := by decide +kernel
theorem dL_law_225 : decode cL_law 225 = .ok (.if_icmp .eq 154, 3) := by decide +kernel
theorem dL_law_228 : decode cL_law 228 = .ok (.iconst 0, 1) := by decide +kernel
theorem dL_law_229 : decode cL_law 229 = .ok (.ireturn, 1) := by decide +kernel
theorem dL_law_230 : decode cL_law 230 = .ok (.aload_n 1, 1) := by decide +kernel
theorem dL_law_231 : decode cL_law 231 = .ok (.aload_n 0, 1) := by decide +kernel
theorem dL_law_232 : decode cL_law 232 = .ok (.iload_n 3, 1) := by decide +kernel
theorem dL_law_233 : decode cL_law 233 = .ok (.iconst 1, 1) := by decide +kernel
theorem dL_law_234 : decode cL_law 234 = .ok (.iadd, 1) := by decide +kernel
theorem dL_law_235 : decode cL_law 235 = .ok (.iaload, 1) := by decide +kernel
theorem dL_law_236 : decode cL_law 236 = .ok (.invokevirtual 32, 3) := by decide +kernel
theorem dL_law_239 : decode cL_law 239 = .ok (.aload_n 2, 1) := by decide +kernel
theorem dL_law_240 : decode cL_law 240 = .ok (.aload_n 0, 1) := by decide +kernel
theorem dL_law_241 : decode cL_law 241 = .ok (.iload_n 3, 1) := by decide +kernel
theorem dL_law_242 : decode cL_law 242 = .ok (.iconst 1, 1) := by decide +kernel
theorem dL_law_243 : decode cL_law 243 = .ok (.iadd, 1) := by decide +kernel
theorem dL_law_244 : decode cL_law 244 = .ok (.iaload, 1) := by decide +kernel
theorem dL_law_245 : decode cL_law 245 = .ok (.invokevirtual 35, 3) := by decide +kernel
theorem dL_law_248 : decode cL_law 248 = .ok (.if_icmp .eq 131, 3) := by decide +kernel
theorem dL_law_251 : decode cL_law 251 = .ok (.iconst 0, 1) := by decide +kernel
theorem dL_law_252 : decode cL_law 252 = .ok (.ireturn, 1) := by decide +kernel
theorem dL_law_253 : decode cL_law 253 = .ok (.aload_n 1, 1) := by decide +kernel
theorem dL_law_254 : decode cL_law 254 = .ok (.aload_n 0, 1) := by decide +kernel
theorem dL_law_255 : decode cL_law 255 = .ok (.iload_n 3, 1) := by decide +kernel
theorem dL_law_256 : decode cL_law 256 = .ok (.iconst 1, 1) := by decide +kernel
theorem dL_law_257 : decode cL_law 257 = .ok (.iadd, 1) := by decide +kernel
theorem dL_law_258 : decode cL_law 258 = .ok (.iaload, 1) := by decide +kernel
theorem dL_law_259 : decode cL_law 259 = .ok (.invokevirtual 36, 3) := by decide +kernel
theorem dL_law_262 : decode cL_law 262 = .ok (.aload_n 2, 1) := by decide +kernel
theorem dL_law_263 : decode cL_law 263 = .ok (.aload_n 0, 1) := by decide +kernel
theorem dL_law_264 : decode cL_law 264 = .ok (.iload_n 3, 1) := by decide +kernel
theorem dL_law_265 : decode cL_law 265 = .ok (.iconst 1, 1) := by decide +kernel
theorem dL_law_266 : decode cL_law 266 = .ok (.iadd, 1) := by decide +kernel
theorem dL_law_267 : decode cL_law 267 = .ok (.iaload, 1) := by decide +kernel
theorem dL_law_268 : decode cL_law 268 = .ok (.invokevirtual 39, 3) := by decide +kernel
theorem dL_law_271 : decode cL_law 271 = .ok (.if_icmp .eq 108, 3) := by decide +kernel
theorem dL_law_274 : decode cL_law 274 = .ok (.iconst 0, 1) := by decide +kernel
theorem dL_law_275 : decode cL_law 275 = .ok (.ireturn, 1) := by decide +kernel
theorem dL_law_276 : decode cL_law 276 = .ok (.aload_n 1, 1) := by decide +kernel
theorem dL_law_277 : decode cL_law 277 = .ok (.aload_n 0, 1) := by decide +kernel
theorem dL_law_278 : decode cL_law 278 = .ok (.iload_n 3, 1) := by decide +kernel
theorem dL_law_279 : decode cL_law 279 = .ok (.iconst 1, 1) := by decide +kernel
theorem dL_law_280 : decode cL_law 280 = .ok (.iadd, 1) := by decide +kernel
theorem dL_law_281 : decode cL_law 281 = .ok (.iaload, 1) := by decide +kernel
theorem dL_law_282 : decode cL_law 282 = .ok (.invokevirtual 40, 3) := by decide +kernel
theorem dL_law_285 : decode cL_law 285 = .ok (.aload_n 2, 1) := by decide +kernel
theorem dL_law_286 : decode cL_law 286 = .ok (.aload_n 0, 1) := by decide +kernel
theorem dL_law_287 : decode cL_law 287 = .ok (.iload_n 3, 1) := by decide +kernel
theorem dL_law_288 : decode cL_law 288 = .ok (.iconst 1, 1) := by decide +kernel
theorem dL_law_289 : decode cL_law 289 = .ok (.iadd, 1) := by decide +kernel
theorem dL_law_290 : decode cL_law 290 = .ok (.iaload, 1) := by decide +kernel
theorem dL_law_291 : decode cL_law 291 = .ok (.invokevirtual 43, 3) := by decide +kernel
theorem dL_law_294 : decode cL_law 294 = .ok (.if_icmp .eq 85, 3) := by decide +kernel
theorem dL_law_297 : decode cL_law 297 = .ok (.iconst 0, 1) := by decide +kernel
theorem dL_law_298 : decode cL_law 298 = .ok (.ireturn, 1) := by decide +kernel
theorem dL_law_299 : decode cL_law 299 = .ok (.aload_n 1, 1) := by decide +kernel
theorem dL_law_300 : decode cL_law 300 = .ok (.aload_n 0, 1) := by decide +kernel
theorem dL_law_301 : decode cL_law 301 = .ok (.iload_n 3, 1) := by decide +kernel
theorem dL_law_302 : decode cL_law 302 = .ok (.iconst 1, 1) := by decide +kernel
theorem dL_law_303 : decode cL_law 303 = .ok (.iadd, 1) := by decide +kernel
theorem dL_law_304 : decode cL_law 304 = .ok (.iaload, 1) := by decide +kernel
theorem dL_law_305 : decode cL_law 305 = .ok (.invokevirtual 44, 3) := by decide +kernel
theorem dL_law_308 : decode cL_law 308 = .ok (.aload_n 2, 1) := by decide +kernel
theorem dL_law_309 : decode cL_law 309 = .ok (.aload_n 0, 1) := by decide +kernel
theorem dL_law_310 : decode cL_law 310 = .ok (.iload_n 3, 1) := by decide +kernel
theorem dL_law_311 : decode cL_law 311 = .ok (.iconst 1, 1) := by decide +kernel
theorem dL_law_312 : decode cL_law 312 = .ok (.iadd, 1) := by decide +kernel
theorem dL_law_313 : decode cL_law 313 = .ok (.iaload, 1) := by decide +kernel
theorem dL_law_314 : decode cL_law 314 = .ok (.invokevirtual 48, 3) := by decide +kernel
theorem dL_law_317 : decode cL_law 317 = .ok (.lcmp, 1) := by decide +kernel
theorem dL_law_318 : decode cL_law 318 = .ok (.ifCond .eq 61, 3) := by decide +kernel
theorem dL_law_321 : decode cL_law 321 = .ok (.iconst 0, 1) := by decide +kernel
theorem dL_law_322 : decode cL_law 322 = .ok (.ireturn, 1) := by decide +kernel
theorem dL_law_323 : decode cL_law 323 = .ok (.aload_n 1, 1) := by decide +kernel
theorem dL_law_324 : decode cL_law 324 = .ok (.aload_n 0, 1) := by decide +kernel
theorem dL_law_325 : decode cL_law 325 = .ok (.iload_n 3, 1) := by decide +kernel
theorem dL_law_326 : decode cL_law 326 = .ok (.iconst 1, 1) := by decide +kernel
theorem dL_law_327 : decode cL_law 327 = .ok (.iadd, 1) := by decide +kernel
theorem dL_law_328 : decode cL_law 328 = .ok (.iaload, 1) := by decide +kernel
theorem dL_law_329 : decode cL_law 329 = .ok (.aload_n 0, 1) := by decide +kernel
theorem dL_law_330 : decode cL_law 330 = .ok (.iload_n 3, 1) := by decide +kernel
theorem dL_law_331 : decode cL_law 331 = .ok (.iconst 2, 1) := by decide +kernel
theorem dL_law_332 : decode cL_law 332 = .ok (.iadd, 1) := by decide +kernel
theorem dL_law_333 : decode cL_law 333 = .ok (.iaload, 1) := by decide +kernel
theorem dL_law_334 : decode cL_law 334 = .ok (.invokevirtual 49, 3) := by decide +kernel
theorem dL_law_337 : decode cL_law 337 = .ok (.aload_n 2, 1) := by decide +kernel
theorem dL_law_338 : decode cL_law 338 = .ok (.aload_n 0, 1) := by decide +kernel
theorem dL_law_339 : decode cL_law 339 = .ok (.iload_n 3, 1) := by decide +kernel
theorem dL_law_340 : decode cL_law 340 = .ok (.iconst 1, 1) := by decide +kernel
theorem dL_law_341 : decode cL_law 341 = .ok (.iadd, 1) := by decide +kernel
theorem dL_law_342 : decode cL_law 342 = .ok (.iaload, 1) := by decide +kernel
theorem dL_law_343 : decode cL_law 343 = .ok (.aload_n 0, 1) := by decide +kernel
theorem dL_law_344 : decode cL_law 344 = .ok (.iload_n 3, 1) := by decide +kernel
theorem dL_law_345 : decode cL_law 345 = .ok (.iconst 2, 1) := by decide +kernel
theorem dL_law_346 : decode cL_law 346 = .ok (.iadd, 1) := by decide +kernel
theorem dL_law_347 : decode cL_law 347 = .ok (.iaload, 1) := by decide +kernel
theorem dL_law_348 : decode cL_law 348 = .ok (.invokevirtual 52, 3) := by decide +kernel
theorem dL_law_351 : decode cL_law 351 = .ok (.if_icmp .eq 28, 3) := by decide +kernel
theorem dL_law_354 : decode cL_law 354 = .ok (.iconst 0, 1) := by decide +kernel
theorem dL_law_355 : decode cL_law 355 = .ok (.ireturn, 1) := by decide +kernel
theorem dL_law_356 : decode cL_law 356 = .ok (.aload_n 1, 1) := by decide +kernel
theorem dL_law_357 : decode cL_law 357 = .ok (.aload_n 0, 1) := by decide +kernel
theorem dL_law_358 : decode cL_law 358 = .ok (.iload_n 3, 1) := by decide +kernel
theorem dL_law_359 : decode cL_law 359 = .ok (.iconst 1, 1) := by decide +kernel
theorem dL_law_360 : decode cL_law 360 = .ok (.iadd, 1) := by decide +kernel
theorem dL_law_361 : decode cL_law 361 = .ok (.iaload, 1) := by decide +kernel
theorem dL_law_362 : decode cL_law 362 = .ok (.invokevirtual 53, 3) := by decide +kernel
theorem dL_law_365 : decode cL_law 365 = .ok (.aload_n 2, 1) := by decide +kernel
theorem dL_law_366 : decode cL_law 366 = .ok (.aload_n 0, 1) := by decide +kernel
theorem dL_law_367 : decode cL_law 367 = .ok (.iload_n 3, 1) := by decide +kernel
theorem dL_law_368 : decode cL_law 368 = .ok (.iconst 1, 1) := by decide +kernel
theorem dL_law_369 : decode cL_law 369 = .ok (.iadd, 1) := by decide +kernel
theorem dL_law_370 : decode cL_law 370 = .ok (.iaload, 1) := by decide +kernel
theorem dL_law_371 : decode cL_law 371 = .ok (.invokevirtual 56, 3) := by decide +kernel
theorem dL_law_374 : decode cL_law 374 = .ok (.if_icmp .eq 5, 3) := by decide +kernel
theorem dL_law_377 : decode cL_law 377 = .ok (.iconst 0, 1) := by decide +kernel
theorem dL_law_378 : decode cL_law 378 = .ok (.ireturn, 1) := by decide +kernel
theorem dL_law_379 : decode cL_law 379 = .ok (.iinc 3 4, 3) := by decide +kernel
theorem dL_law_382 : decode cL_law 382 = .ok (.goto (-364), 3) := by decide +kernel
theorem dL_law_385 : decode cL_law 385 = .ok (.iconst 1, 1) := by decide +kernel
theorem dL_law_386 : decode cL_law 386 = .ok (.ireturn, 1) := by decide +kernel
end
section
def hs_gt : List Cond := lw_tbl.filter goodWord
theorem hs_gt_of {w : Cond} (h : w ∈ lw_tbl) (g : goodWord w = true) : w ∈ hs_gt := List.mem_filter.mpr ⟨h, g⟩
theorem tw_0 : (Cond.selects "HireShed" ⟨"HireShed", "newTool", "(III)LHireShed$Tool;"⟩ ⟨"HireShed", "newTool", "(III)LHireShed$Tool;"⟩) ∈ hs_gt := hs_gt_of (List.mem_of_getElem? (i := 0) (by decide +kernel)) rfl
theorem tw_1 : (Cond.selects "HireShed" ⟨"HireShed", "toolAt", "(I)LHireShed$Tool;"⟩ ⟨"HireShed", "toolAt", "(I)LHireShed$Tool;"⟩) ∈ hs_gt := hs_gt_of (List.mem_of_getElem? (i := 1) (by decide +kernel)) rfl
theorem tw_2 : (Cond.selects "HireShed" ⟨"HireShed", "pay", "(II)V"⟩ ⟨"HireShed", "pay", "(II)V"⟩) ∈ hs_gt := hs_gt_of (List.mem_of_getElem? (i := 2) (by decide +kernel)) rfl
theorem tw_3 : (Cond.selects "HireShed" ⟨"HireShed", "toolsThatAre", "(I)I"⟩ ⟨"HireShed", "toolsThatAre", "(I)I"⟩) ∈ hs_gt := hs_gt_of (List.mem_of_getElem? (i := 3) (by decide +kernel)) rfl
theorem tw_4 : (Cond.selects "HireShedModel" ⟨"HireShedModel", "isTool", "(I)Z"⟩ ⟨"HireShedModel", "isTool", "(I)Z"⟩) ∈ hs_gt := hs_gt_of (List.mem_of_getElem? (i := 4) (by decide +kernel)) rfl
theorem tw_5 : (Cond.selects "HireShedModel" ⟨"HireShedModel", "answers", "(II)Z"⟩ ⟨"HireShedModel", "answers", "(II)Z"⟩) ∈ hs_gt := hs_gt_of (List.mem_of_getElem? (i := 5) (by decide +kernel)) rfl
theorem tw_6 : (Cond.selects "HireShedModel" ⟨"HireShedModel", "isInsured", "(I)Z"⟩ ⟨"HireShedModel", "isInsured", "(I)Z"⟩) ∈ hs_gt := hs_gt_of (List.mem_of_getElem? (i := 6) (by decide +kernel)) rfl
theorem tw_7 : (Cond.selects "HireShedModel" ⟨"HireShedModel", "isServiced", "(I)Z"⟩ ⟨"HireShedModel", "isServiced", "(I)Z"⟩) ∈ hs_gt := hs_gt_of (List.mem_of_getElem? (i := 7) (by decide +kernel)) rfl
theorem tw_8 : (Cond.selects "HireShedModel" ⟨"HireShedModel", "charge", "(II)I"⟩ ⟨"HireShedModel", "charge", "(II)I"⟩) ∈ hs_gt := hs_gt_of (List.mem_of_getElem? (i := 8) (by decide +kernel)) rfl
theorem tw_9 : (Cond.selects "HireShedModel" ⟨"HireShedModel", "body", "(I)V"⟩ ⟨"HireShedModel", "body", "(I)V"⟩) ∈ hs_gt := hs_gt_of (List.mem_of_getElem? (i := 9) (by decide +kernel)) rfl
theorem tw_10 : (Cond.selects "HireShedModel" ⟨"HireShedModel", "wear", "(II)I"⟩ ⟨"HireShedModel", "wear", "(II)I"⟩) ∈ hs_gt := hs_gt_of (List.mem_of_getElem? (i := 10) (by decide +kernel)) rfl
theorem tw_11 : (Cond.selects "HireShedModel" ⟨"HireShedModel", "check", "(I)I"⟩ ⟨"HireShedModel", "check", "(I)I"⟩) ∈ hs_gt := hs_gt_of (List.mem_of_getElem? (i := 11) (by decide +kernel)) rfl
theorem tw_12 : (Cond.selects "HireShedModel" ⟨"HireShedModel", "deposit", "(I)I"⟩ ⟨"HireShedModel", "deposit", "(I)I"⟩) ∈ hs_gt := hs_gt_of (List.mem_of_getElem? (i := 12) (by decide +kernel)) rfl
theorem tw_13 : (Cond.selects "HireShedModel" ⟨"HireShedModel", "premium", "(II)I"⟩ ⟨"HireShedModel", "premium", "(II)I"⟩) ∈ hs_gt := hs_gt_of (List.mem_of_getElem? (i := 13) (by decide +kernel)) rfl
theorem tw_14 : (Cond.selects "HireShedModel" ⟨"HireShedModel", "due", "(II)I"⟩ ⟨"HireShedModel", "due", "(II)I"⟩) ∈ hs_gt := hs_gt_of (List.mem_of_getElem? (i := 14) (by decide +kernel)) rfl
theorem tw_15 : (Cond.selects "HireShedModel" ⟨"HireShedModel", "lent", "(I)I"⟩ ⟨"HireShedModel", "lent", "(I)I"⟩) ∈ hs_gt := hs_gt_of (List.mem_of_getElem? (i := 15) (by decide +kernel)) rfl
theorem tw_16 : (Cond.initialized "HireShedLaw") ∈ hs_gt := hs_gt_of (List.mem_of_getElem? (i := 16) (by decide +kernel)) rfl
theorem tw_17 : (Cond.initialized "HireShed") ∈ hs_gt := hs_gt_of (List.mem_of_getElem? (i := 17) (by decide +kernel)) rfl
theorem tw_18 : (Cond.initialized "HireShed$Trace") ∈ hs_gt := hs_gt_of (List.mem_of_getElem? (i := 18) (by decide +kernel)) rfl
theorem tw_19 : (Cond.initialized "HireShedModel") ∈ hs_gt := hs_gt_of (List.mem_of_getElem? (i := 19) (by decide +kernel)) rfl
theorem tw_20 : (Cond.initialized "HireShed$Tool") ∈ hs_gt := hs_gt_of (List.mem_of_getElem? (i := 20) (by decide +kernel)) rfl
theorem tw_21 : (Cond.initialized "HireShed$Powered") ∈ hs_gt := hs_gt_of (List.mem_of_getElem? (i := 21) (by decide +kernel)) rfl
theorem tw_22 : (Cond.initialized "HireShed$Saw") ∈ hs_gt := hs_gt_of (List.mem_of_getElem? (i := 22) (by decide +kernel)) rfl
theorem tw_23 : (Cond.initialized "HireShed$BenchSaw") ∈ hs_gt := hs_gt_of (List.mem_of_getElem? (i := 23) (by decide +kernel)) rfl
theorem tw_24 : (Cond.initialized "HireShed$TreeSaw") ∈ hs_gt := hs_gt_of (List.mem_of_getElem? (i := 24) (by decide +kernel)) rfl
theorem tw_25 : (Cond.initialized "HireShed$Pump") ∈ hs_gt := hs_gt_of (List.mem_of_getElem? (i := 25) (by decide +kernel)) rfl
theorem tw_26 : (Cond.initialized "HireShed$DeepPump") ∈ hs_gt := hs_gt_of (List.mem_of_getElem? (i := 26) (by decide +kernel)) rfl
theorem tw_27 : (Cond.initialized "java/lang/Math") ∈ hs_gt := hs_gt_of (List.mem_of_getElem? (i := 27) (by decide +kernel)) rfl
theorem tw_28 : (Cond.classLink "HireShedLaw" 7 "HireShed") ∈ hs_gt := hs_gt_of (List.mem_of_getElem? (i := 28) (by decide +kernel)) rfl
theorem tw_29 : (Cond.instantiable "HireShed" 7) ∈ hs_gt := hs_gt_of (List.mem_of_getElem? (i := 29) (by decide +kernel)) rfl
theorem tw_30 : (Cond.methodLink "HireShedLaw" 9 ⟨"HireShed", "<init>", "()V"⟩) ∈ hs_gt := hs_gt_of (List.mem_of_getElem? (i := 30) (by decide +kernel)) rfl
theorem tw_31 : (Cond.instanceMethod ⟨"HireShed", "<init>", "()V"⟩) ∈ hs_gt := hs_gt_of (List.mem_of_getElem? (i := 31) (by decide +kernel)) rfl
theorem tw_33 : (Cond.methodLink "HireShed" 1 ⟨"java/lang/Object", "<init>", "()V"⟩) ∈ hs_gt := hs_gt_of (List.mem_of_getElem? (i := 33) (by decide +kernel)) rfl
theorem tw_34 : (Cond.instanceMethod ⟨"java/lang/Object", "<init>", "()V"⟩) ∈ hs_gt := hs_gt_of (List.mem_of_getElem? (i := 34) (by decide +kernel)) rfl
theorem tw_36 : (Cond.classLink "HireShed" 7 "HireShed$Trace") ∈ hs_gt := hs_gt_of (List.mem_of_getElem? (i := 36) (by decide +kernel)) rfl
theorem tw_37 : (Cond.instantiable "HireShed$Trace" 3) ∈ hs_gt := hs_gt_of (List.mem_of_getElem? (i := 37) (by decide +kernel)) rfl
theorem tw_38 : (Cond.methodLinkNest "HireShed" 9 ⟨"HireShed$Trace", "<init>", "()V"⟩ "HireShed") ∈ lw_tbl := List.mem_of_getElem? (i := 38) (by decide +kernel)
theorem tw_39 : (Cond.instanceMethod ⟨"HireShed$Trace", "<init>", "()V"⟩) ∈ hs_gt := hs_gt_of (List.mem_of_getElem? (i := 39) (by decide +kernel)) rfl
theorem tw_41 : (Cond.methodLink "HireShed$Trace" 3 ⟨"java/lang/Object", "<init>", "()V"⟩) ∈ hs_gt := hs_gt_of (List.mem_of_getElem? (i := 41) (by decide +kernel)) rfl
theorem tw_42 : (Cond.fieldLink "HireShed$Trace" 11 "HireShed$Trace" "numbers" "[I") ∈ hs_gt := hs_gt_of (List.mem_of_getElem? (i := 42) (by decide +kernel)) rfl
theorem tw_43 : (Cond.fieldLink "HireShed$Trace" 15 "HireShed$Trace" "size" "I") ∈ hs_gt := hs_gt_of (List.mem_of_getElem? (i := 43) (by decide +kernel)) rfl
theorem tw_44 : (Cond.fieldLink "HireShed$Trace" 19 "HireShed$Trace" "open" "Z") ∈ hs_gt := hs_gt_of (List.mem_of_getElem? (i := 44) (by decide +kernel)) rfl
theorem tw_45 : (Cond.laysFinal "HireShed$Trace" "HireShed$Trace" "numbers" "[I") ∈ hs_gt := hs_gt_of (List.mem_of_getElem? (i := 45) (by decide +kernel)) rfl
theorem tw_46 : (Cond.soleField "HireShed$Trace" "numbers") ∈ hs_gt := hs_gt_of (List.mem_of_getElem? (i := 46) (by decide +kernel)) rfl
theorem tw_47 : (Cond.lays "HireShed$Trace" "HireShed$Trace" "size" "I") ∈ hs_gt := hs_gt_of (List.mem_of_getElem? (i := 47) (by decide +kernel)) rfl
theorem tw_48 : (Cond.soleField "HireShed$Trace" "size") ∈ hs_gt := hs_gt_of (List.mem_of_getElem? (i := 48) (by decide +kernel)) rfl
theorem tw_49 : (Cond.lays "HireShed$Trace" "HireShed$Trace" "open" "Z") ∈ hs_gt := hs_gt_of (List.mem_of_getElem? (i := 49) (by decide +kernel)) rfl
theorem tw_50 : (Cond.soleField "HireShed$Trace" "open") ∈ hs_gt := hs_gt_of (List.mem_of_getElem? (i := 50) (by decide +kernel)) rfl
theorem tw_51 : (Cond.superclass "HireShed$Trace" "java/lang/Object") ∈ hs_gt := hs_gt_of (List.mem_of_getElem? (i := 51) (by decide +kernel)) rfl
theorem tw_52 : (Cond.arrayClass FieldType.int) ∈ hs_gt := hs_gt_of (List.mem_of_getElem? (i := 52) (by decide +kernel)) rfl
theorem tw_53 : (Cond.classLink "HireShed" 16 "HireShed$Tool") ∈ hs_gt := hs_gt_of (List.mem_of_getElem? (i := 53) (by decide +kernel)) rfl
theorem tw_54 : (Cond.arrayOver (FieldType.object "HireShed$Tool")) ∈ lw_tbl := List.mem_of_getElem? (i := 54) (by decide +kernel)
theorem tw_55 : (Cond.fieldLink "HireShed" 10 "HireShed" "latest" "LHireShed$Trace;") ∈ hs_gt := hs_gt_of (List.mem_of_getElem? (i := 55) (by decide +kernel)) rfl
theorem tw_56 : (Cond.fieldLink "HireShed" 18 "HireShed" "tools" "[LHireShed$Tool;") ∈ hs_gt := hs_gt_of (List.mem_of_getElem? (i := 56) (by decide +kernel)) rfl
theorem tw_57 : (Cond.fieldLink "HireShed" 22 "HireShed" "accounts" "[J") ∈ hs_gt := hs_gt_of (List.mem_of_getElem? (i := 57) (by decide +kernel)) rfl
theorem tw_58 : (Cond.fieldLink "HireShed" 26 "HireShed" "toolCount" "I") ∈ hs_gt := hs_gt_of (List.mem_of_getElem? (i := 58) (by decide +kernel)) rfl
theorem tw_59 : (Cond.fieldLink "HireShed" 30 "HireShed" "today" "I") ∈ hs_gt := hs_gt_of (List.mem_of_getElem? (i := 59) (by decide +kernel)) rfl
theorem tw_60 : (Cond.fieldLink "HireShed" 33 "HireShed" "costs" "I") ∈ hs_gt := hs_gt_of (List.mem_of_getElem? (i := 60) (by decide +kernel)) rfl
theorem tw_61 : (Cond.fieldLink "HireShed" 36 "HireShed" "hires" "I") ∈ hs_gt := hs_gt_of (List.mem_of_getElem? (i := 61) (by decide +kernel)) rfl
theorem tw_62 : (Cond.laysFinal "HireShed" "HireShed" "latest" "LHireShed$Trace;") ∈ hs_gt := hs_gt_of (List.mem_of_getElem? (i := 62) (by decide +kernel)) rfl
theorem tw_63 : (Cond.soleField "HireShed" "latest") ∈ hs_gt := hs_gt_of (List.mem_of_getElem? (i := 63) (by decide +kernel)) rfl
theorem tw_64 : (Cond.laysFinal "HireShed" "HireShed" "tools" "[LHireShed$Tool;") ∈ hs_gt := hs_gt_of (List.mem_of_getElem? (i := 64) (by decide +kernel)) rfl
theorem tw_65 : (Cond.soleField "HireShed" "tools") ∈ hs_gt := hs_gt_of (List.mem_of_getElem? (i := 65) (by decide +kernel)) rfl
theorem tw_66 : (Cond.laysFinal "HireShed" "HireShed" "accounts" "[J") ∈ hs_gt := hs_gt_of (List.mem_of_getElem? (i := 66) (by decide +kernel)) rfl
theorem tw_67 : (Cond.soleField "HireShed" "accounts") ∈ hs_gt := hs_gt_of (List.mem_of_getElem? (i := 67) (by decide +kernel)) rfl
theorem tw_68 : (Cond.lays "HireShed" "HireShed" "toolCount" "I") ∈ hs_gt := hs_gt_of (List.mem_of_getElem? (i := 68) (by decide +kernel)) rfl
theorem tw_69 : (Cond.soleField "HireShed" "toolCount") ∈ hs_gt := hs_gt_of (List.mem_of_getElem? (i := 69) (by decide +kernel)) rfl
theorem tw_70 : (Cond.lays "HireShed" "HireShed" "today" "I") ∈ hs_gt := hs_gt_of (List.mem_of_getElem? (i := 70) (by decide +kernel)) rfl
theorem tw_71 : (Cond.soleField "HireShed" "today") ∈ hs_gt := hs_gt_of (List.mem_of_getElem? (i := 71) (by decide +kernel)) rfl
theorem tw_72 : (Cond.lays "HireShed" "HireShed" "costs" "I") ∈ hs_gt := hs_gt_of (List.mem_of_getElem? (i := 72) (by decide +kernel)) rfl
theorem tw_73 : (Cond.soleField "HireShed" "costs") ∈ hs_gt := hs_gt_of (List.mem_of_getElem? (i := 73) (by decide +kernel)) rfl
theorem tw_74 : (Cond.lays "HireShed" "HireShed" "hires" "I") ∈ hs_gt := hs_gt_of (List.mem_of_getElem? (i := 74) (by decide +kernel)) rfl
theorem tw_75 : (Cond.soleField "HireShed" "hires") ∈ hs_gt := hs_gt_of (List.mem_of_getElem? (i := 75) (by decide +kernel)) rfl
theorem tw_76 : (Cond.superclass "HireShed" "java/lang/Object") ∈ hs_gt := hs_gt_of (List.mem_of_getElem? (i := 76) (by decide +kernel)) rfl
theorem tw_77 : (Cond.arrayClass FieldType.long) ∈ hs_gt := hs_gt_of (List.mem_of_getElem? (i := 77) (by decide +kernel)) rfl
theorem tw_78 : (Cond.methodLink "HireShedLaw" 13 ⟨"HireShed", "tool", "(III)I"⟩) ∈ hs_gt := hs_gt_of (List.mem_of_getElem? (i := 78) (by decide +kernel)) rfl
theorem tw_79 : (Cond.instanceMethod ⟨"HireShed", "tool", "(III)I"⟩) ∈ hs_gt := hs_gt_of (List.mem_of_getElem? (i := 79) (by decide +kernel)) rfl
theorem tw_80 : (Cond.selects "HireShed" ⟨"HireShed", "tool", "(III)I"⟩ ⟨"HireShed", "tool", "(III)I"⟩) ∈ hs_gt := hs_gt_of (List.mem_of_getElem? (i := 80) (by decide +kernel)) rfl
theorem tw_82 : (Cond.methodLink "HireShed" 39 ⟨"HireShed", "isWithin", "(III)Z"⟩) ∈ hs_gt := hs_gt_of (List.mem_of_getElem? (i := 82) (by decide +kernel)) rfl
theorem tw_83 : (Cond.static ⟨"HireShed", "isWithin", "(III)Z"⟩) ∈ hs_gt := hs_gt_of (List.mem_of_getElem? (i := 83) (by decide +kernel)) rfl
theorem tw_85 : (Cond.constant "HireShed" 43 (100000 : Int32)) ∈ hs_gt := hs_gt_of (List.mem_of_getElem? (i := 85) (by decide +kernel)) rfl
theorem tw_86 : (Cond.methodLink "HireShed" 44 ⟨"HireShed", "newTool", "(III)LHireShed$Tool;"⟩) ∈ hs_gt := hs_gt_of (List.mem_of_getElem? (i := 86) (by decide +kernel)) rfl
theorem tw_87 : (Cond.privateMethod ⟨"HireShed", "newTool", "(III)LHireShed$Tool;"⟩) ∈ lw_tbl := List.mem_of_getElem? (i := 87) (by decide +kernel)
theorem tw_88 : (Cond.instanceMethod ⟨"HireShed", "newTool", "(III)LHireShed$Tool;"⟩) ∈ hs_gt := hs_gt_of (List.mem_of_getElem? (i := 88) (by decide +kernel)) rfl
theorem tw_90 : (Cond.classLink "HireShed" 135 "HireShed$Powered") ∈ hs_gt := hs_gt_of (List.mem_of_getElem? (i := 90) (by decide +kernel)) rfl
theorem tw_91 : (Cond.instantiable "HireShed$Powered" 8) ∈ hs_gt := hs_gt_of (List.mem_of_getElem? (i := 91) (by decide +kernel)) rfl
theorem tw_92 : (Cond.methodLink "HireShed" 137 ⟨"HireShed$Powered", "<init>", "(IIILHireShed$Trace;)V"⟩) ∈ hs_gt := hs_gt_of (List.mem_of_getElem? (i := 92) (by decide +kernel)) rfl
theorem tw_93 : (Cond.instanceMethod ⟨"HireShed$Powered", "<init>", "(IIILHireShed$Trace;)V"⟩) ∈ hs_gt := hs_gt_of (List.mem_of_getElem? (i := 93) (by decide +kernel)) rfl
theorem tw_95 : (Cond.methodLink "HireShed$Powered" 1 ⟨"HireShed$Tool", "<init>", "(IIILHireShed$Trace;)V"⟩) ∈ hs_gt := hs_gt_of (List.mem_of_getElem? (i := 95) (by decide +kernel)) rfl
theorem tw_96 : (Cond.instanceMethod ⟨"HireShed$Tool", "<init>", "(IIILHireShed$Trace;)V"⟩) ∈ hs_gt := hs_gt_of (List.mem_of_getElem? (i := 96) (by decide +kernel)) rfl
theorem tw_98 : (Cond.methodLink "HireShed$Tool" 3 ⟨"java/lang/Object", "<init>", "()V"⟩) ∈ hs_gt := hs_gt_of (List.mem_of_getElem? (i := 98) (by decide +kernel)) rfl
theorem tw_99 : (Cond.fieldLink "HireShed$Tool" 33 "HireShed$Tool" "trace" "LHireShed$Trace;") ∈ hs_gt := hs_gt_of (List.mem_of_getElem? (i := 99) (by decide +kernel)) rfl
theorem tw_100 : (Cond.fieldLink "HireShed$DeepPump" 7 "HireShed$DeepPump" "trace" "LHireShed$Trace;") ∈ hs_gt := hs_gt_of (List.mem_of_getElem? (i := 100) (by decide +kernel)) rfl
theorem tw_101 : (Cond.sameField "HireShed$DeepPump" "HireShed$Tool" "trace" "LHireShed$Trace;") ∈ hs_gt := hs_gt_of (List.mem_of_getElem? (i := 101) (by decide +kernel)) rfl
theorem tw_102 : (Cond.fieldLink "HireShed$TreeSaw" 7 "HireShed$TreeSaw" "trace" "LHireShed$Trace;") ∈ hs_gt := hs_gt_of (List.mem_of_getElem? (i := 102) (by decide +kernel)) rfl
theorem tw_103 : (Cond.sameField "HireShed$TreeSaw" "HireShed$Tool" "trace" "LHireShed$Trace;") ∈ hs_gt := hs_gt_of (List.mem_of_getElem? (i := 103) (by decide +kernel)) rfl
theorem tw_104 : (Cond.fieldLink "HireShed$Saw" 7 "HireShed$Saw" "trace" "LHireShed$Trace;") ∈ hs_gt := hs_gt_of (List.mem_of_getElem? (i := 104) (by decide +kernel)) rfl
theorem tw_105 : (Cond.sameField "HireShed$Saw" "HireShed$Tool" "trace" "LHireShed$Trace;") ∈ hs_gt := hs_gt_of (List.mem_of_getElem? (i := 105) (by decide +kernel)) rfl
theorem tw_106 : (Cond.fieldLink "HireShed$Pump" 7 "HireShed$Pump" "trace" "LHireShed$Trace;") ∈ hs_gt := hs_gt_of (List.mem_of_getElem? (i := 106) (by decide +kernel)) rfl
theorem tw_107 : (Cond.sameField "HireShed$Pump" "HireShed$Tool" "trace" "LHireShed$Trace;") ∈ hs_gt := hs_gt_of (List.mem_of_getElem? (i := 107) (by decide +kernel)) rfl
theorem tw_108 : (Cond.fieldLink "HireShed$BenchSaw" 7 "HireShed$BenchSaw" "trace" "LHireShed$Trace;") ∈ hs_gt := hs_gt_of (List.mem_of_getElem? (i := 108) (by decide +kernel)) rfl
theorem tw_109 : (Cond.sameField "HireShed$BenchSaw" "HireShed$Tool" "trace" "LHireShed$Trace;") ∈ hs_gt := hs_gt_of (List.mem_of_getElem? (i := 109) (by decide +kernel)) rfl
theorem tw_110 : (Cond.fieldLink "HireShed$Powered" 7 "HireShed$Powered" "trace" "LHireShed$Trace;") ∈ hs_gt := hs_gt_of (List.mem_of_getElem? (i := 110) (by decide +kernel)) rfl
theorem tw_111 : (Cond.sameField "HireShed$Powered" "HireShed$Tool" "trace" "LHireShed$Trace;") ∈ hs_gt := hs_gt_of (List.mem_of_getElem? (i := 111) (by decide +kernel)) rfl
theorem tw_112 : (Cond.fieldLink "HireShed$Tool" 24 "HireShed$Tool" "kind" "I") ∈ hs_gt := hs_gt_of (List.mem_of_getElem? (i := 112) (by decide +kernel)) rfl
theorem tw_113 : (Cond.fieldLink "HireShed" 119 "HireShed$Tool" "kind" "I") ∈ hs_gt := hs_gt_of (List.mem_of_getElem? (i := 113) (by decide +kernel)) rfl
theorem tw_114 : (Cond.fieldLink "HireShed$Tool" 27 "HireShed$Tool" "rate" "I") ∈ hs_gt := hs_gt_of (List.mem_of_getElem? (i := 114) (by decide +kernel)) rfl
theorem tw_115 : (Cond.fieldLink "HireShed$Tool" 30 "HireShed$Tool" "value" "I") ∈ hs_gt := hs_gt_of (List.mem_of_getElem? (i := 115) (by decide +kernel)) rfl
theorem tw_116 : (Cond.fieldLink "HireShed$DeepPump" 23 "HireShed$DeepPump" "value" "I") ∈ hs_gt := hs_gt_of (List.mem_of_getElem? (i := 116) (by decide +kernel)) rfl
theorem tw_117 : (Cond.sameField "HireShed$DeepPump" "HireShed$Tool" "value" "I") ∈ hs_gt := hs_gt_of (List.mem_of_getElem? (i := 117) (by decide +kernel)) rfl
theorem tw_118 : (Cond.fieldLink "HireShed$Powered" 23 "HireShed$Powered" "value" "I") ∈ hs_gt := hs_gt_of (List.mem_of_getElem? (i := 118) (by decide +kernel)) rfl
theorem tw_119 : (Cond.sameField "HireShed$Powered" "HireShed$Tool" "value" "I") ∈ hs_gt := hs_gt_of (List.mem_of_getElem? (i := 119) (by decide +kernel)) rfl
theorem tw_120 : (Cond.fieldLink "HireShed$Tool" 9 "HireShed$Tool" "hours" "I") ∈ hs_gt := hs_gt_of (List.mem_of_getElem? (i := 120) (by decide +kernel)) rfl
theorem tw_121 : (Cond.fieldLink "HireShed$TreeSaw" 32 "HireShed$TreeSaw" "hours" "I") ∈ hs_gt := hs_gt_of (List.mem_of_getElem? (i := 121) (by decide +kernel)) rfl
theorem tw_122 : (Cond.sameField "HireShed$TreeSaw" "HireShed$Tool" "hours" "I") ∈ hs_gt := hs_gt_of (List.mem_of_getElem? (i := 122) (by decide +kernel)) rfl
theorem tw_123 : (Cond.fieldLink "HireShed" 122 "HireShed$Tool" "hours" "I") ∈ hs_gt := hs_gt_of (List.mem_of_getElem? (i := 123) (by decide +kernel)) rfl
theorem tw_124 : (Cond.fieldLink "HireShed$Tool" 15 "HireShed$Tool" "how" "I") ∈ hs_gt := hs_gt_of (List.mem_of_getElem? (i := 124) (by decide +kernel)) rfl
theorem tw_125 : (Cond.fieldLink "HireShed" 74 "HireShed$Tool" "how" "I") ∈ hs_gt := hs_gt_of (List.mem_of_getElem? (i := 125) (by decide +kernel)) rfl
theorem tw_126 : (Cond.fieldLink "HireShed$Tool" 18 "HireShed$Tool" "customer" "I") ∈ hs_gt := hs_gt_of (List.mem_of_getElem? (i := 126) (by decide +kernel)) rfl
theorem tw_127 : (Cond.fieldLink "HireShed" 106 "HireShed$Tool" "customer" "I") ∈ hs_gt := hs_gt_of (List.mem_of_getElem? (i := 127) (by decide +kernel)) rfl
theorem tw_128 : (Cond.fieldLink "HireShed$Tool" 21 "HireShed$Tool" "since" "I") ∈ hs_gt := hs_gt_of (List.mem_of_getElem? (i := 128) (by decide +kernel)) rfl
theorem tw_129 : (Cond.fieldLink "HireShed" 91 "HireShed$Tool" "since" "I") ∈ hs_gt := hs_gt_of (List.mem_of_getElem? (i := 129) (by decide +kernel)) rfl
theorem tw_130 : (Cond.laysFinal "HireShed$Powered" "HireShed$Tool" "trace" "LHireShed$Trace;") ∈ hs_gt := hs_gt_of (List.mem_of_getElem? (i := 130) (by decide +kernel)) rfl
theorem tw_131 : (Cond.soleField "HireShed$Tool" "trace") ∈ hs_gt := hs_gt_of (List.mem_of_getElem? (i := 131) (by decide +kernel)) rfl
theorem tw_132 : (Cond.laysFinal "HireShed$Powered" "HireShed$Tool" "kind" "I") ∈ hs_gt := hs_gt_of (List.mem_of_getElem? (i := 132) (by decide +kernel)) rfl
theorem tw_133 : (Cond.soleField "HireShed$Tool" "kind") ∈ hs_gt := hs_gt_of (List.mem_of_getElem? (i := 133) (by decide +kernel)) rfl
theorem tw_134 : (Cond.laysFinal "HireShed$Powered" "HireShed$Tool" "rate" "I") ∈ hs_gt := hs_gt_of (List.mem_of_getElem? (i := 134) (by decide +kernel)) rfl
theorem tw_135 : (Cond.soleField "HireShed$Tool" "rate") ∈ hs_gt := hs_gt_of (List.mem_of_getElem? (i := 135) (by decide +kernel)) rfl
theorem tw_136 : (Cond.laysFinal "HireShed$Powered" "HireShed$Tool" "value" "I") ∈ hs_gt := hs_gt_of (List.mem_of_getElem? (i := 136) (by decide +kernel)) rfl
theorem tw_137 : (Cond.soleField "HireShed$Tool" "value") ∈ hs_gt := hs_gt_of (List.mem_of_getElem? (i := 137) (by decide +kernel)) rfl
theorem tw_138 : (Cond.lays "HireShed$Powered" "HireShed$Tool" "hours" "I") ∈ hs_gt := hs_gt_of (List.mem_of_getElem? (i := 138) (by decide +kernel)) rfl
theorem tw_139 : (Cond.soleField "HireShed$Tool" "hours") ∈ hs_gt := hs_gt_of (List.mem_of_getElem? (i := 139) (by decide +kernel)) rfl
theorem tw_140 : (Cond.lays "HireShed$Powered" "HireShed$Tool" "how" "I") ∈ hs_gt := hs_gt_of (List.mem_of_getElem? (i := 140) (by decide +kernel)) rfl
theorem tw_141 : (Cond.soleField "HireShed$Tool" "how") ∈ hs_gt := hs_gt_of (List.mem_of_getElem? (i := 141) (by decide +kernel)) rfl
theorem tw_142 : (Cond.lays "HireShed$Powered" "HireShed$Tool" "customer" "I") ∈ hs_gt := hs_gt_of (List.mem_of_getElem? (i := 142) (by decide +kernel)) rfl
theorem tw_143 : (Cond.soleField "HireShed$Tool" "customer") ∈ hs_gt := hs_gt_of (List.mem_of_getElem? (i := 143) (by decide +kernel)) rfl
theorem tw_144 : (Cond.lays "HireShed$Powered" "HireShed$Tool" "since" "I") ∈ hs_gt := hs_gt_of (List.mem_of_getElem? (i := 144) (by decide +kernel)) rfl
theorem tw_145 : (Cond.soleField "HireShed$Tool" "since") ∈ hs_gt := hs_gt_of (List.mem_of_getElem? (i := 145) (by decide +kernel)) rfl
theorem tw_146 : (Cond.superclass "HireShed$Powered" "HireShed$Tool") ∈ hs_gt := hs_gt_of (List.mem_of_getElem? (i := 146) (by decide +kernel)) rfl
theorem tw_147 : (Cond.classLink "HireShed" 140 "HireShed$Saw") ∈ hs_gt := hs_gt_of (List.mem_of_getElem? (i := 147) (by decide +kernel)) rfl
theorem tw_148 : (Cond.instantiable "HireShed$Saw" 8) ∈ hs_gt := hs_gt_of (List.mem_of_getElem? (i := 148) (by decide +kernel)) rfl
theorem tw_149 : (Cond.methodLink "HireShed" 142 ⟨"HireShed$Saw", "<init>", "(IIILHireShed$Trace;)V"⟩) ∈ hs_gt := hs_gt_of (List.mem_of_getElem? (i := 149) (by decide +kernel)) rfl
theorem tw_150 : (Cond.instanceMethod ⟨"HireShed$Saw", "<init>", "(IIILHireShed$Trace;)V"⟩) ∈ hs_gt := hs_gt_of (List.mem_of_getElem? (i := 150) (by decide +kernel)) rfl
theorem tw_152 : (Cond.methodLink "HireShed$Saw" 1 ⟨"HireShed$Powered", "<init>", "(IIILHireShed$Trace;)V"⟩) ∈ hs_gt := hs_gt_of (List.mem_of_getElem? (i := 152) (by decide +kernel)) rfl
theorem tw_153 : (Cond.laysFinal "HireShed$Saw" "HireShed$Tool" "trace" "LHireShed$Trace;") ∈ hs_gt := hs_gt_of (List.mem_of_getElem? (i := 153) (by decide +kernel)) rfl
theorem tw_154 : (Cond.laysFinal "HireShed$Saw" "HireShed$Tool" "kind" "I") ∈ hs_gt := hs_gt_of (List.mem_of_getElem? (i := 154) (by decide +kernel)) rfl
theorem tw_155 : (Cond.laysFinal "HireShed$Saw" "HireShed$Tool" "rate" "I") ∈ hs_gt := hs_gt_of (List.mem_of_getElem? (i := 155) (by decide +kernel)) rfl
theorem tw_156 : (Cond.laysFinal "HireShed$Saw" "HireShed$Tool" "value" "I") ∈ hs_gt := hs_gt_of (List.mem_of_getElem? (i := 156) (by decide +kernel)) rfl
theorem tw_157 : (Cond.lays "HireShed$Saw" "HireShed$Tool" "hours" "I") ∈ hs_gt := hs_gt_of (List.mem_of_getElem? (i := 157) (by decide +kernel)) rfl
theorem tw_158 : (Cond.lays "HireShed$Saw" "HireShed$Tool" "how" "I") ∈ hs_gt := hs_gt_of (List.mem_of_getElem? (i := 158) (by decide +kernel)) rfl
theorem tw_159 : (Cond.lays "HireShed$Saw" "HireShed$Tool" "customer" "I") ∈ hs_gt := hs_gt_of (List.mem_of_getElem? (i := 159) (by decide +kernel)) rfl
theorem tw_160 : (Cond.lays "HireShed$Saw" "HireShed$Tool" "since" "I") ∈ hs_gt := hs_gt_of (List.mem_of_getElem? (i := 160) (by decide +kernel)) rfl
theorem tw_161 : (Cond.superclass "HireShed$Saw" "HireShed$Powered") ∈ hs_gt := hs_gt_of (List.mem_of_getElem? (i := 161) (by decide +kernel)) rfl
theorem tw_162 : (Cond.classLink "HireShed" 143 "HireShed$BenchSaw") ∈ hs_gt := hs_gt_of (List.mem_of_getElem? (i := 162) (by decide +kernel)) rfl
theorem tw_163 : (Cond.instantiable "HireShed$BenchSaw" 8) ∈ hs_gt := hs_gt_of (List.mem_of_getElem? (i := 163) (by decide +kernel)) rfl
theorem tw_164 : (Cond.methodLink "HireShed" 145 ⟨"HireShed$BenchSaw", "<init>", "(IIILHireShed$Trace;)V"⟩) ∈ hs_gt := hs_gt_of (List.mem_of_getElem? (i := 164) (by decide +kernel)) rfl
theorem tw_165 : (Cond.instanceMethod ⟨"HireShed$BenchSaw", "<init>", "(IIILHireShed$Trace;)V"⟩) ∈ hs_gt := hs_gt_of (List.mem_of_getElem? (i := 165) (by decide +kernel)) rfl
theorem tw_167 : (Cond.methodLink "HireShed$BenchSaw" 1 ⟨"HireShed$Saw", "<init>", "(IIILHireShed$Trace;)V"⟩) ∈ hs_gt := hs_gt_of (List.mem_of_getElem? (i := 167) (by decide +kernel)) rfl
theorem tw_168 : (Cond.laysFinal "HireShed$BenchSaw" "HireShed$Tool" "trace" "LHireShed$Trace;") ∈ hs_gt := hs_gt_of (List.mem_of_getElem? (i := 168) (by decide +kernel)) rfl
theorem tw_169 : (Cond.laysFinal "HireShed$BenchSaw" "HireShed$Tool" "kind" "I") ∈ hs_gt := hs_gt_of (List.mem_of_getElem? (i := 169) (by decide +kernel)) rfl
theorem tw_170 : (Cond.laysFinal "HireShed$BenchSaw" "HireShed$Tool" "rate" "I") ∈ hs_gt := hs_gt_of (List.mem_of_getElem? (i := 170) (by decide +kernel)) rfl
theorem tw_171 : (Cond.laysFinal "HireShed$BenchSaw" "HireShed$Tool" "value" "I") ∈ hs_gt := hs_gt_of (List.mem_of_getElem? (i := 171) (by decide +kernel)) rfl
theorem tw_172 : (Cond.lays "HireShed$BenchSaw" "HireShed$Tool" "hours" "I") ∈ hs_gt := hs_gt_of (List.mem_of_getElem? (i := 172) (by decide +kernel)) rfl
theorem tw_173 : (Cond.lays "HireShed$BenchSaw" "HireShed$Tool" "how" "I") ∈ hs_gt := hs_gt_of (List.mem_of_getElem? (i := 173) (by decide +kernel)) rfl
theorem tw_174 : (Cond.lays "HireShed$BenchSaw" "HireShed$Tool" "customer" "I") ∈ hs_gt := hs_gt_of (List.mem_of_getElem? (i := 174) (by decide +kernel)) rfl
theorem tw_175 : (Cond.lays "HireShed$BenchSaw" "HireShed$Tool" "since" "I") ∈ hs_gt := hs_gt_of (List.mem_of_getElem? (i := 175) (by decide +kernel)) rfl
theorem tw_176 : (Cond.superclass "HireShed$BenchSaw" "HireShed$Saw") ∈ hs_gt := hs_gt_of (List.mem_of_getElem? (i := 176) (by decide +kernel)) rfl
theorem tw_177 : (Cond.classLink "HireShed" 146 "HireShed$TreeSaw") ∈ hs_gt := hs_gt_of (List.mem_of_getElem? (i := 177) (by decide +kernel)) rfl
theorem tw_178 : (Cond.instantiable "HireShed$TreeSaw" 8) ∈ hs_gt := hs_gt_of (List.mem_of_getElem? (i := 178) (by decide +kernel)) rfl
theorem tw_179 : (Cond.methodLink "HireShed" 148 ⟨"HireShed$TreeSaw", "<init>", "(IIILHireShed$Trace;)V"⟩) ∈ hs_gt := hs_gt_of (List.mem_of_getElem? (i := 179) (by decide +kernel)) rfl
theorem tw_180 : (Cond.instanceMethod ⟨"HireShed$TreeSaw", "<init>", "(IIILHireShed$Trace;)V"⟩) ∈ hs_gt := hs_gt_of (List.mem_of_getElem? (i := 180) (by decide +kernel)) rfl
theorem tw_182 : (Cond.methodLink "HireShed$TreeSaw" 1 ⟨"HireShed$BenchSaw", "<init>", "(IIILHireShed$Trace;)V"⟩) ∈ hs_gt := hs_gt_of (List.mem_of_getElem? (i := 182) (by decide +kernel)) rfl
theorem tw_183 : (Cond.laysFinal "HireShed$TreeSaw" "HireShed$Tool" "trace" "LHireShed$Trace;") ∈ hs_gt := hs_gt_of (List.mem_of_getElem? (i := 183) (by decide +kernel)) rfl
theorem tw_184 : (Cond.laysFinal "HireShed$TreeSaw" "HireShed$Tool" "kind" "I") ∈ hs_gt := hs_gt_of (List.mem_of_getElem? (i := 184) (by decide +kernel)) rfl
theorem tw_185 : (Cond.laysFinal "HireShed$TreeSaw" "HireShed$Tool" "rate" "I") ∈ hs_gt := hs_gt_of (List.mem_of_getElem? (i := 185) (by decide +kernel)) rfl
theorem tw_186 : (Cond.laysFinal "HireShed$TreeSaw" "HireShed$Tool" "value" "I") ∈ hs_gt := hs_gt_of (List.mem_of_getElem? (i := 186) (by decide +kernel)) rfl
theorem tw_187 : (Cond.lays "HireShed$TreeSaw" "HireShed$Tool" "hours" "I") ∈ hs_gt := hs_gt_of (List.mem_of_getElem? (i := 187) (by decide +kernel)) rfl
theorem tw_188 : (Cond.lays "HireShed$TreeSaw" "HireShed$Tool" "how" "I") ∈ hs_gt := hs_gt_of (List.mem_of_getElem? (i := 188) (by decide +kernel)) rfl
theorem tw_189 : (Cond.lays "HireShed$TreeSaw" "HireShed$Tool" "customer" "I") ∈ hs_gt := hs_gt_of (List.mem_of_getElem? (i := 189) (by decide +kernel)) rfl
theorem tw_190 : (Cond.lays "HireShed$TreeSaw" "HireShed$Tool" "since" "I") ∈ hs_gt := hs_gt_of (List.mem_of_getElem? (i := 190) (by decide +kernel)) rfl
theorem tw_191 : (Cond.superclass "HireShed$TreeSaw" "HireShed$BenchSaw") ∈ hs_gt := hs_gt_of (List.mem_of_getElem? (i := 191) (by decide +kernel)) rfl
theorem tw_192 : (Cond.classLink "HireShed" 149 "HireShed$Pump") ∈ hs_gt := hs_gt_of (List.mem_of_getElem? (i := 192) (by decide +kernel)) rfl
theorem tw_193 : (Cond.instantiable "HireShed$Pump" 8) ∈ hs_gt := hs_gt_of (List.mem_of_getElem? (i := 193) (by decide +kernel)) rfl
theorem tw_194 : (Cond.methodLink "HireShed" 151 ⟨"HireShed$Pump", "<init>", "(IIILHireShed$Trace;)V"⟩) ∈ hs_gt := hs_gt_of (List.mem_of_getElem? (i := 194) (by decide +kernel)) rfl
theorem tw_195 : (Cond.instanceMethod ⟨"HireShed$Pump", "<init>", "(IIILHireShed$Trace;)V"⟩) ∈ hs_gt := hs_gt_of (List.mem_of_getElem? (i := 195) (by decide +kernel)) rfl
theorem tw_197 : (Cond.methodLink "HireShed$Pump" 1 ⟨"HireShed$Powered", "<init>", "(IIILHireShed$Trace;)V"⟩) ∈ hs_gt := hs_gt_of (List.mem_of_getElem? (i := 197) (by decide +kernel)) rfl
theorem tw_198 : (Cond.laysFinal "HireShed$Pump" "HireShed$Tool" "trace" "LHireShed$Trace;") ∈ hs_gt := hs_gt_of (List.mem_of_getElem? (i := 198) (by decide +kernel)) rfl
theorem tw_199 : (Cond.laysFinal "HireShed$Pump" "HireShed$Tool" "kind" "I") ∈ hs_gt := hs_gt_of (List.mem_of_getElem? (i := 199) (by decide +kernel)) rfl
theorem tw_200 : (Cond.laysFinal "HireShed$Pump" "HireShed$Tool" "rate" "I") ∈ hs_gt := hs_gt_of (List.mem_of_getElem? (i := 200) (by decide +kernel)) rfl
theorem tw_201 : (Cond.laysFinal "HireShed$Pump" "HireShed$Tool" "value" "I") ∈ hs_gt := hs_gt_of (List.mem_of_getElem? (i := 201) (by decide +kernel)) rfl
theorem tw_202 : (Cond.lays "HireShed$Pump" "HireShed$Tool" "hours" "I") ∈ hs_gt := hs_gt_of (List.mem_of_getElem? (i := 202) (by decide +kernel)) rfl
theorem tw_203 : (Cond.lays "HireShed$Pump" "HireShed$Tool" "how" "I") ∈ hs_gt := hs_gt_of (List.mem_of_getElem? (i := 203) (by decide +kernel)) rfl
theorem tw_204 : (Cond.lays "HireShed$Pump" "HireShed$Tool" "customer" "I") ∈ hs_gt := hs_gt_of (List.mem_of_getElem? (i := 204) (by decide +kernel)) rfl
theorem tw_205 : (Cond.lays "HireShed$Pump" "HireShed$Tool" "since" "I") ∈ hs_gt := hs_gt_of (List.mem_of_getElem? (i := 205) (by decide +kernel)) rfl
theorem tw_206 : (Cond.superclass "HireShed$Pump" "HireShed$Powered") ∈ hs_gt := hs_gt_of (List.mem_of_getElem? (i := 206) (by decide +kernel)) rfl
theorem tw_207 : (Cond.classLink "HireShed" 152 "HireShed$DeepPump") ∈ hs_gt := hs_gt_of (List.mem_of_getElem? (i := 207) (by decide +kernel)) rfl
theorem tw_208 : (Cond.instantiable "HireShed$DeepPump" 8) ∈ hs_gt := hs_gt_of (List.mem_of_getElem? (i := 208) (by decide +kernel)) rfl
theorem tw_209 : (Cond.methodLink "HireShed" 154 ⟨"HireShed$DeepPump", "<init>", "(IIILHireShed$Trace;)V"⟩) ∈ hs_gt := hs_gt_of (List.mem_of_getElem? (i := 209) (by decide +kernel)) rfl
theorem tw_210 : (Cond.instanceMethod ⟨"HireShed$DeepPump", "<init>", "(IIILHireShed$Trace;)V"⟩) ∈ hs_gt := hs_gt_of (List.mem_of_getElem? (i := 210) (by decide +kernel)) rfl
theorem tw_212 : (Cond.methodLink "HireShed$DeepPump" 1 ⟨"HireShed$Pump", "<init>", "(IIILHireShed$Trace;)V"⟩) ∈ hs_gt := hs_gt_of (List.mem_of_getElem? (i := 212) (by decide +kernel)) rfl
theorem tw_213 : (Cond.laysFinal "HireShed$DeepPump" "HireShed$Tool" "trace" "LHireShed$Trace;") ∈ hs_gt := hs_gt_of (List.mem_of_getElem? (i := 213) (by decide +kernel)) rfl
theorem tw_214 : (Cond.laysFinal "HireShed$DeepPump" "HireShed$Tool" "kind" "I") ∈ hs_gt := hs_gt_of (List.mem_of_getElem? (i := 214) (by decide +kernel)) rfl
theorem tw_215 : (Cond.laysFinal "HireShed$DeepPump" "HireShed$Tool" "rate" "I") ∈ hs_gt := hs_gt_of (List.mem_of_getElem? (i := 215) (by decide +kernel)) rfl
theorem tw_216 : (Cond.laysFinal "HireShed$DeepPump" "HireShed$Tool" "value" "I") ∈ hs_gt := hs_gt_of (List.mem_of_getElem? (i := 216) (by decide +kernel)) rfl
theorem tw_217 : (Cond.lays "HireShed$DeepPump" "HireShed$Tool" "hours" "I") ∈ hs_gt := hs_gt_of (List.mem_of_getElem? (i := 217) (by decide +kernel)) rfl
theorem tw_218 : (Cond.lays "HireShed$DeepPump" "HireShed$Tool" "how" "I") ∈ hs_gt := hs_gt_of (List.mem_of_getElem? (i := 218) (by decide +kernel)) rfl
theorem tw_219 : (Cond.lays "HireShed$DeepPump" "HireShed$Tool" "customer" "I") ∈ hs_gt := hs_gt_of (List.mem_of_getElem? (i := 219) (by decide +kernel)) rfl
theorem tw_220 : (Cond.lays "HireShed$DeepPump" "HireShed$Tool" "since" "I") ∈ hs_gt := hs_gt_of (List.mem_of_getElem? (i := 220) (by decide +kernel)) rfl
theorem tw_221 : (Cond.superclass "HireShed$DeepPump" "HireShed$Pump") ∈ hs_gt := hs_gt_of (List.mem_of_getElem? (i := 221) (by decide +kernel)) rfl
theorem tw_222 : (Cond.instantiable "HireShed$Tool" 8) ∈ hs_gt := hs_gt_of (List.mem_of_getElem? (i := 222) (by decide +kernel)) rfl
theorem tw_223 : (Cond.methodLink "HireShed" 155 ⟨"HireShed$Tool", "<init>", "(IIILHireShed$Trace;)V"⟩) ∈ hs_gt := hs_gt_of (List.mem_of_getElem? (i := 223) (by decide +kernel)) rfl
theorem tw_224 : (Cond.laysFinal "HireShed$Tool" "HireShed$Tool" "trace" "LHireShed$Trace;") ∈ hs_gt := hs_gt_of (List.mem_of_getElem? (i := 224) (by decide +kernel)) rfl
theorem tw_225 : (Cond.laysFinal "HireShed$Tool" "HireShed$Tool" "kind" "I") ∈ hs_gt := hs_gt_of (List.mem_of_getElem? (i := 225) (by decide +kernel)) rfl
theorem tw_226 : (Cond.laysFinal "HireShed$Tool" "HireShed$Tool" "rate" "I") ∈ hs_gt := hs_gt_of (List.mem_of_getElem? (i := 226) (by decide +kernel)) rfl
theorem tw_227 : (Cond.laysFinal "HireShed$Tool" "HireShed$Tool" "value" "I") ∈ hs_gt := hs_gt_of (List.mem_of_getElem? (i := 227) (by decide +kernel)) rfl
theorem tw_228 : (Cond.lays "HireShed$Tool" "HireShed$Tool" "hours" "I") ∈ hs_gt := hs_gt_of (List.mem_of_getElem? (i := 228) (by decide +kernel)) rfl
theorem tw_229 : (Cond.lays "HireShed$Tool" "HireShed$Tool" "how" "I") ∈ hs_gt := hs_gt_of (List.mem_of_getElem? (i := 229) (by decide +kernel)) rfl
theorem tw_230 : (Cond.lays "HireShed$Tool" "HireShed$Tool" "customer" "I") ∈ hs_gt := hs_gt_of (List.mem_of_getElem? (i := 230) (by decide +kernel)) rfl
theorem tw_231 : (Cond.lays "HireShed$Tool" "HireShed$Tool" "since" "I") ∈ hs_gt := hs_gt_of (List.mem_of_getElem? (i := 231) (by decide +kernel)) rfl
theorem tw_232 : (Cond.superclass "HireShed$Tool" "java/lang/Object") ∈ hs_gt := hs_gt_of (List.mem_of_getElem? (i := 232) (by decide +kernel)) rfl
theorem tw_233 : (Cond.methodLink "HireShedLaw" 18 ⟨"HireShed", "ask", "(III)I"⟩) ∈ hs_gt := hs_gt_of (List.mem_of_getElem? (i := 233) (by decide +kernel)) rfl
theorem tw_234 : (Cond.instanceMethod ⟨"HireShed", "ask", "(III)I"⟩) ∈ hs_gt := hs_gt_of (List.mem_of_getElem? (i := 234) (by decide +kernel)) rfl
theorem tw_235 : (Cond.selects "HireShed" ⟨"HireShed", "ask", "(III)I"⟩ ⟨"HireShed", "ask", "(III)I"⟩) ∈ hs_gt := hs_gt_of (List.mem_of_getElem? (i := 235) (by decide +kernel)) rfl
theorem tw_237 : (Cond.methodLink "HireShed" 48 ⟨"HireShed", "toolAt", "(I)LHireShed$Tool;"⟩) ∈ hs_gt := hs_gt_of (List.mem_of_getElem? (i := 237) (by decide +kernel)) rfl
theorem tw_238 : (Cond.privateMethod ⟨"HireShed", "toolAt", "(I)LHireShed$Tool;"⟩) ∈ lw_tbl := List.mem_of_getElem? (i := 238) (by decide +kernel)
theorem tw_239 : (Cond.instanceMethod ⟨"HireShed", "toolAt", "(I)LHireShed$Tool;"⟩) ∈ hs_gt := hs_gt_of (List.mem_of_getElem? (i := 239) (by decide +kernel)) rfl
theorem tw_241 : (Cond.methodLink "HireShed" 52 ⟨"HireShed$Trace", "begin", "()V"⟩) ∈ hs_gt := hs_gt_of (List.mem_of_getElem? (i := 241) (by decide +kernel)) rfl
theorem tw_242 : (Cond.instanceMethod ⟨"HireShed$Trace", "begin", "()V"⟩) ∈ hs_gt := hs_gt_of (List.mem_of_getElem? (i := 242) (by decide +kernel)) rfl
theorem tw_243 : (Cond.selects "HireShed$Trace" ⟨"HireShed$Trace", "begin", "()V"⟩ ⟨"HireShed$Trace", "begin", "()V"⟩) ∈ hs_gt := hs_gt_of (List.mem_of_getElem? (i := 243) (by decide +kernel)) rfl
theorem tw_245 : (Cond.methodLink "HireShed" 55 ⟨"HireShed", "hasAnswer", "(LHireShed$Tool;I)Z"⟩) ∈ hs_gt := hs_gt_of (List.mem_of_getElem? (i := 245) (by decide +kernel)) rfl
theorem tw_246 : (Cond.static ⟨"HireShed", "hasAnswer", "(LHireShed$Tool;I)Z"⟩) ∈ hs_gt := hs_gt_of (List.mem_of_getElem? (i := 246) (by decide +kernel)) rfl
theorem tw_248 : (Cond.methodLink "HireShed" 156 ⟨"HireShed$Tool", "hasDeposit", "()Z"⟩) ∈ hs_gt := hs_gt_of (List.mem_of_getElem? (i := 248) (by decide +kernel)) rfl
theorem tw_249 : (Cond.instanceMethod ⟨"HireShed$Tool", "hasDeposit", "()Z"⟩) ∈ hs_gt := hs_gt_of (List.mem_of_getElem? (i := 249) (by decide +kernel)) rfl
theorem tw_250 : (Cond.selects "HireShed$Tool" ⟨"HireShed$Tool", "hasDeposit", "()Z"⟩ ⟨"HireShed$Tool", "hasDeposit", "()Z"⟩) ∈ hs_gt := hs_gt_of (List.mem_of_getElem? (i := 250) (by decide +kernel)) rfl
theorem tw_251 : (Cond.sameMethod "HireShed$Tool" "HireShed$Tool" "hasDeposit" "()Z") ∈ hs_gt := hs_gt_of (List.mem_of_getElem? (i := 251) (by decide +kernel)) rfl
theorem tw_252 : (Cond.selects "HireShed$BenchSaw" ⟨"HireShed$Tool", "hasDeposit", "()Z"⟩ ⟨"HireShed$Powered", "hasDeposit", "()Z"⟩) ∈ hs_gt := hs_gt_of (List.mem_of_getElem? (i := 252) (by decide +kernel)) rfl
theorem tw_253 : (Cond.instanceMethod ⟨"HireShed$Powered", "hasDeposit", "()Z"⟩) ∈ hs_gt := hs_gt_of (List.mem_of_getElem? (i := 253) (by decide +kernel)) rfl
theorem tw_255 : (Cond.selects "HireShed$DeepPump" ⟨"HireShed$Tool", "hasDeposit", "()Z"⟩ ⟨"HireShed$Powered", "hasDeposit", "()Z"⟩) ∈ hs_gt := hs_gt_of (List.mem_of_getElem? (i := 255) (by decide +kernel)) rfl
theorem tw_256 : (Cond.selects "HireShed$Powered" ⟨"HireShed$Tool", "hasDeposit", "()Z"⟩ ⟨"HireShed$Powered", "hasDeposit", "()Z"⟩) ∈ hs_gt := hs_gt_of (List.mem_of_getElem? (i := 256) (by decide +kernel)) rfl
theorem tw_257 : (Cond.selects "HireShed$Pump" ⟨"HireShed$Tool", "hasDeposit", "()Z"⟩ ⟨"HireShed$Powered", "hasDeposit", "()Z"⟩) ∈ hs_gt := hs_gt_of (List.mem_of_getElem? (i := 257) (by decide +kernel)) rfl
theorem tw_258 : (Cond.selects "HireShed$Saw" ⟨"HireShed$Tool", "hasDeposit", "()Z"⟩ ⟨"HireShed$Powered", "hasDeposit", "()Z"⟩) ∈ hs_gt := hs_gt_of (List.mem_of_getElem? (i := 258) (by decide +kernel)) rfl
theorem tw_259 : (Cond.selects "HireShed$TreeSaw" ⟨"HireShed$Tool", "hasDeposit", "()Z"⟩ ⟨"HireShed$Powered", "hasDeposit", "()Z"⟩) ∈ hs_gt := hs_gt_of (List.mem_of_getElem? (i := 259) (by decide +kernel)) rfl
theorem tw_261 : (Cond.methodLink "HireShed" 125 ⟨"HireShed$Tool", "isInsured", "()Z"⟩) ∈ hs_gt := hs_gt_of (List.mem_of_getElem? (i := 261) (by decide +kernel)) rfl
theorem tw_262 : (Cond.instanceMethod ⟨"HireShed$Tool", "isInsured", "()Z"⟩) ∈ hs_gt := hs_gt_of (List.mem_of_getElem? (i := 262) (by decide +kernel)) rfl
theorem tw_263 : (Cond.selects "HireShed$Tool" ⟨"HireShed$Tool", "isInsured", "()Z"⟩ ⟨"HireShed$Tool", "isInsured", "()Z"⟩) ∈ hs_gt := hs_gt_of (List.mem_of_getElem? (i := 263) (by decide +kernel)) rfl
theorem tw_264 : (Cond.sameMethod "HireShed$Tool" "HireShed$Tool" "isInsured" "()Z") ∈ hs_gt := hs_gt_of (List.mem_of_getElem? (i := 264) (by decide +kernel)) rfl
theorem tw_265 : (Cond.selects "HireShed$BenchSaw" ⟨"HireShed$Tool", "isInsured", "()Z"⟩ ⟨"HireShed$Saw", "isInsured", "()Z"⟩) ∈ hs_gt := hs_gt_of (List.mem_of_getElem? (i := 265) (by decide +kernel)) rfl
theorem tw_266 : (Cond.instanceMethod ⟨"HireShed$Saw", "isInsured", "()Z"⟩) ∈ hs_gt := hs_gt_of (List.mem_of_getElem? (i := 266) (by decide +kernel)) rfl
theorem tw_268 : (Cond.selects "HireShed$DeepPump" ⟨"HireShed$Tool", "isInsured", "()Z"⟩ ⟨"HireShed$Tool", "isInsured", "()Z"⟩) ∈ hs_gt := hs_gt_of (List.mem_of_getElem? (i := 268) (by decide +kernel)) rfl
theorem tw_269 : (Cond.selects "HireShed$Powered" ⟨"HireShed$Tool", "isInsured", "()Z"⟩ ⟨"HireShed$Tool", "isInsured", "()Z"⟩) ∈ hs_gt := hs_gt_of (List.mem_of_getElem? (i := 269) (by decide +kernel)) rfl
theorem tw_270 : (Cond.selects "HireShed$Pump" ⟨"HireShed$Tool", "isInsured", "()Z"⟩ ⟨"HireShed$Tool", "isInsured", "()Z"⟩) ∈ hs_gt := hs_gt_of (List.mem_of_getElem? (i := 270) (by decide +kernel)) rfl
theorem tw_271 : (Cond.selects "HireShed$Saw" ⟨"HireShed$Tool", "isInsured", "()Z"⟩ ⟨"HireShed$Saw", "isInsured", "()Z"⟩) ∈ hs_gt := hs_gt_of (List.mem_of_getElem? (i := 271) (by decide +kernel)) rfl
theorem tw_272 : (Cond.selects "HireShed$TreeSaw" ⟨"HireShed$Tool", "isInsured", "()Z"⟩ ⟨"HireShed$Saw", "isInsured", "()Z"⟩) ∈ hs_gt := hs_gt_of (List.mem_of_getElem? (i := 272) (by decide +kernel)) rfl
theorem tw_274 : (Cond.methodLink "HireShed" 129 ⟨"HireShed$Tool", "isServiced", "()Z"⟩) ∈ hs_gt := hs_gt_of (List.mem_of_getElem? (i := 274) (by decide +kernel)) rfl
theorem tw_275 : (Cond.instanceMethod ⟨"HireShed$Tool", "isServiced", "()Z"⟩) ∈ hs_gt := hs_gt_of (List.mem_of_getElem? (i := 275) (by decide +kernel)) rfl
theorem tw_276 : (Cond.selects "HireShed$Tool" ⟨"HireShed$Tool", "isServiced", "()Z"⟩ ⟨"HireShed$Tool", "isServiced", "()Z"⟩) ∈ hs_gt := hs_gt_of (List.mem_of_getElem? (i := 276) (by decide +kernel)) rfl
theorem tw_277 : (Cond.sameMethod "HireShed$Tool" "HireShed$Tool" "isServiced" "()Z") ∈ hs_gt := hs_gt_of (List.mem_of_getElem? (i := 277) (by decide +kernel)) rfl
theorem tw_278 : (Cond.selects "HireShed$BenchSaw" ⟨"HireShed$Tool", "isServiced", "()Z"⟩ ⟨"HireShed$BenchSaw", "isServiced", "()Z"⟩) ∈ hs_gt := hs_gt_of (List.mem_of_getElem? (i := 278) (by decide +kernel)) rfl
theorem tw_279 : (Cond.instanceMethod ⟨"HireShed$BenchSaw", "isServiced", "()Z"⟩) ∈ hs_gt := hs_gt_of (List.mem_of_getElem? (i := 279) (by decide +kernel)) rfl
theorem tw_281 : (Cond.selects "HireShed$DeepPump" ⟨"HireShed$Tool", "isServiced", "()Z"⟩ ⟨"HireShed$Pump", "isServiced", "()Z"⟩) ∈ hs_gt := hs_gt_of (List.mem_of_getElem? (i := 281) (by decide +kernel)) rfl
theorem tw_282 : (Cond.instanceMethod ⟨"HireShed$Pump", "isServiced", "()Z"⟩) ∈ hs_gt := hs_gt_of (List.mem_of_getElem? (i := 282) (by decide +kernel)) rfl
theorem tw_284 : (Cond.selects "HireShed$Powered" ⟨"HireShed$Tool", "isServiced", "()Z"⟩ ⟨"HireShed$Tool", "isServiced", "()Z"⟩) ∈ hs_gt := hs_gt_of (List.mem_of_getElem? (i := 284) (by decide +kernel)) rfl
theorem tw_285 : (Cond.selects "HireShed$Pump" ⟨"HireShed$Tool", "isServiced", "()Z"⟩ ⟨"HireShed$Pump", "isServiced", "()Z"⟩) ∈ hs_gt := hs_gt_of (List.mem_of_getElem? (i := 285) (by decide +kernel)) rfl
theorem tw_286 : (Cond.selects "HireShed$Saw" ⟨"HireShed$Tool", "isServiced", "()Z"⟩ ⟨"HireShed$Tool", "isServiced", "()Z"⟩) ∈ hs_gt := hs_gt_of (List.mem_of_getElem? (i := 286) (by decide +kernel)) rfl
theorem tw_287 : (Cond.selects "HireShed$TreeSaw" ⟨"HireShed$Tool", "isServiced", "()Z"⟩ ⟨"HireShed$BenchSaw", "isServiced", "()Z"⟩) ∈ hs_gt := hs_gt_of (List.mem_of_getElem? (i := 287) (by decide +kernel)) rfl
theorem tw_289 : (Cond.methodLink "HireShed" 59 ⟨"HireShed", "answerOf", "(LHireShed$Tool;II)I"⟩) ∈ hs_gt := hs_gt_of (List.mem_of_getElem? (i := 289) (by decide +kernel)) rfl
theorem tw_290 : (Cond.static ⟨"HireShed", "answerOf", "(LHireShed$Tool;II)I"⟩) ∈ hs_gt := hs_gt_of (List.mem_of_getElem? (i := 290) (by decide +kernel)) rfl
theorem tw_292 : (Cond.methodLink "HireShed" 100 ⟨"HireShed$Tool", "charge", "(I)I"⟩) ∈ hs_gt := hs_gt_of (List.mem_of_getElem? (i := 292) (by decide +kernel)) rfl
theorem tw_293 : (Cond.instanceMethod ⟨"HireShed$Tool", "charge", "(I)I"⟩) ∈ hs_gt := hs_gt_of (List.mem_of_getElem? (i := 293) (by decide +kernel)) rfl
theorem tw_294 : (Cond.selects "HireShed$Tool" ⟨"HireShed$Tool", "charge", "(I)I"⟩ ⟨"HireShed$Tool", "charge", "(I)I"⟩) ∈ hs_gt := hs_gt_of (List.mem_of_getElem? (i := 294) (by decide +kernel)) rfl
theorem tw_295 : (Cond.sameMethod "HireShed$Tool" "HireShed$Tool" "charge" "(I)I") ∈ hs_gt := hs_gt_of (List.mem_of_getElem? (i := 295) (by decide +kernel)) rfl
theorem tw_296 : (Cond.selects "HireShed$BenchSaw" ⟨"HireShed$Tool", "charge", "(I)I"⟩ ⟨"HireShed$Saw", "charge", "(I)I"⟩) ∈ hs_gt := hs_gt_of (List.mem_of_getElem? (i := 296) (by decide +kernel)) rfl
theorem tw_297 : (Cond.instanceMethod ⟨"HireShed$Saw", "charge", "(I)I"⟩) ∈ hs_gt := hs_gt_of (List.mem_of_getElem? (i := 297) (by decide +kernel)) rfl
theorem tw_299 : (Cond.methodLink "HireShed$Saw" 13 ⟨"HireShed$Trace", "leave", "(I)V"⟩) ∈ hs_gt := hs_gt_of (List.mem_of_getElem? (i := 299) (by decide +kernel)) rfl
theorem tw_300 : (Cond.instanceMethod ⟨"HireShed$Trace", "leave", "(I)V"⟩) ∈ hs_gt := hs_gt_of (List.mem_of_getElem? (i := 300) (by decide +kernel)) rfl
theorem tw_301 : (Cond.selects "HireShed$Trace" ⟨"HireShed$Trace", "leave", "(I)V"⟩ ⟨"HireShed$Trace", "leave", "(I)V"⟩) ∈ hs_gt := hs_gt_of (List.mem_of_getElem? (i := 301) (by decide +kernel)) rfl
theorem tw_303 : (Cond.methodLink "HireShed$Saw" 19 ⟨"HireShed$Powered", "charge", "(I)I"⟩) ∈ hs_gt := hs_gt_of (List.mem_of_getElem? (i := 303) (by decide +kernel)) rfl
theorem tw_304 : (Cond.sameMethod "HireShed$Powered" "HireShed$Tool" "charge" "(I)I") ∈ hs_gt := hs_gt_of (List.mem_of_getElem? (i := 304) (by decide +kernel)) rfl
theorem tw_305 : (Cond.declares ⟨"HireShed$Tool", "charge", "(I)I"⟩) ∈ lw_tbl := List.mem_of_getElem? (i := 305) (by decide +kernel)
theorem tw_306 : (Cond.selects "HireShed$DeepPump" ⟨"HireShed$Tool", "charge", "(I)I"⟩ ⟨"HireShed$DeepPump", "charge", "(I)I"⟩) ∈ hs_gt := hs_gt_of (List.mem_of_getElem? (i := 306) (by decide +kernel)) rfl
theorem tw_307 : (Cond.instanceMethod ⟨"HireShed$DeepPump", "charge", "(I)I"⟩) ∈ hs_gt := hs_gt_of (List.mem_of_getElem? (i := 307) (by decide +kernel)) rfl
theorem tw_309 : (Cond.methodLink "HireShed$DeepPump" 13 ⟨"HireShed$Trace", "leave", "(I)V"⟩) ∈ hs_gt := hs_gt_of (List.mem_of_getElem? (i := 309) (by decide +kernel)) rfl
theorem tw_310 : (Cond.methodLink "HireShed$DeepPump" 19 ⟨"HireShed$Pump", "charge", "(I)I"⟩) ∈ hs_gt := hs_gt_of (List.mem_of_getElem? (i := 310) (by decide +kernel)) rfl
theorem tw_311 : (Cond.sameMethod "HireShed$Pump" "HireShed$Tool" "charge" "(I)I") ∈ hs_gt := hs_gt_of (List.mem_of_getElem? (i := 311) (by decide +kernel)) rfl
theorem tw_312 : (Cond.selects "HireShed$Powered" ⟨"HireShed$Tool", "charge", "(I)I"⟩ ⟨"HireShed$Tool", "charge", "(I)I"⟩) ∈ hs_gt := hs_gt_of (List.mem_of_getElem? (i := 312) (by decide +kernel)) rfl
theorem tw_313 : (Cond.selects "HireShed$Pump" ⟨"HireShed$Tool", "charge", "(I)I"⟩ ⟨"HireShed$Tool", "charge", "(I)I"⟩) ∈ hs_gt := hs_gt_of (List.mem_of_getElem? (i := 313) (by decide +kernel)) rfl
theorem tw_314 : (Cond.selects "HireShed$Saw" ⟨"HireShed$Tool", "charge", "(I)I"⟩ ⟨"HireShed$Saw", "charge", "(I)I"⟩) ∈ hs_gt := hs_gt_of (List.mem_of_getElem? (i := 314) (by decide +kernel)) rfl
theorem tw_315 : (Cond.selects "HireShed$TreeSaw" ⟨"HireShed$Tool", "charge", "(I)I"⟩ ⟨"HireShed$TreeSaw", "charge", "(I)I"⟩) ∈ hs_gt := hs_gt_of (List.mem_of_getElem? (i := 315) (by decide +kernel)) rfl
theorem tw_316 : (Cond.instanceMethod ⟨"HireShed$TreeSaw", "charge", "(I)I"⟩) ∈ hs_gt := hs_gt_of (List.mem_of_getElem? (i := 316) (by decide +kernel)) rfl
theorem tw_318 : (Cond.methodLink "HireShed$TreeSaw" 13 ⟨"HireShed$Trace", "leave", "(I)V"⟩) ∈ hs_gt := hs_gt_of (List.mem_of_getElem? (i := 318) (by decide +kernel)) rfl
theorem tw_319 : (Cond.methodLink "HireShed$TreeSaw" 19 ⟨"HireShed$BenchSaw", "charge", "(I)I"⟩) ∈ hs_gt := hs_gt_of (List.mem_of_getElem? (i := 319) (by decide +kernel)) rfl
theorem tw_320 : (Cond.sameMethod "HireShed$BenchSaw" "HireShed$Saw" "charge" "(I)I") ∈ hs_gt := hs_gt_of (List.mem_of_getElem? (i := 320) (by decide +kernel)) rfl
theorem tw_321 : (Cond.declares ⟨"HireShed$Saw", "charge", "(I)I"⟩) ∈ lw_tbl := List.mem_of_getElem? (i := 321) (by decide +kernel)
theorem tw_322 : (Cond.methodLink "HireShed$TreeSaw" 23 ⟨"java/lang/Math", "max", "(II)I"⟩) ∈ hs_gt := hs_gt_of (List.mem_of_getElem? (i := 322) (by decide +kernel)) rfl
theorem tw_323 : (Cond.static ⟨"java/lang/Math", "max", "(II)I"⟩) ∈ hs_gt := hs_gt_of (List.mem_of_getElem? (i := 323) (by decide +kernel)) rfl
theorem tw_326 : (Cond.methodLink "HireShed$Tool" 37 ⟨"HireShed$Trace", "leave", "(I)V"⟩) ∈ hs_gt := hs_gt_of (List.mem_of_getElem? (i := 326) (by decide +kernel)) rfl
theorem tw_327 : (Cond.methodLink "HireShed" 159 ⟨"HireShed$Tool", "wear", "(I)I"⟩) ∈ hs_gt := hs_gt_of (List.mem_of_getElem? (i := 327) (by decide +kernel)) rfl
theorem tw_328 : (Cond.instanceMethod ⟨"HireShed$Tool", "wear", "(I)I"⟩) ∈ hs_gt := hs_gt_of (List.mem_of_getElem? (i := 328) (by decide +kernel)) rfl
theorem tw_329 : (Cond.selects "HireShed$Tool" ⟨"HireShed$Tool", "wear", "(I)I"⟩ ⟨"HireShed$Tool", "wear", "(I)I"⟩) ∈ hs_gt := hs_gt_of (List.mem_of_getElem? (i := 329) (by decide +kernel)) rfl
theorem tw_330 : (Cond.sameMethod "HireShed$Tool" "HireShed$Tool" "wear" "(I)I") ∈ hs_gt := hs_gt_of (List.mem_of_getElem? (i := 330) (by decide +kernel)) rfl
theorem tw_331 : (Cond.selects "HireShed$BenchSaw" ⟨"HireShed$Tool", "wear", "(I)I"⟩ ⟨"HireShed$Tool", "wear", "(I)I"⟩) ∈ hs_gt := hs_gt_of (List.mem_of_getElem? (i := 331) (by decide +kernel)) rfl
theorem tw_332 : (Cond.selects "HireShed$DeepPump" ⟨"HireShed$Tool", "wear", "(I)I"⟩ ⟨"HireShed$Pump", "wear", "(I)I"⟩) ∈ hs_gt := hs_gt_of (List.mem_of_getElem? (i := 332) (by decide +kernel)) rfl
theorem tw_333 : (Cond.instanceMethod ⟨"HireShed$Pump", "wear", "(I)I"⟩) ∈ hs_gt := hs_gt_of (List.mem_of_getElem? (i := 333) (by decide +kernel)) rfl
theorem tw_335 : (Cond.methodLink "HireShed$Pump" 13 ⟨"HireShed$Trace", "leave", "(I)V"⟩) ∈ hs_gt := hs_gt_of (List.mem_of_getElem? (i := 335) (by decide +kernel)) rfl
theorem tw_336 : (Cond.methodLink "HireShed$Pump" 19 ⟨"HireShed$Powered", "wear", "(I)I"⟩) ∈ hs_gt := hs_gt_of (List.mem_of_getElem? (i := 336) (by decide +kernel)) rfl
theorem tw_337 : (Cond.sameMethod "HireShed$Powered" "HireShed$Tool" "wear" "(I)I") ∈ hs_gt := hs_gt_of (List.mem_of_getElem? (i := 337) (by decide +kernel)) rfl
theorem tw_338 : (Cond.declares ⟨"HireShed$Tool", "wear", "(I)I"⟩) ∈ lw_tbl := List.mem_of_getElem? (i := 338) (by decide +kernel)
theorem tw_339 : (Cond.selects "HireShed$Powered" ⟨"HireShed$Tool", "wear", "(I)I"⟩ ⟨"HireShed$Tool", "wear", "(I)I"⟩) ∈ hs_gt := hs_gt_of (List.mem_of_getElem? (i := 339) (by decide +kernel)) rfl
theorem tw_340 : (Cond.selects "HireShed$Pump" ⟨"HireShed$Tool", "wear", "(I)I"⟩ ⟨"HireShed$Pump", "wear", "(I)I"⟩) ∈ hs_gt := hs_gt_of (List.mem_of_getElem? (i := 340) (by decide +kernel)) rfl
theorem tw_341 : (Cond.selects "HireShed$Saw" ⟨"HireShed$Tool", "wear", "(I)I"⟩ ⟨"HireShed$Tool", "wear", "(I)I"⟩) ∈ hs_gt := hs_gt_of (List.mem_of_getElem? (i := 341) (by decide +kernel)) rfl
theorem tw_342 : (Cond.selects "HireShed$TreeSaw" ⟨"HireShed$Tool", "wear", "(I)I"⟩ ⟨"HireShed$TreeSaw", "wear", "(I)I"⟩) ∈ hs_gt := hs_gt_of (List.mem_of_getElem? (i := 342) (by decide +kernel)) rfl
theorem tw_343 : (Cond.instanceMethod ⟨"HireShed$TreeSaw", "wear", "(I)I"⟩) ∈ hs_gt := hs_gt_of (List.mem_of_getElem? (i := 343) (by decide +kernel)) rfl
theorem tw_345 : (Cond.methodLink "HireShed$TreeSaw" 29 ⟨"HireShed$BenchSaw", "wear", "(I)I"⟩) ∈ hs_gt := hs_gt_of (List.mem_of_getElem? (i := 345) (by decide +kernel)) rfl
theorem tw_346 : (Cond.sameMethod "HireShed$BenchSaw" "HireShed$Tool" "wear" "(I)I") ∈ hs_gt := hs_gt_of (List.mem_of_getElem? (i := 346) (by decide +kernel)) rfl
theorem tw_348 : (Cond.methodLink "HireShed" 113 ⟨"HireShed$Tool", "check", "()I"⟩) ∈ hs_gt := hs_gt_of (List.mem_of_getElem? (i := 348) (by decide +kernel)) rfl
theorem tw_349 : (Cond.instanceMethod ⟨"HireShed$Tool", "check", "()I"⟩) ∈ hs_gt := hs_gt_of (List.mem_of_getElem? (i := 349) (by decide +kernel)) rfl
theorem tw_350 : (Cond.selects "HireShed$Tool" ⟨"HireShed$Tool", "check", "()I"⟩ ⟨"HireShed$Tool", "check", "()I"⟩) ∈ hs_gt := hs_gt_of (List.mem_of_getElem? (i := 350) (by decide +kernel)) rfl
theorem tw_351 : (Cond.sameMethod "HireShed$Tool" "HireShed$Tool" "check" "()I") ∈ hs_gt := hs_gt_of (List.mem_of_getElem? (i := 351) (by decide +kernel)) rfl
theorem tw_352 : (Cond.selects "HireShed$BenchSaw" ⟨"HireShed$Tool", "check", "()I"⟩ ⟨"HireShed$BenchSaw", "check", "()I"⟩) ∈ hs_gt := hs_gt_of (List.mem_of_getElem? (i := 352) (by decide +kernel)) rfl
theorem tw_353 : (Cond.instanceMethod ⟨"HireShed$BenchSaw", "check", "()I"⟩) ∈ hs_gt := hs_gt_of (List.mem_of_getElem? (i := 353) (by decide +kernel)) rfl
theorem tw_355 : (Cond.methodLink "HireShed$BenchSaw" 13 ⟨"HireShed$Trace", "leave", "(I)V"⟩) ∈ hs_gt := hs_gt_of (List.mem_of_getElem? (i := 355) (by decide +kernel)) rfl
theorem tw_356 : (Cond.methodLink "HireShed$BenchSaw" 19 ⟨"HireShed$Saw", "check", "()I"⟩) ∈ hs_gt := hs_gt_of (List.mem_of_getElem? (i := 356) (by decide +kernel)) rfl
theorem tw_357 : (Cond.sameMethod "HireShed$Saw" "HireShed$Powered" "check" "()I") ∈ hs_gt := hs_gt_of (List.mem_of_getElem? (i := 357) (by decide +kernel)) rfl
theorem tw_358 : (Cond.declares ⟨"HireShed$Powered", "check", "()I"⟩) ∈ lw_tbl := List.mem_of_getElem? (i := 358) (by decide +kernel)
theorem tw_359 : (Cond.instanceMethod ⟨"HireShed$Powered", "check", "()I"⟩) ∈ hs_gt := hs_gt_of (List.mem_of_getElem? (i := 359) (by decide +kernel)) rfl
theorem tw_361 : (Cond.methodLink "HireShed$Powered" 13 ⟨"HireShed$Trace", "leave", "(I)V"⟩) ∈ hs_gt := hs_gt_of (List.mem_of_getElem? (i := 361) (by decide +kernel)) rfl
theorem tw_362 : (Cond.methodLink "HireShed$Powered" 19 ⟨"HireShed$Tool", "check", "()I"⟩) ∈ hs_gt := hs_gt_of (List.mem_of_getElem? (i := 362) (by decide +kernel)) rfl
theorem tw_363 : (Cond.selects "HireShed$DeepPump" ⟨"HireShed$Tool", "check", "()I"⟩ ⟨"HireShed$DeepPump", "check", "()I"⟩) ∈ hs_gt := hs_gt_of (List.mem_of_getElem? (i := 363) (by decide +kernel)) rfl
theorem tw_364 : (Cond.instanceMethod ⟨"HireShed$DeepPump", "check", "()I"⟩) ∈ hs_gt := hs_gt_of (List.mem_of_getElem? (i := 364) (by decide +kernel)) rfl
theorem tw_366 : (Cond.methodLink "HireShed$DeepPump" 27 ⟨"HireShed$Pump", "check", "()I"⟩) ∈ hs_gt := hs_gt_of (List.mem_of_getElem? (i := 366) (by decide +kernel)) rfl
theorem tw_367 : (Cond.sameMethod "HireShed$Pump" "HireShed$Powered" "check" "()I") ∈ hs_gt := hs_gt_of (List.mem_of_getElem? (i := 367) (by decide +kernel)) rfl
theorem tw_368 : (Cond.selects "HireShed$Powered" ⟨"HireShed$Tool", "check", "()I"⟩ ⟨"HireShed$Powered", "check", "()I"⟩) ∈ hs_gt := hs_gt_of (List.mem_of_getElem? (i := 368) (by decide +kernel)) rfl
theorem tw_369 : (Cond.selects "HireShed$Pump" ⟨"HireShed$Tool", "check", "()I"⟩ ⟨"HireShed$Powered", "check", "()I"⟩) ∈ hs_gt := hs_gt_of (List.mem_of_getElem? (i := 369) (by decide +kernel)) rfl
theorem tw_370 : (Cond.selects "HireShed$Saw" ⟨"HireShed$Tool", "check", "()I"⟩ ⟨"HireShed$Powered", "check", "()I"⟩) ∈ hs_gt := hs_gt_of (List.mem_of_getElem? (i := 370) (by decide +kernel)) rfl
theorem tw_371 : (Cond.selects "HireShed$TreeSaw" ⟨"HireShed$Tool", "check", "()I"⟩ ⟨"HireShed$BenchSaw", "check", "()I"⟩) ∈ hs_gt := hs_gt_of (List.mem_of_getElem? (i := 371) (by decide +kernel)) rfl
theorem tw_373 : (Cond.methodLink "HireShed" 80 ⟨"HireShed$Tool", "deposit", "()I"⟩) ∈ hs_gt := hs_gt_of (List.mem_of_getElem? (i := 373) (by decide +kernel)) rfl
theorem tw_374 : (Cond.instanceMethod ⟨"HireShed$Tool", "deposit", "()I"⟩) ∈ hs_gt := hs_gt_of (List.mem_of_getElem? (i := 374) (by decide +kernel)) rfl
theorem tw_375 : (Cond.selects "HireShed$Tool" ⟨"HireShed$Tool", "deposit", "()I"⟩ ⟨"HireShed$Tool", "deposit", "()I"⟩) ∈ hs_gt := hs_gt_of (List.mem_of_getElem? (i := 375) (by decide +kernel)) rfl
theorem tw_376 : (Cond.sameMethod "HireShed$Tool" "HireShed$Tool" "deposit" "()I") ∈ hs_gt := hs_gt_of (List.mem_of_getElem? (i := 376) (by decide +kernel)) rfl
theorem tw_377 : (Cond.selects "HireShed$BenchSaw" ⟨"HireShed$Tool", "deposit", "()I"⟩ ⟨"HireShed$Powered", "deposit", "()I"⟩) ∈ hs_gt := hs_gt_of (List.mem_of_getElem? (i := 377) (by decide +kernel)) rfl
theorem tw_378 : (Cond.instanceMethod ⟨"HireShed$Powered", "deposit", "()I"⟩) ∈ hs_gt := hs_gt_of (List.mem_of_getElem? (i := 378) (by decide +kernel)) rfl
theorem tw_380 : (Cond.selects "HireShed$DeepPump" ⟨"HireShed$Tool", "deposit", "()I"⟩ ⟨"HireShed$Powered", "deposit", "()I"⟩) ∈ hs_gt := hs_gt_of (List.mem_of_getElem? (i := 380) (by decide +kernel)) rfl
theorem tw_381 : (Cond.selects "HireShed$Powered" ⟨"HireShed$Tool", "deposit", "()I"⟩ ⟨"HireShed$Powered", "deposit", "()I"⟩) ∈ hs_gt := hs_gt_of (List.mem_of_getElem? (i := 381) (by decide +kernel)) rfl
theorem tw_382 : (Cond.selects "HireShed$Pump" ⟨"HireShed$Tool", "deposit", "()I"⟩ ⟨"HireShed$Powered", "deposit", "()I"⟩) ∈ hs_gt := hs_gt_of (List.mem_of_getElem? (i := 382) (by decide +kernel)) rfl
theorem tw_383 : (Cond.selects "HireShed$Saw" ⟨"HireShed$Tool", "deposit", "()I"⟩ ⟨"HireShed$Powered", "deposit", "()I"⟩) ∈ hs_gt := hs_gt_of (List.mem_of_getElem? (i := 383) (by decide +kernel)) rfl
theorem tw_384 : (Cond.selects "HireShed$TreeSaw" ⟨"HireShed$Tool", "deposit", "()I"⟩ ⟨"HireShed$TreeSaw", "deposit", "()I"⟩) ∈ hs_gt := hs_gt_of (List.mem_of_getElem? (i := 384) (by decide +kernel)) rfl
theorem tw_385 : (Cond.instanceMethod ⟨"HireShed$TreeSaw", "deposit", "()I"⟩) ∈ hs_gt := hs_gt_of (List.mem_of_getElem? (i := 385) (by decide +kernel)) rfl
theorem tw_387 : (Cond.methodLink "HireShed$TreeSaw" 36 ⟨"HireShed$BenchSaw", "deposit", "()I"⟩) ∈ hs_gt := hs_gt_of (List.mem_of_getElem? (i := 387) (by decide +kernel)) rfl
end
section
theorem tw_388 : (Cond.sameMethod "HireShed$BenchSaw" "HireShed$Powered" "deposit" "()I") ∈ hs_gt := hs_gt_of (List.mem_of_getElem? (i := 388) (by decide +kernel)) rfl
theorem tw_389 : (Cond.declares ⟨"HireShed$Powered", "deposit", "()I"⟩) ∈ lw_tbl := List.mem_of_getElem? (i := 389) (by decide +kernel)
theorem tw_391 : (Cond.methodLink "HireShed" 103 ⟨"HireShed$Tool", "premium", "(I)I"⟩) ∈ hs_gt := hs_gt_of (List.mem_of_getElem? (i := 391) (by decide +kernel)) rfl
theorem tw_392 : (Cond.instanceMethod ⟨"HireShed$Tool", "premium", "(I)I"⟩) ∈ hs_gt := hs_gt_of (List.mem_of_getElem? (i := 392) (by decide +kernel)) rfl
theorem tw_393 : (Cond.selects "HireShed$Tool" ⟨"HireShed$Tool", "premium", "(I)I"⟩ ⟨"HireShed$Tool", "premium", "(I)I"⟩) ∈ hs_gt := hs_gt_of (List.mem_of_getElem? (i := 393) (by decide +kernel)) rfl
theorem tw_394 : (Cond.sameMethod "HireShed$Tool" "HireShed$Tool" "premium" "(I)I") ∈ hs_gt := hs_gt_of (List.mem_of_getElem? (i := 394) (by decide +kernel)) rfl
theorem tw_395 : (Cond.selects "HireShed$BenchSaw" ⟨"HireShed$Tool", "premium", "(I)I"⟩ ⟨"HireShed$BenchSaw", "premium", "(I)I"⟩) ∈ hs_gt := hs_gt_of (List.mem_of_getElem? (i := 395) (by decide +kernel)) rfl
theorem tw_396 : (Cond.instanceMethod ⟨"HireShed$BenchSaw", "premium", "(I)I"⟩) ∈ hs_gt := hs_gt_of (List.mem_of_getElem? (i := 396) (by decide +kernel)) rfl
theorem tw_398 : (Cond.methodLink "HireShed$BenchSaw" 23 ⟨"HireShed$BenchSaw", "check", "()I"⟩) ∈ hs_gt := hs_gt_of (List.mem_of_getElem? (i := 398) (by decide +kernel)) rfl
theorem tw_399 : (Cond.methodLink "HireShed$BenchSaw" 24 ⟨"HireShed$BenchSaw", "deposit", "()I"⟩) ∈ hs_gt := hs_gt_of (List.mem_of_getElem? (i := 399) (by decide +kernel)) rfl
theorem tw_400 : (Cond.selects "HireShed$BenchSaw" ⟨"HireShed$BenchSaw", "deposit", "()I"⟩ ⟨"HireShed$Powered", "deposit", "()I"⟩) ∈ hs_gt := hs_gt_of (List.mem_of_getElem? (i := 400) (by decide +kernel)) rfl
theorem tw_401 : (Cond.selects "HireShed$TreeSaw" ⟨"HireShed$BenchSaw", "deposit", "()I"⟩ ⟨"HireShed$TreeSaw", "deposit", "()I"⟩) ∈ hs_gt := hs_gt_of (List.mem_of_getElem? (i := 401) (by decide +kernel)) rfl
theorem tw_402 : (Cond.selects "HireShed$DeepPump" ⟨"HireShed$Tool", "premium", "(I)I"⟩ ⟨"HireShed$Tool", "premium", "(I)I"⟩) ∈ hs_gt := hs_gt_of (List.mem_of_getElem? (i := 402) (by decide +kernel)) rfl
theorem tw_403 : (Cond.selects "HireShed$Powered" ⟨"HireShed$Tool", "premium", "(I)I"⟩ ⟨"HireShed$Tool", "premium", "(I)I"⟩) ∈ hs_gt := hs_gt_of (List.mem_of_getElem? (i := 403) (by decide +kernel)) rfl
theorem tw_404 : (Cond.selects "HireShed$Pump" ⟨"HireShed$Tool", "premium", "(I)I"⟩ ⟨"HireShed$Tool", "premium", "(I)I"⟩) ∈ hs_gt := hs_gt_of (List.mem_of_getElem? (i := 404) (by decide +kernel)) rfl
theorem tw_405 : (Cond.selects "HireShed$Saw" ⟨"HireShed$Tool", "premium", "(I)I"⟩ ⟨"HireShed$Saw", "premium", "(I)I"⟩) ∈ hs_gt := hs_gt_of (List.mem_of_getElem? (i := 405) (by decide +kernel)) rfl
theorem tw_406 : (Cond.instanceMethod ⟨"HireShed$Saw", "premium", "(I)I"⟩) ∈ hs_gt := hs_gt_of (List.mem_of_getElem? (i := 406) (by decide +kernel)) rfl
theorem tw_408 : (Cond.methodLink "HireShed$Saw" 23 ⟨"HireShed$Saw", "deposit", "()I"⟩) ∈ hs_gt := hs_gt_of (List.mem_of_getElem? (i := 408) (by decide +kernel)) rfl
theorem tw_409 : (Cond.sameMethod "HireShed$Saw" "HireShed$Powered" "deposit" "()I") ∈ hs_gt := hs_gt_of (List.mem_of_getElem? (i := 409) (by decide +kernel)) rfl
theorem tw_410 : (Cond.selects "HireShed$BenchSaw" ⟨"HireShed$Saw", "deposit", "()I"⟩ ⟨"HireShed$Powered", "deposit", "()I"⟩) ∈ hs_gt := hs_gt_of (List.mem_of_getElem? (i := 410) (by decide +kernel)) rfl
theorem tw_411 : (Cond.selects "HireShed$Saw" ⟨"HireShed$Saw", "deposit", "()I"⟩ ⟨"HireShed$Powered", "deposit", "()I"⟩) ∈ hs_gt := hs_gt_of (List.mem_of_getElem? (i := 411) (by decide +kernel)) rfl
theorem tw_412 : (Cond.selects "HireShed$TreeSaw" ⟨"HireShed$Saw", "deposit", "()I"⟩ ⟨"HireShed$TreeSaw", "deposit", "()I"⟩) ∈ hs_gt := hs_gt_of (List.mem_of_getElem? (i := 412) (by decide +kernel)) rfl
theorem tw_413 : (Cond.selects "HireShed$TreeSaw" ⟨"HireShed$Tool", "premium", "(I)I"⟩ ⟨"HireShed$BenchSaw", "premium", "(I)I"⟩) ∈ hs_gt := hs_gt_of (List.mem_of_getElem? (i := 413) (by decide +kernel)) rfl
theorem tw_415 : (Cond.methodLink "HireShed" 77 ⟨"HireShed$Tool", "due", "(I)I"⟩) ∈ hs_gt := hs_gt_of (List.mem_of_getElem? (i := 415) (by decide +kernel)) rfl
theorem tw_416 : (Cond.instanceMethod ⟨"HireShed$Tool", "due", "(I)I"⟩) ∈ hs_gt := hs_gt_of (List.mem_of_getElem? (i := 416) (by decide +kernel)) rfl
theorem tw_417 : (Cond.selects "HireShed$Tool" ⟨"HireShed$Tool", "due", "(I)I"⟩ ⟨"HireShed$Tool", "due", "(I)I"⟩) ∈ hs_gt := hs_gt_of (List.mem_of_getElem? (i := 417) (by decide +kernel)) rfl
theorem tw_418 : (Cond.sameMethod "HireShed$Tool" "HireShed$Tool" "due" "(I)I") ∈ hs_gt := hs_gt_of (List.mem_of_getElem? (i := 418) (by decide +kernel)) rfl
theorem tw_419 : (Cond.selects "HireShed$BenchSaw" ⟨"HireShed$Tool", "due", "(I)I"⟩ ⟨"HireShed$Tool", "due", "(I)I"⟩) ∈ hs_gt := hs_gt_of (List.mem_of_getElem? (i := 419) (by decide +kernel)) rfl
theorem tw_420 : (Cond.selects "HireShed$DeepPump" ⟨"HireShed$Tool", "due", "(I)I"⟩ ⟨"HireShed$Tool", "due", "(I)I"⟩) ∈ hs_gt := hs_gt_of (List.mem_of_getElem? (i := 420) (by decide +kernel)) rfl
theorem tw_421 : (Cond.selects "HireShed$Powered" ⟨"HireShed$Tool", "due", "(I)I"⟩ ⟨"HireShed$Tool", "due", "(I)I"⟩) ∈ hs_gt := hs_gt_of (List.mem_of_getElem? (i := 421) (by decide +kernel)) rfl
theorem tw_422 : (Cond.selects "HireShed$Pump" ⟨"HireShed$Tool", "due", "(I)I"⟩ ⟨"HireShed$Tool", "due", "(I)I"⟩) ∈ hs_gt := hs_gt_of (List.mem_of_getElem? (i := 422) (by decide +kernel)) rfl
theorem tw_423 : (Cond.selects "HireShed$Saw" ⟨"HireShed$Tool", "due", "(I)I"⟩ ⟨"HireShed$Tool", "due", "(I)I"⟩) ∈ hs_gt := hs_gt_of (List.mem_of_getElem? (i := 423) (by decide +kernel)) rfl
theorem tw_424 : (Cond.selects "HireShed$TreeSaw" ⟨"HireShed$Tool", "due", "(I)I"⟩ ⟨"HireShed$Tool", "due", "(I)I"⟩) ∈ hs_gt := hs_gt_of (List.mem_of_getElem? (i := 424) (by decide +kernel)) rfl
theorem tw_426 : (Cond.methodLink "HireShed$Tool" 43 ⟨"HireShed$Tool", "isServiced", "()Z"⟩) ∈ hs_gt := hs_gt_of (List.mem_of_getElem? (i := 426) (by decide +kernel)) rfl
theorem tw_427 : (Cond.methodLink "HireShed$Tool" 47 ⟨"HireShed$Tool", "wear", "(I)I"⟩) ∈ hs_gt := hs_gt_of (List.mem_of_getElem? (i := 427) (by decide +kernel)) rfl
theorem tw_428 : (Cond.methodLink "HireShed" 63 ⟨"HireShed$Trace", "end", "()V"⟩) ∈ hs_gt := hs_gt_of (List.mem_of_getElem? (i := 428) (by decide +kernel)) rfl
theorem tw_429 : (Cond.instanceMethod ⟨"HireShed$Trace", "end", "()V"⟩) ∈ hs_gt := hs_gt_of (List.mem_of_getElem? (i := 429) (by decide +kernel)) rfl
theorem tw_430 : (Cond.selects "HireShed$Trace" ⟨"HireShed$Trace", "end", "()V"⟩ ⟨"HireShed$Trace", "end", "()V"⟩) ∈ hs_gt := hs_gt_of (List.mem_of_getElem? (i := 430) (by decide +kernel)) rfl
theorem tw_432 : (Cond.methodLink "HireShedLaw" 22 ⟨"HireShed", "trace", "(I)I"⟩) ∈ hs_gt := hs_gt_of (List.mem_of_getElem? (i := 432) (by decide +kernel)) rfl
theorem tw_433 : (Cond.instanceMethod ⟨"HireShed", "trace", "(I)I"⟩) ∈ hs_gt := hs_gt_of (List.mem_of_getElem? (i := 433) (by decide +kernel)) rfl
theorem tw_434 : (Cond.selects "HireShed" ⟨"HireShed", "trace", "(I)I"⟩ ⟨"HireShed", "trace", "(I)I"⟩) ∈ hs_gt := hs_gt_of (List.mem_of_getElem? (i := 434) (by decide +kernel)) rfl
theorem tw_436 : (Cond.methodLink "HireShed" 66 ⟨"HireShed$Trace", "numberAt", "(I)I"⟩) ∈ hs_gt := hs_gt_of (List.mem_of_getElem? (i := 436) (by decide +kernel)) rfl
theorem tw_437 : (Cond.instanceMethod ⟨"HireShed$Trace", "numberAt", "(I)I"⟩) ∈ hs_gt := hs_gt_of (List.mem_of_getElem? (i := 437) (by decide +kernel)) rfl
theorem tw_438 : (Cond.selects "HireShed$Trace" ⟨"HireShed$Trace", "numberAt", "(I)I"⟩ ⟨"HireShed$Trace", "numberAt", "(I)I"⟩) ∈ hs_gt := hs_gt_of (List.mem_of_getElem? (i := 438) (by decide +kernel)) rfl
theorem tw_440 : (Cond.methodLink "HireShedLaw" 27 ⟨"HireShed", "hire", "(II)I"⟩) ∈ hs_gt := hs_gt_of (List.mem_of_getElem? (i := 440) (by decide +kernel)) rfl
theorem tw_441 : (Cond.instanceMethod ⟨"HireShed", "hire", "(II)I"⟩) ∈ hs_gt := hs_gt_of (List.mem_of_getElem? (i := 441) (by decide +kernel)) rfl
theorem tw_442 : (Cond.selects "HireShed" ⟨"HireShed", "hire", "(II)I"⟩ ⟨"HireShed", "hire", "(II)I"⟩) ∈ hs_gt := hs_gt_of (List.mem_of_getElem? (i := 442) (by decide +kernel)) rfl
theorem tw_444 : (Cond.methodLink "HireShed" 70 ⟨"HireShed", "isCustomer", "(I)Z"⟩) ∈ hs_gt := hs_gt_of (List.mem_of_getElem? (i := 444) (by decide +kernel)) rfl
theorem tw_445 : (Cond.static ⟨"HireShed", "isCustomer", "(I)Z"⟩) ∈ hs_gt := hs_gt_of (List.mem_of_getElem? (i := 445) (by decide +kernel)) rfl
theorem tw_447 : (Cond.methodLink "HireShed" 84 ⟨"HireShed", "pay", "(II)V"⟩) ∈ hs_gt := hs_gt_of (List.mem_of_getElem? (i := 447) (by decide +kernel)) rfl
theorem tw_448 : (Cond.privateMethod ⟨"HireShed", "pay", "(II)V"⟩) ∈ lw_tbl := List.mem_of_getElem? (i := 448) (by decide +kernel)
theorem tw_449 : (Cond.instanceMethod ⟨"HireShed", "pay", "(II)V"⟩) ∈ hs_gt := hs_gt_of (List.mem_of_getElem? (i := 449) (by decide +kernel)) rfl
theorem tw_451 : (Cond.methodLink "HireShed" 88 ⟨"HireShed$Tool", "goOut", "(II)V"⟩) ∈ hs_gt := hs_gt_of (List.mem_of_getElem? (i := 451) (by decide +kernel)) rfl
theorem tw_452 : (Cond.instanceMethod ⟨"HireShed$Tool", "goOut", "(II)V"⟩) ∈ hs_gt := hs_gt_of (List.mem_of_getElem? (i := 452) (by decide +kernel)) rfl
theorem tw_453 : (Cond.selects "HireShed$Tool" ⟨"HireShed$Tool", "goOut", "(II)V"⟩ ⟨"HireShed$Tool", "goOut", "(II)V"⟩) ∈ hs_gt := hs_gt_of (List.mem_of_getElem? (i := 453) (by decide +kernel)) rfl
theorem tw_454 : (Cond.sameMethod "HireShed$Tool" "HireShed$Tool" "goOut" "(II)V") ∈ hs_gt := hs_gt_of (List.mem_of_getElem? (i := 454) (by decide +kernel)) rfl
theorem tw_455 : (Cond.selects "HireShed$BenchSaw" ⟨"HireShed$Tool", "goOut", "(II)V"⟩ ⟨"HireShed$Tool", "goOut", "(II)V"⟩) ∈ hs_gt := hs_gt_of (List.mem_of_getElem? (i := 455) (by decide +kernel)) rfl
theorem tw_456 : (Cond.selects "HireShed$DeepPump" ⟨"HireShed$Tool", "goOut", "(II)V"⟩ ⟨"HireShed$Tool", "goOut", "(II)V"⟩) ∈ hs_gt := hs_gt_of (List.mem_of_getElem? (i := 456) (by decide +kernel)) rfl
theorem tw_457 : (Cond.selects "HireShed$Powered" ⟨"HireShed$Tool", "goOut", "(II)V"⟩ ⟨"HireShed$Tool", "goOut", "(II)V"⟩) ∈ hs_gt := hs_gt_of (List.mem_of_getElem? (i := 457) (by decide +kernel)) rfl
theorem tw_458 : (Cond.selects "HireShed$Pump" ⟨"HireShed$Tool", "goOut", "(II)V"⟩ ⟨"HireShed$Tool", "goOut", "(II)V"⟩) ∈ hs_gt := hs_gt_of (List.mem_of_getElem? (i := 458) (by decide +kernel)) rfl
theorem tw_459 : (Cond.selects "HireShed$Saw" ⟨"HireShed$Tool", "goOut", "(II)V"⟩ ⟨"HireShed$Tool", "goOut", "(II)V"⟩) ∈ hs_gt := hs_gt_of (List.mem_of_getElem? (i := 459) (by decide +kernel)) rfl
theorem tw_460 : (Cond.selects "HireShed$TreeSaw" ⟨"HireShed$Tool", "goOut", "(II)V"⟩ ⟨"HireShed$Tool", "goOut", "(II)V"⟩) ∈ hs_gt := hs_gt_of (List.mem_of_getElem? (i := 460) (by decide +kernel)) rfl
theorem tw_462 : (Cond.methodLink "HireShedLaw" 32 ⟨"HireShed", "back", "(I)I"⟩) ∈ hs_gt := hs_gt_of (List.mem_of_getElem? (i := 462) (by decide +kernel)) rfl
theorem tw_463 : (Cond.instanceMethod ⟨"HireShed", "back", "(I)I"⟩) ∈ hs_gt := hs_gt_of (List.mem_of_getElem? (i := 463) (by decide +kernel)) rfl
theorem tw_464 : (Cond.selects "HireShed" ⟨"HireShed", "back", "(I)I"⟩ ⟨"HireShed", "back", "(I)I"⟩) ∈ hs_gt := hs_gt_of (List.mem_of_getElem? (i := 464) (by decide +kernel)) rfl
theorem tw_466 : (Cond.methodLink "HireShed" 94 ⟨"java/lang/Math", "max", "(II)I"⟩) ∈ hs_gt := hs_gt_of (List.mem_of_getElem? (i := 466) (by decide +kernel)) rfl
theorem tw_467 : (Cond.methodLink "HireShed" 109 ⟨"HireShed$Tool", "comeBack", "(I)V"⟩) ∈ hs_gt := hs_gt_of (List.mem_of_getElem? (i := 467) (by decide +kernel)) rfl
theorem tw_468 : (Cond.instanceMethod ⟨"HireShed$Tool", "comeBack", "(I)V"⟩) ∈ hs_gt := hs_gt_of (List.mem_of_getElem? (i := 468) (by decide +kernel)) rfl
theorem tw_469 : (Cond.selects "HireShed$Tool" ⟨"HireShed$Tool", "comeBack", "(I)V"⟩ ⟨"HireShed$Tool", "comeBack", "(I)V"⟩) ∈ hs_gt := hs_gt_of (List.mem_of_getElem? (i := 469) (by decide +kernel)) rfl
theorem tw_470 : (Cond.sameMethod "HireShed$Tool" "HireShed$Tool" "comeBack" "(I)V") ∈ hs_gt := hs_gt_of (List.mem_of_getElem? (i := 470) (by decide +kernel)) rfl
theorem tw_471 : (Cond.selects "HireShed$BenchSaw" ⟨"HireShed$Tool", "comeBack", "(I)V"⟩ ⟨"HireShed$Tool", "comeBack", "(I)V"⟩) ∈ hs_gt := hs_gt_of (List.mem_of_getElem? (i := 471) (by decide +kernel)) rfl
theorem tw_472 : (Cond.selects "HireShed$DeepPump" ⟨"HireShed$Tool", "comeBack", "(I)V"⟩ ⟨"HireShed$Tool", "comeBack", "(I)V"⟩) ∈ hs_gt := hs_gt_of (List.mem_of_getElem? (i := 472) (by decide +kernel)) rfl
theorem tw_473 : (Cond.selects "HireShed$Powered" ⟨"HireShed$Tool", "comeBack", "(I)V"⟩ ⟨"HireShed$Tool", "comeBack", "(I)V"⟩) ∈ hs_gt := hs_gt_of (List.mem_of_getElem? (i := 473) (by decide +kernel)) rfl
theorem tw_474 : (Cond.selects "HireShed$Pump" ⟨"HireShed$Tool", "comeBack", "(I)V"⟩ ⟨"HireShed$Tool", "comeBack", "(I)V"⟩) ∈ hs_gt := hs_gt_of (List.mem_of_getElem? (i := 474) (by decide +kernel)) rfl
theorem tw_475 : (Cond.selects "HireShed$Saw" ⟨"HireShed$Tool", "comeBack", "(I)V"⟩ ⟨"HireShed$Tool", "comeBack", "(I)V"⟩) ∈ hs_gt := hs_gt_of (List.mem_of_getElem? (i := 475) (by decide +kernel)) rfl
theorem tw_476 : (Cond.selects "HireShed$TreeSaw" ⟨"HireShed$Tool", "comeBack", "(I)V"⟩ ⟨"HireShed$Tool", "comeBack", "(I)V"⟩) ∈ hs_gt := hs_gt_of (List.mem_of_getElem? (i := 476) (by decide +kernel)) rfl
theorem tw_478 : (Cond.methodLink "HireShed$Tool" 51 ⟨"HireShed$Tool", "check", "()I"⟩) ∈ hs_gt := hs_gt_of (List.mem_of_getElem? (i := 478) (by decide +kernel)) rfl
theorem tw_479 : (Cond.methodLink "HireShedLaw" 36 ⟨"HireShed", "service", "(I)I"⟩) ∈ hs_gt := hs_gt_of (List.mem_of_getElem? (i := 479) (by decide +kernel)) rfl
theorem tw_480 : (Cond.instanceMethod ⟨"HireShed", "service", "(I)I"⟩) ∈ hs_gt := hs_gt_of (List.mem_of_getElem? (i := 480) (by decide +kernel)) rfl
theorem tw_481 : (Cond.selects "HireShed" ⟨"HireShed", "service", "(I)I"⟩ ⟨"HireShed", "service", "(I)I"⟩) ∈ hs_gt := hs_gt_of (List.mem_of_getElem? (i := 481) (by decide +kernel)) rfl
theorem tw_483 : (Cond.methodLink "HireShed" 116 ⟨"HireShed$Tool", "renew", "()V"⟩) ∈ hs_gt := hs_gt_of (List.mem_of_getElem? (i := 483) (by decide +kernel)) rfl
theorem tw_484 : (Cond.instanceMethod ⟨"HireShed$Tool", "renew", "()V"⟩) ∈ hs_gt := hs_gt_of (List.mem_of_getElem? (i := 484) (by decide +kernel)) rfl
theorem tw_485 : (Cond.selects "HireShed$Tool" ⟨"HireShed$Tool", "renew", "()V"⟩ ⟨"HireShed$Tool", "renew", "()V"⟩) ∈ hs_gt := hs_gt_of (List.mem_of_getElem? (i := 485) (by decide +kernel)) rfl
theorem tw_486 : (Cond.sameMethod "HireShed$Tool" "HireShed$Tool" "renew" "()V") ∈ hs_gt := hs_gt_of (List.mem_of_getElem? (i := 486) (by decide +kernel)) rfl
theorem tw_487 : (Cond.selects "HireShed$BenchSaw" ⟨"HireShed$Tool", "renew", "()V"⟩ ⟨"HireShed$Tool", "renew", "()V"⟩) ∈ hs_gt := hs_gt_of (List.mem_of_getElem? (i := 487) (by decide +kernel)) rfl
theorem tw_488 : (Cond.selects "HireShed$DeepPump" ⟨"HireShed$Tool", "renew", "()V"⟩ ⟨"HireShed$Tool", "renew", "()V"⟩) ∈ hs_gt := hs_gt_of (List.mem_of_getElem? (i := 488) (by decide +kernel)) rfl
theorem tw_489 : (Cond.selects "HireShed$Powered" ⟨"HireShed$Tool", "renew", "()V"⟩ ⟨"HireShed$Tool", "renew", "()V"⟩) ∈ hs_gt := hs_gt_of (List.mem_of_getElem? (i := 489) (by decide +kernel)) rfl
theorem tw_490 : (Cond.selects "HireShed$Pump" ⟨"HireShed$Tool", "renew", "()V"⟩ ⟨"HireShed$Tool", "renew", "()V"⟩) ∈ hs_gt := hs_gt_of (List.mem_of_getElem? (i := 490) (by decide +kernel)) rfl
theorem tw_491 : (Cond.selects "HireShed$Saw" ⟨"HireShed$Tool", "renew", "()V"⟩ ⟨"HireShed$Tool", "renew", "()V"⟩) ∈ hs_gt := hs_gt_of (List.mem_of_getElem? (i := 491) (by decide +kernel)) rfl
theorem tw_492 : (Cond.selects "HireShed$TreeSaw" ⟨"HireShed$Tool", "renew", "()V"⟩ ⟨"HireShed$Tool", "renew", "()V"⟩) ∈ hs_gt := hs_gt_of (List.mem_of_getElem? (i := 492) (by decide +kernel)) rfl
theorem tw_494 : (Cond.methodLink "HireShedLaw" 40 ⟨"HireShed", "day", "(I)I"⟩) ∈ hs_gt := hs_gt_of (List.mem_of_getElem? (i := 494) (by decide +kernel)) rfl
theorem tw_495 : (Cond.instanceMethod ⟨"HireShed", "day", "(I)I"⟩) ∈ hs_gt := hs_gt_of (List.mem_of_getElem? (i := 495) (by decide +kernel)) rfl
theorem tw_496 : (Cond.selects "HireShed" ⟨"HireShed", "day", "(I)I"⟩ ⟨"HireShed", "day", "(I)I"⟩) ∈ hs_gt := hs_gt_of (List.mem_of_getElem? (i := 496) (by decide +kernel)) rfl
theorem tw_498 : (Cond.methodLink "HireShedLaw" 44 ⟨"HireShed", "account", "(I)J"⟩) ∈ hs_gt := hs_gt_of (List.mem_of_getElem? (i := 498) (by decide +kernel)) rfl
theorem tw_499 : (Cond.instanceMethod ⟨"HireShed", "account", "(I)J"⟩) ∈ hs_gt := hs_gt_of (List.mem_of_getElem? (i := 499) (by decide +kernel)) rfl
theorem tw_500 : (Cond.selects "HireShed" ⟨"HireShed", "account", "(I)J"⟩ ⟨"HireShed", "account", "(I)J"⟩) ∈ hs_gt := hs_gt_of (List.mem_of_getElem? (i := 500) (by decide +kernel)) rfl
theorem tw_502 : (Cond.methodLink "HireShedLaw" 49 ⟨"HireShed", "told", "(II)I"⟩) ∈ hs_gt := hs_gt_of (List.mem_of_getElem? (i := 502) (by decide +kernel)) rfl
theorem tw_503 : (Cond.instanceMethod ⟨"HireShed", "told", "(II)I"⟩) ∈ hs_gt := hs_gt_of (List.mem_of_getElem? (i := 503) (by decide +kernel)) rfl
theorem tw_504 : (Cond.selects "HireShed" ⟨"HireShed", "told", "(II)I"⟩ ⟨"HireShed", "told", "(II)I"⟩) ∈ hs_gt := hs_gt_of (List.mem_of_getElem? (i := 504) (by decide +kernel)) rfl
theorem tw_506 : (Cond.methodLink "HireShedLaw" 53 ⟨"HireShed", "count", "(I)I"⟩) ∈ hs_gt := hs_gt_of (List.mem_of_getElem? (i := 506) (by decide +kernel)) rfl
theorem tw_507 : (Cond.instanceMethod ⟨"HireShed", "count", "(I)I"⟩) ∈ hs_gt := hs_gt_of (List.mem_of_getElem? (i := 507) (by decide +kernel)) rfl
theorem tw_508 : (Cond.selects "HireShed" ⟨"HireShed", "count", "(I)I"⟩ ⟨"HireShed", "count", "(I)I"⟩) ∈ hs_gt := hs_gt_of (List.mem_of_getElem? (i := 508) (by decide +kernel)) rfl
theorem tw_510 : (Cond.methodLink "HireShed" 132 ⟨"HireShed", "toolsThatAre", "(I)I"⟩) ∈ hs_gt := hs_gt_of (List.mem_of_getElem? (i := 510) (by decide +kernel)) rfl
theorem tw_511 : (Cond.privateMethod ⟨"HireShed", "toolsThatAre", "(I)I"⟩) ∈ lw_tbl := List.mem_of_getElem? (i := 511) (by decide +kernel)
theorem tw_512 : (Cond.instanceMethod ⟨"HireShed", "toolsThatAre", "(I)I"⟩) ∈ hs_gt := hs_gt_of (List.mem_of_getElem? (i := 512) (by decide +kernel)) rfl
theorem tw_514 : (Cond.classLink "HireShedLaw" 10 "HireShedModel") ∈ hs_gt := hs_gt_of (List.mem_of_getElem? (i := 514) (by decide +kernel)) rfl
theorem tw_515 : (Cond.instantiable "HireShedModel" 15) ∈ hs_gt := hs_gt_of (List.mem_of_getElem? (i := 515) (by decide +kernel)) rfl
theorem tw_516 : (Cond.methodLink "HireShedLaw" 12 ⟨"HireShedModel", "<init>", "()V"⟩) ∈ hs_gt := hs_gt_of (List.mem_of_getElem? (i := 516) (by decide +kernel)) rfl
theorem tw_517 : (Cond.instanceMethod ⟨"HireShedModel", "<init>", "()V"⟩) ∈ hs_gt := hs_gt_of (List.mem_of_getElem? (i := 517) (by decide +kernel)) rfl
theorem tw_519 : (Cond.methodLink "HireShedModel" 1 ⟨"java/lang/Object", "<init>", "()V"⟩) ∈ hs_gt := hs_gt_of (List.mem_of_getElem? (i := 519) (by decide +kernel)) rfl
theorem tw_520 : (Cond.fieldLink "HireShedModel" 42 "HireShedModel" "tools" "I") ∈ hs_gt := hs_gt_of (List.mem_of_getElem? (i := 520) (by decide +kernel)) rfl
theorem tw_521 : (Cond.fieldLink "HireShedModel" 7 "HireShedModel" "kind" "[I") ∈ hs_gt := hs_gt_of (List.mem_of_getElem? (i := 521) (by decide +kernel)) rfl
theorem tw_522 : (Cond.fieldLink "HireShedModel" 13 "HireShedModel" "rate" "[I") ∈ hs_gt := hs_gt_of (List.mem_of_getElem? (i := 522) (by decide +kernel)) rfl
theorem tw_523 : (Cond.fieldLink "HireShedModel" 16 "HireShedModel" "value" "[I") ∈ hs_gt := hs_gt_of (List.mem_of_getElem? (i := 523) (by decide +kernel)) rfl
theorem tw_524 : (Cond.fieldLink "HireShedModel" 19 "HireShedModel" "hours" "[I") ∈ hs_gt := hs_gt_of (List.mem_of_getElem? (i := 524) (by decide +kernel)) rfl
theorem tw_525 : (Cond.fieldLink "HireShedModel" 22 "HireShedModel" "how" "[I") ∈ hs_gt := hs_gt_of (List.mem_of_getElem? (i := 525) (by decide +kernel)) rfl
theorem tw_526 : (Cond.fieldLink "HireShedModel" 25 "HireShedModel" "customer" "[I") ∈ hs_gt := hs_gt_of (List.mem_of_getElem? (i := 526) (by decide +kernel)) rfl
theorem tw_527 : (Cond.fieldLink "HireShedModel" 28 "HireShedModel" "since" "[I") ∈ hs_gt := hs_gt_of (List.mem_of_getElem? (i := 527) (by decide +kernel)) rfl
theorem tw_528 : (Cond.fieldLink "HireShedModel" 31 "HireShedModel" "accounts" "[J") ∈ hs_gt := hs_gt_of (List.mem_of_getElem? (i := 528) (by decide +kernel)) rfl
theorem tw_529 : (Cond.fieldLink "HireShedModel" 38 "HireShedModel" "today" "I") ∈ hs_gt := hs_gt_of (List.mem_of_getElem? (i := 529) (by decide +kernel)) rfl
theorem tw_530 : (Cond.fieldLink "HireShedModel" 101 "HireShedModel" "costs" "I") ∈ hs_gt := hs_gt_of (List.mem_of_getElem? (i := 530) (by decide +kernel)) rfl
theorem tw_531 : (Cond.fieldLink "HireShedModel" 98 "HireShedModel" "hired" "I") ∈ hs_gt := hs_gt_of (List.mem_of_getElem? (i := 531) (by decide +kernel)) rfl
theorem tw_532 : (Cond.fieldLink "HireShedModel" 35 "HireShedModel" "trace" "[I") ∈ hs_gt := hs_gt_of (List.mem_of_getElem? (i := 532) (by decide +kernel)) rfl
theorem tw_533 : (Cond.fieldLink "HireShedModel" 54 "HireShedModel" "traced" "I") ∈ hs_gt := hs_gt_of (List.mem_of_getElem? (i := 533) (by decide +kernel)) rfl
theorem tw_534 : (Cond.fieldLink "HireShedModel" 50 "HireShedModel" "isTraced" "Z") ∈ hs_gt := hs_gt_of (List.mem_of_getElem? (i := 534) (by decide +kernel)) rfl
theorem tw_535 : (Cond.lays "HireShedModel" "HireShedModel" "tools" "I") ∈ hs_gt := hs_gt_of (List.mem_of_getElem? (i := 535) (by decide +kernel)) rfl
theorem tw_536 : (Cond.soleField "HireShedModel" "tools") ∈ hs_gt := hs_gt_of (List.mem_of_getElem? (i := 536) (by decide +kernel)) rfl
theorem tw_537 : (Cond.laysFinal "HireShedModel" "HireShedModel" "kind" "[I") ∈ hs_gt := hs_gt_of (List.mem_of_getElem? (i := 537) (by decide +kernel)) rfl
theorem tw_538 : (Cond.soleField "HireShedModel" "kind") ∈ hs_gt := hs_gt_of (List.mem_of_getElem? (i := 538) (by decide +kernel)) rfl
theorem tw_539 : (Cond.laysFinal "HireShedModel" "HireShedModel" "rate" "[I") ∈ hs_gt := hs_gt_of (List.mem_of_getElem? (i := 539) (by decide +kernel)) rfl
theorem tw_540 : (Cond.soleField "HireShedModel" "rate") ∈ hs_gt := hs_gt_of (List.mem_of_getElem? (i := 540) (by decide +kernel)) rfl
theorem tw_541 : (Cond.laysFinal "HireShedModel" "HireShedModel" "value" "[I") ∈ hs_gt := hs_gt_of (List.mem_of_getElem? (i := 541) (by decide +kernel)) rfl
theorem tw_542 : (Cond.soleField "HireShedModel" "value") ∈ hs_gt := hs_gt_of (List.mem_of_getElem? (i := 542) (by decide +kernel)) rfl
theorem tw_543 : (Cond.laysFinal "HireShedModel" "HireShedModel" "hours" "[I") ∈ hs_gt := hs_gt_of (List.mem_of_getElem? (i := 543) (by decide +kernel)) rfl
theorem tw_544 : (Cond.soleField "HireShedModel" "hours") ∈ hs_gt := hs_gt_of (List.mem_of_getElem? (i := 544) (by decide +kernel)) rfl
theorem tw_545 : (Cond.laysFinal "HireShedModel" "HireShedModel" "how" "[I") ∈ hs_gt := hs_gt_of (List.mem_of_getElem? (i := 545) (by decide +kernel)) rfl
theorem tw_546 : (Cond.soleField "HireShedModel" "how") ∈ hs_gt := hs_gt_of (List.mem_of_getElem? (i := 546) (by decide +kernel)) rfl
theorem tw_547 : (Cond.laysFinal "HireShedModel" "HireShedModel" "customer" "[I") ∈ hs_gt := hs_gt_of (List.mem_of_getElem? (i := 547) (by decide +kernel)) rfl
theorem tw_548 : (Cond.soleField "HireShedModel" "customer") ∈ hs_gt := hs_gt_of (List.mem_of_getElem? (i := 548) (by decide +kernel)) rfl
theorem tw_549 : (Cond.laysFinal "HireShedModel" "HireShedModel" "since" "[I") ∈ hs_gt := hs_gt_of (List.mem_of_getElem? (i := 549) (by decide +kernel)) rfl
theorem tw_550 : (Cond.soleField "HireShedModel" "since") ∈ hs_gt := hs_gt_of (List.mem_of_getElem? (i := 550) (by decide +kernel)) rfl
theorem tw_551 : (Cond.laysFinal "HireShedModel" "HireShedModel" "accounts" "[J") ∈ hs_gt := hs_gt_of (List.mem_of_getElem? (i := 551) (by decide +kernel)) rfl
theorem tw_552 : (Cond.soleField "HireShedModel" "accounts") ∈ hs_gt := hs_gt_of (List.mem_of_getElem? (i := 552) (by decide +kernel)) rfl
theorem tw_553 : (Cond.lays "HireShedModel" "HireShedModel" "today" "I") ∈ hs_gt := hs_gt_of (List.mem_of_getElem? (i := 553) (by decide +kernel)) rfl
theorem tw_554 : (Cond.soleField "HireShedModel" "today") ∈ hs_gt := hs_gt_of (List.mem_of_getElem? (i := 554) (by decide +kernel)) rfl
theorem tw_555 : (Cond.lays "HireShedModel" "HireShedModel" "costs" "I") ∈ hs_gt := hs_gt_of (List.mem_of_getElem? (i := 555) (by decide +kernel)) rfl
theorem tw_556 : (Cond.soleField "HireShedModel" "costs") ∈ hs_gt := hs_gt_of (List.mem_of_getElem? (i := 556) (by decide +kernel)) rfl
theorem tw_557 : (Cond.lays "HireShedModel" "HireShedModel" "hired" "I") ∈ hs_gt := hs_gt_of (List.mem_of_getElem? (i := 557) (by decide +kernel)) rfl
theorem tw_558 : (Cond.soleField "HireShedModel" "hired") ∈ hs_gt := hs_gt_of (List.mem_of_getElem? (i := 558) (by decide +kernel)) rfl
theorem tw_559 : (Cond.laysFinal "HireShedModel" "HireShedModel" "trace" "[I") ∈ hs_gt := hs_gt_of (List.mem_of_getElem? (i := 559) (by decide +kernel)) rfl
theorem tw_560 : (Cond.soleField "HireShedModel" "trace") ∈ hs_gt := hs_gt_of (List.mem_of_getElem? (i := 560) (by decide +kernel)) rfl
theorem tw_561 : (Cond.lays "HireShedModel" "HireShedModel" "traced" "I") ∈ hs_gt := hs_gt_of (List.mem_of_getElem? (i := 561) (by decide +kernel)) rfl
theorem tw_562 : (Cond.soleField "HireShedModel" "traced") ∈ hs_gt := hs_gt_of (List.mem_of_getElem? (i := 562) (by decide +kernel)) rfl
theorem tw_563 : (Cond.lays "HireShedModel" "HireShedModel" "isTraced" "Z") ∈ hs_gt := hs_gt_of (List.mem_of_getElem? (i := 563) (by decide +kernel)) rfl
theorem tw_564 : (Cond.soleField "HireShedModel" "isTraced") ∈ hs_gt := hs_gt_of (List.mem_of_getElem? (i := 564) (by decide +kernel)) rfl
theorem tw_565 : (Cond.superclass "HireShedModel" "java/lang/Object") ∈ hs_gt := hs_gt_of (List.mem_of_getElem? (i := 565) (by decide +kernel)) rfl
theorem tw_566 : (Cond.methodLink "HireShedLaw" 17 ⟨"HireShedModel", "tool", "(III)I"⟩) ∈ hs_gt := hs_gt_of (List.mem_of_getElem? (i := 566) (by decide +kernel)) rfl
theorem tw_567 : (Cond.instanceMethod ⟨"HireShedModel", "tool", "(III)I"⟩) ∈ hs_gt := hs_gt_of (List.mem_of_getElem? (i := 567) (by decide +kernel)) rfl
theorem tw_568 : (Cond.selects "HireShedModel" ⟨"HireShedModel", "tool", "(III)I"⟩ ⟨"HireShedModel", "tool", "(III)I"⟩) ∈ hs_gt := hs_gt_of (List.mem_of_getElem? (i := 568) (by decide +kernel)) rfl
theorem tw_570 : (Cond.methodLink "HireShedModel" 45 ⟨"HireShedModel", "in", "(III)Z"⟩) ∈ hs_gt := hs_gt_of (List.mem_of_getElem? (i := 570) (by decide +kernel)) rfl
theorem tw_571 : (Cond.static ⟨"HireShedModel", "in", "(III)Z"⟩) ∈ hs_gt := hs_gt_of (List.mem_of_getElem? (i := 571) (by decide +kernel)) rfl
theorem tw_573 : (Cond.constant "HireShedModel" 49 (100000 : Int32)) ∈ hs_gt := hs_gt_of (List.mem_of_getElem? (i := 573) (by decide +kernel)) rfl
theorem tw_574 : (Cond.methodLink "HireShedLaw" 21 ⟨"HireShedModel", "ask", "(III)I"⟩) ∈ hs_gt := hs_gt_of (List.mem_of_getElem? (i := 574) (by decide +kernel)) rfl
theorem tw_575 : (Cond.instanceMethod ⟨"HireShedModel", "ask", "(III)I"⟩) ∈ hs_gt := hs_gt_of (List.mem_of_getElem? (i := 575) (by decide +kernel)) rfl
theorem tw_576 : (Cond.selects "HireShedModel" ⟨"HireShedModel", "ask", "(III)I"⟩ ⟨"HireShedModel", "ask", "(III)I"⟩) ∈ hs_gt := hs_gt_of (List.mem_of_getElem? (i := 576) (by decide +kernel)) rfl
theorem tw_578 : (Cond.methodLink "HireShedModel" 79 ⟨"HireShedModel", "isTool", "(I)Z"⟩) ∈ hs_gt := hs_gt_of (List.mem_of_getElem? (i := 578) (by decide +kernel)) rfl
theorem tw_579 : (Cond.privateMethod ⟨"HireShedModel", "isTool", "(I)Z"⟩) ∈ lw_tbl := List.mem_of_getElem? (i := 579) (by decide +kernel)
theorem tw_580 : (Cond.instanceMethod ⟨"HireShedModel", "isTool", "(I)Z"⟩) ∈ hs_gt := hs_gt_of (List.mem_of_getElem? (i := 580) (by decide +kernel)) rfl
theorem tw_582 : (Cond.methodLink "HireShedModel" 82 ⟨"HireShedModel", "answers", "(II)Z"⟩) ∈ hs_gt := hs_gt_of (List.mem_of_getElem? (i := 582) (by decide +kernel)) rfl
theorem tw_583 : (Cond.privateMethod ⟨"HireShedModel", "answers", "(II)Z"⟩) ∈ lw_tbl := List.mem_of_getElem? (i := 583) (by decide +kernel)
theorem tw_584 : (Cond.instanceMethod ⟨"HireShedModel", "answers", "(II)Z"⟩) ∈ hs_gt := hs_gt_of (List.mem_of_getElem? (i := 584) (by decide +kernel)) rfl
theorem tw_586 : (Cond.methodLink "HireShedModel" 72 ⟨"HireShedModel", "isInsured", "(I)Z"⟩) ∈ hs_gt := hs_gt_of (List.mem_of_getElem? (i := 586) (by decide +kernel)) rfl
theorem tw_587 : (Cond.privateMethod ⟨"HireShedModel", "isInsured", "(I)Z"⟩) ∈ lw_tbl := List.mem_of_getElem? (i := 587) (by decide +kernel)
theorem tw_588 : (Cond.instanceMethod ⟨"HireShedModel", "isInsured", "(I)Z"⟩) ∈ hs_gt := hs_gt_of (List.mem_of_getElem? (i := 588) (by decide +kernel)) rfl
theorem tw_590 : (Cond.methodLink "HireShedModel" 76 ⟨"HireShedModel", "isServiced", "(I)Z"⟩) ∈ hs_gt := hs_gt_of (List.mem_of_getElem? (i := 590) (by decide +kernel)) rfl
theorem tw_591 : (Cond.privateMethod ⟨"HireShedModel", "isServiced", "(I)Z"⟩) ∈ lw_tbl := List.mem_of_getElem? (i := 591) (by decide +kernel)
theorem tw_592 : (Cond.instanceMethod ⟨"HireShedModel", "isServiced", "(I)Z"⟩) ∈ hs_gt := hs_gt_of (List.mem_of_getElem? (i := 592) (by decide +kernel)) rfl
theorem tw_594 : (Cond.methodLink "HireShedModel" 86 ⟨"HireShedModel", "charge", "(II)I"⟩) ∈ hs_gt := hs_gt_of (List.mem_of_getElem? (i := 594) (by decide +kernel)) rfl
theorem tw_595 : (Cond.privateMethod ⟨"HireShedModel", "charge", "(II)I"⟩) ∈ lw_tbl := List.mem_of_getElem? (i := 595) (by decide +kernel)
theorem tw_596 : (Cond.instanceMethod ⟨"HireShedModel", "charge", "(II)I"⟩) ∈ hs_gt := hs_gt_of (List.mem_of_getElem? (i := 596) (by decide +kernel)) rfl
theorem tw_598 : (Cond.methodLink "HireShedModel" 57 ⟨"HireShedModel", "body", "(I)V"⟩) ∈ hs_gt := hs_gt_of (List.mem_of_getElem? (i := 598) (by decide +kernel)) rfl
theorem tw_599 : (Cond.privateMethod ⟨"HireShedModel", "body", "(I)V"⟩) ∈ lw_tbl := List.mem_of_getElem? (i := 599) (by decide +kernel)
theorem tw_600 : (Cond.instanceMethod ⟨"HireShedModel", "body", "(I)V"⟩) ∈ hs_gt := hs_gt_of (List.mem_of_getElem? (i := 600) (by decide +kernel)) rfl
theorem tw_602 : (Cond.methodLink "HireShedModel" 68 ⟨"HireShedModel", "wear", "(II)I"⟩) ∈ hs_gt := hs_gt_of (List.mem_of_getElem? (i := 602) (by decide +kernel)) rfl
theorem tw_603 : (Cond.privateMethod ⟨"HireShedModel", "wear", "(II)I"⟩) ∈ lw_tbl := List.mem_of_getElem? (i := 603) (by decide +kernel)
theorem tw_604 : (Cond.instanceMethod ⟨"HireShedModel", "wear", "(II)I"⟩) ∈ hs_gt := hs_gt_of (List.mem_of_getElem? (i := 604) (by decide +kernel)) rfl
theorem tw_606 : (Cond.methodLink "HireShedModel" 65 ⟨"HireShedModel", "check", "(I)I"⟩) ∈ hs_gt := hs_gt_of (List.mem_of_getElem? (i := 606) (by decide +kernel)) rfl
theorem tw_607 : (Cond.privateMethod ⟨"HireShedModel", "check", "(I)I"⟩) ∈ lw_tbl := List.mem_of_getElem? (i := 607) (by decide +kernel)
theorem tw_608 : (Cond.instanceMethod ⟨"HireShedModel", "check", "(I)I"⟩) ∈ hs_gt := hs_gt_of (List.mem_of_getElem? (i := 608) (by decide +kernel)) rfl
theorem tw_610 : (Cond.methodLink "HireShedModel" 61 ⟨"HireShedModel", "deposit", "(I)I"⟩) ∈ hs_gt := hs_gt_of (List.mem_of_getElem? (i := 610) (by decide +kernel)) rfl
theorem tw_611 : (Cond.privateMethod ⟨"HireShedModel", "deposit", "(I)I"⟩) ∈ lw_tbl := List.mem_of_getElem? (i := 611) (by decide +kernel)
theorem tw_612 : (Cond.instanceMethod ⟨"HireShedModel", "deposit", "(I)I"⟩) ∈ hs_gt := hs_gt_of (List.mem_of_getElem? (i := 612) (by decide +kernel)) rfl
theorem tw_614 : (Cond.methodLink "HireShedModel" 89 ⟨"HireShedModel", "premium", "(II)I"⟩) ∈ hs_gt := hs_gt_of (List.mem_of_getElem? (i := 614) (by decide +kernel)) rfl
theorem tw_615 : (Cond.privateMethod ⟨"HireShedModel", "premium", "(II)I"⟩) ∈ lw_tbl := List.mem_of_getElem? (i := 615) (by decide +kernel)
theorem tw_616 : (Cond.instanceMethod ⟨"HireShedModel", "premium", "(II)I"⟩) ∈ hs_gt := hs_gt_of (List.mem_of_getElem? (i := 616) (by decide +kernel)) rfl
theorem tw_618 : (Cond.methodLink "HireShedModel" 92 ⟨"HireShedModel", "due", "(II)I"⟩) ∈ hs_gt := hs_gt_of (List.mem_of_getElem? (i := 618) (by decide +kernel)) rfl
theorem tw_619 : (Cond.privateMethod ⟨"HireShedModel", "due", "(II)I"⟩) ∈ lw_tbl := List.mem_of_getElem? (i := 619) (by decide +kernel)
theorem tw_620 : (Cond.instanceMethod ⟨"HireShedModel", "due", "(II)I"⟩) ∈ hs_gt := hs_gt_of (List.mem_of_getElem? (i := 620) (by decide +kernel)) rfl
theorem tw_622 : (Cond.methodLink "HireShedLaw" 26 ⟨"HireShedModel", "trace", "(I)I"⟩) ∈ hs_gt := hs_gt_of (List.mem_of_getElem? (i := 622) (by decide +kernel)) rfl
theorem tw_623 : (Cond.instanceMethod ⟨"HireShedModel", "trace", "(I)I"⟩) ∈ hs_gt := hs_gt_of (List.mem_of_getElem? (i := 623) (by decide +kernel)) rfl
theorem tw_624 : (Cond.selects "HireShedModel" ⟨"HireShedModel", "trace", "(I)I"⟩ ⟨"HireShedModel", "trace", "(I)I"⟩) ∈ hs_gt := hs_gt_of (List.mem_of_getElem? (i := 624) (by decide +kernel)) rfl
theorem tw_626 : (Cond.methodLink "HireShedLaw" 31 ⟨"HireShedModel", "hire", "(II)I"⟩) ∈ hs_gt := hs_gt_of (List.mem_of_getElem? (i := 626) (by decide +kernel)) rfl
theorem tw_627 : (Cond.instanceMethod ⟨"HireShedModel", "hire", "(II)I"⟩) ∈ hs_gt := hs_gt_of (List.mem_of_getElem? (i := 627) (by decide +kernel)) rfl
theorem tw_628 : (Cond.selects "HireShedModel" ⟨"HireShedModel", "hire", "(II)I"⟩ ⟨"HireShedModel", "hire", "(II)I"⟩) ∈ hs_gt := hs_gt_of (List.mem_of_getElem? (i := 628) (by decide +kernel)) rfl
theorem tw_630 : (Cond.methodLink "HireShedModel" 95 ⟨"HireShedModel", "lent", "(I)I"⟩) ∈ hs_gt := hs_gt_of (List.mem_of_getElem? (i := 630) (by decide +kernel)) rfl
theorem tw_631 : (Cond.privateMethod ⟨"HireShedModel", "lent", "(I)I"⟩) ∈ lw_tbl := List.mem_of_getElem? (i := 631) (by decide +kernel)
theorem tw_632 : (Cond.instanceMethod ⟨"HireShedModel", "lent", "(I)I"⟩) ∈ hs_gt := hs_gt_of (List.mem_of_getElem? (i := 632) (by decide +kernel)) rfl
theorem tw_634 : (Cond.methodLink "HireShedLaw" 35 ⟨"HireShedModel", "back", "(I)I"⟩) ∈ hs_gt := hs_gt_of (List.mem_of_getElem? (i := 634) (by decide +kernel)) rfl
theorem tw_635 : (Cond.instanceMethod ⟨"HireShedModel", "back", "(I)I"⟩) ∈ hs_gt := hs_gt_of (List.mem_of_getElem? (i := 635) (by decide +kernel)) rfl
theorem tw_636 : (Cond.selects "HireShedModel" ⟨"HireShedModel", "back", "(I)I"⟩ ⟨"HireShedModel", "back", "(I)I"⟩) ∈ hs_gt := hs_gt_of (List.mem_of_getElem? (i := 636) (by decide +kernel)) rfl
theorem tw_638 : (Cond.methodLink "HireShedLaw" 39 ⟨"HireShedModel", "service", "(I)I"⟩) ∈ hs_gt := hs_gt_of (List.mem_of_getElem? (i := 638) (by decide +kernel)) rfl
theorem tw_639 : (Cond.instanceMethod ⟨"HireShedModel", "service", "(I)I"⟩) ∈ hs_gt := hs_gt_of (List.mem_of_getElem? (i := 639) (by decide +kernel)) rfl
theorem tw_640 : (Cond.selects "HireShedModel" ⟨"HireShedModel", "service", "(I)I"⟩ ⟨"HireShedModel", "service", "(I)I"⟩) ∈ hs_gt := hs_gt_of (List.mem_of_getElem? (i := 640) (by decide +kernel)) rfl
theorem tw_642 : (Cond.methodLink "HireShedLaw" 43 ⟨"HireShedModel", "day", "(I)I"⟩) ∈ hs_gt := hs_gt_of (List.mem_of_getElem? (i := 642) (by decide +kernel)) rfl
theorem tw_643 : (Cond.instanceMethod ⟨"HireShedModel", "day", "(I)I"⟩) ∈ hs_gt := hs_gt_of (List.mem_of_getElem? (i := 643) (by decide +kernel)) rfl
theorem tw_644 : (Cond.selects "HireShedModel" ⟨"HireShedModel", "day", "(I)I"⟩ ⟨"HireShedModel", "day", "(I)I"⟩) ∈ hs_gt := hs_gt_of (List.mem_of_getElem? (i := 644) (by decide +kernel)) rfl
theorem tw_646 : (Cond.methodLink "HireShedLaw" 48 ⟨"HireShedModel", "account", "(I)J"⟩) ∈ hs_gt := hs_gt_of (List.mem_of_getElem? (i := 646) (by decide +kernel)) rfl
theorem tw_647 : (Cond.instanceMethod ⟨"HireShedModel", "account", "(I)J"⟩) ∈ hs_gt := hs_gt_of (List.mem_of_getElem? (i := 647) (by decide +kernel)) rfl
theorem tw_648 : (Cond.selects "HireShedModel" ⟨"HireShedModel", "account", "(I)J"⟩ ⟨"HireShedModel", "account", "(I)J"⟩) ∈ hs_gt := hs_gt_of (List.mem_of_getElem? (i := 648) (by decide +kernel)) rfl
theorem tw_650 : (Cond.methodLink "HireShedLaw" 52 ⟨"HireShedModel", "told", "(II)I"⟩) ∈ hs_gt := hs_gt_of (List.mem_of_getElem? (i := 650) (by decide +kernel)) rfl
theorem tw_651 : (Cond.instanceMethod ⟨"HireShedModel", "told", "(II)I"⟩) ∈ hs_gt := hs_gt_of (List.mem_of_getElem? (i := 651) (by decide +kernel)) rfl
theorem tw_652 : (Cond.selects "HireShedModel" ⟨"HireShedModel", "told", "(II)I"⟩ ⟨"HireShedModel", "told", "(II)I"⟩) ∈ hs_gt := hs_gt_of (List.mem_of_getElem? (i := 652) (by decide +kernel)) rfl
theorem tw_654 : (Cond.methodLink "HireShedLaw" 56 ⟨"HireShedModel", "count", "(I)I"⟩) ∈ hs_gt := hs_gt_of (List.mem_of_getElem? (i := 654) (by decide +kernel)) rfl
theorem tw_655 : (Cond.instanceMethod ⟨"HireShedModel", "count", "(I)I"⟩) ∈ hs_gt := hs_gt_of (List.mem_of_getElem? (i := 655) (by decide +kernel)) rfl
theorem tw_656 : (Cond.selects "HireShedModel" ⟨"HireShedModel", "count", "(I)I"⟩ ⟨"HireShedModel", "count", "(I)I"⟩) ∈ hs_gt := hs_gt_of (List.mem_of_getElem? (i := 656) (by decide +kernel)) rfl
theorem tw_658 : (Cond.sameMethod "HireShed$BenchSaw" "HireShed$BenchSaw" "check" "()I") ∈ hs_gt := hs_gt_of (List.mem_of_getElem? (i := 658) (by decide +kernel)) rfl
theorem tw_659 : (Cond.selects "HireShed$BenchSaw" ⟨"HireShed$BenchSaw", "check", "()I"⟩ ⟨"HireShed$BenchSaw", "check", "()I"⟩) ∈ hs_gt := hs_gt_of (List.mem_of_getElem? (i := 659) (by decide +kernel)) rfl
theorem tw_660 : (Cond.selects "HireShed$TreeSaw" ⟨"HireShed$BenchSaw", "check", "()I"⟩ ⟨"HireShed$BenchSaw", "check", "()I"⟩) ∈ hs_gt := hs_gt_of (List.mem_of_getElem? (i := 660) (by decide +kernel)) rfl
theorem tw_661 : (Cond.castable "HireShed$BenchSaw" "HireShed$Tool") ∈ lw_tbl := List.mem_of_getElem? (i := 661) (by decide +kernel)
theorem tw_662 : (Cond.castable "HireShed$DeepPump" "HireShed$Tool") ∈ lw_tbl := List.mem_of_getElem? (i := 662) (by decide +kernel)
theorem tw_663 : (Cond.castable "HireShed$Powered" "HireShed$Tool") ∈ lw_tbl := List.mem_of_getElem? (i := 663) (by decide +kernel)
theorem tw_664 : (Cond.castable "HireShed$Pump" "HireShed$Tool") ∈ lw_tbl := List.mem_of_getElem? (i := 664) (by decide +kernel)
theorem tw_665 : (Cond.castable "HireShed$Saw" "HireShed$Tool") ∈ lw_tbl := List.mem_of_getElem? (i := 665) (by decide +kernel)
theorem tw_666 : (Cond.castable "HireShed$TreeSaw" "HireShed$Tool") ∈ lw_tbl := List.mem_of_getElem? (i := 666) (by decide +kernel)
theorem tw_32 : Cond.code yX8_init prog_1_method_1_code 1 (Option.none : Option FieldType) ∈ hs_gt := hs_gt_of (List.mem_of_getElem? (i := 32) (by decide +kernel)) rfl
theorem tw_35 : (Cond.code ⟨"java/lang/Object", "<init>", "()V"⟩ object_method_1_code 1 (Option.none : Option FieldType)) ∈ hs_gt := hs_gt_of (List.mem_of_getElem? (i := 35) (by decide +kernel)) rfl
theorem tw_40 : Cond.code yX6_init prog_8_method_1_code 1 (Option.none : Option FieldType) ∈ hs_gt := hs_gt_of (List.mem_of_getElem? (i := 40) (by decide +kernel)) rfl
theorem tw_81 : Cond.code yX8_tool prog_1_method_2_code 5 (Option.some FieldType.int) ∈ hs_gt := hs_gt_of (List.mem_of_getElem? (i := 81) (by decide +kernel)) rfl
theorem tw_84 : Cond.code yX8_isWithin prog_1_method_12_code 3 (Option.some FieldType.boolean) ∈ hs_gt := hs_gt_of (List.mem_of_getElem? (i := 84) (by decide +kernel)) rfl
theorem tw_89 : Cond.code yX8_newTool prog_1_method_15_code 4 (Option.some (FieldType.object "HireShed$Tool")) ∈ hs_gt := hs_gt_of (List.mem_of_getElem? (i := 89) (by decide +kernel)) rfl
theorem tw_94 : Cond.code yX2_init prog_4_method_1_code 5 (Option.none : Option FieldType) ∈ hs_gt := hs_gt_of (List.mem_of_getElem? (i := 94) (by decide +kernel)) rfl
theorem tw_97 : Cond.code yX5_init prog_7_method_1_code 5 (Option.none : Option FieldType) ∈ hs_gt := hs_gt_of (List.mem_of_getElem? (i := 97) (by decide +kernel)) rfl
theorem tw_151 : Cond.code yX4_init prog_6_method_1_code 5 (Option.none : Option FieldType) ∈ hs_gt := hs_gt_of (List.mem_of_getElem? (i := 151) (by decide +kernel)) rfl
theorem tw_166 : Cond.code yX0_init prog_2_method_1_code 5 (Option.none : Option FieldType) ∈ hs_gt := hs_gt_of (List.mem_of_getElem? (i := 166) (by decide +kernel)) rfl
theorem tw_181 : Cond.code yX7_init prog_9_method_1_code 5 (Option.none : Option FieldType) ∈ hs_gt := hs_gt_of (List.mem_of_getElem? (i := 181) (by decide +kernel)) rfl
theorem tw_196 : Cond.code yX3_init prog_5_method_1_code 5 (Option.none : Option FieldType) ∈ hs_gt := hs_gt_of (List.mem_of_getElem? (i := 196) (by decide +kernel)) rfl
theorem tw_211 : Cond.code yX1_init prog_3_method_1_code 5 (Option.none : Option FieldType) ∈ hs_gt := hs_gt_of (List.mem_of_getElem? (i := 211) (by decide +kernel)) rfl
theorem tw_236 : Cond.code yX8_ask prog_1_method_3_code 6 (Option.some FieldType.int) ∈ hs_gt := hs_gt_of (List.mem_of_getElem? (i := 236) (by decide +kernel)) rfl
theorem tw_240 : Cond.code yX8_toolAt prog_1_method_14_code 2 (Option.some (FieldType.object "HireShed$Tool")) ∈ hs_gt := hs_gt_of (List.mem_of_getElem? (i := 240) (by decide +kernel)) rfl
theorem tw_244 : Cond.code yX6_begin prog_8_method_2_code 1 (Option.none : Option FieldType) ∈ hs_gt := hs_gt_of (List.mem_of_getElem? (i := 244) (by decide +kernel)) rfl
theorem tw_247 : Cond.code yX8_hasAnswer prog_1_method_16_code 2 (Option.some FieldType.boolean) ∈ hs_gt := hs_gt_of (List.mem_of_getElem? (i := 247) (by decide +kernel)) rfl
theorem tw_254 : Cond.code yX2_hasDeposit prog_4_method_2_code 1 (Option.some FieldType.boolean) ∈ hs_gt := hs_gt_of (List.mem_of_getElem? (i := 254) (by decide +kernel)) rfl
theorem tw_260 : Cond.code yX5_hasDeposit prog_7_method_2_code 1 (Option.some FieldType.boolean) ∈ hs_gt := hs_gt_of (List.mem_of_getElem? (i := 260) (by decide +kernel)) rfl
theorem tw_267 : Cond.code yX4_isInsured prog_6_method_2_code 1 (Option.some FieldType.boolean) ∈ hs_gt := hs_gt_of (List.mem_of_getElem? (i := 267) (by decide +kernel)) rfl
theorem tw_273 : Cond.code yX5_isInsured prog_7_method_3_code 1 (Option.some FieldType.boolean) ∈ hs_gt := hs_gt_of (List.mem_of_getElem? (i := 273) (by decide +kernel)) rfl
theorem tw_280 : Cond.code yX0_isServiced prog_2_method_2_code 1 (Option.some FieldType.boolean) ∈ hs_gt := hs_gt_of (List.mem_of_getElem? (i := 280) (by decide +kernel)) rfl
theorem tw_283 : Cond.code yX3_isServiced prog_5_method_2_code 1 (Option.some FieldType.boolean) ∈ hs_gt := hs_gt_of (List.mem_of_getElem? (i := 283) (by decide +kernel)) rfl
theorem tw_288 : Cond.code yX5_isServiced prog_7_method_4_code 1 (Option.some FieldType.boolean) ∈ hs_gt := hs_gt_of (List.mem_of_getElem? (i := 288) (by decide +kernel)) rfl
theorem tw_291 : Cond.code yX8_answerOf prog_1_method_17_code 3 (Option.some FieldType.int) ∈ hs_gt := hs_gt_of (List.mem_of_getElem? (i := 291) (by decide +kernel)) rfl
theorem tw_298 : Cond.code yX4_charge prog_6_method_3_code 2 (Option.some FieldType.int) ∈ hs_gt := hs_gt_of (List.mem_of_getElem? (i := 298) (by decide +kernel)) rfl
theorem tw_302 : Cond.code yX6_leave prog_8_method_4_code 2 (Option.none : Option FieldType) ∈ hs_gt := hs_gt_of (List.mem_of_getElem? (i := 302) (by decide +kernel)) rfl
theorem tw_308 : Cond.code yX1_charge prog_3_method_2_code 2 (Option.some FieldType.int) ∈ hs_gt := hs_gt_of (List.mem_of_getElem? (i := 308) (by decide +kernel)) rfl
theorem tw_317 : Cond.code yX7_charge prog_9_method_2_code 2 (Option.some FieldType.int) ∈ hs_gt := hs_gt_of (List.mem_of_getElem? (i := 317) (by decide +kernel)) rfl
theorem tw_324 : Cond.code yJ9_max_7cf53 prog_12_method_65_code 2 (Option.some FieldType.int) ∈ hs_gt := hs_gt_of (List.mem_of_getElem? (i := 324) (by decide +kernel)) rfl
theorem tw_325 : Cond.code yX5_charge prog_7_method_5_code 2 (Option.some FieldType.int) ∈ hs_gt := hs_gt_of (List.mem_of_getElem? (i := 325) (by decide +kernel)) rfl
theorem tw_334 : Cond.code yX3_wear prog_5_method_3_code 2 (Option.some FieldType.int) ∈ hs_gt := hs_gt_of (List.mem_of_getElem? (i := 334) (by decide +kernel)) rfl
theorem tw_344 : Cond.code yX7_wear prog_9_method_3_code 2 (Option.some FieldType.int) ∈ hs_gt := hs_gt_of (List.mem_of_getElem? (i := 344) (by decide +kernel)) rfl
theorem tw_347 : Cond.code yX5_wear prog_7_method_6_code 2 (Option.some FieldType.int) ∈ hs_gt := hs_gt_of (List.mem_of_getElem? (i := 347) (by decide +kernel)) rfl
theorem tw_354 : Cond.code yX0_check prog_2_method_3_code 1 (Option.some FieldType.int) ∈ hs_gt := hs_gt_of (List.mem_of_getElem? (i := 354) (by decide +kernel)) rfl
theorem tw_360 : Cond.code yX2_check prog_4_method_3_code 1 (Option.some FieldType.int) ∈ hs_gt := hs_gt_of (List.mem_of_getElem? (i := 360) (by decide +kernel)) rfl
theorem tw_365 : Cond.code yX1_check prog_3_method_3_code 1 (Option.some FieldType.int) ∈ hs_gt := hs_gt_of (List.mem_of_getElem? (i := 365) (by decide +kernel)) rfl
theorem tw_372 : Cond.code yX5_check prog_7_method_7_code 1 (Option.some FieldType.int) ∈ hs_gt := hs_gt_of (List.mem_of_getElem? (i := 372) (by decide +kernel)) rfl
theorem tw_379 : Cond.code yX2_deposit prog_4_method_4_code 1 (Option.some FieldType.int) ∈ hs_gt := hs_gt_of (List.mem_of_getElem? (i := 379) (by decide +kernel)) rfl
theorem tw_386 : Cond.code yX7_deposit prog_9_method_4_code 1 (Option.some FieldType.int) ∈ hs_gt := hs_gt_of (List.mem_of_getElem? (i := 386) (by decide +kernel)) rfl
theorem tw_390 : Cond.code yX5_deposit prog_7_method_8_code 1 (Option.some FieldType.int) ∈ hs_gt := hs_gt_of (List.mem_of_getElem? (i := 390) (by decide +kernel)) rfl
theorem tw_397 : Cond.code yX0_premium prog_2_method_4_code 2 (Option.some FieldType.int) ∈ hs_gt := hs_gt_of (List.mem_of_getElem? (i := 397) (by decide +kernel)) rfl
theorem tw_407 : Cond.code yX4_premium prog_6_method_4_code 2 (Option.some FieldType.int) ∈ hs_gt := hs_gt_of (List.mem_of_getElem? (i := 407) (by decide +kernel)) rfl
theorem tw_414 : Cond.code yX5_premium prog_7_method_9_code 2 (Option.some FieldType.int) ∈ hs_gt := hs_gt_of (List.mem_of_getElem? (i := 414) (by decide +kernel)) rfl
theorem tw_425 : Cond.code yX5_due prog_7_method_10_code 2 (Option.some FieldType.int) ∈ hs_gt := hs_gt_of (List.mem_of_getElem? (i := 425) (by decide +kernel)) rfl
theorem tw_431 : Cond.code yX6_end prog_8_method_3_code 1 (Option.none : Option FieldType) ∈ hs_gt := hs_gt_of (List.mem_of_getElem? (i := 431) (by decide +kernel)) rfl
theorem tw_435 : Cond.code yX8_trace prog_1_method_4_code 2 (Option.some FieldType.int) ∈ hs_gt := hs_gt_of (List.mem_of_getElem? (i := 435) (by decide +kernel)) rfl
theorem tw_439 : Cond.code yX6_numberAt prog_8_method_5_code 2 (Option.some FieldType.int) ∈ hs_gt := hs_gt_of (List.mem_of_getElem? (i := 439) (by decide +kernel)) rfl
theorem tw_443 : Cond.code yX8_hire prog_1_method_5_code 5 (Option.some FieldType.int) ∈ hs_gt := hs_gt_of (List.mem_of_getElem? (i := 443) (by decide +kernel)) rfl
theorem tw_446 : Cond.code yX8_isCustomer prog_1_method_13_code 1 (Option.some FieldType.boolean) ∈ hs_gt := hs_gt_of (List.mem_of_getElem? (i := 446) (by decide +kernel)) rfl
theorem tw_450 : Cond.code yX8_pay prog_1_method_18_code 3 (Option.none : Option FieldType) ∈ hs_gt := hs_gt_of (List.mem_of_getElem? (i := 450) (by decide +kernel)) rfl
theorem tw_461 : Cond.code yX5_goOut prog_7_method_11_code 3 (Option.none : Option FieldType) ∈ hs_gt := hs_gt_of (List.mem_of_getElem? (i := 461) (by decide +kernel)) rfl
theorem tw_465 : Cond.code yX8_back prog_1_method_6_code 5 (Option.some FieldType.int) ∈ hs_gt := hs_gt_of (List.mem_of_getElem? (i := 465) (by decide +kernel)) rfl
theorem tw_477 : Cond.code yX5_comeBack prog_7_method_12_code 2 (Option.none : Option FieldType) ∈ hs_gt := hs_gt_of (List.mem_of_getElem? (i := 477) (by decide +kernel)) rfl
theorem tw_482 : Cond.code yX8_service prog_1_method_7_code 4 (Option.some FieldType.int) ∈ hs_gt := hs_gt_of (List.mem_of_getElem? (i := 482) (by decide +kernel)) rfl
theorem tw_493 : Cond.code yX5_renew prog_7_method_13_code 1 (Option.none : Option FieldType) ∈ hs_gt := hs_gt_of (List.mem_of_getElem? (i := 493) (by decide +kernel)) rfl
theorem tw_497 : Cond.code yX8_day prog_1_method_8_code 2 (Option.some FieldType.int) ∈ hs_gt := hs_gt_of (List.mem_of_getElem? (i := 497) (by decide +kernel)) rfl
theorem tw_501 : Cond.code yX8_account prog_1_method_9_code 2 (Option.some FieldType.long) ∈ hs_gt := hs_gt_of (List.mem_of_getElem? (i := 501) (by decide +kernel)) rfl
theorem tw_505 : Cond.code yX8_told prog_1_method_10_code 4 (Option.some FieldType.int) ∈ hs_gt := hs_gt_of (List.mem_of_getElem? (i := 505) (by decide +kernel)) rfl
theorem tw_509 : Cond.code yX8_count prog_1_method_11_code 2 (Option.some FieldType.int) ∈ hs_gt := hs_gt_of (List.mem_of_getElem? (i := 509) (by decide +kernel)) rfl
theorem tw_513 : Cond.code yX8_toolsThatAre prog_1_method_19_code 7 (Option.some FieldType.int) ∈ hs_gt := hs_gt_of (List.mem_of_getElem? (i := 513) (by decide +kernel)) rfl
theorem tw_518 : Cond.code yX9_init prog_11_method_1_code 1 (Option.none : Option FieldType) ∈ hs_gt := hs_gt_of (List.mem_of_getElem? (i := 518) (by decide +kernel)) rfl
theorem tw_569 : Cond.code yX9_tool prog_11_method_5_code 4 (Option.some FieldType.int) ∈ hs_gt := hs_gt_of (List.mem_of_getElem? (i := 569) (by decide +kernel)) rfl
theorem tw_572 : Cond.code yX9_in prog_11_method_3_code 3 (Option.some FieldType.boolean) ∈ hs_gt := hs_gt_of (List.mem_of_getElem? (i := 572) (by decide +kernel)) rfl
theorem tw_577 : Cond.code yX9_ask prog_11_method_16_code 5 (Option.some FieldType.int) ∈ hs_gt := hs_gt_of (List.mem_of_getElem? (i := 577) (by decide +kernel)) rfl
theorem tw_581 : Cond.code yX9_isTool prog_11_method_4_code 2 (Option.some FieldType.boolean) ∈ hs_gt := hs_gt_of (List.mem_of_getElem? (i := 581) (by decide +kernel)) rfl
theorem tw_585 : Cond.code yX9_answers prog_11_method_15_code 3 (Option.some FieldType.boolean) ∈ hs_gt := hs_gt_of (List.mem_of_getElem? (i := 585) (by decide +kernel)) rfl
theorem tw_589 : Cond.code yX9_isInsured prog_11_method_11_code 2 (Option.some FieldType.boolean) ∈ hs_gt := hs_gt_of (List.mem_of_getElem? (i := 589) (by decide +kernel)) rfl
theorem tw_593 : Cond.code yX9_isServiced prog_11_method_12_code 2 (Option.some FieldType.boolean) ∈ hs_gt := hs_gt_of (List.mem_of_getElem? (i := 593) (by decide +kernel)) rfl
theorem tw_597 : Cond.code yX9_charge prog_11_method_7_code 6 (Option.some FieldType.int) ∈ hs_gt := hs_gt_of (List.mem_of_getElem? (i := 597) (by decide +kernel)) rfl
theorem tw_601 : Cond.code yX9_body prog_11_method_6_code 2 (Option.none : Option FieldType) ∈ hs_gt := hs_gt_of (List.mem_of_getElem? (i := 601) (by decide +kernel)) rfl
theorem tw_605 : Cond.code yX9_wear prog_11_method_8_code 4 (Option.some FieldType.int) ∈ hs_gt := hs_gt_of (List.mem_of_getElem? (i := 605) (by decide +kernel)) rfl
theorem tw_609 : Cond.code yX9_check prog_11_method_9_code 4 (Option.some FieldType.int) ∈ hs_gt := hs_gt_of (List.mem_of_getElem? (i := 609) (by decide +kernel)) rfl
theorem tw_613 : Cond.code yX9_deposit prog_11_method_10_code 2 (Option.some FieldType.int) ∈ hs_gt := hs_gt_of (List.mem_of_getElem? (i := 613) (by decide +kernel)) rfl
theorem tw_617 : Cond.code yX9_premium prog_11_method_13_code 4 (Option.some FieldType.int) ∈ hs_gt := hs_gt_of (List.mem_of_getElem? (i := 617) (by decide +kernel)) rfl
theorem tw_621 : Cond.code yX9_due prog_11_method_14_code 3 (Option.some FieldType.int) ∈ hs_gt := hs_gt_of (List.mem_of_getElem? (i := 621) (by decide +kernel)) rfl
theorem tw_625 : Cond.code yX9_trace prog_11_method_17_code 2 (Option.some FieldType.int) ∈ hs_gt := hs_gt_of (List.mem_of_getElem? (i := 625) (by decide +kernel)) rfl
theorem tw_629 : Cond.code yX9_hire prog_11_method_19_code 3 (Option.some FieldType.int) ∈ hs_gt := hs_gt_of (List.mem_of_getElem? (i := 629) (by decide +kernel)) rfl
theorem tw_633 : Cond.code yX9_lent prog_11_method_18_code 2 (Option.some FieldType.int) ∈ hs_gt := hs_gt_of (List.mem_of_getElem? (i := 633) (by decide +kernel)) rfl
theorem tw_637 : Cond.code yX9_back prog_11_method_20_code 4 (Option.some FieldType.int) ∈ hs_gt := hs_gt_of (List.mem_of_getElem? (i := 637) (by decide +kernel)) rfl
theorem tw_641 : Cond.code yX9_service prog_11_method_21_code 3 (Option.some FieldType.int) ∈ hs_gt := hs_gt_of (List.mem_of_getElem? (i := 641) (by decide +kernel)) rfl
theorem tw_645 : Cond.code yX9_day prog_11_method_22_code 2 (Option.some FieldType.int) ∈ hs_gt := hs_gt_of (List.mem_of_getElem? (i := 645) (by decide +kernel)) rfl
theorem tw_649 : Cond.code yX9_account prog_11_method_23_code 2 (Option.some FieldType.long) ∈ hs_gt := hs_gt_of (List.mem_of_getElem? (i := 649) (by decide +kernel)) rfl
theorem tw_653 : Cond.code yX9_told prog_11_method_24_code 3 (Option.some FieldType.int) ∈ hs_gt := hs_gt_of (List.mem_of_getElem? (i := 653) (by decide +kernel)) rfl
theorem tw_657 : Cond.code yX9_count prog_11_method_25_code 4 (Option.some FieldType.int) ∈ hs_gt := hs_gt_of (List.mem_of_getElem? (i := 657) (by decide +kernel)) rfl
end
section
/-! the common words, contracts as one form, calls and returns as one row each -/
theorem hs_gt_good : GoodIn hs_gt hs_gt := fun _ h => ⟨h, good_of_word (List.mem_filter.mp h).2⟩
theorem hs_gt_in : ∀ w ∈ hs_gt, w ∈ lw_tbl := fun _ h => (List.mem_filter.mp h).1
abbrev hs_wo (y : MethodName) (cc : ByteArray) (n : Nat) (ret : Option FieldType) : List Cond := .code y cc n ret :: hs_gt
theorem hs_gi {y : MethodName} {cc : ByteArray} {n : Nat} {ret : Option FieldType} (h : Cond.code y cc n ret ∈ hs_gt) : GoodIn hs_gt (hs_wo y cc n ret) := by
  intro w hw
  rcases List.mem_cons.mp hw with rfl | hw
  · exact hs_gt_good _ h
  · exact hs_gt_good _ hw
theorem hs_giA {a b : List Cond} (ha : ∀ w ∈ a, w ∈ hs_gt) (hb : GoodIn hs_gt b) : GoodIn hs_gt (a ++ b) := fun w h => (List.mem_append.mp h).elim (fun h => hs_gt_good w (ha w h)) (hb w)
abbrev hs_cl : List vw_C := [(RX0, TX5, 8), (RX1, TX5, 8), (RX2, TX5, 8), (RX3, TX5, 8), (RX4, TX5, 8), (RX5, TX5, 8), (RX6, TX6, 3), (RX7, TX5, 8), (RX8, TX8, 7), (RX9, TX9, 15)]
theorem in_X0 : ∀ w ∈ u_ws RX0 TX5 8, w ∈ hs_gt := by decide +kernel
theorem in_X1 : ∀ w ∈ u_ws RX1 TX5 8, w ∈ hs_gt := by decide +kernel
theorem in_X2 : ∀ w ∈ u_ws RX2 TX5 8, w ∈ hs_gt := by decide +kernel
theorem in_X3 : ∀ w ∈ u_ws RX3 TX5 8, w ∈ hs_gt := by decide +kernel
theorem in_X4 : ∀ w ∈ u_ws RX4 TX5 8, w ∈ hs_gt := by decide +kernel
theorem in_X5 : ∀ w ∈ u_ws RX5 TX5 8, w ∈ hs_gt := by decide +kernel
theorem in_X6 : ∀ w ∈ u_ws RX6 TX6 3, w ∈ hs_gt := by decide +kernel
theorem in_X7 : ∀ w ∈ u_ws RX7 TX5 8, w ∈ hs_gt := by decide +kernel
theorem in_X8 : ∀ w ∈ u_ws RX8 TX8 7, w ∈ hs_gt := by decide +kernel
theorem in_X9 : ∀ w ∈ u_ws RX9 TX9 15, w ∈ hs_gt := by decide +kernel
/-- kinds: the class of each, its number among the classes -/
def kc (k : Nat) : Nat := match k with
  | 0 => 5
  | 1 => 2
  | 2 => 4
  | 3 => 0
  | 4 => 7
  | 5 => 3
  | _ => 1
def kR (k : Nat) : String := match k with
  | 0 => RX5
  | 1 => RX2
  | 2 => RX4
  | 3 => RX0
  | 4 => RX7
  | 5 => RX3
  | _ => RX1
theorem kc_cl (k : Nat) : hs_cl[kc k]? = some (kR k, TX5, 8) := by
  match k with
  | 0 => rfl
  | 1 => rfl
  | 2 => rfl
  | 3 => rfl
  | 4 => rfl
  | 5 => rfl
  | _ + 6 => rfl
theorem kc_in (k : Nat) : ∀ w ∈ u_ws (kR k) TX5 8, w ∈ hs_gt := by
  match k with
  | 0 => exact in_X5
  | 1 => exact in_X2
  | 2 => exact in_X4
  | 3 => exact in_X0
  | 4 => exact in_X7
  | 5 => exact in_X3
  | _ + 6 => exact in_X1
/-! contracts -/
def hs_pre (D : va_G) (tys : List (ClassId × FieldType)) (ws : va_W) (sz : Nat) (U : State) : Prop := U.heap.size = sz ∧ va_P D hs_cl ws U.heap ∧ va_K D hs_cl tys U ∧ va_D (fun _ => True) ws
def hs_end (D : va_G) (tys : List (ClassId × FieldType)) (A : Nat → Prop) (ws' : va_W) (t : State) : Prop := va_P D hs_cl ws' t.heap ∧ va_K D hs_cl tys t ∧ va_D A ws'
def hs_QI (D : va_G) (tys : List (ClassId × FieldType)) (r : Int32) (ws' : va_W) (A : Nat → Prop) : Array Value → State → Outcome → State → Prop := va_Qi (fun (r' : Int32) (_ : Unit) => r' = r) (fun _ t => hs_end D tys A ws' t) A
def hs_QL (D : va_G) (tys : List (ClassId × FieldType)) (r : Int64) (ws' : va_W) (A : Nat → Prop) : Array Value → State → Outcome → State → Prop := va_Ql (fun (r' : Int64) (_ : Unit) => r' = r) (fun _ t => hs_end D tys A ws' t) A
def hs_QV (D : va_G) (tys : List (ClassId × FieldType)) (ws' : va_W) (A : Nat → Prop) : Array Value → State → Outcome → State → Prop := va_Qv (fun (_ : Unit) => True) (fun _ t => hs_end D tys A ws' t) A
def hs_QQ (D : va_G) (tys : List (ClassId × FieldType)) (r : Option Nat) (ws' : va_W) (A : Nat → Prop) : Array Value → State → Outcome → State → Prop := va_Qq (fun (r' : Option Nat) (_ : Unit) => r' = r) (fun _ t => hs_end D tys A ws' t) A
def CM (l : Launch) (D : va_G) (y : MethodName) (cc : ByteArray) (n : Nat) (ret : Option FieldType) (rm : Room) (tys : List (ClassId × FieldType)) (av : List Value) (ws : va_W) (Qf : (Nat → Prop) → Array Value → State → Outcome → State → Prop) : Prop :=
  ∀ sz : Nat, Met l y (hs_wo y cc n ret) rm (va_Pc av (hs_pre D tys ws sz)) (Qf (va_A ws sz)) rm.cells rm.slots (va_A ws sz)
theorem CM.of {l : Launch} {D : va_G} {y : MethodName} {cc : ByteArray} {n : Nat} {ret : Option FieldType} {rm : Room} {tys : List (ClassId × FieldType)} {av : List Value} {ws : va_W} {Qf : (Nat → Prop) → Array Value → State → Outcome → State → Prop} (hy : plainName y.cls = true) (hav : (lg_sl av).length ≤ n)
    (body : ∀ (p : Program) (e : Env) (s : State) (m : MethodId) (below : List Frame) (meth : Method) (c : Code) (A : Nat → Prop) (ls : Array Slot), p.tables.exec = Jvm.exec → c.code = cc → meth.sig.returnType = ret → c.maxLocals = n → (∀ w ∈ hs_gt, w.before av.toArray s = true) → s.vm.findClass y.cls = some m.cls → meth.locks = false → meth.name = y.name →
      (∀ q : Nat, s.heap.size ≤ q → A q) → va_K D hs_cl tys s → va_P D hs_cl ws s.heap → va_D A ws → va_S A s.heap s.heap [] → lv_has ls n (lv_args 0 av) → W p l e rm s m av.toArray below meth c s.heap [] 0 0 (MQ below (Qf A) av.toArray s rm.cells rm.slots A) (F0 m 0 ls [])) : CM l D y cc n ret rm tys av ws Qf := by
  intro sz
  refine Met.ofW (cc := cc) (maxL := n) (ret := ret) hy rfl ?_
  intro p e s m args below meth c s₁ B hml hv
  obtain ⟨rfl, hsz, hP, hK, hD0⟩ := hv
  subst hsz
  have hts := atoms_spec (ws := hs_wo y cc n ret) B.pre
  have hl := lv_entry av hav
  rw [lg_entry_eq]
  exact body p e s m below meth c (va_A ws s.heap.size) _ B.exec B.bytes B.returns hml (fun w h => hts w (List.mem_cons_of_mem _ h)) (findClass_of_methodNamed B.named) B.notSynchronized (name_of_methodNamed B.named B.method).1 (fun q h => Or.inr h) hK hP hD0.self va_S.rf hl
section HSR
variable {p : Program} {l : Launch} {e : Env} {R : Room} {s : State} {m : MethodId} {args : Array Value} {below : List Frame} {meth : Method} {c : Code} {H : Heap} {locs : List Loc} {cells slots : Nat} {Q : State → Prop}
variable {cc : ByteArray} {pc : Nat} {ls : Array Slot} {rest st0 : List Value} {D : va_G} {A : Nat → Prop} {a : Array Value} {tys tc : List (ClassId × FieldType)} {ws wc w1 wr ws2 ws' : va_W} {H0 : Heap}
theorem hs_iret {v r : Int32} (hx : p.tables.exec = Jvm.exec) (hb : c.code = cc) (hr : meth.sig.returnType = some .int) (hlocks : meth.locks = false) (hK : va_K D hs_cl tys s) (hP : va_P D hs_cl ws H) (hD : va_D A ws) (hS : va_S A s.heap H locs) (hdg : decode cc pc = .ok (.ireturn, 1)) (hv : v = r) (hw : ws = ws') :
    W p l e R s m args below meth c H locs cells slots (MQ below (hs_QI D tys r ws' A) args s cells slots A) (F0 m pc ls [.int v]) := by
  subst hv; subst hw
  exact W.iret hx hb hr (fun t ht hW => ⟨⟨v, (), rfl, rfl, by rw [ht]; exact hP, va_K.moved hW.alike hK, hD⟩, hS.F ht⟩) hS.2.2 hdg hlocks
theorem hs_zret {v r : Int32} (hx : p.tables.exec = Jvm.exec) (hb : c.code = cc) (hr : meth.sig.returnType = some .boolean) (hlocks : meth.locks = false) (hK : va_K D hs_cl tys s) (hP : va_P D hs_cl ws H) (hD : va_D A ws) (hS : va_S A s.heap H locs) (hdg : decode cc pc = .ok (.ireturn, 1)) (hn : narrow .boolean (.int v) = .int v) (hv : v = r) (hw : ws = ws') :
    W p l e R s m args below meth c H locs cells slots (MQ below (hs_QI D tys r ws' A) args s cells slots A) (F0 m pc ls [.int v]) := by
  subst hv; subst hw
  exact W.zret hx hb hr hn (fun t ht hW => ⟨⟨v, (), rfl, rfl, by rw [ht]; exact hP, va_K.moved hW.alike hK, hD⟩, hS.F ht⟩) hS.2.2 hdg hlocks
theorem hs_lret {v r : Int64} (hx : p.tables.exec = Jvm.exec) (hb : c.code = cc) (hr : meth.sig.returnType = some .long) (hlocks : meth.locks = false) (hK : va_K D hs_cl tys s) (hP : va_P D hs_cl ws H) (hD : va_D A ws) (hS : va_S A s.heap H locs) (hdg : decode cc pc = .ok (.lreturn, 1)) (hv : v = r) (hw : ws = ws') :
    W p l e R s m args below meth c H locs cells slots (MQ below (hs_QL D tys r ws' A) args s cells slots A) (F0 m pc ls [.long v]) := by
  subst hv; subst hw
  exact W.lret hx hb hr (fun t ht hW => ⟨⟨v, (), rfl, rfl, by rw [ht]; exact hP, va_K.moved hW.alike hK, hD⟩, hS.F ht⟩) hS.2.2 hdg hlocks
theorem hs_vret (hx : p.tables.exec = Jvm.exec) (hb : c.code = cc) (hr : meth.sig.returnType = none) (hlocks : meth.locks = false) (hK : va_K D hs_cl tys s) (hP : va_P D hs_cl ws H) (hD : va_D A ws) (hS : va_S A s.heap H locs) (hdg : decode cc pc = .ok (.return_, 1)) (hw : ws = ws') :
    W p l e R s m args below meth c H locs cells slots (MQ below (hs_QV D tys ws' A) args s cells slots A) (F0 m pc ls []) := by
  subst hw
  exact W.vret hx hb hr (fun t ht hW => ⟨⟨(), rfl, trivial, by rw [ht]; exact hP, va_K.moved hW.alike hK, hD⟩, hS.F ht⟩) hS.2.2 hdg hlocks
/-- behind a call: the callee's cells are back among the caller's, in the order ws2 -/
theorem hs_back {H1 : Heap} (hP : va_P D hs_cl ws H) (hD : va_D A ws) (hF : ∀ q, va_A wc H.size q → A q) (isC isR isB : List Nat) (hC : isC.map (fun i => ws[i]?) = wc.map some) (hR : isR.map (fun i => ws[i]?) = wr.map some) (hn : va_nd isR = true) (hdis : ∀ i ∈ isR, i ∉ isC) (hB : isB.map (fun i => (wr ++ w1)[i]?) = ws2.map some) (hnB : va_nd isB = true)
    (hk : ∀ q : Nat, q < H.size → ¬ va_A wc H.size q → H1[q]? = H[q]?) (hP1 : va_P D hs_cl w1 H1) (hD1 : va_D (va_A wc H.size) w1) : va_P D hs_cl ws2 H1 ∧ va_D A ws2 := by
  obtain ⟨hP2, hD2⟩ := va_join (wr := wr) (w1 := w1) hP hD isC isR hC hR hn hdis hk hF hP1 hD1
  refine ⟨?_, hD2.sub isB hnB hB⟩
  intro k q hq
  obtain ⟨i, -, h2⟩ := va_in_of isB hB hq
  exact hP2 i q h2
theorem hs_calli {r : Int32} (hr : va_Run p l e R s m args below meth c H locs cells slots 0 0 (F0 m pc ls st0) rest (hs_QI D tc r w1 (va_A wc H.size) a) (va_A wc H.size)) (hP : va_P D hs_cl ws H) (hD : va_D A ws) (hS : va_S A H0 H locs) (hA : ∀ q, H0.size ≤ q → A q) (isC isR isB : List Nat) (hC : isC.map (fun i => ws[i]?) = wc.map some) (hR : isR.map (fun i => ws[i]?) = wr.map some) (hn : va_nd isR = true) (hdis : ∀ i ∈ isR, i ∉ isC) (hB : isB.map (fun i => (wr ++ w1)[i]?) = ws2.map some) (hnB : va_nd isB = true)
    (kk : ∀ (H1 : Heap) (locs1 : List Loc), va_P D hs_cl ws2 H1 → va_D A ws2 → va_S A H0 H1 locs1 → W p l e R s m args below meth c H1 locs1 cells slots Q (F0 m (pc + 3) ls (.int r :: rest))) : W p l e R s m args below meth c H locs cells slots Q (F0 m pc ls st0) := by
  have hF := va_free (wc := wc) hD hS hA isC hC
  refine va_calli hr hS (fun q _ h => hF q h) hF (fun r' u t H1 locs1 ht hvm hw hB1 hz1 hk1 hS1 => ?_)
  obtain ⟨hP1, -, hD1⟩ := hB1
  rw [ht] at hP1
  obtain ⟨hP2, hD2⟩ := hs_back hP hD hF isC isR isB hC hR hn hdis hB hnB hk1 hP1 hD1
  have hw' : r' = r := hw
  subst hw'
  exact kk H1 locs1 hP2 hD2 hS1
theorem hs_calll {r : Int64} (hr : va_Run p l e R s m args below meth c H locs cells slots 0 0 (F0 m pc ls st0) rest (hs_QL D tc r w1 (va_A wc H.size) a) (va_A wc H.size)) (hP : va_P D hs_cl ws H) (hD : va_D A ws) (hS : va_S A H0 H locs) (hA : ∀ q, H0.size ≤ q → A q) (isC isR isB : List Nat) (hC : isC.map (fun i => ws[i]?) = wc.map some) (hR : isR.map (fun i => ws[i]?) = wr.map some) (hn : va_nd isR = true) (hdis : ∀ i ∈ isR, i ∉ isC) (hB : isB.map (fun i => (wr ++ w1)[i]?) = ws2.map some) (hnB : va_nd isB = true)
    (kk : ∀ (H1 : Heap) (locs1 : List Loc), va_P D hs_cl ws2 H1 → va_D A ws2 → va_S A H0 H1 locs1 → W p l e R s m args below meth c H1 locs1 cells slots Q (F0 m (pc + 3) ls (.long r :: rest))) : W p l e R s m args below meth c H locs cells slots Q (F0 m pc ls st0) := by
  have hF := va_free (wc := wc) hD hS hA isC hC
  refine va_calll hr hS (fun q _ h => hF q h) hF (fun r' u t H1 locs1 ht hvm hw hB1 hz1 hk1 hS1 => ?_)
  obtain ⟨hP1, -, hD1⟩ := hB1
  rw [ht] at hP1
  obtain ⟨hP2, hD2⟩ := hs_back hP hD hF isC isR isB hC hR hn hdis hB hnB hk1 hP1 hD1
  have hw' : r' = r := hw
  subst hw'
  exact kk H1 locs1 hP2 hD2 hS1
theorem hs_callv (hr : va_Run p l e R s m args below meth c H locs cells slots 0 0 (F0 m pc ls st0) rest (hs_QV D tc w1 (va_A wc H.size) a) (va_A wc H.size)) (hP : va_P D hs_cl ws H) (hD : va_D A ws) (hS : va_S A H0 H locs) (hA : ∀ q, H0.size ≤ q → A q) (isC isR isB : List Nat) (hC : isC.map (fun i => ws[i]?) = wc.map some) (hR : isR.map (fun i => ws[i]?) = wr.map some) (hn : va_nd isR = true) (hdis : ∀ i ∈ isR, i ∉ isC) (hB : isB.map (fun i => (wr ++ w1)[i]?) = ws2.map some) (hnB : va_nd isB = true)
    (kk : ∀ (H1 : Heap) (locs1 : List Loc), va_P D hs_cl ws2 H1 → va_D A ws2 → va_S A H0 H1 locs1 → W p l e R s m args below meth c H1 locs1 cells slots Q (F0 m (pc + 3) ls rest)) : W p l e R s m args below meth c H locs cells slots Q (F0 m pc ls st0) := by
  have hF := va_free (wc := wc) hD hS hA isC hC
  refine va_callv hr hS (fun q _ h => hF q h) hF (fun u t H1 locs1 ht hvm hw hB1 hz1 hk1 hS1 => ?_)
  obtain ⟨hP1, -, hD1⟩ := hB1
  rw [ht] at hP1
  obtain ⟨hP2, hD2⟩ := hs_back hP hD hF isC isR isB hC hR hn hdis hB hnB hk1 hP1 hD1
  exact kk H1 locs1 hP2 hD2 hS1
theorem hs_callq {r : Option Nat} (hr : va_Run p l e R s m args below meth c H locs cells slots 0 0 (F0 m pc ls st0) rest (hs_QQ D tc r w1 (va_A wc H.size) a) (va_A wc H.size)) (hP : va_P D hs_cl ws H) (hD : va_D A ws) (hS : va_S A H0 H locs) (hA : ∀ q, H0.size ≤ q → A q) (isC isR isB : List Nat) (hC : isC.map (fun i => ws[i]?) = wc.map some) (hR : isR.map (fun i => ws[i]?) = wr.map some) (hn : va_nd isR = true) (hdis : ∀ i ∈ isR, i ∉ isC) (hB : isB.map (fun i => (wr ++ w1)[i]?) = ws2.map some) (hnB : va_nd isB = true)
    (kk : ∀ (H1 : Heap) (locs1 : List Loc), va_P D hs_cl ws2 H1 → va_D A ws2 → va_S A H0 H1 locs1 → W p l e R s m args below meth c H1 locs1 cells slots Q (F0 m (pc + 3) ls (va_rf r :: rest))) : W p l e R s m args below meth c H locs cells slots Q (F0 m pc ls st0) := by
  have hF := va_free (wc := wc) hD hS hA isC hC
  refine va_callq hr hS (fun q _ h => hF q h) hF (fun r' u t H1 locs1 ht hvm hw hB1 hz1 hk1 hS1 => ?_)
  obtain ⟨hP1, -, hD1⟩ := hB1
  rw [ht] at hP1
  obtain ⟨hP2, hD2⟩ := hs_back hP hD hF isC isR isB hC hR hn hdis hB hnB hk1 hP1 hD1
  have hw' : r' = r := hw
  subst hw'
  exact kk H1 locs1 hP2 hD2 hS1
/-! a call whose callee has the caller's whole world -/
theorem hs_free0 (hD : va_D A ws) (hS : va_S A H0 H locs) (hA : ∀ q, H0.size ≤ q → A q) : ∀ q, va_A ws H.size q → A q := by
  intro q h
  rcases h with ⟨k, e, h⟩ | h
  · exact hD.2 k _ h
  · exact hA q (Nat.le_trans hS.1 h)
theorem hs_calli0 {r : Int32} (hr : va_Run p l e R s m args below meth c H locs cells slots 0 0 (F0 m pc ls st0) rest (hs_QI D tc r w1 (va_A ws H.size) a) (va_A ws H.size)) (hD : va_D A ws) (hS : va_S A H0 H locs) (hA : ∀ q, H0.size ≤ q → A q)
    (kk : ∀ (H1 : Heap) (locs1 : List Loc), va_P D hs_cl w1 H1 → va_D A w1 → va_S A H0 H1 locs1 → W p l e R s m args below meth c H1 locs1 cells slots Q (F0 m (pc + 3) ls (.int r :: rest))) : W p l e R s m args below meth c H locs cells slots Q (F0 m pc ls st0) := by
  have hF := hs_free0 hD hS hA
  refine va_calli hr hS (fun q _ h => hF q h) hF (fun r' u t H1 locs1 ht hvm hw hB1 hz1 hk1 hS1 => ?_)
  obtain ⟨hP1, -, hD1⟩ := hB1
  rw [ht] at hP1
  have hw' : r' = r := hw
  subst hw'
  exact kk H1 locs1 hP1 (hD1.weaken (fun k q _ h => hF q.1 h)) hS1
theorem hs_callv0 (hr : va_Run p l e R s m args below meth c H locs cells slots 0 0 (F0 m pc ls st0) rest (hs_QV D tc w1 (va_A ws H.size) a) (va_A ws H.size)) (hD : va_D A ws) (hS : va_S A H0 H locs) (hA : ∀ q, H0.size ≤ q → A q)
    (kk : ∀ (H1 : Heap) (locs1 : List Loc), va_P D hs_cl w1 H1 → va_D A w1 → va_S A H0 H1 locs1 → W p l e R s m args below meth c H1 locs1 cells slots Q (F0 m (pc + 3) ls rest)) : W p l e R s m args below meth c H locs cells slots Q (F0 m pc ls st0) := by
  have hF := hs_free0 hD hS hA
  refine va_callv hr hS (fun q _ h => hF q h) hF (fun u t H1 locs1 ht hvm hw hB1 hz1 hk1 hS1 => ?_)
  obtain ⟨hP1, -, hD1⟩ := hB1
  rw [ht] at hP1
  exact kk H1 locs1 hP1 (hD1.weaken (fun k q _ h => hF q.1 h)) hS1
/-! what a callee asks of the tables, once for each -/
def hs_cV (y : MethodName) (cc : ByteArray) (n : Nat) (ret : Option FieldType) (k : Nat) : Prop := Cond.code y cc n ret ∈ hs_gt ∧ Cond.instanceMethod y ∈ hs_gt ∧ Cond.selects y.cls y y ∈ hs_gt ∧ Cond.initialized y.cls ∈ hs_gt ∧ (y.cls ≠ "java/lang/invoke/MethodHandle" ∧ y.cls ≠ "java/lang/invoke/VarHandle" ∧ (parseMethodDescriptor y.desc).map (fun d => d.parameters.length) = some k)
def hs_cS (y : MethodName) (cc : ByteArray) (n : Nat) (ret : Option FieldType) (k : Nat) : Prop := Cond.code y cc n ret ∈ hs_gt ∧ Cond.static y ∈ hs_gt ∧ Cond.initialized y.cls ∈ hs_gt ∧ (y.cls ≠ "java/lang/invoke/MethodHandle" ∧ y.cls ≠ "java/lang/invoke/VarHandle" ∧ (parseMethodDescriptor y.desc).map (fun d => d.parameters.length) = some k)
def hs_cN (y : MethodName) (cc : ByteArray) (n : Nat) (k : Nat) : Prop := Cond.code y cc n none ∈ hs_gt ∧ Cond.instanceMethod y ∈ hs_gt ∧ Cond.initialized y.cls ∈ hs_gt ∧ y.name = "<init>" ∧ (y.cls ≠ "java/lang/invoke/MethodHandle" ∧ y.cls ≠ "java/lang/invoke/VarHandle" ∧ (parseMethodDescriptor y.desc).map (fun d => d.parameters.length) = some k)
/-- a method by the name x, declared by owner, that a receiver of the class C answers by y -/
def hs_cU (C owner : String) (x y : MethodName) (cc : ByteArray) (n : Nat) (ret : Option FieldType) (k : Nat) : Prop := Cond.code y cc n ret ∈ hs_gt ∧ Cond.instanceMethod y ∈ hs_gt ∧ Cond.selects C x y ∈ hs_gt ∧ Cond.initialized y.cls ∈ hs_gt ∧ Cond.sameMethod x.cls owner x.name x.desc ∈ hs_gt ∧ Cond.instanceMethod ⟨owner, x.name, x.desc⟩ ∈ hs_gt ∧ (∃ b0 m0 r0, Cond.code ⟨owner, x.name, x.desc⟩ b0 m0 r0 ∈ hs_gt) ∧
  (owner ≠ "java/lang/invoke/MethodHandle" ∧ owner ≠ "java/lang/invoke/VarHandle" ∧ (parseMethodDescriptor x.desc).map (fun d => d.parameters.length) = some k)
theorem hs_blind {D : va_G} {tys : List (ClassId × FieldType)} {av : List Value} {ws : va_W} {sz : Nat} : FrameBlind (va_Pc av (hs_pre D tys ws sz)) := fun a U g mk q => by
  obtain ⟨q0, q1, qP, qK, qD⟩ := q
  exact ⟨q0, q1, qP, va_K.moved (u := U) (U := U.calling g mk a) (Vm.Alike.refl U.vm) qK, qD⟩
theorem hs_enter {H : Heap} (hK : va_K D hs_cl tc s) (hP : va_P D hs_cl wc H) (hD : va_D A wc) {av : List Value} : ∀ U : State, U.heap = H → s.WarmedH U.vm → va_Pc av (hs_pre D tc wc H.size) av.toArray U := fun U hU hW => ⟨rfl, by rw [hU], by rw [hU]; exact hP, va_K.moved hW.alike hK, hD.weaken (fun _ _ _ _ => trivial)⟩
theorem hs_runV {y : MethodName} {cy : ByteArray} {n nL k index q0 ci N : Nat} {ret : Option FieldType} {rm : Room} {As rest : List Value} {b : Nat} {Qf : (Nat → Prop) → Array Value → State → Outcome → State → Prop} {own : String} {T : u_T} {fs : List Value} (S : CallFix p m c cc nL s args hs_gt own) (hc : hs_cV y cy n ret k) (hlink : Cond.methodLink own index y ∈ hs_gt)
    (hM : CM l D y cy n ret rm tc (.ref b :: As) wc Qf) (hK : va_K D hs_cl tc s) (hP : va_P D hs_cl wc H) (hD : va_D A wc) (he : wc[q0]? = some (b, .inr (ci, fs))) (hcl : hs_cl[ci]? = some (y.cls, T, N)) (hR : rm.frames + 1 ≤ R.frames ∧ 8 + (n + 11) + rm.locals ≤ R.locals)
    (hn : As.length = k) (hsize : ls.size = nL) (hst : st0 = As.reverse ++ .ref b :: rest) (hW : (rest.map fun v => v.category).sum ≤ 8) (hdg : decode cc pc = .ok (.invokevirtual index, 3)) (hf : cells + rm.cells ≤ R.cells ∧ slots + rm.slots ≤ R.slots) :
    va_Run p l e R s m args below meth c H locs cells slots rm.cells rm.slots (F0 m pc ls st0) rest (Qf (va_A wc H.size) (Value.ref b :: As).toArray) (va_A wc H.size) := by
  obtain ⟨h1, h2, h3, h4, h5⟩ := hc
  refine va_runV (C := y.cls) S (hM H.size) (cwV k S.2.2.2.2 (hs_giA ?_ (hs_gi h1)) rfl rfl rfl ⟨rfl, h5⟩ hR) ⟨hs_blind, va_recv hK hP hcl he, hs_enter hK hP hD⟩ rfl hn hsize hst (lv_room hW) hdg hf
  intro w hw
  simp only [List.mem_cons, List.not_mem_nil, or_false] at hw
  rcases hw with rfl | rfl | rfl | rfl
  · exact hlink
  · exact h2
  · exact h3
  · exact h4
theorem hs_runS {y : MethodName} {cy : ByteArray} {n nL k index : Nat} {ret : Option FieldType} {rm : Room} {As rest : List Value} {Qf : (Nat → Prop) → Array Value → State → Outcome → State → Prop} {own : String} (S : CallFix p m c cc nL s args hs_gt own) (hc : hs_cS y cy n ret k) (hlink : Cond.methodLink own index y ∈ hs_gt)
    (hM : CM l D y cy n ret rm tc As wc Qf) (hK : va_K D hs_cl tc s) (hP : va_P D hs_cl wc H) (hD : va_D A wc) (hR : rm.frames + 1 ≤ R.frames ∧ 8 + (n + 11) + rm.locals ≤ R.locals)
    (hn : As.length = k) (hsize : ls.size = nL) (hst : st0 = As.reverse ++ rest) (hW : (rest.map fun v => v.category).sum ≤ 8) (hdg : decode cc pc = .ok (.invokestatic index, 3)) (hf : cells + rm.cells ≤ R.cells ∧ slots + rm.slots ≤ R.slots) :
    va_Run p l e R s m args below meth c H locs cells slots rm.cells rm.slots (F0 m pc ls st0) rest (Qf (va_A wc H.size) As.toArray) (va_A wc H.size) := by
  obtain ⟨h1, h2, h4, h5⟩ := hc
  refine va_runS S (hM H.size) (va_cwS k S.2.2.2.2 (hs_giA ?_ (hs_gi h1)) rfl rfl rfl h5 hR) ⟨hs_blind, hs_enter hK hP hD⟩ rfl hn hsize hst (lv_room hW) hdg hf
  intro w hw
  simp only [List.mem_cons, List.not_mem_nil, or_false] at hw
  rcases hw with rfl | rfl | rfl
  · exact hlink
  · exact h2
  · exact h4
theorem hs_runI {y : MethodName} {cy : ByteArray} {n nL k index : Nat} {rm : Room} {As rest : List Value} {b : Nat} {Qf : (Nat → Prop) → Array Value → State → Outcome → State → Prop} {own : String} (S : CallFix p m c cc nL s args hs_gt own) (hc : hs_cN y cy n k) (hlink : Cond.methodLink own index y ∈ hs_gt)
    (hM : CM l D y cy n none rm tc (.ref b :: As) wc Qf) (hK : va_K D hs_cl tc s) (hP : va_P D hs_cl wc H) (hD : va_D A wc) (hR : rm.frames + 1 ≤ R.frames ∧ 8 + (n + 11) + rm.locals ≤ R.locals)
    (hn : As.length = k) (hsize : ls.size = nL) (hst : st0 = As.reverse ++ .ref b :: rest) (hW : (rest.map fun v => v.category).sum ≤ 8) (hdg : decode cc pc = .ok (.invokespecial index, 3)) (hf : cells + rm.cells ≤ R.cells ∧ slots + rm.slots ≤ R.slots) :
    va_Run p l e R s m args below meth c H locs cells slots rm.cells rm.slots (F0 m pc ls st0) rest (Qf (va_A wc H.size) (Value.ref b :: As).toArray) (va_A wc H.size) := by
  obtain ⟨h1, h2, h4, h5, h6⟩ := hc
  have ht := S.2.2.2.2
  exact va_runI S (hM H.size) (cwI k ht (hs_gi h1) rfl rfl rfl (ht _ h4) (ht _ hlink) (ht _ h2) h5 h6 hR) ⟨hs_blind, hs_enter hK hP hD⟩ rfl hn hsize hst (lv_room hW) hdg hf
theorem hs_runU {C owner : String} {x y : MethodName} {cy : ByteArray} {n nL k index q0 ci N : Nat} {ret : Option FieldType} {rm : Room} {As rest : List Value} {b : Nat} {Qf : (Nat → Prop) → Array Value → State → Outcome → State → Prop} {own : String} {T : u_T} {fs : List Value} (S : CallFix p m c cc nL s args hs_gt own) (hc : hs_cU C owner x y cy n ret k) (hlink : Cond.methodLink own index x ∈ hs_gt)
    (hM : CM l D y cy n ret rm tc (.ref b :: As) wc Qf) (hK : va_K D hs_cl tc s) (hP : va_P D hs_cl wc H) (hD : va_D A wc) (he : wc[q0]? = some (b, .inr (ci, fs))) (hcl : hs_cl[ci]? = some (C, T, N)) (hR : rm.frames + 1 ≤ R.frames ∧ 8 + (n + 11) + rm.locals ≤ R.locals)
    (hn : As.length = k) (hsize : ls.size = nL) (hst : st0 = As.reverse ++ .ref b :: rest) (hW : (rest.map fun v => v.category).sum ≤ 8) (hdg : decode cc pc = .ok (.invokevirtual index, 3)) (hf : cells + rm.cells ≤ R.cells ∧ slots + rm.slots ≤ R.slots) :
    va_Run p l e R s m args below meth c H locs cells slots rm.cells rm.slots (F0 m pc ls st0) rest (Qf (va_A wc H.size) (Value.ref b :: As).toArray) (va_A wc H.size) := by
  obtain ⟨h1, h2, h3, h4, h5, h6, ⟨b0, m0, r0, h7⟩, h8⟩ := hc
  refine va_runU (C := C) (owner := owner) S (hM H.size) (va_cwO k S.2.2.2.2 (hs_giA ?_ (hs_gi h1)) rfl rfl rfl h7 h8 hR) ⟨hs_blind, va_recv hK hP hcl he, hs_enter hK hP hD⟩ rfl hn hsize hst (lv_room hW) hdg hf
  intro w hw
  simp only [List.mem_cons, List.not_mem_nil, or_false] at hw
  rcases hw with rfl | rfl | rfl | rfl | rfl | rfl
  · exact hlink
  · exact h5
  · exact h6
  · exact h3
  · exact h2
  · exact h4
end HSR
/-! a super call whose method is declared further up -/
theorem hs_subMono (vm : Vm) : ∀ (n : Nat) (c t : ClassId), vm.isSubclassAux n c t = true → ∀ m, n ≤ m → vm.isSubclassAux m c t = true := by
  intro n
  induction n with
  | zero => intro c t h; simp [Vm.isSubclassAux] at h
  | succ n ih =>
    intro c t h m hm
    obtain ⟨m, rfl⟩ : ∃ k, m = k + 1 := ⟨m - 1, by omega⟩
    unfold Vm.isSubclassAux at h ⊢
    by_cases hct : c = t
    · subst hct
      simp
    · have hne : (c == t) = false := by simpa using hct
      simp only [hne, Bool.false_or] at h ⊢
      cases hk : vm.classes[c]? with
      | none => simp [hk] at h
      | some k =>
        simp only [hk] at h ⊢
        cases hs : k.super with
        | none => simp [hs] at h
        | some q =>
          simp only [hs] at h ⊢
          exact ih q t h m (by omega)
theorem hs_subStep {vm : Vm} {n : Nat} {c q t : ClassId} {k : Class} (hk : vm.classes[c]? = some k) (hs : k.super = some q) (h : vm.isSubclassAux n q t = true) : vm.isSubclassAux (n + 1) c t = true := by
  unfold Vm.isSubclassAux
  simp [hk, hs, h]
theorem hs_lt {s : State} {A : String} {a : Nat} (h : s.vm.findClass A = some a) : a < s.vm.classes.size := by
  obtain ⟨k, hk, -⟩ := Vm.findClass_spec h
  exact (Array.getElem?_eq_some_iff.mp hk).1
theorem hs_apart {s : State} {A B : String} {a b : Nat} (ha : s.vm.findClass A = some a) (hb : s.vm.findClass B = some b) (h : A ≠ B) : a ≠ b := by
  intro e
  subst e
  obtain ⟨k, hk, hn⟩ := Vm.findClass_spec ha
  obtain ⟨k', hk', hn'⟩ := Vm.findClass_spec hb
  cases hk.symm.trans hk'
  exact h (hn.symm.trans hn')
/-- A is below B by the words of the tables -/
def hs_below (s : State) (A B : String) : Prop := ∀ a b : Nat, s.vm.findClass A = some a → s.vm.findClass B = some b → s.vm.isSubclass a b = true
theorem hs_below0 {s : State} {A : String} : hs_below s A A := fun a b ha hb => by
  cases ha.symm.trans hb
  simp [Vm.isSubclass, Vm.isSubclassAux]
theorem hs_below1 {s : State} {args : Array Value} {A B : String} (h : (Cond.superclass A B).before args s = true) : hs_below s A B := fun a b ha hb => by
  obtain ⟨q, k, kp, hq, hk, -, hs, -⟩ := Cond.superclass_spec ha h
  cases hq.symm.trans hb
  have h1 : s.vm.isSubclassAux 1 b b = true := by simp [Vm.isSubclassAux]
  exact hs_subMono _ _ _ _ (hs_subStep hk hs h1) _ (by have := hs_lt ha; omega)
theorem hs_below2 {s : State} {args : Array Value} {A B C : String} (h : (Cond.superclass A B).before args s = true) (h2 : (Cond.superclass B C).before args s = true) (hAB : A ≠ B) : hs_below s A C := fun a c ha hc => by
  obtain ⟨q, k, kp, hq, hk, -, hs, -⟩ := Cond.superclass_spec ha h
  obtain ⟨q2, k2, kp2, hq2, hk2, -, hs2, -⟩ := Cond.superclass_spec hq h2
  cases hq2.symm.trans hc
  have h1 : s.vm.isSubclassAux 1 c c = true := by simp [Vm.isSubclassAux]
  exact hs_subMono _ _ _ _ (hs_subStep hk hs (hs_subStep hk2 hs2 h1)) _ (by have := hs_lt ha; have := hs_lt hq; have := hs_apart ha hq hAB; omega)
theorem hs_below3 {s : State} {args : Array Value} {A B C E : String} (h : (Cond.superclass A B).before args s = true) (h2 : (Cond.superclass B C).before args s = true) (h3 : (Cond.superclass C E).before args s = true) (hAB : A ≠ B) (hAC : A ≠ C) (hBC : B ≠ C) : hs_below s A E := fun a c ha hc => by
  obtain ⟨q, k, kp, hq, hk, -, hs, -⟩ := Cond.superclass_spec ha h
  obtain ⟨q2, k2, kp2, hq2, hk2, -, hs2, -⟩ := Cond.superclass_spec hq h2
  obtain ⟨q3, k3, kp3, hq3, hk3, -, hs3, -⟩ := Cond.superclass_spec hq2 h3
  cases hq3.symm.trans hc
  have h1 : s.vm.isSubclassAux 1 c c = true := by simp [Vm.isSubclassAux]
  exact hs_subMono _ _ _ _ (hs_subStep hk hs (hs_subStep hk2 hs2 (hs_subStep hk3 hs3 h1))) _ (by have := hs_lt ha; have := hs_lt hq; have := hs_lt hq2; have := hs_apart ha hq hAB; have := hs_apart ha hq2 hAC; have := hs_apart hq hq2 hBC; omega)
def hs_cU2 (own owner : String) (x y : MethodName) (cc : ByteArray) (n : Nat) (ret : Option FieldType) (k : Nat) : Prop := Cond.code y cc n ret ∈ hs_gt ∧ Cond.instanceMethod y ∈ hs_gt ∧ Cond.initialized y.cls ∈ hs_gt ∧ Cond.sameMethod x.cls owner x.name x.desc ∈ hs_gt ∧ Cond.superclass own x.cls ∈ hs_gt ∧ y = ⟨owner, x.name, x.desc⟩ ∧ x.name ≠ "<init>" ∧ (parseMethodDescriptor y.desc).map (fun d => d.parameters.length) = some k
section HSU
variable {p : Program} {l : Launch} {e : Env} {R : Room} {s : State} {m : MethodId} {args : Array Value} {below : List Frame} {meth : Method} {c : Code} {H : Heap} {locs : List Loc} {cells slots : Nat} {Q : State → Prop}
variable {cc : ByteArray} {pc : Nat} {ls : Array Slot} {rest st0 : List Value} {D : va_G} {A : Nat → Prop} {tc : List (ClassId × FieldType)} {wc : va_W}
theorem hs_runSU {own owner C : String} {x y : MethodName} {cy : ByteArray} {n nL k index q0 ci N : Nat} {ret : Option FieldType} {rm : Room} {As rest : List Value} {b : Nat} {Qf : (Nat → Prop) → Array Value → State → Outcome → State → Prop} {T : u_T} {fs : List Value} (S : CallFix p m c cc nL s args hs_gt own) (hc : hs_cU2 own owner x y cy n ret k) (hbel : hs_below s x.cls owner) (hlink : Cond.methodLink own index x ∈ hs_gt)
    (hM : CM l D y cy n ret rm tc (.ref b :: As) wc Qf) (hK : va_K D hs_cl tc s) (hP : va_P D hs_cl wc H) (hD : va_D A wc) (he : wc[q0]? = some (b, .inr (ci, fs))) (hcl : hs_cl[ci]? = some (C, T, N)) (hR : rm.frames + 1 ≤ R.frames ∧ 8 + (n + 11) + rm.locals ≤ R.locals)
    (hn : As.length = k) (hsize : ls.size = nL) (hst : st0 = As.reverse ++ .ref b :: rest) (hW : (rest.map fun v => v.category).sum ≤ 8) (hdg : decode cc pc = .ok (.invokespecial index, 3)) (hf : cells + rm.cells ≤ R.cells ∧ slots + rm.slots ≤ R.slots) :
    va_Run p l e R s m args below meth c H locs cells slots rm.cells rm.slots (F0 m pc ls st0) rest (Qf (va_A wc H.size) (Value.ref b :: As).toArray) (va_A wc H.size) := by
  obtain ⟨h1, h2, h4, h5, h6, hyx, hno, hd⟩ := hc
  obtain ⟨hx, hb, hml, ho, ht⟩ := S
  have hini := ht _ h4
  have hcode := ht _ h1
  have hws : ∀ w ∈ hs_wo y cy n ret, ∀ (a' : Array Value) (U : State), s.WarmedH U.vm → w.before a' U = true := pay_in ht (hs_gi h1)
  have hKb : Back l R p e below s args y 3 8 (PreOf R rm.cells rm.slots (va_Pc (.ref b :: As) (hs_pre D tc wc H.size))) (PostOf (Qf (va_A wc H.size)) rm.cells rm.slots (va_A wc H.size)) := back_of (bytes := cy) (maxL := n) (ret := ret) (hM H.size) hs_blind rfl rfl hR.1 hR.2 hws List.mem_cons_self (fun a' U hW => word_at hW (Or.inl (by first | rfl | simp [Cond.onTables, Cond.keeps, Cond.steady])) hini)
  obtain ⟨cellB, hcB, hoB, hclB⟩ := va_recv hK hP hcl he
  obtain ⟨kB, hkB, -⟩ := Vm.findClass_spec hclB
  obtain ⟨mk, methM, hnamed, hmethM, hstM, habM⟩ := Cond.instanceMethod_spec (ht _ h2)
  obtain ⟨methM', cM, hmethM', -, -, -, -, -, -, hsigM⟩ := Cond.code_spec hnamed hcode
  cases hmethM.symm.trans hmethM'
  obtain ⟨ps, dk, kp, hps, hdk, hkp, hsuper, -, -, hnid⟩ := Cond.superclass_spec ho (ht _ h6)
  have hn2 : s.methodNamed? ⟨owner, x.name, x.desc⟩ = some mk := by rw [← hyx]; exact hnamed
  have hsub : s.vm.isSubclass ps mk.cls = true := hbel ps mk.cls hps (findClass_of_methodNamed hn2)
  have hlen : As.length = methM.sig.parameters.length := by
    rw [hsigM] at hd
    exact hn.trans (Option.some.inj hd).symm
  intro T0 hT X
  obtain ⟨vm₁, X₁, hstep₁⟩ := X.invokespecialUp hx ho (ht _ hlink) (ht _ h5) hn2 hmethM hstM habM hno hdk hnid hps hsuper hsub (a := b) (cell := cellB) (by rw [hT]; exact hcB)
    (fun z h => by rw [h] at hoB; cases hoB) hkB (g := F0 m pc ls st0) rfl (argsL := As) (rest := rest) hlen hst (by rw [hb]; exact hdg)
  obtain ⟨v, ⟨U', l2, c2, s2⟩, X', hpost, hsteps⟩ := hKb m meth c ⟨T0.setVm vm₁, locs, cells, slots⟩ { F0 m pc ls st0 with stack := rest } (.invokespecial index) mk (Value.ref b :: As).toArray X₁ rfl (hsize.trans hml.symm) (by rw [hb]; exact hdg) (lv_room (m := m) (pc := pc) (ls := ls) (rest := rest) hW) (X₁.named hnamed) ⟨hf.1, hf.2, hs_enter hK hP hD (T0.setVm vm₁) hT X₁.warmed⟩
  obtain ⟨g', mk', t, L, e1, e2, hq, r1, hL, r2, r3⟩ := hpost
  dsimp only [Pt.U, Pt.locs, Pt.cells, Pt.slots] at X' e1 e2 r1 r2 r3 hsteps hq
  subst r1; subst r2; subst r3
  exact ⟨v, (T0.setVm vm₁).calling g' mk' (Value.ref b :: As).toArray, t, U', L, hT, X', hL, e1, e2, hq, fun target h => hstep₁ _ (by rw [doInvoke_state]; exact hsteps.trans h)⟩
end HSU
end
section
/-! the pure words: a trace, the bodies by kind, the cells -/
abbrev TS : Type := Int32 × Int32 × (Nat → Int32)
def lvT (n : Int32) (st : TS) : TS := if st.2.1 = 0 then st else if 8 ≤ st.1 then st else (st.1 + 1, st.2.1, upd st.2.2 st.1.toNatClampNeg n)
def lvs (ns : List Int32) (st : TS) : TS := ns.foldl (fun s n => lvT n s) st
def okT (st : TS) : Prop := ¬ st.1 < 0
theorem okT_lv (n : Int32) {st : TS} (h : okT st) : okT (lvT n st) := by
  unfold lvT
  by_cases h1 : st.2.1 = 0
  · rw [if_pos h1]; exact h
  · rw [if_neg h1]
    by_cases h2 : 8 ≤ st.1
    · rw [if_pos h2]; exact h
    · rw [if_neg h2]
      intro q
      have h' : ¬ st.1 < 0 := h
      rw [Int32.lt_iff_toInt_lt] at h' q
      rw [Int32.le_iff_toInt_le] at h2
      have e8 : (8 : Int32).toInt = 8 := by decide
      have e0 : (0 : Int32).toInt = 0 := by decide
      have e1 : (1 : Int32).toInt = 1 := by decide
      rw [e8] at h2
      rw [e0] at h' q
      have q' : (st.1 + 1).toInt < 0 := q
      rw [Int32.toInt_add, e1] at q'
      have hb : (st.1.toInt + 1).bmod (2 ^ 32) = st.1.toInt + 1 := by
        rw [Int.bmod_eq_of_le] <;> omega
      rw [hb] at q'
      omega
theorem okT_lvs : ∀ (ns : List Int32) {st : TS}, okT st → okT (lvs ns st)
  | [], _, h => h
  | n :: ns, _, h => okT_lvs ns (okT_lv n h)
theorem lvT_off {n : Int32} {st : TS} (h : st.2.1 = 0) : lvT n st = st := by unfold lvT; rw [if_pos h]
theorem lvs_off : ∀ (ns : List Int32) {st : TS}, st.2.1 = 0 → lvs ns st = st
  | [], _, _ => rfl
  | n :: ns, st, h => by
    show lvs ns (lvT n st) = st
    rw [lvT_off h]
    exact lvs_off ns h
theorem okT_in {st : TS} (h : okT st) (h8 : ¬ 8 ≤ st.1) : vp_in st.1 8 := by
  rw [vp_in_iff]
  have h' : ¬ st.1 < 0 := h
  rw [Int32.lt_iff_toInt_lt] at h'
  rw [Int32.le_iff_toInt_le] at h8
  have e8 : (8 : Int32).toInt = 8 := by decide
  have e0 : (0 : Int32).toInt = 0 := by decide
  rw [e8] at h8
  rw [e0] at h'
  omega
def chN (k : Nat) : List Int32 := match k with
  | 2 => [2, 1]
  | 3 => [2, 1]
  | 4 => [3, 2, 1]
  | 6 => [4, 1]
  | _ => [1]
def chF (k : Nat) (rt vl d : Int32) : Int32 := match k with
  | 2 => rt * d + 3 * d
  | 3 => rt * d + 3 * d
  | 4 => 2 * (rt * d + 3 * d) - 5 * (if 0 < d - 7 then d - 7 else 0)
  | 6 => rt * d + vl / 100
  | _ => rt * d
def weN (k : Nat) : List Int32 := match k with
  | 4 => [12, 11]
  | 5 => [13, 11]
  | 6 => [13, 11]
  | _ => [11]
def weF (k : Nat) (hr d : Int32) : Int32 := match k with
  | 4 => d + hr / 10
  | 5 => 3 * d
  | 6 => 3 * d
  | _ => d
def ckN (k : Nat) : List Int32 := match k with
  | 0 => [20]
  | 3 => [22, 21, 20]
  | 4 => [22, 21, 20]
  | 6 => [23, 21, 20]
  | _ => [21, 20]
def ckF (k : Nat) (hr : Int32) : Int32 := match k with
  | 0 => hr / 10
  | 3 => hr / 10 + 1 + 2
  | 4 => hr / 10 + 1 + 2
  | 6 => hr / 10 + 1 + 4
  | _ => hr / 10 + 1
def dpN (k : Nat) : List Int32 := match k with
  | 0 => []
  | 4 => [32, 31]
  | _ => [31]
def dpF (k : Nat) (vl : Int32) : Int32 := match k with
  | 0 => 0
  | 4 => vl / 2 + 500
  | _ => vl / 2
def pmN (k : Nat) : List Int32 := match k with
  | 2 => [41, 31]
  | 3 => [42, 22, 21, 20, 31]
  | 4 => [42, 22, 21, 20, 32, 31]
  | _ => []
def pmF (k : Nat) (vl hr d : Int32) : Int32 := match k with
  | 2 => d * (vl / 2 / 100)
  | 3 => d * (hr / 10 + 1 + 2 + vl / 2 / 200)
  | 4 => d * (hr / 10 + 1 + 2 + (vl / 2 + 500) / 200)
  | _ => 0
def isS (k : Nat) : Int32 := match k with
  | 3 => 1
  | 4 => 1
  | 5 => 1
  | 6 => 1
  | _ => 0
def isI (k : Nat) : Int32 := match k with
  | 2 => 1
  | 3 => 1
  | 4 => 1
  | _ => 0
def hasD (k : Nat) : Int32 := match k with
  | 0 => 0
  | _ => 1
def duN (k : Nat) : List Int32 := if isS k = 0 then [] else 43 :: weN k
def duF (k : Nat) (hr d : Int32) : Int32 := if isS k = 0 then 0 else if hr + weF k hr d ≤ 60 then 0 else 1
/-- within: a from b to c -/
def wi (a b c : Int32) : Int32 := if a < b then 0 else if c < a then 0 else 1
def tAt (a : Nat → Option Nat) (t : Int32) : Option Nat := if t < 0 then none else if 24 ≤ t then none else a t.toNatClampNeg
def payF (acc : Nat → Int64) (c x : Int32) : Nat → Int64 := if wi c 0 5 = 0 then acc else vp_updL acc c.toNatClampNeg (acc c.toNatClampNeg + x.toInt64)
def hasA (k : Nat) (w : Int32) : Int32 := if w = 3 then hasD k else if w = 4 then isI k else if w = 5 then isS k else 1
def ansF (k : Nat) (w rt vl hr d : Int32) : Int32 := if w = 0 then chF k rt vl d else if w = 1 then weF k hr d else if w = 2 then ckF k hr else if w = 3 then dpF k vl else if w = 4 then pmF k vl hr d else if w = 5 then duF k hr d else -2
def ansN (k : Nat) (w : Int32) : List Int32 := if w = 0 then chN k else if w = 1 then weN k else if w = 2 then ckN k else if w = 3 then dpN k else if w = 4 then pmN k else if w = 5 then duN k else []
theorem wi_in {c x : Int32} {n : Nat} (hx : x.toInt = n) (hn : n + 1 < 2 ^ 31) (h : ¬ wi c 0 x = 0) : vp_in c (n + 1) := by
  unfold wi at h
  rw [vp_in_iff]
  by_cases h1 : c < 0
  · rw [if_pos h1] at h; exact absurd rfl h
  · rw [if_neg h1] at h
    by_cases h2 : x < c
    · rw [if_pos h2] at h; exact absurd rfl h
    · rw [Int32.lt_iff_toInt_lt] at h1 h2
      have e0 : (0 : Int32).toInt = 0 := by decide
      rw [e0] at h1
      rw [hx] at h2
      omega
theorem hs_in24 {t : Int32} (h1 : ¬ t < 0) (h2 : ¬ 24 ≤ t) : vp_in t 24 := by
  rw [vp_in_iff]
  rw [Int32.lt_iff_toInt_lt] at h1
  rw [Int32.le_iff_toInt_le] at h2
  have e8 : (24 : Int32).toInt = 24 := by decide
  have e0 : (0 : Int32).toInt = 0 := by decide
  rw [e8] at h2
  rw [e0] at h1
  omega
abbrev tyS (cN cT cJ : ClassId) : List (ClassId × FieldType) := [(cN, .int), (cT, .object RX5), (cJ, .long)]
def tlE (k tr : Nat) (kd rt vl hr hw cu si : Int32) : va_E := .inr (kc k, [.ref tr, .int kd, .int rt, .int vl, .int hr, .int hw, .int cu, .int si])
def trE (nb : Nat) (st : TS) : va_E := .inr (6, [.ref nb, .int st.1, .int st.2.1])
def nbE (cN : ClassId) (st : TS) : va_E := .inl (cN, 8, .inl st.2.2)
def shE (tr ta ac : Nat) (tc td cs hi : Int32) : va_E := .inr (8, [.ref tr, .ref ta, .ref ac, .int tc, .int td, .int cs, .int hi])
def taE (cT : ClassId) (a : Nat → Option Nat) : va_E := .inl (cT, 24, .inr (.inr (.inr (.inr a))))
def acE (cJ : ClassId) (acc : Nat → Int64) : va_E := .inl (cJ, 6, .inr (.inl acc))
/-! the reference's cells -/
def mE (ad : Nat → Nat) (tn td cs hd tc it : Int32) : va_E := .inr (9, [.int tn, .ref (ad 1), .ref (ad 2), .ref (ad 3), .ref (ad 4), .ref (ad 5), .ref (ad 6), .ref (ad 7), .ref (ad 8), .int td, .int cs, .int hd, .ref (ad 9), .int tc, .int it])
def miE (c : ClassId) (n : Nat) (f : Nat → Int32) : va_E := .inl (c, n, .inl f)
abbrev tyM (cd : Nat → ClassId) : List (ClassId × FieldType) := [(cd 1, .int), (cd 2, .int), (cd 3, .int), (cd 4, .int), (cd 5, .int), (cd 6, .int), (cd 7, .int), (cd 8, .long), (cd 9, .int)]
def mW (o : Nat) (ad : Nat → Nat) (cd : Nat → ClassId) (tn td cs hd : Int32) (kd rt vl hr hw cu si : Nat → Int32) (acc : Nat → Int64) (st : TS) : va_W :=
  [(o, mE ad tn td cs hd st.1 st.2.1), (ad 1, miE (cd 1) 24 kd), (ad 2, miE (cd 2) 24 rt), (ad 3, miE (cd 3) 24 vl), (ad 4, miE (cd 4) 24 hr), (ad 5, miE (cd 5) 24 hw), (ad 6, miE (cd 6) 24 cu), (ad 7, miE (cd 7) 24 si), (ad 8, acE (cd 8) acc), (ad 9, miE (cd 9) 16 st.2.2)]
section HSQ
variable {p : Program} {l : Launch} {e : Env} {R : Room} {s : State} {m : MethodId} {args : Array Value} {below : List Frame} {meth : Method} {c : Code} {H : Heap} {locs : List Loc} {cells slots : Nat} {Q : State → Prop}
variable {cc : ByteArray} {pc : Nat} {ls : Array Slot} {D : va_G} {A : Nat → Prop} {tys : List (ClassId × FieldType)} {ws ws' : va_W}
theorem hs_qret {C : String} {v r : Option Nat} (hx : p.tables.exec = Jvm.exec) (hb : c.code = cc) (hr : meth.sig.returnType = some (.object C)) (hlocks : meth.locks = false) (hK : va_K D hs_cl tys s) (hP : va_P D hs_cl ws H) (hD : va_D A ws) (hS : va_S A s.heap H locs) (hdg : decode cc pc = .ok (.areturn, 1)) (hv : v = r) (hw : ws = ws') :
    W p l e R s m args below meth c H locs cells slots (MQ below (hs_QQ D tys r ws' A) args s cells slots A) (F0 m pc ls [va_rf v]) := by
  subst hv; subst hw
  exact W.aret hx hb hr (Or.inl ⟨_, rfl⟩) (va_rf_or v) (fun t ht hW => ⟨⟨v, (), rfl, rfl, by rw [ht]; exact hP, va_K.moved hW.alike hK, hD⟩, hS.F ht⟩) hS.2.2 hdg hlocks
end HSQ
end
section
theorem lvT_b {n : Int32} {st : TS} (h : ¬ st.2.1 = 0) (h2 : 8 ≤ st.1) : lvT n st = st := by unfold lvT; rw [if_neg h, if_pos h2]
theorem lvT_c {n : Int32} {st : TS} (h : ¬ st.2.1 = 0) (h2 : ¬ 8 ≤ st.1) : lvT n st = (st.1 + 1, st.2.1, upd st.2.2 st.1.toNatClampNeg n) := by unfold lvT; rw [if_neg h, if_neg h2]
def nAt (st : TS) (i : Int32) : Int32 := if i < 0 then -1 else if st.1 ≤ i then -1 else if 8 ≤ i then -1 else st.2.2 i.toNatClampNeg
theorem hs_in8 {t : Int32} (h1 : ¬ t < 0) (h2 : ¬ 8 ≤ t) : vp_in t 8 := okT_in (st := (t, 0, fun _ => 0)) h1 h2

set_option maxHeartbeats 400000 in
set_option maxRecDepth 100000 in
theorem c_X6_leave (l : Launch) (D : va_G) (cN cT cJ : ClassId) (tr nb : Nat) (st : TS) (hst : okT st) (n : Int32) : CM l D yX6_leave cX6_leave 2 none { frames := 0, cells := 0, slots := 0, locals := 0 } (tyS cN cT cJ) [.ref tr, .int n] [(tr, trE nb st), (nb, nbE cN st)] (hs_QV D (tyS cN cT cJ) [(tr, trE nb (lvT n st)), (nb, nbE cN (lvT n st))]) := by
  refine CM.of (by decide) (Nat.le_of_ble_eq_true rfl) ?_
  intro p e s m below meth c A ls hx hb hrt hml htg hown hlocks hnm hA hK hP hD hS hl
  have hown : s.vm.findClass RX6 = some m.cls := hown
  have hl : lv_has ls 2 [(0, .ref tr), (1, .int n)] := hl
  have SF : CallFix p m c cX6_leave 2 s _ hs_gt RX6 := ⟨hx, hb, hml, hown, htg⟩
  refine lv_aload_n hx hb dX6_leave_0 rfl (lv_at hl 0 rfl) ?_
  refine va_get (D := D) (ci := 6) (v := .int st.2.1) (C := RX6) (T := TX6) (N := 3) hx hb htg in_X6 hown hK hP 0 rfl rfl 2 (by decide) (htg _ tw_44) (fun _ h9 => h9) rfl dX6_leave_1 ?_
  refine lv_if_eq (tgt := 39) hx hb dX6_leave_4 (by decide) (fun c4 => ?_) (fun c4 => ?_)
  · exact hs_vret hx hb hrt hlocks hK hP hD hS dX6_leave_39 (by first | rw [lvT_off c4] | rw [lvT_b c4 c16] | (rw [lvT_c c4 c16]; rfl))
  · refine lv_aload_n hx hb dX6_leave_7 rfl (lv_at hl 0 rfl) ?_
    refine va_get (D := D) (ci := 6) (v := .int st.1) (C := RX6) (T := TX6) (N := 3) hx hb htg in_X6 hown hK hP 0 rfl rfl 1 (by decide) (htg _ tw_43) (fun _ h9 => h9) rfl dX6_leave_8 ?_
    refine lv_aload_n hx hb dX6_leave_11 rfl (lv_at hl 0 rfl) ?_
    refine va_get (D := D) (ci := 6) (v := .ref nb) (C := RX6) (T := TX6) (N := 3) hx hb htg in_X6 hown hK hP 0 rfl rfl 0 (by decide) (htg _ tw_42) (fun _ h9 => h9) rfl dX6_leave_12 ?_
    refine va_alen (v := 8) hx hb hK hP 1 0 rfl rfl rfl dX6_leave_15 ?_
    refine lv_icmp_ge (tgt := 39) hx hb dX6_leave_16 (by decide) (fun c16 => ?_) (fun c16 => ?_)
    · exact hs_vret hx hb hrt hlocks hK hP hD hS dX6_leave_39 (by first | rw [lvT_off c4] | rw [lvT_b c4 c16] | (rw [lvT_c c4 c16]; rfl))
    · refine lv_aload_n hx hb dX6_leave_19 rfl (lv_at hl 0 rfl) ?_
      refine va_get (D := D) (ci := 6) (v := .ref nb) (C := RX6) (T := TX6) (N := 3) hx hb htg in_X6 hown hK hP 0 rfl rfl 0 (by decide) (htg _ tw_42) (fun _ h9 => h9) rfl dX6_leave_20 ?_
      refine lv_aload_n hx hb dX6_leave_23 rfl (lv_at hl 0 rfl) ?_
      refine va_get (D := D) (ci := 6) (v := .int st.1) (C := RX6) (T := TX6) (N := 3) hx hb htg in_X6 hown hK hP 0 rfl rfl 1 (by decide) (htg _ tw_43) (fun _ h9 => h9) rfl dX6_leave_24 ?_
      refine lv_iload_n hx hb dX6_leave_27 rfl (lv_at hl 1 rfl) ?_
      refine va_iast hx hb hK hP hD hS 1 0 rfl rfl (okT_in hst c16) dX6_leave_28 (fun H locs hP hD hS => ?_)
      have hP : va_P D hs_cl [(tr, trE nb st), (nb, .inl (cN, 8, .inl (upd st.2.2 st.1.toNatClampNeg n)))] H := hP
      have hD : va_D A [(tr, trE nb st), (nb, .inl (cN, 8, .inl (upd st.2.2 st.1.toNatClampNeg n)))] := hD
      refine lv_aload_n hx hb dX6_leave_29 rfl (lv_at hl 0 rfl) ?_
      refine lv_dup hx hb dX6_leave_30 rfl ?_
      refine va_get (D := D) (ci := 6) (v := .int st.1) (C := RX6) (T := TX6) (N := 3) hx hb htg in_X6 hown hK hP 0 rfl rfl 1 (by decide) (htg _ tw_43) (fun _ h9 => h9) rfl dX6_leave_31 ?_
      refine lv_iconst (v := 1) hx hb dX6_leave_34 (by decide) ?_
      refine lv_iadd hx hb dX6_leave_35 ?_
      refine va_put (D := D) (ci := 6) (v := .int (st.1 + 1)) (ty := .int) (C := RX6) (T := TX6) (N := 3) hx hb htg in_X6 tyX6 tyX6_ok nmX6 hown hK hP hD hS 0 rfl rfl 1 (by decide) (htg _ tw_43) (fun _ h9 => h9) rfl (by decide +kernel) rfl rfl (Nat.le_of_ble_eq_true rfl) dX6_leave_36 (fun H locs hP hD hS => ?_)
      have hP : va_P D hs_cl [(tr, .inr (6, [.ref nb, .int (st.1 + 1), .int st.2.1])), (nb, .inl (cN, 8, .inl (upd st.2.2 st.1.toNatClampNeg n)))] H := hP
      have hD : va_D A [(tr, .inr (6, [.ref nb, .int (st.1 + 1), .int st.2.1])), (nb, .inl (cN, 8, .inl (upd st.2.2 st.1.toNatClampNeg n)))] := hD
      exact hs_vret hx hb hrt hlocks hK hP hD hS dX6_leave_39 (by first | rw [lvT_off c4] | rw [lvT_b c4 c16] | (rw [lvT_c c4 c16]; rfl))

set_option maxHeartbeats 400000 in
set_option maxRecDepth 100000 in
theorem c_X6_begin (l : Launch) (D : va_G) (cN cT cJ : ClassId) (tr nb : Nat) (st : TS) : CM l D yX6_begin cX6_begin 1 none { frames := 0, cells := 0, slots := 0, locals := 0 } (tyS cN cT cJ) [.ref tr] [(tr, trE nb st), (nb, nbE cN st)] (hs_QV D (tyS cN cT cJ) [(tr, trE nb (0, 1, st.2.2)), (nb, nbE cN (0, 1, st.2.2))]) := by
  refine CM.of (by decide) (Nat.le_of_ble_eq_true rfl) ?_
  intro p e s m below meth c A ls hx hb hrt hml htg hown hlocks hnm hA hK hP hD hS hl
  have hown : s.vm.findClass RX6 = some m.cls := hown
  have hl : lv_has ls 1 [(0, .ref tr)] := hl
  have SF : CallFix p m c cX6_begin 1 s _ hs_gt RX6 := ⟨hx, hb, hml, hown, htg⟩
  refine lv_aload_n hx hb dX6_begin_0 rfl (lv_at hl 0 rfl) ?_
  refine lv_iconst (v := 0) hx hb dX6_begin_1 (by decide) ?_
  refine va_put (D := D) (ci := 6) (v := .int 0) (ty := .int) (C := RX6) (T := TX6) (N := 3) hx hb htg in_X6 tyX6 tyX6_ok nmX6 hown hK hP hD hS 0 rfl rfl 1 (by decide) (htg _ tw_43) (fun _ h9 => h9) rfl (by decide +kernel) rfl rfl (Nat.le_of_ble_eq_true rfl) dX6_begin_2 (fun H locs hP hD hS => ?_)
  have hP : va_P D hs_cl [(tr, .inr (6, [.ref nb, .int 0, .int st.2.1])), (nb, nbE cN st)] H := hP
  have hD : va_D A [(tr, .inr (6, [.ref nb, .int 0, .int st.2.1])), (nb, nbE cN st)] := hD
  refine lv_aload_n hx hb dX6_begin_5 rfl (lv_at hl 0 rfl) ?_
  refine lv_iconst (v := 1) hx hb dX6_begin_6 (by decide) ?_
  refine va_put (D := D) (ci := 6) (v := .int 1) (ty := .boolean) (C := RX6) (T := TX6) (N := 3) hx hb htg in_X6 tyX6 tyX6_ok nmX6 hown hK hP hD hS 0 rfl rfl 2 (by decide) (htg _ tw_44) (fun _ h9 => h9) rfl (by decide +kernel) rfl rfl (Nat.le_of_ble_eq_true rfl) dX6_begin_7 (fun H locs hP hD hS => ?_)
  have hP : va_P D hs_cl [(tr, .inr (6, [.ref nb, .int 0, .int 1])), (nb, nbE cN st)] H := hP
  have hD : va_D A [(tr, .inr (6, [.ref nb, .int 0, .int 1])), (nb, nbE cN st)] := hD
  exact hs_vret hx hb hrt hlocks hK hP hD hS dX6_begin_10 (rfl)

set_option maxHeartbeats 400000 in
set_option maxRecDepth 100000 in
theorem c_X6_end (l : Launch) (D : va_G) (cN cT cJ : ClassId) (tr nb : Nat) (st : TS) : CM l D yX6_end cX6_end 1 none { frames := 0, cells := 0, slots := 0, locals := 0 } (tyS cN cT cJ) [.ref tr] [(tr, trE nb st), (nb, nbE cN st)] (hs_QV D (tyS cN cT cJ) [(tr, trE nb (st.1, 0, st.2.2)), (nb, nbE cN (st.1, 0, st.2.2))]) := by
  refine CM.of (by decide) (Nat.le_of_ble_eq_true rfl) ?_
  intro p e s m below meth c A ls hx hb hrt hml htg hown hlocks hnm hA hK hP hD hS hl
  have hown : s.vm.findClass RX6 = some m.cls := hown
  have hl : lv_has ls 1 [(0, .ref tr)] := hl
  have SF : CallFix p m c cX6_end 1 s _ hs_gt RX6 := ⟨hx, hb, hml, hown, htg⟩
  refine lv_aload_n hx hb dX6_end_0 rfl (lv_at hl 0 rfl) ?_
  refine lv_iconst (v := 0) hx hb dX6_end_1 (by decide) ?_
  refine va_put (D := D) (ci := 6) (v := .int 0) (ty := .boolean) (C := RX6) (T := TX6) (N := 3) hx hb htg in_X6 tyX6 tyX6_ok nmX6 hown hK hP hD hS 0 rfl rfl 2 (by decide) (htg _ tw_44) (fun _ h9 => h9) rfl (by decide +kernel) rfl rfl (Nat.le_of_ble_eq_true rfl) dX6_end_2 (fun H locs hP hD hS => ?_)
  have hP : va_P D hs_cl [(tr, .inr (6, [.ref nb, .int st.1, .int 0])), (nb, nbE cN st)] H := hP
  have hD : va_D A [(tr, .inr (6, [.ref nb, .int st.1, .int 0])), (nb, nbE cN st)] := hD
  exact hs_vret hx hb hrt hlocks hK hP hD hS dX6_end_5 (rfl)

set_option maxHeartbeats 400000 in
set_option maxRecDepth 100000 in
theorem c_X6_numberAt (l : Launch) (D : va_G) (cN cT cJ : ClassId) (tr nb : Nat) (st : TS) (i : Int32) : CM l D yX6_numberAt cX6_numberAt 2 (some .int) { frames := 0, cells := 0, slots := 0, locals := 0 } (tyS cN cT cJ) [.ref tr, .int i] [(tr, trE nb st), (nb, nbE cN st)] (hs_QI D (tyS cN cT cJ) (nAt st i) [(tr, trE nb st), (nb, nbE cN st)]) := by
  refine CM.of (by decide) (Nat.le_of_ble_eq_true rfl) ?_
  intro p e s m below meth c A ls hx hb hrt hml htg hown hlocks hnm hA hK hP hD hS hl
  have hown : s.vm.findClass RX6 = some m.cls := hown
  have hl : lv_has ls 2 [(0, .ref tr), (1, .int i)] := hl
  have SF : CallFix p m c cX6_numberAt 2 s _ hs_gt RX6 := ⟨hx, hb, hml, hown, htg⟩
  refine lv_iload_n hx hb dX6_numberAt_0 rfl (lv_at hl 1 rfl) ?_
  refine lv_if_lt (tgt := 30) hx hb dX6_numberAt_1 (by decide) (fun c1 => ?_) (fun c1 => ?_)
  · refine lv_iconst (v := (-1)) hx hb dX6_numberAt_30 (by decide) ?_
    exact hs_iret hx hb hrt hlocks hK hP hD hS dX6_numberAt_31 (by unfold nAt; first | rw [if_pos c1] | rw [if_neg c1, if_pos c9] | rw [if_neg c1, if_neg c9, if_pos c18] | rw [if_neg c1, if_neg c9, if_neg c18]) (rfl)
  · refine lv_iload_n hx hb dX6_numberAt_4 rfl (lv_at hl 1 rfl) ?_
    refine lv_aload_n hx hb dX6_numberAt_5 rfl (lv_at hl 0 rfl) ?_
    refine va_get (D := D) (ci := 6) (v := .int st.1) (C := RX6) (T := TX6) (N := 3) hx hb htg in_X6 hown hK hP 0 rfl rfl 1 (by decide) (htg _ tw_43) (fun _ h9 => h9) rfl dX6_numberAt_6 ?_
    refine lv_icmp_ge (tgt := 30) hx hb dX6_numberAt_9 (by decide) (fun c9 => ?_) (fun c9 => ?_)
    · refine lv_iconst (v := (-1)) hx hb dX6_numberAt_30 (by decide) ?_
      exact hs_iret hx hb hrt hlocks hK hP hD hS dX6_numberAt_31 (by unfold nAt; first | rw [if_pos c1] | rw [if_neg c1, if_pos c9] | rw [if_neg c1, if_neg c9, if_pos c18] | rw [if_neg c1, if_neg c9, if_neg c18]) (rfl)
    · refine lv_iload_n hx hb dX6_numberAt_12 rfl (lv_at hl 1 rfl) ?_
      refine lv_aload_n hx hb dX6_numberAt_13 rfl (lv_at hl 0 rfl) ?_
      refine va_get (D := D) (ci := 6) (v := .ref nb) (C := RX6) (T := TX6) (N := 3) hx hb htg in_X6 hown hK hP 0 rfl rfl 0 (by decide) (htg _ tw_42) (fun _ h9 => h9) rfl dX6_numberAt_14 ?_
      refine va_alen (v := 8) hx hb hK hP 1 0 rfl rfl rfl dX6_numberAt_17 ?_
      refine lv_icmp_ge (tgt := 30) hx hb dX6_numberAt_18 (by decide) (fun c18 => ?_) (fun c18 => ?_)
      · refine lv_iconst (v := (-1)) hx hb dX6_numberAt_30 (by decide) ?_
        exact hs_iret hx hb hrt hlocks hK hP hD hS dX6_numberAt_31 (by unfold nAt; first | rw [if_pos c1] | rw [if_neg c1, if_pos c9] | rw [if_neg c1, if_neg c9, if_pos c18] | rw [if_neg c1, if_neg c9, if_neg c18]) (rfl)
      · refine lv_aload_n hx hb dX6_numberAt_21 rfl (lv_at hl 0 rfl) ?_
        refine va_get (D := D) (ci := 6) (v := .ref nb) (C := RX6) (T := TX6) (N := 3) hx hb htg in_X6 hown hK hP 0 rfl rfl 0 (by decide) (htg _ tw_42) (fun _ h9 => h9) rfl dX6_numberAt_22 ?_
        refine lv_iload_n hx hb dX6_numberAt_25 rfl (lv_at hl 1 rfl) ?_
        refine va_iald hx hb hK hP 1 0 rfl rfl (hs_in8 c1 c18) dX6_numberAt_26 ?_
        refine lv_goto (tgt := 31) hx hb dX6_numberAt_27 (by decide) ?_
        exact hs_iret hx hb hrt hlocks hK hP hD hS dX6_numberAt_31 (by unfold nAt; first | rw [if_pos c1] | rw [if_neg c1, if_pos c9] | rw [if_neg c1, if_neg c9, if_pos c18] | rw [if_neg c1, if_neg c9, if_neg c18]) (rfl)

theorem cal_X6_leave : hs_cV yX6_leave cX6_leave 2 none 1 := ⟨tw_302, tw_300, tw_301, tw_18, by decide +kernel⟩

theorem cal_X6_begin : hs_cV yX6_begin cX6_begin 1 none 0 := ⟨tw_244, tw_242, tw_243, tw_18, by decide +kernel⟩

theorem cal_X6_end : hs_cV yX6_end cX6_end 1 none 0 := ⟨tw_431, tw_429, tw_430, tw_18, by decide +kernel⟩

theorem cal_X6_numberAt : hs_cV yX6_numberAt cX6_numberAt 2 (some .int) 1 := ⟨tw_439, tw_437, tw_438, tw_18, by decide +kernel⟩
end
section
theorem su_X2_check_X5_check : hs_cU2 RX2 "HireShed$Tool" ⟨"HireShed$Tool", "check", "()I"⟩ yX5_check cX5_check 1 (some .int) 0 := ⟨tw_372, tw_349, tw_20, tw_351, tw_146, rfl, by decide, by decide +kernel⟩

theorem su_X4_charge_X5_charge : hs_cU2 RX4 "HireShed$Tool" ⟨"HireShed$Powered", "charge", "(I)I"⟩ yX5_charge cX5_charge 2 (some .int) 1 := ⟨tw_325, tw_293, tw_20, tw_304, tw_161, rfl, by decide, by decide +kernel⟩

theorem su_X1_charge_X5_charge : hs_cU2 RX1 "HireShed$Tool" ⟨"HireShed$Pump", "charge", "(I)I"⟩ yX5_charge cX5_charge 2 (some .int) 1 := ⟨tw_325, tw_293, tw_20, tw_311, tw_221, rfl, by decide, by decide +kernel⟩

theorem su_X7_charge_X4_charge : hs_cU2 RX7 "HireShed$Saw" ⟨"HireShed$BenchSaw", "charge", "(I)I"⟩ yX4_charge cX4_charge 2 (some .int) 1 := ⟨tw_298, tw_297, tw_22, tw_320, tw_191, rfl, by decide, by decide +kernel⟩

theorem su_X3_wear_X5_wear : hs_cU2 RX3 "HireShed$Tool" ⟨"HireShed$Powered", "wear", "(I)I"⟩ yX5_wear cX5_wear 2 (some .int) 1 := ⟨tw_347, tw_328, tw_20, tw_337, tw_206, rfl, by decide, by decide +kernel⟩

theorem su_X7_wear_X5_wear : hs_cU2 RX7 "HireShed$Tool" ⟨"HireShed$BenchSaw", "wear", "(I)I"⟩ yX5_wear cX5_wear 2 (some .int) 1 := ⟨tw_347, tw_328, tw_20, tw_346, tw_191, rfl, by decide, by decide +kernel⟩

theorem su_X0_check_X2_check : hs_cU2 RX0 "HireShed$Powered" ⟨"HireShed$Saw", "check", "()I"⟩ yX2_check cX2_check 1 (some .int) 0 := ⟨tw_360, tw_359, tw_21, tw_357, tw_176, rfl, by decide, by decide +kernel⟩

theorem su_X1_check_X2_check : hs_cU2 RX1 "HireShed$Powered" ⟨"HireShed$Pump", "check", "()I"⟩ yX2_check cX2_check 1 (some .int) 0 := ⟨tw_360, tw_359, tw_21, tw_367, tw_221, rfl, by decide, by decide +kernel⟩

theorem su_X7_deposit_X2_deposit : hs_cU2 RX7 "HireShed$Powered" ⟨"HireShed$BenchSaw", "deposit", "()I"⟩ yX2_deposit cX2_deposit 1 (some .int) 0 := ⟨tw_379, tw_378, tw_21, tw_388, tw_191, rfl, by decide, by decide +kernel⟩

set_option maxHeartbeats 400000 in
set_option maxRecDepth 100000 in
theorem c_X5_hasDeposit (l : Launch) (D : va_G) (cN cT cJ : ClassId) (h tr nb k : Nat) (kd rt vl hr hw cu si : Int32) (st : TS) (hst : okT st) : CM l D yX5_hasDeposit cX5_hasDeposit 1 (some .boolean) { frames := 0, cells := 0, slots := 0, locals := 0 } (tyS cN cT cJ) [.ref h] [(h, tlE k tr kd rt vl hr hw cu si), (tr, trE nb st), (nb, nbE cN st)] (hs_QI D (tyS cN cT cJ) 0 [(h, tlE k tr kd rt vl hr hw cu si), (tr, trE nb st), (nb, nbE cN st)]) := by
  refine CM.of (by decide) (Nat.le_of_ble_eq_true rfl) ?_
  intro p e s m below meth c A ls hx hb hrt hml htg hown hlocks hnm hA hK hP hD hS hl
  have hown : s.vm.findClass RX5 = some m.cls := hown
  have hl : lv_has ls 1 [(0, .ref h)] := hl
  have SF : CallFix p m c cX5_hasDeposit 1 s _ hs_gt RX5 := ⟨hx, hb, hml, hown, htg⟩
  refine lv_iconst (v := 0) hx hb dX5_hasDeposit_0 (by decide) ?_
  exact hs_zret hx hb hrt hlocks hK hP hD hS dX5_hasDeposit_1 rfl (rfl) (rfl)

set_option maxHeartbeats 400000 in
set_option maxRecDepth 100000 in
theorem c_X5_isInsured (l : Launch) (D : va_G) (cN cT cJ : ClassId) (h tr nb k : Nat) (kd rt vl hr hw cu si : Int32) (st : TS) (hst : okT st) : CM l D yX5_isInsured cX5_isInsured 1 (some .boolean) { frames := 0, cells := 0, slots := 0, locals := 0 } (tyS cN cT cJ) [.ref h] [(h, tlE k tr kd rt vl hr hw cu si), (tr, trE nb st), (nb, nbE cN st)] (hs_QI D (tyS cN cT cJ) 0 [(h, tlE k tr kd rt vl hr hw cu si), (tr, trE nb st), (nb, nbE cN st)]) := by
  refine CM.of (by decide) (Nat.le_of_ble_eq_true rfl) ?_
  intro p e s m below meth c A ls hx hb hrt hml htg hown hlocks hnm hA hK hP hD hS hl
  have hown : s.vm.findClass RX5 = some m.cls := hown
  have hl : lv_has ls 1 [(0, .ref h)] := hl
  have SF : CallFix p m c cX5_isInsured 1 s _ hs_gt RX5 := ⟨hx, hb, hml, hown, htg⟩
  refine lv_iconst (v := 0) hx hb dX5_isInsured_0 (by decide) ?_
  exact hs_zret hx hb hrt hlocks hK hP hD hS dX5_isInsured_1 rfl (rfl) (rfl)

set_option maxHeartbeats 400000 in
set_option maxRecDepth 100000 in
theorem c_X5_isServiced (l : Launch) (D : va_G) (cN cT cJ : ClassId) (h tr nb k : Nat) (kd rt vl hr hw cu si : Int32) (st : TS) (hst : okT st) : CM l D yX5_isServiced cX5_isServiced 1 (some .boolean) { frames := 0, cells := 0, slots := 0, locals := 0 } (tyS cN cT cJ) [.ref h] [(h, tlE k tr kd rt vl hr hw cu si), (tr, trE nb st), (nb, nbE cN st)] (hs_QI D (tyS cN cT cJ) 0 [(h, tlE k tr kd rt vl hr hw cu si), (tr, trE nb st), (nb, nbE cN st)]) := by
  refine CM.of (by decide) (Nat.le_of_ble_eq_true rfl) ?_
  intro p e s m below meth c A ls hx hb hrt hml htg hown hlocks hnm hA hK hP hD hS hl
  have hown : s.vm.findClass RX5 = some m.cls := hown
  have hl : lv_has ls 1 [(0, .ref h)] := hl
  have SF : CallFix p m c cX5_isServiced 1 s _ hs_gt RX5 := ⟨hx, hb, hml, hown, htg⟩
  refine lv_iconst (v := 0) hx hb dX5_isServiced_0 (by decide) ?_
  exact hs_zret hx hb hrt hlocks hK hP hD hS dX5_isServiced_1 rfl (rfl) (rfl)

set_option maxHeartbeats 400000 in
set_option maxRecDepth 100000 in
theorem c_X2_hasDeposit (l : Launch) (D : va_G) (cN cT cJ : ClassId) (h tr nb k : Nat) (kd rt vl hr hw cu si : Int32) (st : TS) (hst : okT st) : CM l D yX2_hasDeposit cX2_hasDeposit 1 (some .boolean) { frames := 0, cells := 0, slots := 0, locals := 0 } (tyS cN cT cJ) [.ref h] [(h, tlE k tr kd rt vl hr hw cu si), (tr, trE nb st), (nb, nbE cN st)] (hs_QI D (tyS cN cT cJ) 1 [(h, tlE k tr kd rt vl hr hw cu si), (tr, trE nb st), (nb, nbE cN st)]) := by
  refine CM.of (by decide) (Nat.le_of_ble_eq_true rfl) ?_
  intro p e s m below meth c A ls hx hb hrt hml htg hown hlocks hnm hA hK hP hD hS hl
  have hown : s.vm.findClass RX2 = some m.cls := hown
  have hl : lv_has ls 1 [(0, .ref h)] := hl
  have SF : CallFix p m c cX2_hasDeposit 1 s _ hs_gt RX2 := ⟨hx, hb, hml, hown, htg⟩
  refine lv_iconst (v := 1) hx hb dX2_hasDeposit_0 (by decide) ?_
  exact hs_zret hx hb hrt hlocks hK hP hD hS dX2_hasDeposit_1 rfl (rfl) (rfl)

set_option maxHeartbeats 400000 in
set_option maxRecDepth 100000 in
theorem c_X4_isInsured (l : Launch) (D : va_G) (cN cT cJ : ClassId) (h tr nb k : Nat) (kd rt vl hr hw cu si : Int32) (st : TS) (hst : okT st) : CM l D yX4_isInsured cX4_isInsured 1 (some .boolean) { frames := 0, cells := 0, slots := 0, locals := 0 } (tyS cN cT cJ) [.ref h] [(h, tlE k tr kd rt vl hr hw cu si), (tr, trE nb st), (nb, nbE cN st)] (hs_QI D (tyS cN cT cJ) 1 [(h, tlE k tr kd rt vl hr hw cu si), (tr, trE nb st), (nb, nbE cN st)]) := by
  refine CM.of (by decide) (Nat.le_of_ble_eq_true rfl) ?_
  intro p e s m below meth c A ls hx hb hrt hml htg hown hlocks hnm hA hK hP hD hS hl
  have hown : s.vm.findClass RX4 = some m.cls := hown
  have hl : lv_has ls 1 [(0, .ref h)] := hl
  have SF : CallFix p m c cX4_isInsured 1 s _ hs_gt RX4 := ⟨hx, hb, hml, hown, htg⟩
  refine lv_iconst (v := 1) hx hb dX4_isInsured_0 (by decide) ?_
  exact hs_zret hx hb hrt hlocks hK hP hD hS dX4_isInsured_1 rfl (rfl) (rfl)

set_option maxHeartbeats 400000 in
set_option maxRecDepth 100000 in
theorem c_X0_isServiced (l : Launch) (D : va_G) (cN cT cJ : ClassId) (h tr nb k : Nat) (kd rt vl hr hw cu si : Int32) (st : TS) (hst : okT st) : CM l D yX0_isServiced cX0_isServiced 1 (some .boolean) { frames := 0, cells := 0, slots := 0, locals := 0 } (tyS cN cT cJ) [.ref h] [(h, tlE k tr kd rt vl hr hw cu si), (tr, trE nb st), (nb, nbE cN st)] (hs_QI D (tyS cN cT cJ) 1 [(h, tlE k tr kd rt vl hr hw cu si), (tr, trE nb st), (nb, nbE cN st)]) := by
  refine CM.of (by decide) (Nat.le_of_ble_eq_true rfl) ?_
  intro p e s m below meth c A ls hx hb hrt hml htg hown hlocks hnm hA hK hP hD hS hl
  have hown : s.vm.findClass RX0 = some m.cls := hown
  have hl : lv_has ls 1 [(0, .ref h)] := hl
  have SF : CallFix p m c cX0_isServiced 1 s _ hs_gt RX0 := ⟨hx, hb, hml, hown, htg⟩
  refine lv_iconst (v := 1) hx hb dX0_isServiced_0 (by decide) ?_
  exact hs_zret hx hb hrt hlocks hK hP hD hS dX0_isServiced_1 rfl (rfl) (rfl)

set_option maxHeartbeats 400000 in
set_option maxRecDepth 100000 in
theorem c_X3_isServiced (l : Launch) (D : va_G) (cN cT cJ : ClassId) (h tr nb k : Nat) (kd rt vl hr hw cu si : Int32) (st : TS) (hst : okT st) : CM l D yX3_isServiced cX3_isServiced 1 (some .boolean) { frames := 0, cells := 0, slots := 0, locals := 0 } (tyS cN cT cJ) [.ref h] [(h, tlE k tr kd rt vl hr hw cu si), (tr, trE nb st), (nb, nbE cN st)] (hs_QI D (tyS cN cT cJ) 1 [(h, tlE k tr kd rt vl hr hw cu si), (tr, trE nb st), (nb, nbE cN st)]) := by
  refine CM.of (by decide) (Nat.le_of_ble_eq_true rfl) ?_
  intro p e s m below meth c A ls hx hb hrt hml htg hown hlocks hnm hA hK hP hD hS hl
  have hown : s.vm.findClass RX3 = some m.cls := hown
  have hl : lv_has ls 1 [(0, .ref h)] := hl
  have SF : CallFix p m c cX3_isServiced 1 s _ hs_gt RX3 := ⟨hx, hb, hml, hown, htg⟩
  refine lv_iconst (v := 1) hx hb dX3_isServiced_0 (by decide) ?_
  exact hs_zret hx hb hrt hlocks hK hP hD hS dX3_isServiced_1 rfl (rfl) (rfl)

set_option maxHeartbeats 400000 in
set_option maxRecDepth 100000 in
theorem c_X5_deposit (l : Launch) (D : va_G) (cN cT cJ : ClassId) (h tr nb k : Nat) (kd rt vl hr hw cu si : Int32) (st : TS) (hst : okT st) : CM l D yX5_deposit cX5_deposit 1 (some .int) { frames := 0, cells := 0, slots := 0, locals := 0 } (tyS cN cT cJ) [.ref h] [(h, tlE k tr kd rt vl hr hw cu si), (tr, trE nb st), (nb, nbE cN st)] (hs_QI D (tyS cN cT cJ) 0 [(h, tlE k tr kd rt vl hr hw cu si), (tr, trE nb st), (nb, nbE cN st)]) := by
  refine CM.of (by decide) (Nat.le_of_ble_eq_true rfl) ?_
  intro p e s m below meth c A ls hx hb hrt hml htg hown hlocks hnm hA hK hP hD hS hl
  have hown : s.vm.findClass RX5 = some m.cls := hown
  have hl : lv_has ls 1 [(0, .ref h)] := hl
  have SF : CallFix p m c cX5_deposit 1 s _ hs_gt RX5 := ⟨hx, hb, hml, hown, htg⟩
  refine lv_iconst (v := 0) hx hb dX5_deposit_0 (by decide) ?_
  exact hs_iret hx hb hrt hlocks hK hP hD hS dX5_deposit_1 (rfl) (rfl)

set_option maxHeartbeats 400000 in
set_option maxRecDepth 100000 in
theorem c_X5_premium (l : Launch) (D : va_G) (cN cT cJ : ClassId) (h tr nb k : Nat) (kd rt vl hr hw cu si : Int32) (st : TS) (hst : okT st) (d : Int32) : CM l D yX5_premium cX5_premium 2 (some .int) { frames := 0, cells := 0, slots := 0, locals := 0 } (tyS cN cT cJ) [.ref h, .int d] [(h, tlE k tr kd rt vl hr hw cu si), (tr, trE nb st), (nb, nbE cN st)] (hs_QI D (tyS cN cT cJ) 0 [(h, tlE k tr kd rt vl hr hw cu si), (tr, trE nb st), (nb, nbE cN st)]) := by
  refine CM.of (by decide) (Nat.le_of_ble_eq_true rfl) ?_
  intro p e s m below meth c A ls hx hb hrt hml htg hown hlocks hnm hA hK hP hD hS hl
  have hown : s.vm.findClass RX5 = some m.cls := hown
  have hl : lv_has ls 2 [(0, .ref h), (1, .int d)] := hl
  have SF : CallFix p m c cX5_premium 2 s _ hs_gt RX5 := ⟨hx, hb, hml, hown, htg⟩
  refine lv_iconst (v := 0) hx hb dX5_premium_0 (by decide) ?_
  exact hs_iret hx hb hrt hlocks hK hP hD hS dX5_premium_1 (rfl) (rfl)

set_option maxHeartbeats 400000 in
set_option maxRecDepth 100000 in
theorem c_X5_charge (l : Launch) (D : va_G) (cN cT cJ : ClassId) (h tr nb k : Nat) (kd rt vl hr hw cu si : Int32) (st : TS) (hst : okT st) (d : Int32) : CM l D yX5_charge cX5_charge 2 (some .int) { frames := 1, cells := 0, slots := 0, locals := 21 } (tyS cN cT cJ) [.ref h, .int d] [(h, tlE k tr kd rt vl hr hw cu si), (tr, trE nb st), (nb, nbE cN st)] (hs_QI D (tyS cN cT cJ) (rt * d) [(h, tlE k tr kd rt vl hr hw cu si), (tr, trE nb (lvs [1] st)), (nb, nbE cN (lvs [1] st))]) := by
  refine CM.of (by decide) (Nat.le_of_ble_eq_true rfl) ?_
  intro p e s m below meth c A ls hx hb hrt hml htg hown hlocks hnm hA hK hP hD hS hl
  have hown : s.vm.findClass RX5 = some m.cls := hown
  have hl : lv_has ls 2 [(0, .ref h), (1, .int d)] := hl
  have SF : CallFix p m c cX5_charge 2 s _ hs_gt RX5 := ⟨hx, hb, hml, hown, htg⟩
  refine lv_aload_n hx hb dX5_charge_0 rfl (lv_at hl 0 rfl) ?_
  refine va_get (D := D) (ci := (kc k)) (v := .ref tr) (C := (kR k)) (T := TX5) (N := 8) hx hb htg (kc_in k) hown hK hP 0 rfl (kc_cl k) 0 (by decide) (htg _ tw_99) (fun _ h9 => h9) rfl dX5_charge_1 ?_
  refine lv_iconst (v := 1) hx hb dX5_charge_4 (by decide) ?_
  refine hs_callv (wc := [(tr, trE nb st), (nb, nbE cN st)]) (w1 := [(tr, trE nb (lvT 1 st)), (nb, nbE cN (lvT 1 st))]) (wr := [(h, tlE k tr kd rt vl hr hw cu si)]) (ws2 := [(h, tlE k tr kd rt vl hr hw cu si), (tr, trE nb (lvT 1 st)), (nb, nbE cN (lvT 1 st))]) (hs_runV (q0 := 0) SF cal_X6_leave tw_326 (c_X6_leave l D cN cT cJ tr nb st hst 1) hK (hP.sub (ws' := [(tr, trE nb st), (nb, nbE cN st)]) [1, 2] rfl) (hD.sub (ws' := [(tr, trE nb st), (nb, nbE cN st)]) [1, 2] (by decide) rfl) rfl rfl ⟨Nat.le_of_ble_eq_true rfl, Nat.le_of_ble_eq_true rfl⟩ rfl hl.1 rfl (Nat.le_of_ble_eq_true rfl) dX5_charge_5 ⟨Nat.le_of_ble_eq_true rfl, Nat.le_of_ble_eq_true rfl⟩) hP hD hS hA [1, 2] [0] [0, 1, 2] rfl rfl (by decide) (by decide) rfl (by decide) (fun H locs hP hD hS => ?_)
  refine lv_aload_n hx hb dX5_charge_8 rfl (lv_at hl 0 rfl) ?_
  refine va_get (D := D) (ci := (kc k)) (v := .int rt) (C := (kR k)) (T := TX5) (N := 8) hx hb htg (kc_in k) hown hK hP 0 rfl (kc_cl k) 2 (by decide) (htg _ tw_114) (fun _ h9 => h9) rfl dX5_charge_9 ?_
  refine lv_iload_n hx hb dX5_charge_12 rfl (lv_at hl 1 rfl) ?_
  refine lv_imul hx hb dX5_charge_13 ?_
  exact hs_iret hx hb hrt hlocks hK hP hD hS dX5_charge_14 (rfl) (by first | (simp only [lvs, List.foldl_cons, List.foldl_nil]; done) | rfl)

set_option maxHeartbeats 400000 in
set_option maxRecDepth 100000 in
theorem c_X5_wear (l : Launch) (D : va_G) (cN cT cJ : ClassId) (h tr nb k : Nat) (kd rt vl hr hw cu si : Int32) (st : TS) (hst : okT st) (d : Int32) : CM l D yX5_wear cX5_wear 2 (some .int) { frames := 1, cells := 0, slots := 0, locals := 21 } (tyS cN cT cJ) [.ref h, .int d] [(h, tlE k tr kd rt vl hr hw cu si), (tr, trE nb st), (nb, nbE cN st)] (hs_QI D (tyS cN cT cJ) d [(h, tlE k tr kd rt vl hr hw cu si), (tr, trE nb (lvs [11] st)), (nb, nbE cN (lvs [11] st))]) := by
  refine CM.of (by decide) (Nat.le_of_ble_eq_true rfl) ?_
  intro p e s m below meth c A ls hx hb hrt hml htg hown hlocks hnm hA hK hP hD hS hl
  have hown : s.vm.findClass RX5 = some m.cls := hown
  have hl : lv_has ls 2 [(0, .ref h), (1, .int d)] := hl
  have SF : CallFix p m c cX5_wear 2 s _ hs_gt RX5 := ⟨hx, hb, hml, hown, htg⟩
  refine lv_aload_n hx hb dX5_wear_0 rfl (lv_at hl 0 rfl) ?_
  refine va_get (D := D) (ci := (kc k)) (v := .ref tr) (C := (kR k)) (T := TX5) (N := 8) hx hb htg (kc_in k) hown hK hP 0 rfl (kc_cl k) 0 (by decide) (htg _ tw_99) (fun _ h9 => h9) rfl dX5_wear_1 ?_
  refine lv_bipush (v := 11) hx hb dX5_wear_4 (by decide) ?_
  refine hs_callv (wc := [(tr, trE nb st), (nb, nbE cN st)]) (w1 := [(tr, trE nb (lvT 11 st)), (nb, nbE cN (lvT 11 st))]) (wr := [(h, tlE k tr kd rt vl hr hw cu si)]) (ws2 := [(h, tlE k tr kd rt vl hr hw cu si), (tr, trE nb (lvT 11 st)), (nb, nbE cN (lvT 11 st))]) (hs_runV (q0 := 0) SF cal_X6_leave tw_326 (c_X6_leave l D cN cT cJ tr nb st hst 11) hK (hP.sub (ws' := [(tr, trE nb st), (nb, nbE cN st)]) [1, 2] rfl) (hD.sub (ws' := [(tr, trE nb st), (nb, nbE cN st)]) [1, 2] (by decide) rfl) rfl rfl ⟨Nat.le_of_ble_eq_true rfl, Nat.le_of_ble_eq_true rfl⟩ rfl hl.1 rfl (Nat.le_of_ble_eq_true rfl) dX5_wear_6 ⟨Nat.le_of_ble_eq_true rfl, Nat.le_of_ble_eq_true rfl⟩) hP hD hS hA [1, 2] [0] [0, 1, 2] rfl rfl (by decide) (by decide) rfl (by decide) (fun H locs hP hD hS => ?_)
  refine lv_iload_n hx hb dX5_wear_9 rfl (lv_at hl 1 rfl) ?_
  exact hs_iret hx hb hrt hlocks hK hP hD hS dX5_wear_10 (rfl) (by first | (simp only [lvs, List.foldl_cons, List.foldl_nil]; done) | rfl)

set_option maxHeartbeats 400000 in
set_option maxRecDepth 100000 in
theorem c_X5_check (l : Launch) (D : va_G) (cN cT cJ : ClassId) (h tr nb k : Nat) (kd rt vl hr hw cu si : Int32) (st : TS) (hst : okT st) : CM l D yX5_check cX5_check 1 (some .int) { frames := 1, cells := 0, slots := 0, locals := 21 } (tyS cN cT cJ) [.ref h] [(h, tlE k tr kd rt vl hr hw cu si), (tr, trE nb st), (nb, nbE cN st)] (hs_QI D (tyS cN cT cJ) (hr / 10) [(h, tlE k tr kd rt vl hr hw cu si), (tr, trE nb (lvs [20] st)), (nb, nbE cN (lvs [20] st))]) := by
  refine CM.of (by decide) (Nat.le_of_ble_eq_true rfl) ?_
  intro p e s m below meth c A ls hx hb hrt hml htg hown hlocks hnm hA hK hP hD hS hl
  have hown : s.vm.findClass RX5 = some m.cls := hown
  have hl : lv_has ls 1 [(0, .ref h)] := hl
  have SF : CallFix p m c cX5_check 1 s _ hs_gt RX5 := ⟨hx, hb, hml, hown, htg⟩
  refine lv_aload_n hx hb dX5_check_0 rfl (lv_at hl 0 rfl) ?_
  refine va_get (D := D) (ci := (kc k)) (v := .ref tr) (C := (kR k)) (T := TX5) (N := 8) hx hb htg (kc_in k) hown hK hP 0 rfl (kc_cl k) 0 (by decide) (htg _ tw_99) (fun _ h9 => h9) rfl dX5_check_1 ?_
  refine lv_bipush (v := 20) hx hb dX5_check_4 (by decide) ?_
  refine hs_callv (wc := [(tr, trE nb st), (nb, nbE cN st)]) (w1 := [(tr, trE nb (lvT 20 st)), (nb, nbE cN (lvT 20 st))]) (wr := [(h, tlE k tr kd rt vl hr hw cu si)]) (ws2 := [(h, tlE k tr kd rt vl hr hw cu si), (tr, trE nb (lvT 20 st)), (nb, nbE cN (lvT 20 st))]) (hs_runV (q0 := 0) SF cal_X6_leave tw_326 (c_X6_leave l D cN cT cJ tr nb st hst 20) hK (hP.sub (ws' := [(tr, trE nb st), (nb, nbE cN st)]) [1, 2] rfl) (hD.sub (ws' := [(tr, trE nb st), (nb, nbE cN st)]) [1, 2] (by decide) rfl) rfl rfl ⟨Nat.le_of_ble_eq_true rfl, Nat.le_of_ble_eq_true rfl⟩ rfl hl.1 rfl (Nat.le_of_ble_eq_true rfl) dX5_check_6 ⟨Nat.le_of_ble_eq_true rfl, Nat.le_of_ble_eq_true rfl⟩) hP hD hS hA [1, 2] [0] [0, 1, 2] rfl rfl (by decide) (by decide) rfl (by decide) (fun H locs hP hD hS => ?_)
  refine lv_aload_n hx hb dX5_check_9 rfl (lv_at hl 0 rfl) ?_
  refine va_get (D := D) (ci := (kc k)) (v := .int hr) (C := (kR k)) (T := TX5) (N := 8) hx hb htg (kc_in k) hown hK hP 0 rfl (kc_cl k) 4 (by decide) (htg _ tw_120) (fun _ h9 => h9) rfl dX5_check_10 ?_
  refine lv_bipush (v := 10) hx hb dX5_check_13 (by decide) ?_
  refine lv_idiv hx hb dX5_check_15 (by decide) ?_
  exact hs_iret hx hb hrt hlocks hK hP hD hS dX5_check_16 (rfl) (by first | (simp only [lvs, List.foldl_cons, List.foldl_nil]; done) | rfl)

set_option maxHeartbeats 400000 in
set_option maxRecDepth 100000 in
theorem c_X2_check (l : Launch) (D : va_G) (cN cT cJ : ClassId) (h tr nb k : Nat) (kd rt vl hr hw cu si : Int32) (st : TS) (hst : okT st) : CM l D yX2_check cX2_check 1 (some .int) { frames := 2, cells := 0, slots := 0, locals := 41 } (tyS cN cT cJ) [.ref h] [(h, tlE k tr kd rt vl hr hw cu si), (tr, trE nb st), (nb, nbE cN st)] (hs_QI D (tyS cN cT cJ) (hr / 10 + 1) [(h, tlE k tr kd rt vl hr hw cu si), (tr, trE nb (lvs [21, 20] st)), (nb, nbE cN (lvs [21, 20] st))]) := by
  refine CM.of (by decide) (Nat.le_of_ble_eq_true rfl) ?_
  intro p e s m below meth c A ls hx hb hrt hml htg hown hlocks hnm hA hK hP hD hS hl
  have hown : s.vm.findClass RX2 = some m.cls := hown
  have hl : lv_has ls 1 [(0, .ref h)] := hl
  have SF : CallFix p m c cX2_check 1 s _ hs_gt RX2 := ⟨hx, hb, hml, hown, htg⟩
  refine lv_aload_n hx hb dX2_check_0 rfl (lv_at hl 0 rfl) ?_
  refine va_get (D := D) (ci := (kc k)) (v := .ref tr) (C := (kR k)) (T := TX5) (N := 8) hx hb htg (kc_in k) hown hK hP 0 rfl (kc_cl k) 0 (by decide) (htg _ tw_110) (u_same (htg _ tw_111)) rfl dX2_check_1 ?_
  refine lv_bipush (v := 21) hx hb dX2_check_4 (by decide) ?_
  refine hs_callv (wc := [(tr, trE nb st), (nb, nbE cN st)]) (w1 := [(tr, trE nb (lvT 21 st)), (nb, nbE cN (lvT 21 st))]) (wr := [(h, tlE k tr kd rt vl hr hw cu si)]) (ws2 := [(h, tlE k tr kd rt vl hr hw cu si), (tr, trE nb (lvT 21 st)), (nb, nbE cN (lvT 21 st))]) (hs_runV (q0 := 0) SF cal_X6_leave tw_361 (c_X6_leave l D cN cT cJ tr nb st hst 21) hK (hP.sub (ws' := [(tr, trE nb st), (nb, nbE cN st)]) [1, 2] rfl) (hD.sub (ws' := [(tr, trE nb st), (nb, nbE cN st)]) [1, 2] (by decide) rfl) rfl rfl ⟨Nat.le_of_ble_eq_true rfl, Nat.le_of_ble_eq_true rfl⟩ rfl hl.1 rfl (Nat.le_of_ble_eq_true rfl) dX2_check_6 ⟨Nat.le_of_ble_eq_true rfl, Nat.le_of_ble_eq_true rfl⟩) hP hD hS hA [1, 2] [0] [0, 1, 2] rfl rfl (by decide) (by decide) rfl (by decide) (fun H locs hP hD hS => ?_)
  refine lv_aload_n hx hb dX2_check_9 rfl (lv_at hl 0 rfl) ?_
  refine hs_calli0 (w1 := [(h, tlE k tr kd rt vl hr hw cu si), (tr, trE nb (lvs [20] (lvT 21 st))), (nb, nbE cN (lvs [20] (lvT 21 st)))]) (hs_runSU (q0 := 0) SF su_X2_check_X5_check hs_below0 tw_362 (c_X5_check l D cN cT cJ h tr nb k kd rt vl hr hw cu si (lvT 21 st) (okT_lv 21 hst) ) hK hP hD rfl (kc_cl k) ⟨Nat.le_of_ble_eq_true rfl, Nat.le_of_ble_eq_true rfl⟩ rfl hl.1 rfl (Nat.le_of_ble_eq_true rfl) dX2_check_10 ⟨Nat.le_of_ble_eq_true rfl, Nat.le_of_ble_eq_true rfl⟩) hD hS hA (fun H locs hP hD hS => ?_)
  refine lv_iconst (v := 1) hx hb dX2_check_13 (by decide) ?_
  refine lv_iadd hx hb dX2_check_14 ?_
  exact hs_iret hx hb hrt hlocks hK hP hD hS dX2_check_15 (rfl) (by first | (simp only [lvs, List.foldl_cons, List.foldl_nil]; done) | rfl)

set_option maxHeartbeats 400000 in
set_option maxRecDepth 100000 in
theorem c_X2_deposit (l : Launch) (D : va_G) (cN cT cJ : ClassId) (h tr nb k : Nat) (kd rt vl hr hw cu si : Int32) (st : TS) (hst : okT st) : CM l D yX2_deposit cX2_deposit 1 (some .int) { frames := 1, cells := 0, slots := 0, locals := 21 } (tyS cN cT cJ) [.ref h] [(h, tlE k tr kd rt vl hr hw cu si), (tr, trE nb st), (nb, nbE cN st)] (hs_QI D (tyS cN cT cJ) (vl / 2) [(h, tlE k tr kd rt vl hr hw cu si), (tr, trE nb (lvs [31] st)), (nb, nbE cN (lvs [31] st))]) := by
  refine CM.of (by decide) (Nat.le_of_ble_eq_true rfl) ?_
  intro p e s m below meth c A ls hx hb hrt hml htg hown hlocks hnm hA hK hP hD hS hl
  have hown : s.vm.findClass RX2 = some m.cls := hown
  have hl : lv_has ls 1 [(0, .ref h)] := hl
  have SF : CallFix p m c cX2_deposit 1 s _ hs_gt RX2 := ⟨hx, hb, hml, hown, htg⟩
  refine lv_aload_n hx hb dX2_deposit_0 rfl (lv_at hl 0 rfl) ?_
  refine va_get (D := D) (ci := (kc k)) (v := .ref tr) (C := (kR k)) (T := TX5) (N := 8) hx hb htg (kc_in k) hown hK hP 0 rfl (kc_cl k) 0 (by decide) (htg _ tw_110) (u_same (htg _ tw_111)) rfl dX2_deposit_1 ?_
  refine lv_bipush (v := 31) hx hb dX2_deposit_4 (by decide) ?_
  refine hs_callv (wc := [(tr, trE nb st), (nb, nbE cN st)]) (w1 := [(tr, trE nb (lvT 31 st)), (nb, nbE cN (lvT 31 st))]) (wr := [(h, tlE k tr kd rt vl hr hw cu si)]) (ws2 := [(h, tlE k tr kd rt vl hr hw cu si), (tr, trE nb (lvT 31 st)), (nb, nbE cN (lvT 31 st))]) (hs_runV (q0 := 0) SF cal_X6_leave tw_361 (c_X6_leave l D cN cT cJ tr nb st hst 31) hK (hP.sub (ws' := [(tr, trE nb st), (nb, nbE cN st)]) [1, 2] rfl) (hD.sub (ws' := [(tr, trE nb st), (nb, nbE cN st)]) [1, 2] (by decide) rfl) rfl rfl ⟨Nat.le_of_ble_eq_true rfl, Nat.le_of_ble_eq_true rfl⟩ rfl hl.1 rfl (Nat.le_of_ble_eq_true rfl) dX2_deposit_6 ⟨Nat.le_of_ble_eq_true rfl, Nat.le_of_ble_eq_true rfl⟩) hP hD hS hA [1, 2] [0] [0, 1, 2] rfl rfl (by decide) (by decide) rfl (by decide) (fun H locs hP hD hS => ?_)
  refine lv_aload_n hx hb dX2_deposit_9 rfl (lv_at hl 0 rfl) ?_
  refine va_get (D := D) (ci := (kc k)) (v := .int vl) (C := (kR k)) (T := TX5) (N := 8) hx hb htg (kc_in k) hown hK hP 0 rfl (kc_cl k) 3 (by decide) (htg _ tw_118) (u_same (htg _ tw_119)) rfl dX2_deposit_10 ?_
  refine lv_iconst (v := 2) hx hb dX2_deposit_13 (by decide) ?_
  refine lv_idiv hx hb dX2_deposit_14 (by decide) ?_
  exact hs_iret hx hb hrt hlocks hK hP hD hS dX2_deposit_15 (rfl) (by first | (simp only [lvs, List.foldl_cons, List.foldl_nil]; done) | rfl)

set_option maxHeartbeats 400000 in
set_option maxRecDepth 100000 in
theorem c_X4_charge (l : Launch) (D : va_G) (cN cT cJ : ClassId) (h tr nb k : Nat) (kd rt vl hr hw cu si : Int32) (st : TS) (hst : okT st) (d : Int32) : CM l D yX4_charge cX4_charge 2 (some .int) { frames := 2, cells := 0, slots := 0, locals := 42 } (tyS cN cT cJ) [.ref h, .int d] [(h, tlE k tr kd rt vl hr hw cu si), (tr, trE nb st), (nb, nbE cN st)] (hs_QI D (tyS cN cT cJ) (rt * d + 3 * d) [(h, tlE k tr kd rt vl hr hw cu si), (tr, trE nb (lvs [2, 1] st)), (nb, nbE cN (lvs [2, 1] st))]) := by
  refine CM.of (by decide) (Nat.le_of_ble_eq_true rfl) ?_
  intro p e s m below meth c A ls hx hb hrt hml htg hown hlocks hnm hA hK hP hD hS hl
  have hown : s.vm.findClass RX4 = some m.cls := hown
  have hl : lv_has ls 2 [(0, .ref h), (1, .int d)] := hl
  have SF : CallFix p m c cX4_charge 2 s _ hs_gt RX4 := ⟨hx, hb, hml, hown, htg⟩
  refine lv_aload_n hx hb dX4_charge_0 rfl (lv_at hl 0 rfl) ?_
  refine va_get (D := D) (ci := (kc k)) (v := .ref tr) (C := (kR k)) (T := TX5) (N := 8) hx hb htg (kc_in k) hown hK hP 0 rfl (kc_cl k) 0 (by decide) (htg _ tw_104) (u_same (htg _ tw_105)) rfl dX4_charge_1 ?_
  refine lv_iconst (v := 2) hx hb dX4_charge_4 (by decide) ?_
  refine hs_callv (wc := [(tr, trE nb st), (nb, nbE cN st)]) (w1 := [(tr, trE nb (lvT 2 st)), (nb, nbE cN (lvT 2 st))]) (wr := [(h, tlE k tr kd rt vl hr hw cu si)]) (ws2 := [(h, tlE k tr kd rt vl hr hw cu si), (tr, trE nb (lvT 2 st)), (nb, nbE cN (lvT 2 st))]) (hs_runV (q0 := 0) SF cal_X6_leave tw_299 (c_X6_leave l D cN cT cJ tr nb st hst 2) hK (hP.sub (ws' := [(tr, trE nb st), (nb, nbE cN st)]) [1, 2] rfl) (hD.sub (ws' := [(tr, trE nb st), (nb, nbE cN st)]) [1, 2] (by decide) rfl) rfl rfl ⟨Nat.le_of_ble_eq_true rfl, Nat.le_of_ble_eq_true rfl⟩ rfl hl.1 rfl (Nat.le_of_ble_eq_true rfl) dX4_charge_5 ⟨Nat.le_of_ble_eq_true rfl, Nat.le_of_ble_eq_true rfl⟩) hP hD hS hA [1, 2] [0] [0, 1, 2] rfl rfl (by decide) (by decide) rfl (by decide) (fun H locs hP hD hS => ?_)
  refine lv_aload_n hx hb dX4_charge_8 rfl (lv_at hl 0 rfl) ?_
  refine lv_iload_n hx hb dX4_charge_9 rfl (lv_at hl 1 rfl) ?_
  refine hs_calli0 (w1 := [(h, tlE k tr kd rt vl hr hw cu si), (tr, trE nb (lvs [1] (lvT 2 st))), (nb, nbE cN (lvs [1] (lvT 2 st)))]) (hs_runSU (q0 := 0) SF su_X4_charge_X5_charge (hs_below1 (htg _ tw_146)) tw_303 (c_X5_charge l D cN cT cJ h tr nb k kd rt vl hr hw cu si (lvT 2 st) (okT_lv 2 hst) d) hK hP hD rfl (kc_cl k) ⟨Nat.le_of_ble_eq_true rfl, Nat.le_of_ble_eq_true rfl⟩ rfl hl.1 rfl (Nat.le_of_ble_eq_true rfl) dX4_charge_10 ⟨Nat.le_of_ble_eq_true rfl, Nat.le_of_ble_eq_true rfl⟩) hD hS hA (fun H locs hP hD hS => ?_)
  refine lv_iconst (v := 3) hx hb dX4_charge_13 (by decide) ?_
  refine lv_iload_n hx hb dX4_charge_14 rfl (lv_at hl 1 rfl) ?_
  refine lv_imul hx hb dX4_charge_15 ?_
  refine lv_iadd hx hb dX4_charge_16 ?_
  exact hs_iret hx hb hrt hlocks hK hP hD hS dX4_charge_17 (rfl) (by first | (simp only [lvs, List.foldl_cons, List.foldl_nil]; done) | rfl)

set_option maxHeartbeats 400000 in
set_option maxRecDepth 100000 in
theorem c_X1_charge (l : Launch) (D : va_G) (cN cT cJ : ClassId) (h tr nb k : Nat) (kd rt vl hr hw cu si : Int32) (st : TS) (hst : okT st) (d : Int32) : CM l D yX1_charge cX1_charge 2 (some .int) { frames := 2, cells := 0, slots := 0, locals := 42 } (tyS cN cT cJ) [.ref h, .int d] [(h, tlE k tr kd rt vl hr hw cu si), (tr, trE nb st), (nb, nbE cN st)] (hs_QI D (tyS cN cT cJ) (rt * d + vl / 100) [(h, tlE k tr kd rt vl hr hw cu si), (tr, trE nb (lvs [4, 1] st)), (nb, nbE cN (lvs [4, 1] st))]) := by
  refine CM.of (by decide) (Nat.le_of_ble_eq_true rfl) ?_
  intro p e s m below meth c A ls hx hb hrt hml htg hown hlocks hnm hA hK hP hD hS hl
  have hown : s.vm.findClass RX1 = some m.cls := hown
  have hl : lv_has ls 2 [(0, .ref h), (1, .int d)] := hl
  have SF : CallFix p m c cX1_charge 2 s _ hs_gt RX1 := ⟨hx, hb, hml, hown, htg⟩
  refine lv_aload_n hx hb dX1_charge_0 rfl (lv_at hl 0 rfl) ?_
  refine va_get (D := D) (ci := (kc k)) (v := .ref tr) (C := (kR k)) (T := TX5) (N := 8) hx hb htg (kc_in k) hown hK hP 0 rfl (kc_cl k) 0 (by decide) (htg _ tw_100) (u_same (htg _ tw_101)) rfl dX1_charge_1 ?_
  refine lv_iconst (v := 4) hx hb dX1_charge_4 (by decide) ?_
  refine hs_callv (wc := [(tr, trE nb st), (nb, nbE cN st)]) (w1 := [(tr, trE nb (lvT 4 st)), (nb, nbE cN (lvT 4 st))]) (wr := [(h, tlE k tr kd rt vl hr hw cu si)]) (ws2 := [(h, tlE k tr kd rt vl hr hw cu si), (tr, trE nb (lvT 4 st)), (nb, nbE cN (lvT 4 st))]) (hs_runV (q0 := 0) SF cal_X6_leave tw_309 (c_X6_leave l D cN cT cJ tr nb st hst 4) hK (hP.sub (ws' := [(tr, trE nb st), (nb, nbE cN st)]) [1, 2] rfl) (hD.sub (ws' := [(tr, trE nb st), (nb, nbE cN st)]) [1, 2] (by decide) rfl) rfl rfl ⟨Nat.le_of_ble_eq_true rfl, Nat.le_of_ble_eq_true rfl⟩ rfl hl.1 rfl (Nat.le_of_ble_eq_true rfl) dX1_charge_5 ⟨Nat.le_of_ble_eq_true rfl, Nat.le_of_ble_eq_true rfl⟩) hP hD hS hA [1, 2] [0] [0, 1, 2] rfl rfl (by decide) (by decide) rfl (by decide) (fun H locs hP hD hS => ?_)
  refine lv_aload_n hx hb dX1_charge_8 rfl (lv_at hl 0 rfl) ?_
  refine lv_iload_n hx hb dX1_charge_9 rfl (lv_at hl 1 rfl) ?_
  refine hs_calli0 (w1 := [(h, tlE k tr kd rt vl hr hw cu si), (tr, trE nb (lvs [1] (lvT 4 st))), (nb, nbE cN (lvs [1] (lvT 4 st)))]) (hs_runSU (q0 := 0) SF su_X1_charge_X5_charge (hs_below2 (htg _ tw_206) (htg _ tw_146) (by decide)) tw_310 (c_X5_charge l D cN cT cJ h tr nb k kd rt vl hr hw cu si (lvT 4 st) (okT_lv 4 hst) d) hK hP hD rfl (kc_cl k) ⟨Nat.le_of_ble_eq_true rfl, Nat.le_of_ble_eq_true rfl⟩ rfl hl.1 rfl (Nat.le_of_ble_eq_true rfl) dX1_charge_10 ⟨Nat.le_of_ble_eq_true rfl, Nat.le_of_ble_eq_true rfl⟩) hD hS hA (fun H locs hP hD hS => ?_)
  refine lv_aload_n hx hb dX1_charge_13 rfl (lv_at hl 0 rfl) ?_
  refine va_get (D := D) (ci := (kc k)) (v := .int vl) (C := (kR k)) (T := TX5) (N := 8) hx hb htg (kc_in k) hown hK hP 0 rfl (kc_cl k) 3 (by decide) (htg _ tw_116) (u_same (htg _ tw_117)) rfl dX1_charge_14 ?_
  refine lv_bipush (v := 100) hx hb dX1_charge_17 (by decide) ?_
  refine lv_idiv hx hb dX1_charge_19 (by decide) ?_
  refine lv_iadd hx hb dX1_charge_20 ?_
  exact hs_iret hx hb hrt hlocks hK hP hD hS dX1_charge_21 (rfl) (by first | (simp only [lvs, List.foldl_cons, List.foldl_nil]; done) | rfl)

set_option maxHeartbeats 400000 in
set_option maxRecDepth 100000 in
theorem c_X7_charge (l : Launch) (D : va_G) (cN cT cJ : ClassId) (h tr nb k : Nat) (kd rt vl hr hw cu si : Int32) (st : TS) (hst : okT st) (d : Int32) : CM l D yX7_charge cX7_charge 2 (some .int) { frames := 3, cells := 0, slots := 0, locals := 63 } (tyS cN cT cJ) [.ref h, .int d] [(h, tlE k tr kd rt vl hr hw cu si), (tr, trE nb st), (nb, nbE cN st)] (hs_QI D (tyS cN cT cJ) (2 * (rt * d + 3 * d) - 5 * (if 0 < d - 7 then d - 7 else 0)) [(h, tlE k tr kd rt vl hr hw cu si), (tr, trE nb (lvs [3, 2, 1] st)), (nb, nbE cN (lvs [3, 2, 1] st))]) := by
  refine CM.of (by decide) (Nat.le_of_ble_eq_true rfl) ?_
  intro p e s m below meth c A ls hx hb hrt hml htg hown hlocks hnm hA hK hP hD hS hl
  have hown : s.vm.findClass RX7 = some m.cls := hown
  have hl : lv_has ls 2 [(0, .ref h), (1, .int d)] := hl
  have SF : CallFix p m c cX7_charge 2 s _ hs_gt RX7 := ⟨hx, hb, hml, hown, htg⟩
  refine lv_aload_n hx hb dX7_charge_0 rfl (lv_at hl 0 rfl) ?_
  refine va_get (D := D) (ci := (kc k)) (v := .ref tr) (C := (kR k)) (T := TX5) (N := 8) hx hb htg (kc_in k) hown hK hP 0 rfl (kc_cl k) 0 (by decide) (htg _ tw_102) (u_same (htg _ tw_103)) rfl dX7_charge_1 ?_
  refine lv_iconst (v := 3) hx hb dX7_charge_4 (by decide) ?_
  refine hs_callv (wc := [(tr, trE nb st), (nb, nbE cN st)]) (w1 := [(tr, trE nb (lvT 3 st)), (nb, nbE cN (lvT 3 st))]) (wr := [(h, tlE k tr kd rt vl hr hw cu si)]) (ws2 := [(h, tlE k tr kd rt vl hr hw cu si), (tr, trE nb (lvT 3 st)), (nb, nbE cN (lvT 3 st))]) (hs_runV (q0 := 0) SF cal_X6_leave tw_318 (c_X6_leave l D cN cT cJ tr nb st hst 3) hK (hP.sub (ws' := [(tr, trE nb st), (nb, nbE cN st)]) [1, 2] rfl) (hD.sub (ws' := [(tr, trE nb st), (nb, nbE cN st)]) [1, 2] (by decide) rfl) rfl rfl ⟨Nat.le_of_ble_eq_true rfl, Nat.le_of_ble_eq_true rfl⟩ rfl hl.1 rfl (Nat.le_of_ble_eq_true rfl) dX7_charge_5 ⟨Nat.le_of_ble_eq_true rfl, Nat.le_of_ble_eq_true rfl⟩) hP hD hS hA [1, 2] [0] [0, 1, 2] rfl rfl (by decide) (by decide) rfl (by decide) (fun H locs hP hD hS => ?_)
  refine lv_iconst (v := 2) hx hb dX7_charge_8 (by decide) ?_
  refine lv_aload_n hx hb dX7_charge_9 rfl (lv_at hl 0 rfl) ?_
  refine lv_iload_n hx hb dX7_charge_10 rfl (lv_at hl 1 rfl) ?_
  refine hs_calli0 (w1 := [(h, tlE k tr kd rt vl hr hw cu si), (tr, trE nb (lvs [2, 1] (lvT 3 st))), (nb, nbE cN (lvs [2, 1] (lvT 3 st)))]) (hs_runSU (q0 := 0) SF su_X7_charge_X4_charge (hs_below1 (htg _ tw_176)) tw_319 (c_X4_charge l D cN cT cJ h tr nb k kd rt vl hr hw cu si (lvT 3 st) (okT_lv 3 hst) d) hK hP hD rfl (kc_cl k) ⟨Nat.le_of_ble_eq_true rfl, Nat.le_of_ble_eq_true rfl⟩ rfl hl.1 rfl (Nat.le_of_ble_eq_true rfl) dX7_charge_11 ⟨Nat.le_of_ble_eq_true rfl, Nat.le_of_ble_eq_true rfl⟩) hD hS hA (fun H locs hP hD hS => ?_)
  refine lv_imul hx hb dX7_charge_14 ?_
  refine lv_iconst (v := 5) hx hb dX7_charge_15 (by decide) ?_
  refine lv_iconst (v := 0) hx hb dX7_charge_16 (by decide) ?_
  refine lv_iload_n hx hb dX7_charge_17 rfl (lv_at hl 1 rfl) ?_
  refine lv_bipush (v := 7) hx hb dX7_charge_18 (by decide) ?_
  refine lv_isub hx hb dX7_charge_20 ?_
  refine va_mmax hx hb (by rw [hml]; exact hl.1.symm) hown (htg _ tw_322) (htg _ tw_323) (htg _ tw_27) (htg _ tw_324) (Nat.le_of_ble_eq_true rfl) (Nat.le_of_ble_eq_true rfl) (Nat.zero_le _) (Nat.zero_le _) dX7_charge_21 ?_
  refine lv_imul hx hb dX7_charge_24 ?_
  refine lv_isub hx hb dX7_charge_25 ?_
  exact hs_iret hx hb hrt hlocks hK hP hD hS dX7_charge_26 (rfl) (by first | (simp only [lvs, List.foldl_cons, List.foldl_nil]; done) | rfl)

set_option maxHeartbeats 400000 in
set_option maxRecDepth 100000 in
theorem c_X3_wear (l : Launch) (D : va_G) (cN cT cJ : ClassId) (h tr nb k : Nat) (kd rt vl hr hw cu si : Int32) (st : TS) (hst : okT st) (d : Int32) : CM l D yX3_wear cX3_wear 2 (some .int) { frames := 2, cells := 0, slots := 0, locals := 42 } (tyS cN cT cJ) [.ref h, .int d] [(h, tlE k tr kd rt vl hr hw cu si), (tr, trE nb st), (nb, nbE cN st)] (hs_QI D (tyS cN cT cJ) (3 * d) [(h, tlE k tr kd rt vl hr hw cu si), (tr, trE nb (lvs [13, 11] st)), (nb, nbE cN (lvs [13, 11] st))]) := by
  refine CM.of (by decide) (Nat.le_of_ble_eq_true rfl) ?_
  intro p e s m below meth c A ls hx hb hrt hml htg hown hlocks hnm hA hK hP hD hS hl
  have hown : s.vm.findClass RX3 = some m.cls := hown
  have hl : lv_has ls 2 [(0, .ref h), (1, .int d)] := hl
  have SF : CallFix p m c cX3_wear 2 s _ hs_gt RX3 := ⟨hx, hb, hml, hown, htg⟩
  refine lv_aload_n hx hb dX3_wear_0 rfl (lv_at hl 0 rfl) ?_
  refine va_get (D := D) (ci := (kc k)) (v := .ref tr) (C := (kR k)) (T := TX5) (N := 8) hx hb htg (kc_in k) hown hK hP 0 rfl (kc_cl k) 0 (by decide) (htg _ tw_106) (u_same (htg _ tw_107)) rfl dX3_wear_1 ?_
  refine lv_bipush (v := 13) hx hb dX3_wear_4 (by decide) ?_
  refine hs_callv (wc := [(tr, trE nb st), (nb, nbE cN st)]) (w1 := [(tr, trE nb (lvT 13 st)), (nb, nbE cN (lvT 13 st))]) (wr := [(h, tlE k tr kd rt vl hr hw cu si)]) (ws2 := [(h, tlE k tr kd rt vl hr hw cu si), (tr, trE nb (lvT 13 st)), (nb, nbE cN (lvT 13 st))]) (hs_runV (q0 := 0) SF cal_X6_leave tw_335 (c_X6_leave l D cN cT cJ tr nb st hst 13) hK (hP.sub (ws' := [(tr, trE nb st), (nb, nbE cN st)]) [1, 2] rfl) (hD.sub (ws' := [(tr, trE nb st), (nb, nbE cN st)]) [1, 2] (by decide) rfl) rfl rfl ⟨Nat.le_of_ble_eq_true rfl, Nat.le_of_ble_eq_true rfl⟩ rfl hl.1 rfl (Nat.le_of_ble_eq_true rfl) dX3_wear_6 ⟨Nat.le_of_ble_eq_true rfl, Nat.le_of_ble_eq_true rfl⟩) hP hD hS hA [1, 2] [0] [0, 1, 2] rfl rfl (by decide) (by decide) rfl (by decide) (fun H locs hP hD hS => ?_)
  refine lv_iconst (v := 3) hx hb dX3_wear_9 (by decide) ?_
  refine lv_aload_n hx hb dX3_wear_10 rfl (lv_at hl 0 rfl) ?_
  refine lv_iload_n hx hb dX3_wear_11 rfl (lv_at hl 1 rfl) ?_
  refine hs_calli0 (w1 := [(h, tlE k tr kd rt vl hr hw cu si), (tr, trE nb (lvs [11] (lvT 13 st))), (nb, nbE cN (lvs [11] (lvT 13 st)))]) (hs_runSU (q0 := 0) SF su_X3_wear_X5_wear (hs_below1 (htg _ tw_146)) tw_336 (c_X5_wear l D cN cT cJ h tr nb k kd rt vl hr hw cu si (lvT 13 st) (okT_lv 13 hst) d) hK hP hD rfl (kc_cl k) ⟨Nat.le_of_ble_eq_true rfl, Nat.le_of_ble_eq_true rfl⟩ rfl hl.1 rfl (Nat.le_of_ble_eq_true rfl) dX3_wear_12 ⟨Nat.le_of_ble_eq_true rfl, Nat.le_of_ble_eq_true rfl⟩) hD hS hA (fun H locs hP hD hS => ?_)
  refine lv_imul hx hb dX3_wear_15 ?_
  exact hs_iret hx hb hrt hlocks hK hP hD hS dX3_wear_16 (rfl) (by first | (simp only [lvs, List.foldl_cons, List.foldl_nil]; done) | rfl)

set_option maxHeartbeats 400000 in
set_option maxRecDepth 100000 in
theorem c_X7_wear (l : Launch) (D : va_G) (cN cT cJ : ClassId) (h tr nb k : Nat) (kd rt vl hr hw cu si : Int32) (st : TS) (hst : okT st) (d : Int32) : CM l D yX7_wear cX7_wear 2 (some .int) { frames := 2, cells := 0, slots := 0, locals := 42 } (tyS cN cT cJ) [.ref h, .int d] [(h, tlE k tr kd rt vl hr hw cu si), (tr, trE nb st), (nb, nbE cN st)] (hs_QI D (tyS cN cT cJ) (d + hr / 10) [(h, tlE k tr kd rt vl hr hw cu si), (tr, trE nb (lvs [12, 11] st)), (nb, nbE cN (lvs [12, 11] st))]) := by
  refine CM.of (by decide) (Nat.le_of_ble_eq_true rfl) ?_
  intro p e s m below meth c A ls hx hb hrt hml htg hown hlocks hnm hA hK hP hD hS hl
  have hown : s.vm.findClass RX7 = some m.cls := hown
  have hl : lv_has ls 2 [(0, .ref h), (1, .int d)] := hl
  have SF : CallFix p m c cX7_wear 2 s _ hs_gt RX7 := ⟨hx, hb, hml, hown, htg⟩
  refine lv_aload_n hx hb dX7_wear_0 rfl (lv_at hl 0 rfl) ?_
  refine va_get (D := D) (ci := (kc k)) (v := .ref tr) (C := (kR k)) (T := TX5) (N := 8) hx hb htg (kc_in k) hown hK hP 0 rfl (kc_cl k) 0 (by decide) (htg _ tw_102) (u_same (htg _ tw_103)) rfl dX7_wear_1 ?_
  refine lv_bipush (v := 12) hx hb dX7_wear_4 (by decide) ?_
  refine hs_callv (wc := [(tr, trE nb st), (nb, nbE cN st)]) (w1 := [(tr, trE nb (lvT 12 st)), (nb, nbE cN (lvT 12 st))]) (wr := [(h, tlE k tr kd rt vl hr hw cu si)]) (ws2 := [(h, tlE k tr kd rt vl hr hw cu si), (tr, trE nb (lvT 12 st)), (nb, nbE cN (lvT 12 st))]) (hs_runV (q0 := 0) SF cal_X6_leave tw_318 (c_X6_leave l D cN cT cJ tr nb st hst 12) hK (hP.sub (ws' := [(tr, trE nb st), (nb, nbE cN st)]) [1, 2] rfl) (hD.sub (ws' := [(tr, trE nb st), (nb, nbE cN st)]) [1, 2] (by decide) rfl) rfl rfl ⟨Nat.le_of_ble_eq_true rfl, Nat.le_of_ble_eq_true rfl⟩ rfl hl.1 rfl (Nat.le_of_ble_eq_true rfl) dX7_wear_6 ⟨Nat.le_of_ble_eq_true rfl, Nat.le_of_ble_eq_true rfl⟩) hP hD hS hA [1, 2] [0] [0, 1, 2] rfl rfl (by decide) (by decide) rfl (by decide) (fun H locs hP hD hS => ?_)
  refine lv_aload_n hx hb dX7_wear_9 rfl (lv_at hl 0 rfl) ?_
  refine lv_iload_n hx hb dX7_wear_10 rfl (lv_at hl 1 rfl) ?_
  refine hs_calli0 (w1 := [(h, tlE k tr kd rt vl hr hw cu si), (tr, trE nb (lvs [11] (lvT 12 st))), (nb, nbE cN (lvs [11] (lvT 12 st)))]) (hs_runSU (q0 := 0) SF su_X7_wear_X5_wear (hs_below3 (htg _ tw_176) (htg _ tw_161) (htg _ tw_146) (by decide) (by decide) (by decide)) tw_345 (c_X5_wear l D cN cT cJ h tr nb k kd rt vl hr hw cu si (lvT 12 st) (okT_lv 12 hst) d) hK hP hD rfl (kc_cl k) ⟨Nat.le_of_ble_eq_true rfl, Nat.le_of_ble_eq_true rfl⟩ rfl hl.1 rfl (Nat.le_of_ble_eq_true rfl) dX7_wear_11 ⟨Nat.le_of_ble_eq_true rfl, Nat.le_of_ble_eq_true rfl⟩) hD hS hA (fun H locs hP hD hS => ?_)
  refine lv_aload_n hx hb dX7_wear_14 rfl (lv_at hl 0 rfl) ?_
  refine va_get (D := D) (ci := (kc k)) (v := .int hr) (C := (kR k)) (T := TX5) (N := 8) hx hb htg (kc_in k) hown hK hP 0 rfl (kc_cl k) 4 (by decide) (htg _ tw_121) (u_same (htg _ tw_122)) rfl dX7_wear_15 ?_
  refine lv_bipush (v := 10) hx hb dX7_wear_18 (by decide) ?_
  refine lv_idiv hx hb dX7_wear_20 (by decide) ?_
  refine lv_iadd hx hb dX7_wear_21 ?_
  exact hs_iret hx hb hrt hlocks hK hP hD hS dX7_wear_22 (rfl) (by first | (simp only [lvs, List.foldl_cons, List.foldl_nil]; done) | rfl)

set_option maxHeartbeats 400000 in
set_option maxRecDepth 100000 in
theorem c_X0_check (l : Launch) (D : va_G) (cN cT cJ : ClassId) (h tr nb k : Nat) (kd rt vl hr hw cu si : Int32) (st : TS) (hst : okT st) : CM l D yX0_check cX0_check 1 (some .int) { frames := 3, cells := 0, slots := 0, locals := 61 } (tyS cN cT cJ) [.ref h] [(h, tlE k tr kd rt vl hr hw cu si), (tr, trE nb st), (nb, nbE cN st)] (hs_QI D (tyS cN cT cJ) (hr / 10 + 1 + 2) [(h, tlE k tr kd rt vl hr hw cu si), (tr, trE nb (lvs [22, 21, 20] st)), (nb, nbE cN (lvs [22, 21, 20] st))]) := by
  refine CM.of (by decide) (Nat.le_of_ble_eq_true rfl) ?_
  intro p e s m below meth c A ls hx hb hrt hml htg hown hlocks hnm hA hK hP hD hS hl
  have hown : s.vm.findClass RX0 = some m.cls := hown
  have hl : lv_has ls 1 [(0, .ref h)] := hl
  have SF : CallFix p m c cX0_check 1 s _ hs_gt RX0 := ⟨hx, hb, hml, hown, htg⟩
  refine lv_aload_n hx hb dX0_check_0 rfl (lv_at hl 0 rfl) ?_
  refine va_get (D := D) (ci := (kc k)) (v := .ref tr) (C := (kR k)) (T := TX5) (N := 8) hx hb htg (kc_in k) hown hK hP 0 rfl (kc_cl k) 0 (by decide) (htg _ tw_108) (u_same (htg _ tw_109)) rfl dX0_check_1 ?_
  refine lv_bipush (v := 22) hx hb dX0_check_4 (by decide) ?_
  refine hs_callv (wc := [(tr, trE nb st), (nb, nbE cN st)]) (w1 := [(tr, trE nb (lvT 22 st)), (nb, nbE cN (lvT 22 st))]) (wr := [(h, tlE k tr kd rt vl hr hw cu si)]) (ws2 := [(h, tlE k tr kd rt vl hr hw cu si), (tr, trE nb (lvT 22 st)), (nb, nbE cN (lvT 22 st))]) (hs_runV (q0 := 0) SF cal_X6_leave tw_355 (c_X6_leave l D cN cT cJ tr nb st hst 22) hK (hP.sub (ws' := [(tr, trE nb st), (nb, nbE cN st)]) [1, 2] rfl) (hD.sub (ws' := [(tr, trE nb st), (nb, nbE cN st)]) [1, 2] (by decide) rfl) rfl rfl ⟨Nat.le_of_ble_eq_true rfl, Nat.le_of_ble_eq_true rfl⟩ rfl hl.1 rfl (Nat.le_of_ble_eq_true rfl) dX0_check_6 ⟨Nat.le_of_ble_eq_true rfl, Nat.le_of_ble_eq_true rfl⟩) hP hD hS hA [1, 2] [0] [0, 1, 2] rfl rfl (by decide) (by decide) rfl (by decide) (fun H locs hP hD hS => ?_)
  refine lv_aload_n hx hb dX0_check_9 rfl (lv_at hl 0 rfl) ?_
  refine hs_calli0 (w1 := [(h, tlE k tr kd rt vl hr hw cu si), (tr, trE nb (lvs [21, 20] (lvT 22 st))), (nb, nbE cN (lvs [21, 20] (lvT 22 st)))]) (hs_runSU (q0 := 0) SF su_X0_check_X2_check (hs_below1 (htg _ tw_161)) tw_356 (c_X2_check l D cN cT cJ h tr nb k kd rt vl hr hw cu si (lvT 22 st) (okT_lv 22 hst) ) hK hP hD rfl (kc_cl k) ⟨Nat.le_of_ble_eq_true rfl, Nat.le_of_ble_eq_true rfl⟩ rfl hl.1 rfl (Nat.le_of_ble_eq_true rfl) dX0_check_10 ⟨Nat.le_of_ble_eq_true rfl, Nat.le_of_ble_eq_true rfl⟩) hD hS hA (fun H locs hP hD hS => ?_)
  refine lv_iconst (v := 2) hx hb dX0_check_13 (by decide) ?_
  refine lv_iadd hx hb dX0_check_14 ?_
  exact hs_iret hx hb hrt hlocks hK hP hD hS dX0_check_15 (rfl) (by first | (simp only [lvs, List.foldl_cons, List.foldl_nil]; done) | rfl)

set_option maxHeartbeats 400000 in
set_option maxRecDepth 100000 in
theorem c_X1_check (l : Launch) (D : va_G) (cN cT cJ : ClassId) (h tr nb k : Nat) (kd rt vl hr hw cu si : Int32) (st : TS) (hst : okT st) : CM l D yX1_check cX1_check 1 (some .int) { frames := 3, cells := 0, slots := 0, locals := 61 } (tyS cN cT cJ) [.ref h] [(h, tlE k tr kd rt vl hr hw cu si), (tr, trE nb st), (nb, nbE cN st)] (hs_QI D (tyS cN cT cJ) (hr / 10 + 1 + 4) [(h, tlE k tr kd rt vl hr hw cu si), (tr, trE nb (lvs [23, 21, 20] st)), (nb, nbE cN (lvs [23, 21, 20] st))]) := by
  refine CM.of (by decide) (Nat.le_of_ble_eq_true rfl) ?_
  intro p e s m below meth c A ls hx hb hrt hml htg hown hlocks hnm hA hK hP hD hS hl
  have hown : s.vm.findClass RX1 = some m.cls := hown
  have hl : lv_has ls 1 [(0, .ref h)] := hl
  have SF : CallFix p m c cX1_check 1 s _ hs_gt RX1 := ⟨hx, hb, hml, hown, htg⟩
  refine lv_aload_n hx hb dX1_check_0 rfl (lv_at hl 0 rfl) ?_
  refine va_get (D := D) (ci := (kc k)) (v := .ref tr) (C := (kR k)) (T := TX5) (N := 8) hx hb htg (kc_in k) hown hK hP 0 rfl (kc_cl k) 0 (by decide) (htg _ tw_100) (u_same (htg _ tw_101)) rfl dX1_check_1 ?_
  refine lv_bipush (v := 23) hx hb dX1_check_4 (by decide) ?_
  refine hs_callv (wc := [(tr, trE nb st), (nb, nbE cN st)]) (w1 := [(tr, trE nb (lvT 23 st)), (nb, nbE cN (lvT 23 st))]) (wr := [(h, tlE k tr kd rt vl hr hw cu si)]) (ws2 := [(h, tlE k tr kd rt vl hr hw cu si), (tr, trE nb (lvT 23 st)), (nb, nbE cN (lvT 23 st))]) (hs_runV (q0 := 0) SF cal_X6_leave tw_309 (c_X6_leave l D cN cT cJ tr nb st hst 23) hK (hP.sub (ws' := [(tr, trE nb st), (nb, nbE cN st)]) [1, 2] rfl) (hD.sub (ws' := [(tr, trE nb st), (nb, nbE cN st)]) [1, 2] (by decide) rfl) rfl rfl ⟨Nat.le_of_ble_eq_true rfl, Nat.le_of_ble_eq_true rfl⟩ rfl hl.1 rfl (Nat.le_of_ble_eq_true rfl) dX1_check_6 ⟨Nat.le_of_ble_eq_true rfl, Nat.le_of_ble_eq_true rfl⟩) hP hD hS hA [1, 2] [0] [0, 1, 2] rfl rfl (by decide) (by decide) rfl (by decide) (fun H locs hP hD hS => ?_)
  refine lv_aload_n hx hb dX1_check_9 rfl (lv_at hl 0 rfl) ?_
  refine hs_calli0 (w1 := [(h, tlE k tr kd rt vl hr hw cu si), (tr, trE nb (lvs [21, 20] (lvT 23 st))), (nb, nbE cN (lvs [21, 20] (lvT 23 st)))]) (hs_runSU (q0 := 0) SF su_X1_check_X2_check (hs_below1 (htg _ tw_206)) tw_366 (c_X2_check l D cN cT cJ h tr nb k kd rt vl hr hw cu si (lvT 23 st) (okT_lv 23 hst) ) hK hP hD rfl (kc_cl k) ⟨Nat.le_of_ble_eq_true rfl, Nat.le_of_ble_eq_true rfl⟩ rfl hl.1 rfl (Nat.le_of_ble_eq_true rfl) dX1_check_10 ⟨Nat.le_of_ble_eq_true rfl, Nat.le_of_ble_eq_true rfl⟩) hD hS hA (fun H locs hP hD hS => ?_)
  refine lv_iconst (v := 4) hx hb dX1_check_13 (by decide) ?_
  refine lv_iadd hx hb dX1_check_14 ?_
  exact hs_iret hx hb hrt hlocks hK hP hD hS dX1_check_15 (rfl) (by first | (simp only [lvs, List.foldl_cons, List.foldl_nil]; done) | rfl)

set_option maxHeartbeats 400000 in
set_option maxRecDepth 100000 in
theorem c_X7_deposit (l : Launch) (D : va_G) (cN cT cJ : ClassId) (h tr nb k : Nat) (kd rt vl hr hw cu si : Int32) (st : TS) (hst : okT st) : CM l D yX7_deposit cX7_deposit 1 (some .int) { frames := 2, cells := 0, slots := 0, locals := 41 } (tyS cN cT cJ) [.ref h] [(h, tlE k tr kd rt vl hr hw cu si), (tr, trE nb st), (nb, nbE cN st)] (hs_QI D (tyS cN cT cJ) (vl / 2 + 500) [(h, tlE k tr kd rt vl hr hw cu si), (tr, trE nb (lvs [32, 31] st)), (nb, nbE cN (lvs [32, 31] st))]) := by
  refine CM.of (by decide) (Nat.le_of_ble_eq_true rfl) ?_
  intro p e s m below meth c A ls hx hb hrt hml htg hown hlocks hnm hA hK hP hD hS hl
  have hown : s.vm.findClass RX7 = some m.cls := hown
  have hl : lv_has ls 1 [(0, .ref h)] := hl
  have SF : CallFix p m c cX7_deposit 1 s _ hs_gt RX7 := ⟨hx, hb, hml, hown, htg⟩
  refine lv_aload_n hx hb dX7_deposit_0 rfl (lv_at hl 0 rfl) ?_
  refine va_get (D := D) (ci := (kc k)) (v := .ref tr) (C := (kR k)) (T := TX5) (N := 8) hx hb htg (kc_in k) hown hK hP 0 rfl (kc_cl k) 0 (by decide) (htg _ tw_102) (u_same (htg _ tw_103)) rfl dX7_deposit_1 ?_
  refine lv_bipush (v := 32) hx hb dX7_deposit_4 (by decide) ?_
  refine hs_callv (wc := [(tr, trE nb st), (nb, nbE cN st)]) (w1 := [(tr, trE nb (lvT 32 st)), (nb, nbE cN (lvT 32 st))]) (wr := [(h, tlE k tr kd rt vl hr hw cu si)]) (ws2 := [(h, tlE k tr kd rt vl hr hw cu si), (tr, trE nb (lvT 32 st)), (nb, nbE cN (lvT 32 st))]) (hs_runV (q0 := 0) SF cal_X6_leave tw_318 (c_X6_leave l D cN cT cJ tr nb st hst 32) hK (hP.sub (ws' := [(tr, trE nb st), (nb, nbE cN st)]) [1, 2] rfl) (hD.sub (ws' := [(tr, trE nb st), (nb, nbE cN st)]) [1, 2] (by decide) rfl) rfl rfl ⟨Nat.le_of_ble_eq_true rfl, Nat.le_of_ble_eq_true rfl⟩ rfl hl.1 rfl (Nat.le_of_ble_eq_true rfl) dX7_deposit_6 ⟨Nat.le_of_ble_eq_true rfl, Nat.le_of_ble_eq_true rfl⟩) hP hD hS hA [1, 2] [0] [0, 1, 2] rfl rfl (by decide) (by decide) rfl (by decide) (fun H locs hP hD hS => ?_)
  refine lv_aload_n hx hb dX7_deposit_9 rfl (lv_at hl 0 rfl) ?_
  refine hs_calli0 (w1 := [(h, tlE k tr kd rt vl hr hw cu si), (tr, trE nb (lvs [31] (lvT 32 st))), (nb, nbE cN (lvs [31] (lvT 32 st)))]) (hs_runSU (q0 := 0) SF su_X7_deposit_X2_deposit (hs_below2 (htg _ tw_176) (htg _ tw_161) (by decide)) tw_387 (c_X2_deposit l D cN cT cJ h tr nb k kd rt vl hr hw cu si (lvT 32 st) (okT_lv 32 hst) ) hK hP hD rfl (kc_cl k) ⟨Nat.le_of_ble_eq_true rfl, Nat.le_of_ble_eq_true rfl⟩ rfl hl.1 rfl (Nat.le_of_ble_eq_true rfl) dX7_deposit_10 ⟨Nat.le_of_ble_eq_true rfl, Nat.le_of_ble_eq_true rfl⟩) hD hS hA (fun H locs hP hD hS => ?_)
  refine lv_sipush (v := 500) hx hb dX7_deposit_13 (by decide) ?_
  refine lv_iadd hx hb dX7_deposit_16 ?_
  exact hs_iret hx hb hrt hlocks hK hP hD hS dX7_deposit_17 (rfl) (by first | (simp only [lvs, List.foldl_cons, List.foldl_nil]; done) | rfl)
end
section
theorem cu_X4_premium_deposit_2 : hs_cU RX4 "HireShed$Powered" ⟨"HireShed$Saw", "deposit", "()I"⟩ yX2_deposit cX2_deposit 1 (some .int) 0 := ⟨tw_379, tw_378, tw_411, tw_21, tw_409, tw_378, ⟨_, _, _, tw_379⟩, by decide +kernel⟩

theorem cu_X0_premium_check_3 : hs_cU RX0 "HireShed$BenchSaw" ⟨"HireShed$BenchSaw", "check", "()I"⟩ yX0_check cX0_check 1 (some .int) 0 := ⟨tw_354, tw_353, tw_659, tw_23, tw_658, tw_353, ⟨_, _, _, tw_354⟩, by decide +kernel⟩

theorem cu_X0_premium_deposit_3 : hs_cU RX0 "HireShed$Powered" ⟨"HireShed$BenchSaw", "deposit", "()I"⟩ yX2_deposit cX2_deposit 1 (some .int) 0 := ⟨tw_379, tw_378, tw_400, tw_21, tw_388, tw_378, ⟨_, _, _, tw_379⟩, by decide +kernel⟩

theorem cu_X0_premium_check_4 : hs_cU RX7 "HireShed$BenchSaw" ⟨"HireShed$BenchSaw", "check", "()I"⟩ yX0_check cX0_check 1 (some .int) 0 := ⟨tw_354, tw_353, tw_660, tw_23, tw_658, tw_353, ⟨_, _, _, tw_354⟩, by decide +kernel⟩

theorem cu_X0_premium_deposit_4 : hs_cU RX7 "HireShed$Powered" ⟨"HireShed$BenchSaw", "deposit", "()I"⟩ yX7_deposit cX7_deposit 1 (some .int) 0 := ⟨tw_386, tw_385, tw_401, tw_24, tw_388, tw_378, ⟨_, _, _, tw_379⟩, by decide +kernel⟩

set_option maxHeartbeats 400000 in
set_option maxRecDepth 100000 in
theorem c_X4_premium (l : Launch) (D : va_G) (cN cT cJ : ClassId) (h tr nb : Nat) (kd rt vl hr hw cu si : Int32) (st : TS) (hst : okT st) (d : Int32) : CM l D yX4_premium cX4_premium 2 (some .int) { frames := 2, cells := 0, slots := 0, locals := 41 } (tyS cN cT cJ) [.ref h, .int d] [(h, tlE 2 tr kd rt vl hr hw cu si), (tr, trE nb st), (nb, nbE cN st)] (hs_QI D (tyS cN cT cJ) (d * (vl / 2 / 100)) [(h, tlE 2 tr kd rt vl hr hw cu si), (tr, trE nb (lvs [41, 31] st)), (nb, nbE cN (lvs [41, 31] st))]) := by
  refine CM.of (by decide) (Nat.le_of_ble_eq_true rfl) ?_
  intro p e s m below meth c A ls hx hb hrt hml htg hown hlocks hnm hA hK hP hD hS hl
  have hown : s.vm.findClass RX4 = some m.cls := hown
  have hl : lv_has ls 2 [(0, .ref h), (1, .int d)] := hl
  have SF : CallFix p m c cX4_premium 2 s _ hs_gt RX4 := ⟨hx, hb, hml, hown, htg⟩
  refine lv_aload_n hx hb dX4_premium_0 rfl (lv_at hl 0 rfl) ?_
  refine va_get (D := D) (ci := (kc 2)) (v := .ref tr) (C := (kR 2)) (T := TX5) (N := 8) hx hb htg (kc_in 2) hown hK hP 0 rfl (kc_cl 2) 0 (by decide) (htg _ tw_104) (u_same (htg _ tw_105)) rfl dX4_premium_1 ?_
  refine lv_bipush (v := 41) hx hb dX4_premium_4 (by decide) ?_
  refine hs_callv (wc := [(tr, trE nb st), (nb, nbE cN st)]) (w1 := [(tr, trE nb (lvT 41 st)), (nb, nbE cN (lvT 41 st))]) (wr := [(h, tlE 2 tr kd rt vl hr hw cu si)]) (ws2 := [(h, tlE 2 tr kd rt vl hr hw cu si), (tr, trE nb (lvT 41 st)), (nb, nbE cN (lvT 41 st))]) (hs_runV (q0 := 0) SF cal_X6_leave tw_299 (c_X6_leave l D cN cT cJ tr nb st hst 41) hK (hP.sub (ws' := [(tr, trE nb st), (nb, nbE cN st)]) [1, 2] rfl) (hD.sub (ws' := [(tr, trE nb st), (nb, nbE cN st)]) [1, 2] (by decide) rfl) rfl rfl ⟨Nat.le_of_ble_eq_true rfl, Nat.le_of_ble_eq_true rfl⟩ rfl hl.1 rfl (Nat.le_of_ble_eq_true rfl) dX4_premium_6 ⟨Nat.le_of_ble_eq_true rfl, Nat.le_of_ble_eq_true rfl⟩) hP hD hS hA [1, 2] [0] [0, 1, 2] rfl rfl (by decide) (by decide) rfl (by decide) (fun H locs hP hD hS => ?_)
  refine lv_iload_n hx hb dX4_premium_9 rfl (lv_at hl 1 rfl) ?_
  refine lv_aload_n hx hb dX4_premium_10 rfl (lv_at hl 0 rfl) ?_
  refine hs_calli0 (w1 := [(h, tlE 2 tr kd rt vl hr hw cu si), (tr, trE nb (lvs [31] (lvT 41 st))), (nb, nbE cN (lvs [31] (lvT 41 st)))]) (hs_runU (q0 := 0) (ci := 4) (T := TX5) (N := 8) SF cu_X4_premium_deposit_2 tw_408 (c_X2_deposit l D cN cT cJ h tr nb 2 kd rt vl hr hw cu si (lvT 41 st) (okT_lv 41 hst)) hK hP hD rfl rfl ⟨Nat.le_of_ble_eq_true rfl, Nat.le_of_ble_eq_true rfl⟩ rfl hl.1 rfl (Nat.le_of_ble_eq_true rfl) dX4_premium_11 ⟨Nat.le_of_ble_eq_true rfl, Nat.le_of_ble_eq_true rfl⟩) hD hS hA (fun H locs hP hD hS => ?_)
  refine lv_bipush (v := 100) hx hb dX4_premium_14 (by decide) ?_
  refine lv_idiv hx hb dX4_premium_16 (by decide) ?_
  refine lv_imul hx hb dX4_premium_17 ?_
  exact hs_iret hx hb hrt hlocks hK hP hD hS dX4_premium_18 (rfl) (by first | (simp only [lvs, List.foldl_cons, List.foldl_nil]; done) | rfl)

set_option maxHeartbeats 400000 in
set_option maxRecDepth 100000 in
theorem c_X0_premium_3 (l : Launch) (D : va_G) (cN cT cJ : ClassId) (h tr nb : Nat) (kd rt vl hr hw cu si : Int32) (st : TS) (hst : okT st) (d : Int32) : CM l D yX0_premium cX0_premium 2 (some .int) { frames := 4, cells := 0, slots := 0, locals := 81 } (tyS cN cT cJ) [.ref h, .int d] [(h, tlE 3 tr kd rt vl hr hw cu si), (tr, trE nb st), (nb, nbE cN st)] (hs_QI D (tyS cN cT cJ) (d * (hr / 10 + 1 + 2 + vl / 2 / 200)) [(h, tlE 3 tr kd rt vl hr hw cu si), (tr, trE nb (lvs [42, 22, 21, 20, 31] st)), (nb, nbE cN (lvs [42, 22, 21, 20, 31] st))]) := by
  refine CM.of (by decide) (Nat.le_of_ble_eq_true rfl) ?_
  intro p e s m below meth c A ls hx hb hrt hml htg hown hlocks hnm hA hK hP hD hS hl
  have hown : s.vm.findClass RX0 = some m.cls := hown
  have hl : lv_has ls 2 [(0, .ref h), (1, .int d)] := hl
  have SF : CallFix p m c cX0_premium 2 s _ hs_gt RX0 := ⟨hx, hb, hml, hown, htg⟩
  refine lv_aload_n hx hb dX0_premium_0 rfl (lv_at hl 0 rfl) ?_
  refine va_get (D := D) (ci := (kc 3)) (v := .ref tr) (C := (kR 3)) (T := TX5) (N := 8) hx hb htg (kc_in 3) hown hK hP 0 rfl (kc_cl 3) 0 (by decide) (htg _ tw_108) (u_same (htg _ tw_109)) rfl dX0_premium_1 ?_
  refine lv_bipush (v := 42) hx hb dX0_premium_4 (by decide) ?_
  refine hs_callv (wc := [(tr, trE nb st), (nb, nbE cN st)]) (w1 := [(tr, trE nb (lvT 42 st)), (nb, nbE cN (lvT 42 st))]) (wr := [(h, tlE 3 tr kd rt vl hr hw cu si)]) (ws2 := [(h, tlE 3 tr kd rt vl hr hw cu si), (tr, trE nb (lvT 42 st)), (nb, nbE cN (lvT 42 st))]) (hs_runV (q0 := 0) SF cal_X6_leave tw_355 (c_X6_leave l D cN cT cJ tr nb st hst 42) hK (hP.sub (ws' := [(tr, trE nb st), (nb, nbE cN st)]) [1, 2] rfl) (hD.sub (ws' := [(tr, trE nb st), (nb, nbE cN st)]) [1, 2] (by decide) rfl) rfl rfl ⟨Nat.le_of_ble_eq_true rfl, Nat.le_of_ble_eq_true rfl⟩ rfl hl.1 rfl (Nat.le_of_ble_eq_true rfl) dX0_premium_6 ⟨Nat.le_of_ble_eq_true rfl, Nat.le_of_ble_eq_true rfl⟩) hP hD hS hA [1, 2] [0] [0, 1, 2] rfl rfl (by decide) (by decide) rfl (by decide) (fun H locs hP hD hS => ?_)
  refine lv_iload_n hx hb dX0_premium_9 rfl (lv_at hl 1 rfl) ?_
  refine lv_aload_n hx hb dX0_premium_10 rfl (lv_at hl 0 rfl) ?_
  refine hs_calli0 (w1 := [(h, tlE 3 tr kd rt vl hr hw cu si), (tr, trE nb (lvs [22, 21, 20] (lvT 42 st))), (nb, nbE cN (lvs [22, 21, 20] (lvT 42 st)))]) (hs_runU (q0 := 0) (ci := 0) (T := TX5) (N := 8) SF cu_X0_premium_check_3 tw_398 (c_X0_check l D cN cT cJ h tr nb 3 kd rt vl hr hw cu si (lvT 42 st) (okT_lv 42 hst)) hK hP hD rfl rfl ⟨Nat.le_of_ble_eq_true rfl, Nat.le_of_ble_eq_true rfl⟩ rfl hl.1 rfl (Nat.le_of_ble_eq_true rfl) dX0_premium_11 ⟨Nat.le_of_ble_eq_true rfl, Nat.le_of_ble_eq_true rfl⟩) hD hS hA (fun H locs hP hD hS => ?_)
  refine lv_aload_n hx hb dX0_premium_14 rfl (lv_at hl 0 rfl) ?_
  refine hs_calli0 (w1 := [(h, tlE 3 tr kd rt vl hr hw cu si), (tr, trE nb (lvs [31] (lvs [22, 21, 20] (lvT 42 st)))), (nb, nbE cN (lvs [31] (lvs [22, 21, 20] (lvT 42 st))))]) (hs_runU (q0 := 0) (ci := 0) (T := TX5) (N := 8) SF cu_X0_premium_deposit_3 tw_399 (c_X2_deposit l D cN cT cJ h tr nb 3 kd rt vl hr hw cu si (lvs [22, 21, 20] (lvT 42 st)) (okT_lvs [22, 21, 20] (okT_lv 42 hst))) hK hP hD rfl rfl ⟨Nat.le_of_ble_eq_true rfl, Nat.le_of_ble_eq_true rfl⟩ rfl hl.1 rfl (Nat.le_of_ble_eq_true rfl) dX0_premium_15 ⟨Nat.le_of_ble_eq_true rfl, Nat.le_of_ble_eq_true rfl⟩) hD hS hA (fun H locs hP hD hS => ?_)
  refine lv_sipush (v := 200) hx hb dX0_premium_18 (by decide) ?_
  refine lv_idiv hx hb dX0_premium_21 (by decide) ?_
  refine lv_iadd hx hb dX0_premium_22 ?_
  refine lv_imul hx hb dX0_premium_23 ?_
  exact hs_iret hx hb hrt hlocks hK hP hD hS dX0_premium_24 (rfl) (by first | (simp only [lvs, List.foldl_cons, List.foldl_nil]; done) | rfl)

set_option maxHeartbeats 400000 in
set_option maxRecDepth 100000 in
theorem c_X0_premium_4 (l : Launch) (D : va_G) (cN cT cJ : ClassId) (h tr nb : Nat) (kd rt vl hr hw cu si : Int32) (st : TS) (hst : okT st) (d : Int32) : CM l D yX0_premium cX0_premium 2 (some .int) { frames := 4, cells := 0, slots := 0, locals := 81 } (tyS cN cT cJ) [.ref h, .int d] [(h, tlE 4 tr kd rt vl hr hw cu si), (tr, trE nb st), (nb, nbE cN st)] (hs_QI D (tyS cN cT cJ) (d * (hr / 10 + 1 + 2 + (vl / 2 + 500) / 200)) [(h, tlE 4 tr kd rt vl hr hw cu si), (tr, trE nb (lvs [42, 22, 21, 20, 32, 31] st)), (nb, nbE cN (lvs [42, 22, 21, 20, 32, 31] st))]) := by
  refine CM.of (by decide) (Nat.le_of_ble_eq_true rfl) ?_
  intro p e s m below meth c A ls hx hb hrt hml htg hown hlocks hnm hA hK hP hD hS hl
  have hown : s.vm.findClass RX0 = some m.cls := hown
  have hl : lv_has ls 2 [(0, .ref h), (1, .int d)] := hl
  have SF : CallFix p m c cX0_premium 2 s _ hs_gt RX0 := ⟨hx, hb, hml, hown, htg⟩
  refine lv_aload_n hx hb dX0_premium_0 rfl (lv_at hl 0 rfl) ?_
  refine va_get (D := D) (ci := (kc 4)) (v := .ref tr) (C := (kR 4)) (T := TX5) (N := 8) hx hb htg (kc_in 4) hown hK hP 0 rfl (kc_cl 4) 0 (by decide) (htg _ tw_108) (u_same (htg _ tw_109)) rfl dX0_premium_1 ?_
  refine lv_bipush (v := 42) hx hb dX0_premium_4 (by decide) ?_
  refine hs_callv (wc := [(tr, trE nb st), (nb, nbE cN st)]) (w1 := [(tr, trE nb (lvT 42 st)), (nb, nbE cN (lvT 42 st))]) (wr := [(h, tlE 4 tr kd rt vl hr hw cu si)]) (ws2 := [(h, tlE 4 tr kd rt vl hr hw cu si), (tr, trE nb (lvT 42 st)), (nb, nbE cN (lvT 42 st))]) (hs_runV (q0 := 0) SF cal_X6_leave tw_355 (c_X6_leave l D cN cT cJ tr nb st hst 42) hK (hP.sub (ws' := [(tr, trE nb st), (nb, nbE cN st)]) [1, 2] rfl) (hD.sub (ws' := [(tr, trE nb st), (nb, nbE cN st)]) [1, 2] (by decide) rfl) rfl rfl ⟨Nat.le_of_ble_eq_true rfl, Nat.le_of_ble_eq_true rfl⟩ rfl hl.1 rfl (Nat.le_of_ble_eq_true rfl) dX0_premium_6 ⟨Nat.le_of_ble_eq_true rfl, Nat.le_of_ble_eq_true rfl⟩) hP hD hS hA [1, 2] [0] [0, 1, 2] rfl rfl (by decide) (by decide) rfl (by decide) (fun H locs hP hD hS => ?_)
  refine lv_iload_n hx hb dX0_premium_9 rfl (lv_at hl 1 rfl) ?_
  refine lv_aload_n hx hb dX0_premium_10 rfl (lv_at hl 0 rfl) ?_
  refine hs_calli0 (w1 := [(h, tlE 4 tr kd rt vl hr hw cu si), (tr, trE nb (lvs [22, 21, 20] (lvT 42 st))), (nb, nbE cN (lvs [22, 21, 20] (lvT 42 st)))]) (hs_runU (q0 := 0) (ci := 7) (T := TX5) (N := 8) SF cu_X0_premium_check_4 tw_398 (c_X0_check l D cN cT cJ h tr nb 4 kd rt vl hr hw cu si (lvT 42 st) (okT_lv 42 hst)) hK hP hD rfl rfl ⟨Nat.le_of_ble_eq_true rfl, Nat.le_of_ble_eq_true rfl⟩ rfl hl.1 rfl (Nat.le_of_ble_eq_true rfl) dX0_premium_11 ⟨Nat.le_of_ble_eq_true rfl, Nat.le_of_ble_eq_true rfl⟩) hD hS hA (fun H locs hP hD hS => ?_)
  refine lv_aload_n hx hb dX0_premium_14 rfl (lv_at hl 0 rfl) ?_
  refine hs_calli0 (w1 := [(h, tlE 4 tr kd rt vl hr hw cu si), (tr, trE nb (lvs [32, 31] (lvs [22, 21, 20] (lvT 42 st)))), (nb, nbE cN (lvs [32, 31] (lvs [22, 21, 20] (lvT 42 st))))]) (hs_runU (q0 := 0) (ci := 7) (T := TX5) (N := 8) SF cu_X0_premium_deposit_4 tw_399 (c_X7_deposit l D cN cT cJ h tr nb 4 kd rt vl hr hw cu si (lvs [22, 21, 20] (lvT 42 st)) (okT_lvs [22, 21, 20] (okT_lv 42 hst))) hK hP hD rfl rfl ⟨Nat.le_of_ble_eq_true rfl, Nat.le_of_ble_eq_true rfl⟩ rfl hl.1 rfl (Nat.le_of_ble_eq_true rfl) dX0_premium_15 ⟨Nat.le_of_ble_eq_true rfl, Nat.le_of_ble_eq_true rfl⟩) hD hS hA (fun H locs hP hD hS => ?_)
  refine lv_sipush (v := 200) hx hb dX0_premium_18 (by decide) ?_
  refine lv_idiv hx hb dX0_premium_21 (by decide) ?_
  refine lv_iadd hx hb dX0_premium_22 ?_
  refine lv_imul hx hb dX0_premium_23 ?_
  exact hs_iret hx hb hrt hlocks hK hP hD hS dX0_premium_24 (rfl) (by first | (simp only [lvs, List.foldl_cons, List.foldl_nil]; done) | rfl)
end
section
theorem cu_hasDeposit_0 : hs_cU RX5 "HireShed$Tool" ⟨"HireShed$Tool", "hasDeposit", "()Z"⟩ yX5_hasDeposit cX5_hasDeposit 1 (some .boolean) 0 := ⟨tw_260, tw_249, tw_250, tw_20, tw_251, tw_249, ⟨_, _, _, tw_260⟩, by decide +kernel⟩

theorem cu_hasDeposit_1 : hs_cU RX2 "HireShed$Tool" ⟨"HireShed$Tool", "hasDeposit", "()Z"⟩ yX2_hasDeposit cX2_hasDeposit 1 (some .boolean) 0 := ⟨tw_254, tw_253, tw_256, tw_21, tw_251, tw_249, ⟨_, _, _, tw_260⟩, by decide +kernel⟩

theorem cu_hasDeposit_2 : hs_cU RX4 "HireShed$Tool" ⟨"HireShed$Tool", "hasDeposit", "()Z"⟩ yX2_hasDeposit cX2_hasDeposit 1 (some .boolean) 0 := ⟨tw_254, tw_253, tw_258, tw_21, tw_251, tw_249, ⟨_, _, _, tw_260⟩, by decide +kernel⟩

theorem cu_hasDeposit_3 : hs_cU RX0 "HireShed$Tool" ⟨"HireShed$Tool", "hasDeposit", "()Z"⟩ yX2_hasDeposit cX2_hasDeposit 1 (some .boolean) 0 := ⟨tw_254, tw_253, tw_252, tw_21, tw_251, tw_249, ⟨_, _, _, tw_260⟩, by decide +kernel⟩

theorem cu_hasDeposit_4 : hs_cU RX7 "HireShed$Tool" ⟨"HireShed$Tool", "hasDeposit", "()Z"⟩ yX2_hasDeposit cX2_hasDeposit 1 (some .boolean) 0 := ⟨tw_254, tw_253, tw_259, tw_21, tw_251, tw_249, ⟨_, _, _, tw_260⟩, by decide +kernel⟩

theorem cu_hasDeposit_5 : hs_cU RX3 "HireShed$Tool" ⟨"HireShed$Tool", "hasDeposit", "()Z"⟩ yX2_hasDeposit cX2_hasDeposit 1 (some .boolean) 0 := ⟨tw_254, tw_253, tw_257, tw_21, tw_251, tw_249, ⟨_, _, _, tw_260⟩, by decide +kernel⟩

theorem cu_hasDeposit_6 : hs_cU RX1 "HireShed$Tool" ⟨"HireShed$Tool", "hasDeposit", "()Z"⟩ yX2_hasDeposit cX2_hasDeposit 1 (some .boolean) 0 := ⟨tw_254, tw_253, tw_255, tw_21, tw_251, tw_249, ⟨_, _, _, tw_260⟩, by decide +kernel⟩

set_option maxHeartbeats 400000 in
set_option maxRecDepth 100000 in
theorem V_hasDeposit {p : Program} {l : Launch} {e : Env} {R : Room} {s : State} {m : MethodId} {args : Array Value} {below : List Frame} {meth : Method} {c : Code} {H : Heap} {locs : List Loc} {cells slots nL index pc : Nat} {cc0 : ByteArray} {own : String} {ls : Array Slot} {rest : List Value} {D : va_G} {A : Nat → Prop} (cN cT cJ : ClassId) (h tr nb k : Nat) (hk : k < 7) (kd rt vl hr hw cu si : Int32) (st : TS) (hst : okT st) (SF : CallFix p m c cc0 nL s args hs_gt own) (hlink : Cond.methodLink own index ⟨"HireShed$Tool", "hasDeposit", "()Z"⟩ ∈ hs_gt) (hK : va_K D hs_cl (tyS cN cT cJ) s) (hP : va_P D hs_cl [(h, tlE k tr kd rt vl hr hw cu si), (tr, trE nb st), (nb, nbE cN st)] H) (hD : va_D A [(h, tlE k tr kd rt vl hr hw cu si), (tr, trE nb st), (nb, nbE cN st)]) (hR : 1 ≤ R.frames ∧ 20 ≤ R.locals) (hsize : ls.size = nL) (hW : (rest.map fun v => v.category).sum ≤ 8) (hdg : decode cc0 pc = .ok (.invokevirtual index, 3)) (hf : cells ≤ R.cells ∧ slots ≤ R.slots) :
    va_Run p l e R s m args below meth c H locs cells slots 0 0 (F0 m pc ls (.ref h :: rest)) rest (hs_QI D (tyS cN cT cJ) (hasD k) [(h, tlE k tr kd rt vl hr hw cu si), (tr, trE nb st), (nb, nbE cN st)] (va_A [(h, tlE k tr kd rt vl hr hw cu si), (tr, trE nb st), (nb, nbE cN st)] H.size) (Value.ref h :: []).toArray) (va_A [(h, tlE k tr kd rt vl hr hw cu si), (tr, trE nb st), (nb, nbE cN st)] H.size) := by
  match k, hk with

  | 0, hk => exact hs_runU (q0 := 0) (ci := 5) (T := TX5) (N := 8) SF cu_hasDeposit_0 hlink (c_X5_hasDeposit l D cN cT cJ h tr nb 0 kd rt vl hr hw cu si st hst) hK hP hD rfl rfl ⟨Nat.le_trans (Nat.le_of_ble_eq_true rfl) hR.1, Nat.le_trans (Nat.le_of_ble_eq_true rfl) hR.2⟩ rfl hsize rfl hW hdg hf

  | 1, hk => exact hs_runU (q0 := 0) (ci := 2) (T := TX5) (N := 8) SF cu_hasDeposit_1 hlink (c_X2_hasDeposit l D cN cT cJ h tr nb 1 kd rt vl hr hw cu si st hst) hK hP hD rfl rfl ⟨Nat.le_trans (Nat.le_of_ble_eq_true rfl) hR.1, Nat.le_trans (Nat.le_of_ble_eq_true rfl) hR.2⟩ rfl hsize rfl hW hdg hf

  | 2, hk => exact hs_runU (q0 := 0) (ci := 4) (T := TX5) (N := 8) SF cu_hasDeposit_2 hlink (c_X2_hasDeposit l D cN cT cJ h tr nb 2 kd rt vl hr hw cu si st hst) hK hP hD rfl rfl ⟨Nat.le_trans (Nat.le_of_ble_eq_true rfl) hR.1, Nat.le_trans (Nat.le_of_ble_eq_true rfl) hR.2⟩ rfl hsize rfl hW hdg hf

  | 3, hk => exact hs_runU (q0 := 0) (ci := 0) (T := TX5) (N := 8) SF cu_hasDeposit_3 hlink (c_X2_hasDeposit l D cN cT cJ h tr nb 3 kd rt vl hr hw cu si st hst) hK hP hD rfl rfl ⟨Nat.le_trans (Nat.le_of_ble_eq_true rfl) hR.1, Nat.le_trans (Nat.le_of_ble_eq_true rfl) hR.2⟩ rfl hsize rfl hW hdg hf

  | 4, hk => exact hs_runU (q0 := 0) (ci := 7) (T := TX5) (N := 8) SF cu_hasDeposit_4 hlink (c_X2_hasDeposit l D cN cT cJ h tr nb 4 kd rt vl hr hw cu si st hst) hK hP hD rfl rfl ⟨Nat.le_trans (Nat.le_of_ble_eq_true rfl) hR.1, Nat.le_trans (Nat.le_of_ble_eq_true rfl) hR.2⟩ rfl hsize rfl hW hdg hf

  | 5, hk => exact hs_runU (q0 := 0) (ci := 3) (T := TX5) (N := 8) SF cu_hasDeposit_5 hlink (c_X2_hasDeposit l D cN cT cJ h tr nb 5 kd rt vl hr hw cu si st hst) hK hP hD rfl rfl ⟨Nat.le_trans (Nat.le_of_ble_eq_true rfl) hR.1, Nat.le_trans (Nat.le_of_ble_eq_true rfl) hR.2⟩ rfl hsize rfl hW hdg hf

  | 6, hk => exact hs_runU (q0 := 0) (ci := 1) (T := TX5) (N := 8) SF cu_hasDeposit_6 hlink (c_X2_hasDeposit l D cN cT cJ h tr nb 6 kd rt vl hr hw cu si st hst) hK hP hD rfl rfl ⟨Nat.le_trans (Nat.le_of_ble_eq_true rfl) hR.1, Nat.le_trans (Nat.le_of_ble_eq_true rfl) hR.2⟩ rfl hsize rfl hW hdg hf

  | k + 7, hk => exact absurd hk (by omega)

theorem cu_isInsured_0 : hs_cU RX5 "HireShed$Tool" ⟨"HireShed$Tool", "isInsured", "()Z"⟩ yX5_isInsured cX5_isInsured 1 (some .boolean) 0 := ⟨tw_273, tw_262, tw_263, tw_20, tw_264, tw_262, ⟨_, _, _, tw_273⟩, by decide +kernel⟩

theorem cu_isInsured_1 : hs_cU RX2 "HireShed$Tool" ⟨"HireShed$Tool", "isInsured", "()Z"⟩ yX5_isInsured cX5_isInsured 1 (some .boolean) 0 := ⟨tw_273, tw_262, tw_269, tw_20, tw_264, tw_262, ⟨_, _, _, tw_273⟩, by decide +kernel⟩

theorem cu_isInsured_2 : hs_cU RX4 "HireShed$Tool" ⟨"HireShed$Tool", "isInsured", "()Z"⟩ yX4_isInsured cX4_isInsured 1 (some .boolean) 0 := ⟨tw_267, tw_266, tw_271, tw_22, tw_264, tw_262, ⟨_, _, _, tw_273⟩, by decide +kernel⟩

theorem cu_isInsured_3 : hs_cU RX0 "HireShed$Tool" ⟨"HireShed$Tool", "isInsured", "()Z"⟩ yX4_isInsured cX4_isInsured 1 (some .boolean) 0 := ⟨tw_267, tw_266, tw_265, tw_22, tw_264, tw_262, ⟨_, _, _, tw_273⟩, by decide +kernel⟩

theorem cu_isInsured_4 : hs_cU RX7 "HireShed$Tool" ⟨"HireShed$Tool", "isInsured", "()Z"⟩ yX4_isInsured cX4_isInsured 1 (some .boolean) 0 := ⟨tw_267, tw_266, tw_272, tw_22, tw_264, tw_262, ⟨_, _, _, tw_273⟩, by decide +kernel⟩

theorem cu_isInsured_5 : hs_cU RX3 "HireShed$Tool" ⟨"HireShed$Tool", "isInsured", "()Z"⟩ yX5_isInsured cX5_isInsured 1 (some .boolean) 0 := ⟨tw_273, tw_262, tw_270, tw_20, tw_264, tw_262, ⟨_, _, _, tw_273⟩, by decide +kernel⟩

theorem cu_isInsured_6 : hs_cU RX1 "HireShed$Tool" ⟨"HireShed$Tool", "isInsured", "()Z"⟩ yX5_isInsured cX5_isInsured 1 (some .boolean) 0 := ⟨tw_273, tw_262, tw_268, tw_20, tw_264, tw_262, ⟨_, _, _, tw_273⟩, by decide +kernel⟩

set_option maxHeartbeats 400000 in
set_option maxRecDepth 100000 in
theorem V_isInsured {p : Program} {l : Launch} {e : Env} {R : Room} {s : State} {m : MethodId} {args : Array Value} {below : List Frame} {meth : Method} {c : Code} {H : Heap} {locs : List Loc} {cells slots nL index pc : Nat} {cc0 : ByteArray} {own : String} {ls : Array Slot} {rest : List Value} {D : va_G} {A : Nat → Prop} (cN cT cJ : ClassId) (h tr nb k : Nat) (hk : k < 7) (kd rt vl hr hw cu si : Int32) (st : TS) (hst : okT st) (SF : CallFix p m c cc0 nL s args hs_gt own) (hlink : Cond.methodLink own index ⟨"HireShed$Tool", "isInsured", "()Z"⟩ ∈ hs_gt) (hK : va_K D hs_cl (tyS cN cT cJ) s) (hP : va_P D hs_cl [(h, tlE k tr kd rt vl hr hw cu si), (tr, trE nb st), (nb, nbE cN st)] H) (hD : va_D A [(h, tlE k tr kd rt vl hr hw cu si), (tr, trE nb st), (nb, nbE cN st)]) (hR : 1 ≤ R.frames ∧ 20 ≤ R.locals) (hsize : ls.size = nL) (hW : (rest.map fun v => v.category).sum ≤ 8) (hdg : decode cc0 pc = .ok (.invokevirtual index, 3)) (hf : cells ≤ R.cells ∧ slots ≤ R.slots) :
    va_Run p l e R s m args below meth c H locs cells slots 0 0 (F0 m pc ls (.ref h :: rest)) rest (hs_QI D (tyS cN cT cJ) (isI k) [(h, tlE k tr kd rt vl hr hw cu si), (tr, trE nb st), (nb, nbE cN st)] (va_A [(h, tlE k tr kd rt vl hr hw cu si), (tr, trE nb st), (nb, nbE cN st)] H.size) (Value.ref h :: []).toArray) (va_A [(h, tlE k tr kd rt vl hr hw cu si), (tr, trE nb st), (nb, nbE cN st)] H.size) := by
  match k, hk with

  | 0, hk => exact hs_runU (q0 := 0) (ci := 5) (T := TX5) (N := 8) SF cu_isInsured_0 hlink (c_X5_isInsured l D cN cT cJ h tr nb 0 kd rt vl hr hw cu si st hst) hK hP hD rfl rfl ⟨Nat.le_trans (Nat.le_of_ble_eq_true rfl) hR.1, Nat.le_trans (Nat.le_of_ble_eq_true rfl) hR.2⟩ rfl hsize rfl hW hdg hf

  | 1, hk => exact hs_runU (q0 := 0) (ci := 2) (T := TX5) (N := 8) SF cu_isInsured_1 hlink (c_X5_isInsured l D cN cT cJ h tr nb 1 kd rt vl hr hw cu si st hst) hK hP hD rfl rfl ⟨Nat.le_trans (Nat.le_of_ble_eq_true rfl) hR.1, Nat.le_trans (Nat.le_of_ble_eq_true rfl) hR.2⟩ rfl hsize rfl hW hdg hf

  | 2, hk => exact hs_runU (q0 := 0) (ci := 4) (T := TX5) (N := 8) SF cu_isInsured_2 hlink (c_X4_isInsured l D cN cT cJ h tr nb 2 kd rt vl hr hw cu si st hst) hK hP hD rfl rfl ⟨Nat.le_trans (Nat.le_of_ble_eq_true rfl) hR.1, Nat.le_trans (Nat.le_of_ble_eq_true rfl) hR.2⟩ rfl hsize rfl hW hdg hf

  | 3, hk => exact hs_runU (q0 := 0) (ci := 0) (T := TX5) (N := 8) SF cu_isInsured_3 hlink (c_X4_isInsured l D cN cT cJ h tr nb 3 kd rt vl hr hw cu si st hst) hK hP hD rfl rfl ⟨Nat.le_trans (Nat.le_of_ble_eq_true rfl) hR.1, Nat.le_trans (Nat.le_of_ble_eq_true rfl) hR.2⟩ rfl hsize rfl hW hdg hf

  | 4, hk => exact hs_runU (q0 := 0) (ci := 7) (T := TX5) (N := 8) SF cu_isInsured_4 hlink (c_X4_isInsured l D cN cT cJ h tr nb 4 kd rt vl hr hw cu si st hst) hK hP hD rfl rfl ⟨Nat.le_trans (Nat.le_of_ble_eq_true rfl) hR.1, Nat.le_trans (Nat.le_of_ble_eq_true rfl) hR.2⟩ rfl hsize rfl hW hdg hf

  | 5, hk => exact hs_runU (q0 := 0) (ci := 3) (T := TX5) (N := 8) SF cu_isInsured_5 hlink (c_X5_isInsured l D cN cT cJ h tr nb 5 kd rt vl hr hw cu si st hst) hK hP hD rfl rfl ⟨Nat.le_trans (Nat.le_of_ble_eq_true rfl) hR.1, Nat.le_trans (Nat.le_of_ble_eq_true rfl) hR.2⟩ rfl hsize rfl hW hdg hf

  | 6, hk => exact hs_runU (q0 := 0) (ci := 1) (T := TX5) (N := 8) SF cu_isInsured_6 hlink (c_X5_isInsured l D cN cT cJ h tr nb 6 kd rt vl hr hw cu si st hst) hK hP hD rfl rfl ⟨Nat.le_trans (Nat.le_of_ble_eq_true rfl) hR.1, Nat.le_trans (Nat.le_of_ble_eq_true rfl) hR.2⟩ rfl hsize rfl hW hdg hf

  | k + 7, hk => exact absurd hk (by omega)

theorem cu_isServiced_0 : hs_cU RX5 "HireShed$Tool" ⟨"HireShed$Tool", "isServiced", "()Z"⟩ yX5_isServiced cX5_isServiced 1 (some .boolean) 0 := ⟨tw_288, tw_275, tw_276, tw_20, tw_277, tw_275, ⟨_, _, _, tw_288⟩, by decide +kernel⟩

theorem cu_isServiced_1 : hs_cU RX2 "HireShed$Tool" ⟨"HireShed$Tool", "isServiced", "()Z"⟩ yX5_isServiced cX5_isServiced 1 (some .boolean) 0 := ⟨tw_288, tw_275, tw_284, tw_20, tw_277, tw_275, ⟨_, _, _, tw_288⟩, by decide +kernel⟩

theorem cu_isServiced_2 : hs_cU RX4 "HireShed$Tool" ⟨"HireShed$Tool", "isServiced", "()Z"⟩ yX5_isServiced cX5_isServiced 1 (some .boolean) 0 := ⟨tw_288, tw_275, tw_286, tw_20, tw_277, tw_275, ⟨_, _, _, tw_288⟩, by decide +kernel⟩

theorem cu_isServiced_3 : hs_cU RX0 "HireShed$Tool" ⟨"HireShed$Tool", "isServiced", "()Z"⟩ yX0_isServiced cX0_isServiced 1 (some .boolean) 0 := ⟨tw_280, tw_279, tw_278, tw_23, tw_277, tw_275, ⟨_, _, _, tw_288⟩, by decide +kernel⟩

theorem cu_isServiced_4 : hs_cU RX7 "HireShed$Tool" ⟨"HireShed$Tool", "isServiced", "()Z"⟩ yX0_isServiced cX0_isServiced 1 (some .boolean) 0 := ⟨tw_280, tw_279, tw_287, tw_23, tw_277, tw_275, ⟨_, _, _, tw_288⟩, by decide +kernel⟩

theorem cu_isServiced_5 : hs_cU RX3 "HireShed$Tool" ⟨"HireShed$Tool", "isServiced", "()Z"⟩ yX3_isServiced cX3_isServiced 1 (some .boolean) 0 := ⟨tw_283, tw_282, tw_285, tw_25, tw_277, tw_275, ⟨_, _, _, tw_288⟩, by decide +kernel⟩

theorem cu_isServiced_6 : hs_cU RX1 "HireShed$Tool" ⟨"HireShed$Tool", "isServiced", "()Z"⟩ yX3_isServiced cX3_isServiced 1 (some .boolean) 0 := ⟨tw_283, tw_282, tw_281, tw_25, tw_277, tw_275, ⟨_, _, _, tw_288⟩, by decide +kernel⟩

set_option maxHeartbeats 400000 in
set_option maxRecDepth 100000 in
theorem V_isServiced {p : Program} {l : Launch} {e : Env} {R : Room} {s : State} {m : MethodId} {args : Array Value} {below : List Frame} {meth : Method} {c : Code} {H : Heap} {locs : List Loc} {cells slots nL index pc : Nat} {cc0 : ByteArray} {own : String} {ls : Array Slot} {rest : List Value} {D : va_G} {A : Nat → Prop} (cN cT cJ : ClassId) (h tr nb k : Nat) (hk : k < 7) (kd rt vl hr hw cu si : Int32) (st : TS) (hst : okT st) (SF : CallFix p m c cc0 nL s args hs_gt own) (hlink : Cond.methodLink own index ⟨"HireShed$Tool", "isServiced", "()Z"⟩ ∈ hs_gt) (hK : va_K D hs_cl (tyS cN cT cJ) s) (hP : va_P D hs_cl [(h, tlE k tr kd rt vl hr hw cu si), (tr, trE nb st), (nb, nbE cN st)] H) (hD : va_D A [(h, tlE k tr kd rt vl hr hw cu si), (tr, trE nb st), (nb, nbE cN st)]) (hR : 1 ≤ R.frames ∧ 20 ≤ R.locals) (hsize : ls.size = nL) (hW : (rest.map fun v => v.category).sum ≤ 8) (hdg : decode cc0 pc = .ok (.invokevirtual index, 3)) (hf : cells ≤ R.cells ∧ slots ≤ R.slots) :
    va_Run p l e R s m args below meth c H locs cells slots 0 0 (F0 m pc ls (.ref h :: rest)) rest (hs_QI D (tyS cN cT cJ) (isS k) [(h, tlE k tr kd rt vl hr hw cu si), (tr, trE nb st), (nb, nbE cN st)] (va_A [(h, tlE k tr kd rt vl hr hw cu si), (tr, trE nb st), (nb, nbE cN st)] H.size) (Value.ref h :: []).toArray) (va_A [(h, tlE k tr kd rt vl hr hw cu si), (tr, trE nb st), (nb, nbE cN st)] H.size) := by
  match k, hk with

  | 0, hk => exact hs_runU (q0 := 0) (ci := 5) (T := TX5) (N := 8) SF cu_isServiced_0 hlink (c_X5_isServiced l D cN cT cJ h tr nb 0 kd rt vl hr hw cu si st hst) hK hP hD rfl rfl ⟨Nat.le_trans (Nat.le_of_ble_eq_true rfl) hR.1, Nat.le_trans (Nat.le_of_ble_eq_true rfl) hR.2⟩ rfl hsize rfl hW hdg hf

  | 1, hk => exact hs_runU (q0 := 0) (ci := 2) (T := TX5) (N := 8) SF cu_isServiced_1 hlink (c_X5_isServiced l D cN cT cJ h tr nb 1 kd rt vl hr hw cu si st hst) hK hP hD rfl rfl ⟨Nat.le_trans (Nat.le_of_ble_eq_true rfl) hR.1, Nat.le_trans (Nat.le_of_ble_eq_true rfl) hR.2⟩ rfl hsize rfl hW hdg hf

  | 2, hk => exact hs_runU (q0 := 0) (ci := 4) (T := TX5) (N := 8) SF cu_isServiced_2 hlink (c_X5_isServiced l D cN cT cJ h tr nb 2 kd rt vl hr hw cu si st hst) hK hP hD rfl rfl ⟨Nat.le_trans (Nat.le_of_ble_eq_true rfl) hR.1, Nat.le_trans (Nat.le_of_ble_eq_true rfl) hR.2⟩ rfl hsize rfl hW hdg hf

  | 3, hk => exact hs_runU (q0 := 0) (ci := 0) (T := TX5) (N := 8) SF cu_isServiced_3 hlink (c_X0_isServiced l D cN cT cJ h tr nb 3 kd rt vl hr hw cu si st hst) hK hP hD rfl rfl ⟨Nat.le_trans (Nat.le_of_ble_eq_true rfl) hR.1, Nat.le_trans (Nat.le_of_ble_eq_true rfl) hR.2⟩ rfl hsize rfl hW hdg hf

  | 4, hk => exact hs_runU (q0 := 0) (ci := 7) (T := TX5) (N := 8) SF cu_isServiced_4 hlink (c_X0_isServiced l D cN cT cJ h tr nb 4 kd rt vl hr hw cu si st hst) hK hP hD rfl rfl ⟨Nat.le_trans (Nat.le_of_ble_eq_true rfl) hR.1, Nat.le_trans (Nat.le_of_ble_eq_true rfl) hR.2⟩ rfl hsize rfl hW hdg hf

  | 5, hk => exact hs_runU (q0 := 0) (ci := 3) (T := TX5) (N := 8) SF cu_isServiced_5 hlink (c_X3_isServiced l D cN cT cJ h tr nb 5 kd rt vl hr hw cu si st hst) hK hP hD rfl rfl ⟨Nat.le_trans (Nat.le_of_ble_eq_true rfl) hR.1, Nat.le_trans (Nat.le_of_ble_eq_true rfl) hR.2⟩ rfl hsize rfl hW hdg hf

  | 6, hk => exact hs_runU (q0 := 0) (ci := 1) (T := TX5) (N := 8) SF cu_isServiced_6 hlink (c_X3_isServiced l D cN cT cJ h tr nb 6 kd rt vl hr hw cu si st hst) hK hP hD rfl rfl ⟨Nat.le_trans (Nat.le_of_ble_eq_true rfl) hR.1, Nat.le_trans (Nat.le_of_ble_eq_true rfl) hR.2⟩ rfl hsize rfl hW hdg hf

  | k + 7, hk => exact absurd hk (by omega)

theorem cu_charge_0 : hs_cU RX5 "HireShed$Tool" ⟨"HireShed$Tool", "charge", "(I)I"⟩ yX5_charge cX5_charge 2 (some .int) 1 := ⟨tw_325, tw_293, tw_294, tw_20, tw_295, tw_293, ⟨_, _, _, tw_325⟩, by decide +kernel⟩

theorem cu_charge_1 : hs_cU RX2 "HireShed$Tool" ⟨"HireShed$Tool", "charge", "(I)I"⟩ yX5_charge cX5_charge 2 (some .int) 1 := ⟨tw_325, tw_293, tw_312, tw_20, tw_295, tw_293, ⟨_, _, _, tw_325⟩, by decide +kernel⟩

theorem cu_charge_2 : hs_cU RX4 "HireShed$Tool" ⟨"HireShed$Tool", "charge", "(I)I"⟩ yX4_charge cX4_charge 2 (some .int) 1 := ⟨tw_298, tw_297, tw_314, tw_22, tw_295, tw_293, ⟨_, _, _, tw_325⟩, by decide +kernel⟩

theorem cu_charge_3 : hs_cU RX0 "HireShed$Tool" ⟨"HireShed$Tool", "charge", "(I)I"⟩ yX4_charge cX4_charge 2 (some .int) 1 := ⟨tw_298, tw_297, tw_296, tw_22, tw_295, tw_293, ⟨_, _, _, tw_325⟩, by decide +kernel⟩

theorem cu_charge_4 : hs_cU RX7 "HireShed$Tool" ⟨"HireShed$Tool", "charge", "(I)I"⟩ yX7_charge cX7_charge 2 (some .int) 1 := ⟨tw_317, tw_316, tw_315, tw_24, tw_295, tw_293, ⟨_, _, _, tw_325⟩, by decide +kernel⟩

theorem cu_charge_5 : hs_cU RX3 "HireShed$Tool" ⟨"HireShed$Tool", "charge", "(I)I"⟩ yX5_charge cX5_charge 2 (some .int) 1 := ⟨tw_325, tw_293, tw_313, tw_20, tw_295, tw_293, ⟨_, _, _, tw_325⟩, by decide +kernel⟩

theorem cu_charge_6 : hs_cU RX1 "HireShed$Tool" ⟨"HireShed$Tool", "charge", "(I)I"⟩ yX1_charge cX1_charge 2 (some .int) 1 := ⟨tw_308, tw_307, tw_306, tw_26, tw_295, tw_293, ⟨_, _, _, tw_325⟩, by decide +kernel⟩

set_option maxHeartbeats 400000 in
set_option maxRecDepth 100000 in
theorem V_charge {p : Program} {l : Launch} {e : Env} {R : Room} {s : State} {m : MethodId} {args : Array Value} {below : List Frame} {meth : Method} {c : Code} {H : Heap} {locs : List Loc} {cells slots nL index pc : Nat} {cc0 : ByteArray} {own : String} {ls : Array Slot} {rest : List Value} {D : va_G} {A : Nat → Prop} (cN cT cJ : ClassId) (h tr nb k : Nat) (hk : k < 7) (kd rt vl hr hw cu si : Int32) (st : TS) (hst : okT st) (d : Int32) (SF : CallFix p m c cc0 nL s args hs_gt own) (hlink : Cond.methodLink own index ⟨"HireShed$Tool", "charge", "(I)I"⟩ ∈ hs_gt) (hK : va_K D hs_cl (tyS cN cT cJ) s) (hP : va_P D hs_cl [(h, tlE k tr kd rt vl hr hw cu si), (tr, trE nb st), (nb, nbE cN st)] H) (hD : va_D A [(h, tlE k tr kd rt vl hr hw cu si), (tr, trE nb st), (nb, nbE cN st)]) (hR : 4 ≤ R.frames ∧ 84 ≤ R.locals) (hsize : ls.size = nL) (hW : (rest.map fun v => v.category).sum ≤ 8) (hdg : decode cc0 pc = .ok (.invokevirtual index, 3)) (hf : cells ≤ R.cells ∧ slots ≤ R.slots) :
    va_Run p l e R s m args below meth c H locs cells slots 0 0 (F0 m pc ls (.int d :: .ref h :: rest)) rest (hs_QI D (tyS cN cT cJ) (chF k rt vl d) [(h, tlE k tr kd rt vl hr hw cu si), (tr, trE nb (lvs (chN k) st)), (nb, nbE cN (lvs (chN k) st))] (va_A [(h, tlE k tr kd rt vl hr hw cu si), (tr, trE nb st), (nb, nbE cN st)] H.size) (Value.ref h :: [.int d]).toArray) (va_A [(h, tlE k tr kd rt vl hr hw cu si), (tr, trE nb st), (nb, nbE cN st)] H.size) := by
  match k, hk with

  | 0, hk => exact hs_runU (q0 := 0) (ci := 5) (T := TX5) (N := 8) SF cu_charge_0 hlink (c_X5_charge l D cN cT cJ h tr nb 0 kd rt vl hr hw cu si st hst d) hK hP hD rfl rfl ⟨Nat.le_trans (Nat.le_of_ble_eq_true rfl) hR.1, Nat.le_trans (Nat.le_of_ble_eq_true rfl) hR.2⟩ rfl hsize rfl hW hdg hf

  | 1, hk => exact hs_runU (q0 := 0) (ci := 2) (T := TX5) (N := 8) SF cu_charge_1 hlink (c_X5_charge l D cN cT cJ h tr nb 1 kd rt vl hr hw cu si st hst d) hK hP hD rfl rfl ⟨Nat.le_trans (Nat.le_of_ble_eq_true rfl) hR.1, Nat.le_trans (Nat.le_of_ble_eq_true rfl) hR.2⟩ rfl hsize rfl hW hdg hf

  | 2, hk => exact hs_runU (q0 := 0) (ci := 4) (T := TX5) (N := 8) SF cu_charge_2 hlink (c_X4_charge l D cN cT cJ h tr nb 2 kd rt vl hr hw cu si st hst d) hK hP hD rfl rfl ⟨Nat.le_trans (Nat.le_of_ble_eq_true rfl) hR.1, Nat.le_trans (Nat.le_of_ble_eq_true rfl) hR.2⟩ rfl hsize rfl hW hdg hf

  | 3, hk => exact hs_runU (q0 := 0) (ci := 0) (T := TX5) (N := 8) SF cu_charge_3 hlink (c_X4_charge l D cN cT cJ h tr nb 3 kd rt vl hr hw cu si st hst d) hK hP hD rfl rfl ⟨Nat.le_trans (Nat.le_of_ble_eq_true rfl) hR.1, Nat.le_trans (Nat.le_of_ble_eq_true rfl) hR.2⟩ rfl hsize rfl hW hdg hf

  | 4, hk => exact hs_runU (q0 := 0) (ci := 7) (T := TX5) (N := 8) SF cu_charge_4 hlink (c_X7_charge l D cN cT cJ h tr nb 4 kd rt vl hr hw cu si st hst d) hK hP hD rfl rfl ⟨Nat.le_trans (Nat.le_of_ble_eq_true rfl) hR.1, Nat.le_trans (Nat.le_of_ble_eq_true rfl) hR.2⟩ rfl hsize rfl hW hdg hf

  | 5, hk => exact hs_runU (q0 := 0) (ci := 3) (T := TX5) (N := 8) SF cu_charge_5 hlink (c_X5_charge l D cN cT cJ h tr nb 5 kd rt vl hr hw cu si st hst d) hK hP hD rfl rfl ⟨Nat.le_trans (Nat.le_of_ble_eq_true rfl) hR.1, Nat.le_trans (Nat.le_of_ble_eq_true rfl) hR.2⟩ rfl hsize rfl hW hdg hf

  | 6, hk => exact hs_runU (q0 := 0) (ci := 1) (T := TX5) (N := 8) SF cu_charge_6 hlink (c_X1_charge l D cN cT cJ h tr nb 6 kd rt vl hr hw cu si st hst d) hK hP hD rfl rfl ⟨Nat.le_trans (Nat.le_of_ble_eq_true rfl) hR.1, Nat.le_trans (Nat.le_of_ble_eq_true rfl) hR.2⟩ rfl hsize rfl hW hdg hf

  | k + 7, hk => exact absurd hk (by omega)

theorem cu_wear_0 : hs_cU RX5 "HireShed$Tool" ⟨"HireShed$Tool", "wear", "(I)I"⟩ yX5_wear cX5_wear 2 (some .int) 1 := ⟨tw_347, tw_328, tw_329, tw_20, tw_330, tw_328, ⟨_, _, _, tw_347⟩, by decide +kernel⟩

theorem cu_wear_1 : hs_cU RX2 "HireShed$Tool" ⟨"HireShed$Tool", "wear", "(I)I"⟩ yX5_wear cX5_wear 2 (some .int) 1 := ⟨tw_347, tw_328, tw_339, tw_20, tw_330, tw_328, ⟨_, _, _, tw_347⟩, by decide +kernel⟩

theorem cu_wear_2 : hs_cU RX4 "HireShed$Tool" ⟨"HireShed$Tool", "wear", "(I)I"⟩ yX5_wear cX5_wear 2 (some .int) 1 := ⟨tw_347, tw_328, tw_341, tw_20, tw_330, tw_328, ⟨_, _, _, tw_347⟩, by decide +kernel⟩

theorem cu_wear_3 : hs_cU RX0 "HireShed$Tool" ⟨"HireShed$Tool", "wear", "(I)I"⟩ yX5_wear cX5_wear 2 (some .int) 1 := ⟨tw_347, tw_328, tw_331, tw_20, tw_330, tw_328, ⟨_, _, _, tw_347⟩, by decide +kernel⟩

theorem cu_wear_4 : hs_cU RX7 "HireShed$Tool" ⟨"HireShed$Tool", "wear", "(I)I"⟩ yX7_wear cX7_wear 2 (some .int) 1 := ⟨tw_344, tw_343, tw_342, tw_24, tw_330, tw_328, ⟨_, _, _, tw_347⟩, by decide +kernel⟩

theorem cu_wear_5 : hs_cU RX3 "HireShed$Tool" ⟨"HireShed$Tool", "wear", "(I)I"⟩ yX3_wear cX3_wear 2 (some .int) 1 := ⟨tw_334, tw_333, tw_340, tw_25, tw_330, tw_328, ⟨_, _, _, tw_347⟩, by decide +kernel⟩

theorem cu_wear_6 : hs_cU RX1 "HireShed$Tool" ⟨"HireShed$Tool", "wear", "(I)I"⟩ yX3_wear cX3_wear 2 (some .int) 1 := ⟨tw_334, tw_333, tw_332, tw_25, tw_330, tw_328, ⟨_, _, _, tw_347⟩, by decide +kernel⟩

set_option maxHeartbeats 400000 in
set_option maxRecDepth 100000 in
theorem V_wear {p : Program} {l : Launch} {e : Env} {R : Room} {s : State} {m : MethodId} {args : Array Value} {below : List Frame} {meth : Method} {c : Code} {H : Heap} {locs : List Loc} {cells slots nL index pc : Nat} {cc0 : ByteArray} {own : String} {ls : Array Slot} {rest : List Value} {D : va_G} {A : Nat → Prop} (cN cT cJ : ClassId) (h tr nb k : Nat) (hk : k < 7) (kd rt vl hr hw cu si : Int32) (st : TS) (hst : okT st) (d : Int32) (SF : CallFix p m c cc0 nL s args hs_gt own) (hlink : Cond.methodLink own index ⟨"HireShed$Tool", "wear", "(I)I"⟩ ∈ hs_gt) (hK : va_K D hs_cl (tyS cN cT cJ) s) (hP : va_P D hs_cl [(h, tlE k tr kd rt vl hr hw cu si), (tr, trE nb st), (nb, nbE cN st)] H) (hD : va_D A [(h, tlE k tr kd rt vl hr hw cu si), (tr, trE nb st), (nb, nbE cN st)]) (hR : 3 ≤ R.frames ∧ 63 ≤ R.locals) (hsize : ls.size = nL) (hW : (rest.map fun v => v.category).sum ≤ 8) (hdg : decode cc0 pc = .ok (.invokevirtual index, 3)) (hf : cells ≤ R.cells ∧ slots ≤ R.slots) :
    va_Run p l e R s m args below meth c H locs cells slots 0 0 (F0 m pc ls (.int d :: .ref h :: rest)) rest (hs_QI D (tyS cN cT cJ) (weF k hr d) [(h, tlE k tr kd rt vl hr hw cu si), (tr, trE nb (lvs (weN k) st)), (nb, nbE cN (lvs (weN k) st))] (va_A [(h, tlE k tr kd rt vl hr hw cu si), (tr, trE nb st), (nb, nbE cN st)] H.size) (Value.ref h :: [.int d]).toArray) (va_A [(h, tlE k tr kd rt vl hr hw cu si), (tr, trE nb st), (nb, nbE cN st)] H.size) := by
  match k, hk with

  | 0, hk => exact hs_runU (q0 := 0) (ci := 5) (T := TX5) (N := 8) SF cu_wear_0 hlink (c_X5_wear l D cN cT cJ h tr nb 0 kd rt vl hr hw cu si st hst d) hK hP hD rfl rfl ⟨Nat.le_trans (Nat.le_of_ble_eq_true rfl) hR.1, Nat.le_trans (Nat.le_of_ble_eq_true rfl) hR.2⟩ rfl hsize rfl hW hdg hf

  | 1, hk => exact hs_runU (q0 := 0) (ci := 2) (T := TX5) (N := 8) SF cu_wear_1 hlink (c_X5_wear l D cN cT cJ h tr nb 1 kd rt vl hr hw cu si st hst d) hK hP hD rfl rfl ⟨Nat.le_trans (Nat.le_of_ble_eq_true rfl) hR.1, Nat.le_trans (Nat.le_of_ble_eq_true rfl) hR.2⟩ rfl hsize rfl hW hdg hf

  | 2, hk => exact hs_runU (q0 := 0) (ci := 4) (T := TX5) (N := 8) SF cu_wear_2 hlink (c_X5_wear l D cN cT cJ h tr nb 2 kd rt vl hr hw cu si st hst d) hK hP hD rfl rfl ⟨Nat.le_trans (Nat.le_of_ble_eq_true rfl) hR.1, Nat.le_trans (Nat.le_of_ble_eq_true rfl) hR.2⟩ rfl hsize rfl hW hdg hf

  | 3, hk => exact hs_runU (q0 := 0) (ci := 0) (T := TX5) (N := 8) SF cu_wear_3 hlink (c_X5_wear l D cN cT cJ h tr nb 3 kd rt vl hr hw cu si st hst d) hK hP hD rfl rfl ⟨Nat.le_trans (Nat.le_of_ble_eq_true rfl) hR.1, Nat.le_trans (Nat.le_of_ble_eq_true rfl) hR.2⟩ rfl hsize rfl hW hdg hf

  | 4, hk => exact hs_runU (q0 := 0) (ci := 7) (T := TX5) (N := 8) SF cu_wear_4 hlink (c_X7_wear l D cN cT cJ h tr nb 4 kd rt vl hr hw cu si st hst d) hK hP hD rfl rfl ⟨Nat.le_trans (Nat.le_of_ble_eq_true rfl) hR.1, Nat.le_trans (Nat.le_of_ble_eq_true rfl) hR.2⟩ rfl hsize rfl hW hdg hf

  | 5, hk => exact hs_runU (q0 := 0) (ci := 3) (T := TX5) (N := 8) SF cu_wear_5 hlink (c_X3_wear l D cN cT cJ h tr nb 5 kd rt vl hr hw cu si st hst d) hK hP hD rfl rfl ⟨Nat.le_trans (Nat.le_of_ble_eq_true rfl) hR.1, Nat.le_trans (Nat.le_of_ble_eq_true rfl) hR.2⟩ rfl hsize rfl hW hdg hf

  | 6, hk => exact hs_runU (q0 := 0) (ci := 1) (T := TX5) (N := 8) SF cu_wear_6 hlink (c_X3_wear l D cN cT cJ h tr nb 6 kd rt vl hr hw cu si st hst d) hK hP hD rfl rfl ⟨Nat.le_trans (Nat.le_of_ble_eq_true rfl) hR.1, Nat.le_trans (Nat.le_of_ble_eq_true rfl) hR.2⟩ rfl hsize rfl hW hdg hf

  | k + 7, hk => exact absurd hk (by omega)

theorem cu_check_0 : hs_cU RX5 "HireShed$Tool" ⟨"HireShed$Tool", "check", "()I"⟩ yX5_check cX5_check 1 (some .int) 0 := ⟨tw_372, tw_349, tw_350, tw_20, tw_351, tw_349, ⟨_, _, _, tw_372⟩, by decide +kernel⟩

theorem cu_check_1 : hs_cU RX2 "HireShed$Tool" ⟨"HireShed$Tool", "check", "()I"⟩ yX2_check cX2_check 1 (some .int) 0 := ⟨tw_360, tw_359, tw_368, tw_21, tw_351, tw_349, ⟨_, _, _, tw_372⟩, by decide +kernel⟩

theorem cu_check_2 : hs_cU RX4 "HireShed$Tool" ⟨"HireShed$Tool", "check", "()I"⟩ yX2_check cX2_check 1 (some .int) 0 := ⟨tw_360, tw_359, tw_370, tw_21, tw_351, tw_349, ⟨_, _, _, tw_372⟩, by decide +kernel⟩

theorem cu_check_3 : hs_cU RX0 "HireShed$Tool" ⟨"HireShed$Tool", "check", "()I"⟩ yX0_check cX0_check 1 (some .int) 0 := ⟨tw_354, tw_353, tw_352, tw_23, tw_351, tw_349, ⟨_, _, _, tw_372⟩, by decide +kernel⟩

theorem cu_check_4 : hs_cU RX7 "HireShed$Tool" ⟨"HireShed$Tool", "check", "()I"⟩ yX0_check cX0_check 1 (some .int) 0 := ⟨tw_354, tw_353, tw_371, tw_23, tw_351, tw_349, ⟨_, _, _, tw_372⟩, by decide +kernel⟩

theorem cu_check_5 : hs_cU RX3 "HireShed$Tool" ⟨"HireShed$Tool", "check", "()I"⟩ yX2_check cX2_check 1 (some .int) 0 := ⟨tw_360, tw_359, tw_369, tw_21, tw_351, tw_349, ⟨_, _, _, tw_372⟩, by decide +kernel⟩

theorem cu_check_6 : hs_cU RX1 "HireShed$Tool" ⟨"HireShed$Tool", "check", "()I"⟩ yX1_check cX1_check 1 (some .int) 0 := ⟨tw_365, tw_364, tw_363, tw_26, tw_351, tw_349, ⟨_, _, _, tw_372⟩, by decide +kernel⟩

set_option maxHeartbeats 400000 in
set_option maxRecDepth 100000 in
theorem V_check {p : Program} {l : Launch} {e : Env} {R : Room} {s : State} {m : MethodId} {args : Array Value} {below : List Frame} {meth : Method} {c : Code} {H : Heap} {locs : List Loc} {cells slots nL index pc : Nat} {cc0 : ByteArray} {own : String} {ls : Array Slot} {rest : List Value} {D : va_G} {A : Nat → Prop} (cN cT cJ : ClassId) (h tr nb k : Nat) (hk : k < 7) (kd rt vl hr hw cu si : Int32) (st : TS) (hst : okT st) (SF : CallFix p m c cc0 nL s args hs_gt own) (hlink : Cond.methodLink own index ⟨"HireShed$Tool", "check", "()I"⟩ ∈ hs_gt) (hK : va_K D hs_cl (tyS cN cT cJ) s) (hP : va_P D hs_cl [(h, tlE k tr kd rt vl hr hw cu si), (tr, trE nb st), (nb, nbE cN st)] H) (hD : va_D A [(h, tlE k tr kd rt vl hr hw cu si), (tr, trE nb st), (nb, nbE cN st)]) (hR : 4 ≤ R.frames ∧ 81 ≤ R.locals) (hsize : ls.size = nL) (hW : (rest.map fun v => v.category).sum ≤ 8) (hdg : decode cc0 pc = .ok (.invokevirtual index, 3)) (hf : cells ≤ R.cells ∧ slots ≤ R.slots) :
    va_Run p l e R s m args below meth c H locs cells slots 0 0 (F0 m pc ls (.ref h :: rest)) rest (hs_QI D (tyS cN cT cJ) (ckF k hr) [(h, tlE k tr kd rt vl hr hw cu si), (tr, trE nb (lvs (ckN k) st)), (nb, nbE cN (lvs (ckN k) st))] (va_A [(h, tlE k tr kd rt vl hr hw cu si), (tr, trE nb st), (nb, nbE cN st)] H.size) (Value.ref h :: []).toArray) (va_A [(h, tlE k tr kd rt vl hr hw cu si), (tr, trE nb st), (nb, nbE cN st)] H.size) := by
  match k, hk with

  | 0, hk => exact hs_runU (q0 := 0) (ci := 5) (T := TX5) (N := 8) SF cu_check_0 hlink (c_X5_check l D cN cT cJ h tr nb 0 kd rt vl hr hw cu si st hst) hK hP hD rfl rfl ⟨Nat.le_trans (Nat.le_of_ble_eq_true rfl) hR.1, Nat.le_trans (Nat.le_of_ble_eq_true rfl) hR.2⟩ rfl hsize rfl hW hdg hf

  | 1, hk => exact hs_runU (q0 := 0) (ci := 2) (T := TX5) (N := 8) SF cu_check_1 hlink (c_X2_check l D cN cT cJ h tr nb 1 kd rt vl hr hw cu si st hst) hK hP hD rfl rfl ⟨Nat.le_trans (Nat.le_of_ble_eq_true rfl) hR.1, Nat.le_trans (Nat.le_of_ble_eq_true rfl) hR.2⟩ rfl hsize rfl hW hdg hf

  | 2, hk => exact hs_runU (q0 := 0) (ci := 4) (T := TX5) (N := 8) SF cu_check_2 hlink (c_X2_check l D cN cT cJ h tr nb 2 kd rt vl hr hw cu si st hst) hK hP hD rfl rfl ⟨Nat.le_trans (Nat.le_of_ble_eq_true rfl) hR.1, Nat.le_trans (Nat.le_of_ble_eq_true rfl) hR.2⟩ rfl hsize rfl hW hdg hf

  | 3, hk => exact hs_runU (q0 := 0) (ci := 0) (T := TX5) (N := 8) SF cu_check_3 hlink (c_X0_check l D cN cT cJ h tr nb 3 kd rt vl hr hw cu si st hst) hK hP hD rfl rfl ⟨Nat.le_trans (Nat.le_of_ble_eq_true rfl) hR.1, Nat.le_trans (Nat.le_of_ble_eq_true rfl) hR.2⟩ rfl hsize rfl hW hdg hf

  | 4, hk => exact hs_runU (q0 := 0) (ci := 7) (T := TX5) (N := 8) SF cu_check_4 hlink (c_X0_check l D cN cT cJ h tr nb 4 kd rt vl hr hw cu si st hst) hK hP hD rfl rfl ⟨Nat.le_trans (Nat.le_of_ble_eq_true rfl) hR.1, Nat.le_trans (Nat.le_of_ble_eq_true rfl) hR.2⟩ rfl hsize rfl hW hdg hf

  | 5, hk => exact hs_runU (q0 := 0) (ci := 3) (T := TX5) (N := 8) SF cu_check_5 hlink (c_X2_check l D cN cT cJ h tr nb 5 kd rt vl hr hw cu si st hst) hK hP hD rfl rfl ⟨Nat.le_trans (Nat.le_of_ble_eq_true rfl) hR.1, Nat.le_trans (Nat.le_of_ble_eq_true rfl) hR.2⟩ rfl hsize rfl hW hdg hf

  | 6, hk => exact hs_runU (q0 := 0) (ci := 1) (T := TX5) (N := 8) SF cu_check_6 hlink (c_X1_check l D cN cT cJ h tr nb 6 kd rt vl hr hw cu si st hst) hK hP hD rfl rfl ⟨Nat.le_trans (Nat.le_of_ble_eq_true rfl) hR.1, Nat.le_trans (Nat.le_of_ble_eq_true rfl) hR.2⟩ rfl hsize rfl hW hdg hf

  | k + 7, hk => exact absurd hk (by omega)

theorem cu_deposit_0 : hs_cU RX5 "HireShed$Tool" ⟨"HireShed$Tool", "deposit", "()I"⟩ yX5_deposit cX5_deposit 1 (some .int) 0 := ⟨tw_390, tw_374, tw_375, tw_20, tw_376, tw_374, ⟨_, _, _, tw_390⟩, by decide +kernel⟩

theorem cu_deposit_1 : hs_cU RX2 "HireShed$Tool" ⟨"HireShed$Tool", "deposit", "()I"⟩ yX2_deposit cX2_deposit 1 (some .int) 0 := ⟨tw_379, tw_378, tw_381, tw_21, tw_376, tw_374, ⟨_, _, _, tw_390⟩, by decide +kernel⟩

theorem cu_deposit_2 : hs_cU RX4 "HireShed$Tool" ⟨"HireShed$Tool", "deposit", "()I"⟩ yX2_deposit cX2_deposit 1 (some .int) 0 := ⟨tw_379, tw_378, tw_383, tw_21, tw_376, tw_374, ⟨_, _, _, tw_390⟩, by decide +kernel⟩

theorem cu_deposit_3 : hs_cU RX0 "HireShed$Tool" ⟨"HireShed$Tool", "deposit", "()I"⟩ yX2_deposit cX2_deposit 1 (some .int) 0 := ⟨tw_379, tw_378, tw_377, tw_21, tw_376, tw_374, ⟨_, _, _, tw_390⟩, by decide +kernel⟩

theorem cu_deposit_4 : hs_cU RX7 "HireShed$Tool" ⟨"HireShed$Tool", "deposit", "()I"⟩ yX7_deposit cX7_deposit 1 (some .int) 0 := ⟨tw_386, tw_385, tw_384, tw_24, tw_376, tw_374, ⟨_, _, _, tw_390⟩, by decide +kernel⟩

theorem cu_deposit_5 : hs_cU RX3 "HireShed$Tool" ⟨"HireShed$Tool", "deposit", "()I"⟩ yX2_deposit cX2_deposit 1 (some .int) 0 := ⟨tw_379, tw_378, tw_382, tw_21, tw_376, tw_374, ⟨_, _, _, tw_390⟩, by decide +kernel⟩

theorem cu_deposit_6 : hs_cU RX1 "HireShed$Tool" ⟨"HireShed$Tool", "deposit", "()I"⟩ yX2_deposit cX2_deposit 1 (some .int) 0 := ⟨tw_379, tw_378, tw_380, tw_21, tw_376, tw_374, ⟨_, _, _, tw_390⟩, by decide +kernel⟩

set_option maxHeartbeats 400000 in
set_option maxRecDepth 100000 in
theorem V_deposit {p : Program} {l : Launch} {e : Env} {R : Room} {s : State} {m : MethodId} {args : Array Value} {below : List Frame} {meth : Method} {c : Code} {H : Heap} {locs : List Loc} {cells slots nL index pc : Nat} {cc0 : ByteArray} {own : String} {ls : Array Slot} {rest : List Value} {D : va_G} {A : Nat → Prop} (cN cT cJ : ClassId) (h tr nb k : Nat) (hk : k < 7) (kd rt vl hr hw cu si : Int32) (st : TS) (hst : okT st) (SF : CallFix p m c cc0 nL s args hs_gt own) (hlink : Cond.methodLink own index ⟨"HireShed$Tool", "deposit", "()I"⟩ ∈ hs_gt) (hK : va_K D hs_cl (tyS cN cT cJ) s) (hP : va_P D hs_cl [(h, tlE k tr kd rt vl hr hw cu si), (tr, trE nb st), (nb, nbE cN st)] H) (hD : va_D A [(h, tlE k tr kd rt vl hr hw cu si), (tr, trE nb st), (nb, nbE cN st)]) (hR : 3 ≤ R.frames ∧ 61 ≤ R.locals) (hsize : ls.size = nL) (hW : (rest.map fun v => v.category).sum ≤ 8) (hdg : decode cc0 pc = .ok (.invokevirtual index, 3)) (hf : cells ≤ R.cells ∧ slots ≤ R.slots) :
    va_Run p l e R s m args below meth c H locs cells slots 0 0 (F0 m pc ls (.ref h :: rest)) rest (hs_QI D (tyS cN cT cJ) (dpF k vl) [(h, tlE k tr kd rt vl hr hw cu si), (tr, trE nb (lvs (dpN k) st)), (nb, nbE cN (lvs (dpN k) st))] (va_A [(h, tlE k tr kd rt vl hr hw cu si), (tr, trE nb st), (nb, nbE cN st)] H.size) (Value.ref h :: []).toArray) (va_A [(h, tlE k tr kd rt vl hr hw cu si), (tr, trE nb st), (nb, nbE cN st)] H.size) := by
  match k, hk with

  | 0, hk => exact hs_runU (q0 := 0) (ci := 5) (T := TX5) (N := 8) SF cu_deposit_0 hlink (c_X5_deposit l D cN cT cJ h tr nb 0 kd rt vl hr hw cu si st hst) hK hP hD rfl rfl ⟨Nat.le_trans (Nat.le_of_ble_eq_true rfl) hR.1, Nat.le_trans (Nat.le_of_ble_eq_true rfl) hR.2⟩ rfl hsize rfl hW hdg hf

  | 1, hk => exact hs_runU (q0 := 0) (ci := 2) (T := TX5) (N := 8) SF cu_deposit_1 hlink (c_X2_deposit l D cN cT cJ h tr nb 1 kd rt vl hr hw cu si st hst) hK hP hD rfl rfl ⟨Nat.le_trans (Nat.le_of_ble_eq_true rfl) hR.1, Nat.le_trans (Nat.le_of_ble_eq_true rfl) hR.2⟩ rfl hsize rfl hW hdg hf

  | 2, hk => exact hs_runU (q0 := 0) (ci := 4) (T := TX5) (N := 8) SF cu_deposit_2 hlink (c_X2_deposit l D cN cT cJ h tr nb 2 kd rt vl hr hw cu si st hst) hK hP hD rfl rfl ⟨Nat.le_trans (Nat.le_of_ble_eq_true rfl) hR.1, Nat.le_trans (Nat.le_of_ble_eq_true rfl) hR.2⟩ rfl hsize rfl hW hdg hf

  | 3, hk => exact hs_runU (q0 := 0) (ci := 0) (T := TX5) (N := 8) SF cu_deposit_3 hlink (c_X2_deposit l D cN cT cJ h tr nb 3 kd rt vl hr hw cu si st hst) hK hP hD rfl rfl ⟨Nat.le_trans (Nat.le_of_ble_eq_true rfl) hR.1, Nat.le_trans (Nat.le_of_ble_eq_true rfl) hR.2⟩ rfl hsize rfl hW hdg hf

  | 4, hk => exact hs_runU (q0 := 0) (ci := 7) (T := TX5) (N := 8) SF cu_deposit_4 hlink (c_X7_deposit l D cN cT cJ h tr nb 4 kd rt vl hr hw cu si st hst) hK hP hD rfl rfl ⟨Nat.le_trans (Nat.le_of_ble_eq_true rfl) hR.1, Nat.le_trans (Nat.le_of_ble_eq_true rfl) hR.2⟩ rfl hsize rfl hW hdg hf

  | 5, hk => exact hs_runU (q0 := 0) (ci := 3) (T := TX5) (N := 8) SF cu_deposit_5 hlink (c_X2_deposit l D cN cT cJ h tr nb 5 kd rt vl hr hw cu si st hst) hK hP hD rfl rfl ⟨Nat.le_trans (Nat.le_of_ble_eq_true rfl) hR.1, Nat.le_trans (Nat.le_of_ble_eq_true rfl) hR.2⟩ rfl hsize rfl hW hdg hf

  | 6, hk => exact hs_runU (q0 := 0) (ci := 1) (T := TX5) (N := 8) SF cu_deposit_6 hlink (c_X2_deposit l D cN cT cJ h tr nb 6 kd rt vl hr hw cu si st hst) hK hP hD rfl rfl ⟨Nat.le_trans (Nat.le_of_ble_eq_true rfl) hR.1, Nat.le_trans (Nat.le_of_ble_eq_true rfl) hR.2⟩ rfl hsize rfl hW hdg hf

  | k + 7, hk => exact absurd hk (by omega)

theorem cu_premium_0 : hs_cU RX5 "HireShed$Tool" ⟨"HireShed$Tool", "premium", "(I)I"⟩ yX5_premium cX5_premium 2 (some .int) 1 := ⟨tw_414, tw_392, tw_393, tw_20, tw_394, tw_392, ⟨_, _, _, tw_414⟩, by decide +kernel⟩

theorem cu_premium_1 : hs_cU RX2 "HireShed$Tool" ⟨"HireShed$Tool", "premium", "(I)I"⟩ yX5_premium cX5_premium 2 (some .int) 1 := ⟨tw_414, tw_392, tw_403, tw_20, tw_394, tw_392, ⟨_, _, _, tw_414⟩, by decide +kernel⟩

theorem cu_premium_2 : hs_cU RX4 "HireShed$Tool" ⟨"HireShed$Tool", "premium", "(I)I"⟩ yX4_premium cX4_premium 2 (some .int) 1 := ⟨tw_407, tw_406, tw_405, tw_22, tw_394, tw_392, ⟨_, _, _, tw_414⟩, by decide +kernel⟩

theorem cu_premium_3 : hs_cU RX0 "HireShed$Tool" ⟨"HireShed$Tool", "premium", "(I)I"⟩ yX0_premium cX0_premium 2 (some .int) 1 := ⟨tw_397, tw_396, tw_395, tw_23, tw_394, tw_392, ⟨_, _, _, tw_414⟩, by decide +kernel⟩

theorem cu_premium_4 : hs_cU RX7 "HireShed$Tool" ⟨"HireShed$Tool", "premium", "(I)I"⟩ yX0_premium cX0_premium 2 (some .int) 1 := ⟨tw_397, tw_396, tw_413, tw_23, tw_394, tw_392, ⟨_, _, _, tw_414⟩, by decide +kernel⟩

theorem cu_premium_5 : hs_cU RX3 "HireShed$Tool" ⟨"HireShed$Tool", "premium", "(I)I"⟩ yX5_premium cX5_premium 2 (some .int) 1 := ⟨tw_414, tw_392, tw_404, tw_20, tw_394, tw_392, ⟨_, _, _, tw_414⟩, by decide +kernel⟩

theorem cu_premium_6 : hs_cU RX1 "HireShed$Tool" ⟨"HireShed$Tool", "premium", "(I)I"⟩ yX5_premium cX5_premium 2 (some .int) 1 := ⟨tw_414, tw_392, tw_402, tw_20, tw_394, tw_392, ⟨_, _, _, tw_414⟩, by decide +kernel⟩

set_option maxHeartbeats 400000 in
set_option maxRecDepth 100000 in
theorem V_premium {p : Program} {l : Launch} {e : Env} {R : Room} {s : State} {m : MethodId} {args : Array Value} {below : List Frame} {meth : Method} {c : Code} {H : Heap} {locs : List Loc} {cells slots nL index pc : Nat} {cc0 : ByteArray} {own : String} {ls : Array Slot} {rest : List Value} {D : va_G} {A : Nat → Prop} (cN cT cJ : ClassId) (h tr nb k : Nat) (hk : k < 7) (kd rt vl hr hw cu si : Int32) (st : TS) (hst : okT st) (d : Int32) (SF : CallFix p m c cc0 nL s args hs_gt own) (hlink : Cond.methodLink own index ⟨"HireShed$Tool", "premium", "(I)I"⟩ ∈ hs_gt) (hK : va_K D hs_cl (tyS cN cT cJ) s) (hP : va_P D hs_cl [(h, tlE k tr kd rt vl hr hw cu si), (tr, trE nb st), (nb, nbE cN st)] H) (hD : va_D A [(h, tlE k tr kd rt vl hr hw cu si), (tr, trE nb st), (nb, nbE cN st)]) (hR : 5 ≤ R.frames ∧ 102 ≤ R.locals) (hsize : ls.size = nL) (hW : (rest.map fun v => v.category).sum ≤ 8) (hdg : decode cc0 pc = .ok (.invokevirtual index, 3)) (hf : cells ≤ R.cells ∧ slots ≤ R.slots) :
    va_Run p l e R s m args below meth c H locs cells slots 0 0 (F0 m pc ls (.int d :: .ref h :: rest)) rest (hs_QI D (tyS cN cT cJ) (pmF k vl hr d) [(h, tlE k tr kd rt vl hr hw cu si), (tr, trE nb (lvs (pmN k) st)), (nb, nbE cN (lvs (pmN k) st))] (va_A [(h, tlE k tr kd rt vl hr hw cu si), (tr, trE nb st), (nb, nbE cN st)] H.size) (Value.ref h :: [.int d]).toArray) (va_A [(h, tlE k tr kd rt vl hr hw cu si), (tr, trE nb st), (nb, nbE cN st)] H.size) := by
  match k, hk with

  | 0, hk => exact hs_runU (q0 := 0) (ci := 5) (T := TX5) (N := 8) SF cu_premium_0 hlink (c_X5_premium l D cN cT cJ h tr nb 0 kd rt vl hr hw cu si st hst d) hK hP hD rfl rfl ⟨Nat.le_trans (Nat.le_of_ble_eq_true rfl) hR.1, Nat.le_trans (Nat.le_of_ble_eq_true rfl) hR.2⟩ rfl hsize rfl hW hdg hf

  | 1, hk => exact hs_runU (q0 := 0) (ci := 2) (T := TX5) (N := 8) SF cu_premium_1 hlink (c_X5_premium l D cN cT cJ h tr nb 1 kd rt vl hr hw cu si st hst d) hK hP hD rfl rfl ⟨Nat.le_trans (Nat.le_of_ble_eq_true rfl) hR.1, Nat.le_trans (Nat.le_of_ble_eq_true rfl) hR.2⟩ rfl hsize rfl hW hdg hf

  | 2, hk => exact hs_runU (q0 := 0) (ci := 4) (T := TX5) (N := 8) SF cu_premium_2 hlink (c_X4_premium l D cN cT cJ h tr nb kd rt vl hr hw cu si st hst d) hK hP hD rfl rfl ⟨Nat.le_trans (Nat.le_of_ble_eq_true rfl) hR.1, Nat.le_trans (Nat.le_of_ble_eq_true rfl) hR.2⟩ rfl hsize rfl hW hdg hf

  | 3, hk => exact hs_runU (q0 := 0) (ci := 0) (T := TX5) (N := 8) SF cu_premium_3 hlink (c_X0_premium_3 l D cN cT cJ h tr nb kd rt vl hr hw cu si st hst d) hK hP hD rfl rfl ⟨Nat.le_trans (Nat.le_of_ble_eq_true rfl) hR.1, Nat.le_trans (Nat.le_of_ble_eq_true rfl) hR.2⟩ rfl hsize rfl hW hdg hf

  | 4, hk => exact hs_runU (q0 := 0) (ci := 7) (T := TX5) (N := 8) SF cu_premium_4 hlink (c_X0_premium_4 l D cN cT cJ h tr nb kd rt vl hr hw cu si st hst d) hK hP hD rfl rfl ⟨Nat.le_trans (Nat.le_of_ble_eq_true rfl) hR.1, Nat.le_trans (Nat.le_of_ble_eq_true rfl) hR.2⟩ rfl hsize rfl hW hdg hf

  | 5, hk => exact hs_runU (q0 := 0) (ci := 3) (T := TX5) (N := 8) SF cu_premium_5 hlink (c_X5_premium l D cN cT cJ h tr nb 5 kd rt vl hr hw cu si st hst d) hK hP hD rfl rfl ⟨Nat.le_trans (Nat.le_of_ble_eq_true rfl) hR.1, Nat.le_trans (Nat.le_of_ble_eq_true rfl) hR.2⟩ rfl hsize rfl hW hdg hf

  | 6, hk => exact hs_runU (q0 := 0) (ci := 1) (T := TX5) (N := 8) SF cu_premium_6 hlink (c_X5_premium l D cN cT cJ h tr nb 6 kd rt vl hr hw cu si st hst d) hK hP hD rfl rfl ⟨Nat.le_trans (Nat.le_of_ble_eq_true rfl) hR.1, Nat.le_trans (Nat.le_of_ble_eq_true rfl) hR.2⟩ rfl hsize rfl hW hdg hf

  | k + 7, hk => exact absurd hk (by omega)
end
section
set_option maxHeartbeats 400000 in
set_option maxRecDepth 100000 in
theorem c_X5_due (l : Launch) (D : va_G) (cN cT cJ : ClassId) (h tr nb k : Nat) (kd rt vl hr hw cu si : Int32) (st : TS) (hst : okT st) (hk : k < 7) (d : Int32) : CM l D yX5_due cX5_due 2 (some .int) { frames := 3, cells := 0, slots := 0, locals := 63 } (tyS cN cT cJ) [.ref h, .int d] [(h, tlE k tr kd rt vl hr hw cu si), (tr, trE nb st), (nb, nbE cN st)] (hs_QI D (tyS cN cT cJ) (duF k hr d) [(h, tlE k tr kd rt vl hr hw cu si), (tr, trE nb (lvs (duN k) st)), (nb, nbE cN (lvs (duN k) st))]) := by
  refine CM.of (by decide) (Nat.le_of_ble_eq_true rfl) ?_
  intro p e s m below meth c A ls hx hb hrt hml htg hown hlocks hnm hA hK hP hD hS hl
  have hown : s.vm.findClass RX5 = some m.cls := hown
  have hl : lv_has ls 2 [(0, .ref h), (1, .int d)] := hl
  have SF : CallFix p m c cX5_due 2 s _ hs_gt RX5 := ⟨hx, hb, hml, hown, htg⟩
  refine lv_aload_n hx hb dX5_due_0 rfl (lv_at hl 0 rfl) ?_
  refine hs_calli0 (w1 := [(h, tlE k tr kd rt vl hr hw cu si), (tr, trE nb st), (nb, nbE cN st)]) (V_isServiced cN cT cJ h tr nb k hk kd rt vl hr hw cu si st hst  SF tw_426 hK hP hD ⟨Nat.le_of_ble_eq_true rfl, Nat.le_of_ble_eq_true rfl⟩ hl.1 (Nat.le_of_ble_eq_true rfl) dX5_due_1 ⟨Nat.le_of_ble_eq_true rfl, Nat.le_of_ble_eq_true rfl⟩) hD hS hA (fun H locs hP hD hS => ?_)
  refine lv_if_ne (tgt := 9) hx hb dX5_due_4 (by decide) (fun c4 => ?_) (fun c4 => ?_)
  · refine lv_aload_n hx hb dX5_due_9 rfl (lv_at hl 0 rfl) ?_
    refine va_get (D := D) (ci := (kc k)) (v := .ref tr) (C := (kR k)) (T := TX5) (N := 8) hx hb htg (kc_in k) hown hK hP 0 rfl (kc_cl k) 0 (by decide) (htg _ tw_99) (fun _ h9 => h9) rfl dX5_due_10 ?_
    refine lv_bipush (v := 43) hx hb dX5_due_13 (by decide) ?_
    refine hs_callv (wc := [(tr, trE nb st), (nb, nbE cN st)]) (w1 := [(tr, trE nb (lvT 43 st)), (nb, nbE cN (lvT 43 st))]) (wr := [(h, tlE k tr kd rt vl hr hw cu si)]) (ws2 := [(h, tlE k tr kd rt vl hr hw cu si), (tr, trE nb (lvT 43 st)), (nb, nbE cN (lvT 43 st))]) (hs_runV (q0 := 0) SF cal_X6_leave tw_326 (c_X6_leave l D cN cT cJ tr nb st hst 43) hK (hP.sub (ws' := [(tr, trE nb st), (nb, nbE cN st)]) [1, 2] rfl) (hD.sub (ws' := [(tr, trE nb st), (nb, nbE cN st)]) [1, 2] (by decide) rfl) rfl rfl ⟨Nat.le_of_ble_eq_true rfl, Nat.le_of_ble_eq_true rfl⟩ rfl hl.1 rfl (Nat.le_of_ble_eq_true rfl) dX5_due_15 ⟨Nat.le_of_ble_eq_true rfl, Nat.le_of_ble_eq_true rfl⟩) hP hD hS hA [1, 2] [0] [0, 1, 2] rfl rfl (by decide) (by decide) rfl (by decide) (fun H locs hP hD hS => ?_)
    refine lv_aload_n hx hb dX5_due_18 rfl (lv_at hl 0 rfl) ?_
    refine va_get (D := D) (ci := (kc k)) (v := .int hr) (C := (kR k)) (T := TX5) (N := 8) hx hb htg (kc_in k) hown hK hP 0 rfl (kc_cl k) 4 (by decide) (htg _ tw_120) (fun _ h9 => h9) rfl dX5_due_19 ?_
    refine lv_aload_n hx hb dX5_due_22 rfl (lv_at hl 0 rfl) ?_
    refine lv_iload_n hx hb dX5_due_23 rfl (lv_at hl 1 rfl) ?_
    refine hs_calli0 (w1 := [(h, tlE k tr kd rt vl hr hw cu si), (tr, trE nb (lvs (weN k) (lvT 43 st))), (nb, nbE cN (lvs (weN k) (lvT 43 st)))]) (V_wear cN cT cJ h tr nb k hk kd rt vl hr hw cu si (lvT 43 st) (okT_lv 43 hst) d SF tw_427 hK hP hD ⟨Nat.le_of_ble_eq_true rfl, Nat.le_of_ble_eq_true rfl⟩ hl.1 (Nat.le_of_ble_eq_true rfl) dX5_due_24 ⟨Nat.le_of_ble_eq_true rfl, Nat.le_of_ble_eq_true rfl⟩) hD hS hA (fun H locs hP hD hS => ?_)
    refine lv_iadd hx hb dX5_due_27 ?_
    refine lv_bipush (v := 60) hx hb dX5_due_28 (by decide) ?_
    refine lv_icmp_le (tgt := 37) hx hb dX5_due_30 (by decide) (fun c30 => ?_) (fun c30 => ?_)
    · refine lv_iconst (v := 0) hx hb dX5_due_37 (by decide) ?_
      exact hs_iret hx hb hrt hlocks hK hP hD hS dX5_due_38 (by unfold duF; first | (rw [if_pos c4]; done) | (rw [if_neg c4, if_pos c30]; done) | (rw [if_neg c4, if_neg c30]; done)) (by unfold duN; first | (rw [if_pos c4]; rfl) | (rw [if_neg c4]; rfl))
    · refine lv_iconst (v := 1) hx hb dX5_due_33 (by decide) ?_
      refine lv_goto (tgt := 38) hx hb dX5_due_34 (by decide) ?_
      exact hs_iret hx hb hrt hlocks hK hP hD hS dX5_due_38 (by unfold duF; first | (rw [if_pos c4]; done) | (rw [if_neg c4, if_pos c30]; done) | (rw [if_neg c4, if_neg c30]; done)) (by unfold duN; first | (rw [if_pos c4]; rfl) | (rw [if_neg c4]; rfl))
  · refine lv_iconst (v := 0) hx hb dX5_due_7 (by decide) ?_
    exact hs_iret hx hb hrt hlocks hK hP hD hS dX5_due_8 (by unfold duF; first | (rw [if_pos c4]; done) | (rw [if_neg c4, if_pos c30]; done) | (rw [if_neg c4, if_neg c30]; done)) (by unfold duN; first | (rw [if_pos c4]; rfl) | (rw [if_neg c4]; rfl))

set_option maxHeartbeats 400000 in
set_option maxRecDepth 100000 in
theorem c_X5_goOut (l : Launch) (D : va_G) (cN cT cJ : ClassId) (h tr nb k : Nat) (kd rt vl hr hw cu si : Int32) (st : TS) (hst : okT st) (cc td : Int32) : CM l D yX5_goOut cX5_goOut 3 none { frames := 0, cells := 0, slots := 0, locals := 0 } (tyS cN cT cJ) [.ref h, .int cc, .int td] [(h, tlE k tr kd rt vl hr hw cu si), (tr, trE nb st), (nb, nbE cN st)] (hs_QV D (tyS cN cT cJ) [(h, tlE k tr kd rt vl hr 1 cc td), (tr, trE nb st), (nb, nbE cN st)]) := by
  refine CM.of (by decide) (Nat.le_of_ble_eq_true rfl) ?_
  intro p e s m below meth c A ls hx hb hrt hml htg hown hlocks hnm hA hK hP hD hS hl
  have hown : s.vm.findClass RX5 = some m.cls := hown
  have hl : lv_has ls 3 [(0, .ref h), (1, .int cc), (2, .int td)] := hl
  have SF : CallFix p m c cX5_goOut 3 s _ hs_gt RX5 := ⟨hx, hb, hml, hown, htg⟩
  refine lv_aload_n hx hb dX5_goOut_0 rfl (lv_at hl 0 rfl) ?_
  refine lv_iconst (v := 1) hx hb dX5_goOut_1 (by decide) ?_
  refine va_put (D := D) (ci := (kc k)) (v := .int 1) (ty := .int) (C := (kR k)) (T := TX5) (N := 8) hx hb htg (kc_in k) tyX5 tyX5_ok nmX5 hown hK hP hD hS 0 rfl (kc_cl k) 5 (by decide) (htg _ tw_124) (fun _ h9 => h9) rfl (by decide +kernel) rfl rfl (Nat.le_of_ble_eq_true rfl) dX5_goOut_2 (fun H locs hP hD hS => ?_)
  have hP : va_P D hs_cl [(h, tlE k tr kd rt vl hr 1 cu si), (tr, trE nb st), (nb, nbE cN st)] H := hP
  have hD : va_D A [(h, tlE k tr kd rt vl hr 1 cu si), (tr, trE nb st), (nb, nbE cN st)] := hD
  refine lv_aload_n hx hb dX5_goOut_5 rfl (lv_at hl 0 rfl) ?_
  refine lv_iload_n hx hb dX5_goOut_6 rfl (lv_at hl 1 rfl) ?_
  refine va_put (D := D) (ci := (kc k)) (v := .int cc) (ty := .int) (C := (kR k)) (T := TX5) (N := 8) hx hb htg (kc_in k) tyX5 tyX5_ok nmX5 hown hK hP hD hS 0 rfl (kc_cl k) 6 (by decide) (htg _ tw_126) (fun _ h9 => h9) rfl (by decide +kernel) rfl rfl (Nat.le_of_ble_eq_true rfl) dX5_goOut_7 (fun H locs hP hD hS => ?_)
  have hP : va_P D hs_cl [(h, tlE k tr kd rt vl hr 1 cc si), (tr, trE nb st), (nb, nbE cN st)] H := hP
  have hD : va_D A [(h, tlE k tr kd rt vl hr 1 cc si), (tr, trE nb st), (nb, nbE cN st)] := hD
  refine lv_aload_n hx hb dX5_goOut_10 rfl (lv_at hl 0 rfl) ?_
  refine lv_iload_n hx hb dX5_goOut_11 rfl (lv_at hl 2 rfl) ?_
  refine va_put (D := D) (ci := (kc k)) (v := .int td) (ty := .int) (C := (kR k)) (T := TX5) (N := 8) hx hb htg (kc_in k) tyX5 tyX5_ok nmX5 hown hK hP hD hS 0 rfl (kc_cl k) 7 (by decide) (htg _ tw_128) (fun _ h9 => h9) rfl (by decide +kernel) rfl rfl (Nat.le_of_ble_eq_true rfl) dX5_goOut_12 (fun H locs hP hD hS => ?_)
  have hP : va_P D hs_cl [(h, tlE k tr kd rt vl hr 1 cc td), (tr, trE nb st), (nb, nbE cN st)] H := hP
  have hD : va_D A [(h, tlE k tr kd rt vl hr 1 cc td), (tr, trE nb st), (nb, nbE cN st)] := hD
  exact hs_vret hx hb hrt hlocks hK hP hD hS dX5_goOut_15 (rfl)

set_option maxHeartbeats 400000 in
set_option maxRecDepth 100000 in
theorem c_X5_renew (l : Launch) (D : va_G) (cN cT cJ : ClassId) (h tr nb k : Nat) (kd rt vl hr hw cu si : Int32) (st : TS) (hst : okT st) : CM l D yX5_renew cX5_renew 1 none { frames := 0, cells := 0, slots := 0, locals := 0 } (tyS cN cT cJ) [.ref h] [(h, tlE k tr kd rt vl hr hw cu si), (tr, trE nb st), (nb, nbE cN st)] (hs_QV D (tyS cN cT cJ) [(h, tlE k tr kd rt vl 0 0 cu si), (tr, trE nb st), (nb, nbE cN st)]) := by
  refine CM.of (by decide) (Nat.le_of_ble_eq_true rfl) ?_
  intro p e s m below meth c A ls hx hb hrt hml htg hown hlocks hnm hA hK hP hD hS hl
  have hown : s.vm.findClass RX5 = some m.cls := hown
  have hl : lv_has ls 1 [(0, .ref h)] := hl
  have SF : CallFix p m c cX5_renew 1 s _ hs_gt RX5 := ⟨hx, hb, hml, hown, htg⟩
  refine lv_aload_n hx hb dX5_renew_0 rfl (lv_at hl 0 rfl) ?_
  refine lv_iconst (v := 0) hx hb dX5_renew_1 (by decide) ?_
  refine va_put (D := D) (ci := (kc k)) (v := .int 0) (ty := .int) (C := (kR k)) (T := TX5) (N := 8) hx hb htg (kc_in k) tyX5 tyX5_ok nmX5 hown hK hP hD hS 0 rfl (kc_cl k) 4 (by decide) (htg _ tw_120) (fun _ h9 => h9) rfl (by decide +kernel) rfl rfl (Nat.le_of_ble_eq_true rfl) dX5_renew_2 (fun H locs hP hD hS => ?_)
  have hP : va_P D hs_cl [(h, tlE k tr kd rt vl 0 hw cu si), (tr, trE nb st), (nb, nbE cN st)] H := hP
  have hD : va_D A [(h, tlE k tr kd rt vl 0 hw cu si), (tr, trE nb st), (nb, nbE cN st)] := hD
  refine lv_aload_n hx hb dX5_renew_5 rfl (lv_at hl 0 rfl) ?_
  refine lv_iconst (v := 0) hx hb dX5_renew_6 (by decide) ?_
  refine va_put (D := D) (ci := (kc k)) (v := .int 0) (ty := .int) (C := (kR k)) (T := TX5) (N := 8) hx hb htg (kc_in k) tyX5 tyX5_ok nmX5 hown hK hP hD hS 0 rfl (kc_cl k) 5 (by decide) (htg _ tw_124) (fun _ h9 => h9) rfl (by decide +kernel) rfl rfl (Nat.le_of_ble_eq_true rfl) dX5_renew_7 (fun H locs hP hD hS => ?_)
  have hP : va_P D hs_cl [(h, tlE k tr kd rt vl 0 0 cu si), (tr, trE nb st), (nb, nbE cN st)] H := hP
  have hD : va_D A [(h, tlE k tr kd rt vl 0 0 cu si), (tr, trE nb st), (nb, nbE cN st)] := hD
  exact hs_vret hx hb hrt hlocks hK hP hD hS dX5_renew_10 (rfl)

def cbN (k : Nat) : List Int32 := weN k ++ ckN k
theorem lvs_app (a b : List Int32) (st : TS) : lvs b (lvs a st) = lvs (a ++ b) st := by simp [lvs]

set_option maxHeartbeats 400000 in
set_option maxRecDepth 100000 in
theorem c_X5_comeBack (l : Launch) (D : va_G) (cN cT cJ : ClassId) (h tr nb k : Nat) (kd rt vl hr hw cu si : Int32) (st : TS) (hst : okT st) (hk : k < 7) (d : Int32) : CM l D yX5_comeBack cX5_comeBack 2 none { frames := 4, cells := 0, slots := 0, locals := 81 } (tyS cN cT cJ) [.ref h, .int d] [(h, tlE k tr kd rt vl hr hw cu si), (tr, trE nb st), (nb, nbE cN st)] (hs_QV D (tyS cN cT cJ) [(h, tlE k tr kd rt vl (hr + weF k hr d) (if ckF k (hr + weF k hr d) ≤ 9 then 0 else 2) (-1) (-1)), (tr, trE nb (lvs (cbN k) st)), (nb, nbE cN (lvs (cbN k) st))]) := by
  refine CM.of (by decide) (Nat.le_of_ble_eq_true rfl) ?_
  intro p e s m below meth c A ls hx hb hrt hml htg hown hlocks hnm hA hK hP hD hS hl
  have hown : s.vm.findClass RX5 = some m.cls := hown
  have hl : lv_has ls 2 [(0, .ref h), (1, .int d)] := hl
  have SF : CallFix p m c cX5_comeBack 2 s _ hs_gt RX5 := ⟨hx, hb, hml, hown, htg⟩
  refine lv_aload_n hx hb dX5_comeBack_0 rfl (lv_at hl 0 rfl) ?_
  refine lv_iconst (v := (-1)) hx hb dX5_comeBack_1 (by decide) ?_
  refine va_put (D := D) (ci := (kc k)) (v := .int (-1)) (ty := .int) (C := (kR k)) (T := TX5) (N := 8) hx hb htg (kc_in k) tyX5 tyX5_ok nmX5 hown hK hP hD hS 0 rfl (kc_cl k) 6 (by decide) (htg _ tw_126) (fun _ h9 => h9) rfl (by decide +kernel) rfl rfl (Nat.le_of_ble_eq_true rfl) dX5_comeBack_2 (fun H locs hP hD hS => ?_)
  have hP : va_P D hs_cl [(h, tlE k tr kd rt vl hr hw (-1) si), (tr, trE nb st), (nb, nbE cN st)] H := hP
  have hD : va_D A [(h, tlE k tr kd rt vl hr hw (-1) si), (tr, trE nb st), (nb, nbE cN st)] := hD
  refine lv_aload_n hx hb dX5_comeBack_5 rfl (lv_at hl 0 rfl) ?_
  refine lv_iconst (v := (-1)) hx hb dX5_comeBack_6 (by decide) ?_
  refine va_put (D := D) (ci := (kc k)) (v := .int (-1)) (ty := .int) (C := (kR k)) (T := TX5) (N := 8) hx hb htg (kc_in k) tyX5 tyX5_ok nmX5 hown hK hP hD hS 0 rfl (kc_cl k) 7 (by decide) (htg _ tw_128) (fun _ h9 => h9) rfl (by decide +kernel) rfl rfl (Nat.le_of_ble_eq_true rfl) dX5_comeBack_7 (fun H locs hP hD hS => ?_)
  have hP : va_P D hs_cl [(h, tlE k tr kd rt vl hr hw (-1) (-1)), (tr, trE nb st), (nb, nbE cN st)] H := hP
  have hD : va_D A [(h, tlE k tr kd rt vl hr hw (-1) (-1)), (tr, trE nb st), (nb, nbE cN st)] := hD
  refine lv_aload_n hx hb dX5_comeBack_10 rfl (lv_at hl 0 rfl) ?_
  refine lv_dup hx hb dX5_comeBack_11 rfl ?_
  refine va_get (D := D) (ci := (kc k)) (v := .int hr) (C := (kR k)) (T := TX5) (N := 8) hx hb htg (kc_in k) hown hK hP 0 rfl (kc_cl k) 4 (by decide) (htg _ tw_120) (fun _ h9 => h9) rfl dX5_comeBack_12 ?_
  refine lv_aload_n hx hb dX5_comeBack_15 rfl (lv_at hl 0 rfl) ?_
  refine lv_iload_n hx hb dX5_comeBack_16 rfl (lv_at hl 1 rfl) ?_
  refine hs_calli0 (w1 := [(h, tlE k tr kd rt vl hr hw (-1) (-1)), (tr, trE nb (lvs (weN k) st)), (nb, nbE cN (lvs (weN k) st))]) (V_wear cN cT cJ h tr nb k hk kd rt vl hr hw (-1) (-1) st hst d SF tw_427 hK hP hD ⟨Nat.le_of_ble_eq_true rfl, Nat.le_of_ble_eq_true rfl⟩ hl.1 (Nat.le_of_ble_eq_true rfl) dX5_comeBack_17 ⟨Nat.le_of_ble_eq_true rfl, Nat.le_of_ble_eq_true rfl⟩) hD hS hA (fun H locs hP hD hS => ?_)
  refine lv_iadd hx hb dX5_comeBack_20 ?_
  refine va_put (D := D) (ci := (kc k)) (v := .int (hr + (weF k hr d))) (ty := .int) (C := (kR k)) (T := TX5) (N := 8) hx hb htg (kc_in k) tyX5 tyX5_ok nmX5 hown hK hP hD hS 0 rfl (kc_cl k) 4 (by decide) (htg _ tw_120) (fun _ h9 => h9) rfl (by decide +kernel) rfl rfl (Nat.le_of_ble_eq_true rfl) dX5_comeBack_21 (fun H locs hP hD hS => ?_)
  have hP : va_P D hs_cl [(h, tlE k tr kd rt vl (hr + (weF k hr d)) hw (-1) (-1)), (tr, trE nb (lvs (weN k) st)), (nb, nbE cN (lvs (weN k) st))] H := hP
  have hD : va_D A [(h, tlE k tr kd rt vl (hr + (weF k hr d)) hw (-1) (-1)), (tr, trE nb (lvs (weN k) st)), (nb, nbE cN (lvs (weN k) st))] := hD
  refine lv_aload_n hx hb dX5_comeBack_24 rfl (lv_at hl 0 rfl) ?_
  refine lv_aload_n hx hb dX5_comeBack_25 rfl (lv_at hl 0 rfl) ?_
  refine hs_calli0 (w1 := [(h, tlE k tr kd rt vl (hr + (weF k hr d)) hw (-1) (-1)), (tr, trE nb (lvs (ckN k) (lvs (weN k) st))), (nb, nbE cN (lvs (ckN k) (lvs (weN k) st)))]) (V_check cN cT cJ h tr nb k hk kd rt vl (hr + (weF k hr d)) hw (-1) (-1) (lvs (weN k) st) (okT_lvs (weN k) hst)  SF tw_478 hK hP hD ⟨Nat.le_of_ble_eq_true rfl, Nat.le_of_ble_eq_true rfl⟩ hl.1 (Nat.le_of_ble_eq_true rfl) dX5_comeBack_26 ⟨Nat.le_of_ble_eq_true rfl, Nat.le_of_ble_eq_true rfl⟩) hD hS hA (fun H locs hP hD hS => ?_)
  refine lv_bipush (v := 9) hx hb dX5_comeBack_29 (by decide) ?_
  refine lv_icmp_le (tgt := 38) hx hb dX5_comeBack_31 (by decide) (fun c31 => ?_) (fun c31 => ?_)
  · refine lv_iconst (v := 0) hx hb dX5_comeBack_38 (by decide) ?_
    refine va_put (D := D) (ci := (kc k)) (v := .int 0) (ty := .int) (C := (kR k)) (T := TX5) (N := 8) hx hb htg (kc_in k) tyX5 tyX5_ok nmX5 hown hK hP hD hS 0 rfl (kc_cl k) 5 (by decide) (htg _ tw_124) (fun _ h9 => h9) rfl (by decide +kernel) rfl rfl (Nat.le_of_ble_eq_true rfl) dX5_comeBack_39 (fun H locs hP hD hS => ?_)
    have hP : va_P D hs_cl [(h, tlE k tr kd rt vl (hr + (weF k hr d)) 0 (-1) (-1)), (tr, trE nb (lvs (ckN k) (lvs (weN k) st))), (nb, nbE cN (lvs (ckN k) (lvs (weN k) st)))] H := hP
    have hD : va_D A [(h, tlE k tr kd rt vl (hr + (weF k hr d)) 0 (-1) (-1)), (tr, trE nb (lvs (ckN k) (lvs (weN k) st))), (nb, nbE cN (lvs (ckN k) (lvs (weN k) st)))] := hD
    exact hs_vret hx hb hrt hlocks hK hP hD hS dX5_comeBack_42 (by rw [lvs_app]; first | (rw [if_pos c31]; rfl) | (rw [if_neg c31]; rfl))
  · refine lv_iconst (v := 2) hx hb dX5_comeBack_34 (by decide) ?_
    refine lv_goto (tgt := 39) hx hb dX5_comeBack_35 (by decide) ?_
    refine va_put (D := D) (ci := (kc k)) (v := .int 2) (ty := .int) (C := (kR k)) (T := TX5) (N := 8) hx hb htg (kc_in k) tyX5 tyX5_ok nmX5 hown hK hP hD hS 0 rfl (kc_cl k) 5 (by decide) (htg _ tw_124) (fun _ h9 => h9) rfl (by decide +kernel) rfl rfl (Nat.le_of_ble_eq_true rfl) dX5_comeBack_39 (fun H locs hP hD hS => ?_)
    have hP : va_P D hs_cl [(h, tlE k tr kd rt vl (hr + (weF k hr d)) 2 (-1) (-1)), (tr, trE nb (lvs (ckN k) (lvs (weN k) st))), (nb, nbE cN (lvs (ckN k) (lvs (weN k) st)))] H := hP
    have hD : va_D A [(h, tlE k tr kd rt vl (hr + (weF k hr d)) 2 (-1) (-1)), (tr, trE nb (lvs (ckN k) (lvs (weN k) st))), (nb, nbE cN (lvs (ckN k) (lvs (weN k) st)))] := hD
    exact hs_vret hx hb hrt hlocks hK hP hD hS dX5_comeBack_42 (by rw [lvs_app]; first | (rw [if_pos c31]; rfl) | (rw [if_neg c31]; rfl))

theorem cu_due_0 : hs_cU RX5 "HireShed$Tool" ⟨"HireShed$Tool", "due", "(I)I"⟩ yX5_due cX5_due 2 (some .int) 1 := ⟨tw_425, tw_416, tw_417, tw_20, tw_418, tw_416, ⟨_, _, _, tw_425⟩, by decide +kernel⟩

theorem cu_due_1 : hs_cU RX2 "HireShed$Tool" ⟨"HireShed$Tool", "due", "(I)I"⟩ yX5_due cX5_due 2 (some .int) 1 := ⟨tw_425, tw_416, tw_421, tw_20, tw_418, tw_416, ⟨_, _, _, tw_425⟩, by decide +kernel⟩

theorem cu_due_2 : hs_cU RX4 "HireShed$Tool" ⟨"HireShed$Tool", "due", "(I)I"⟩ yX5_due cX5_due 2 (some .int) 1 := ⟨tw_425, tw_416, tw_423, tw_20, tw_418, tw_416, ⟨_, _, _, tw_425⟩, by decide +kernel⟩

theorem cu_due_3 : hs_cU RX0 "HireShed$Tool" ⟨"HireShed$Tool", "due", "(I)I"⟩ yX5_due cX5_due 2 (some .int) 1 := ⟨tw_425, tw_416, tw_419, tw_20, tw_418, tw_416, ⟨_, _, _, tw_425⟩, by decide +kernel⟩

theorem cu_due_4 : hs_cU RX7 "HireShed$Tool" ⟨"HireShed$Tool", "due", "(I)I"⟩ yX5_due cX5_due 2 (some .int) 1 := ⟨tw_425, tw_416, tw_424, tw_20, tw_418, tw_416, ⟨_, _, _, tw_425⟩, by decide +kernel⟩

theorem cu_due_5 : hs_cU RX3 "HireShed$Tool" ⟨"HireShed$Tool", "due", "(I)I"⟩ yX5_due cX5_due 2 (some .int) 1 := ⟨tw_425, tw_416, tw_422, tw_20, tw_418, tw_416, ⟨_, _, _, tw_425⟩, by decide +kernel⟩

theorem cu_due_6 : hs_cU RX1 "HireShed$Tool" ⟨"HireShed$Tool", "due", "(I)I"⟩ yX5_due cX5_due 2 (some .int) 1 := ⟨tw_425, tw_416, tw_420, tw_20, tw_418, tw_416, ⟨_, _, _, tw_425⟩, by decide +kernel⟩

set_option maxHeartbeats 400000 in
set_option maxRecDepth 100000 in
theorem V_due {p : Program} {l : Launch} {e : Env} {R : Room} {s : State} {m : MethodId} {args : Array Value} {below : List Frame} {meth : Method} {c : Code} {H : Heap} {locs : List Loc} {cells slots nL index pc : Nat} {cc0 : ByteArray} {own : String} {ls : Array Slot} {rest : List Value} {D : va_G} {A : Nat → Prop} (cN cT cJ : ClassId) (h tr nb k : Nat) (hk : k < 7) (kd rt vl hr hw cu si : Int32) (st : TS) (hst : okT st) (d : Int32) (SF : CallFix p m c cc0 nL s args hs_gt own) (hlink : Cond.methodLink own index ⟨"HireShed$Tool", "due", "(I)I"⟩ ∈ hs_gt) (hK : va_K D hs_cl (tyS cN cT cJ) s) (hP : va_P D hs_cl [(h, tlE k tr kd rt vl hr hw cu si), (tr, trE nb st), (nb, nbE cN st)] H) (hD : va_D A [(h, tlE k tr kd rt vl hr hw cu si), (tr, trE nb st), (nb, nbE cN st)]) (hR : 4 ≤ R.frames ∧ 84 ≤ R.locals) (hsize : ls.size = nL) (hW : (rest.map fun v => v.category).sum ≤ 8) (hdg : decode cc0 pc = .ok (.invokevirtual index, 3)) (hf : cells ≤ R.cells ∧ slots ≤ R.slots) :
    va_Run p l e R s m args below meth c H locs cells slots 0 0 (F0 m pc ls (.int d :: .ref h :: rest)) rest (hs_QI D (tyS cN cT cJ) (duF k hr d) [(h, tlE k tr kd rt vl hr hw cu si), (tr, trE nb (lvs (duN k) st)), (nb, nbE cN (lvs (duN k) st))] (va_A [(h, tlE k tr kd rt vl hr hw cu si), (tr, trE nb st), (nb, nbE cN st)] H.size) (Value.ref h :: [.int d]).toArray) (va_A [(h, tlE k tr kd rt vl hr hw cu si), (tr, trE nb st), (nb, nbE cN st)] H.size) := by
  match k, hk with

  | 0, hk => exact hs_runU (q0 := 0) (ci := 5) (T := TX5) (N := 8) SF cu_due_0 hlink (c_X5_due l D cN cT cJ h tr nb 0 kd rt vl hr hw cu si st hst hk d) hK hP hD rfl rfl ⟨Nat.le_trans (Nat.le_of_ble_eq_true rfl) hR.1, Nat.le_trans (Nat.le_of_ble_eq_true rfl) hR.2⟩ rfl hsize rfl hW hdg hf

  | 1, hk => exact hs_runU (q0 := 0) (ci := 2) (T := TX5) (N := 8) SF cu_due_1 hlink (c_X5_due l D cN cT cJ h tr nb 1 kd rt vl hr hw cu si st hst hk d) hK hP hD rfl rfl ⟨Nat.le_trans (Nat.le_of_ble_eq_true rfl) hR.1, Nat.le_trans (Nat.le_of_ble_eq_true rfl) hR.2⟩ rfl hsize rfl hW hdg hf

  | 2, hk => exact hs_runU (q0 := 0) (ci := 4) (T := TX5) (N := 8) SF cu_due_2 hlink (c_X5_due l D cN cT cJ h tr nb 2 kd rt vl hr hw cu si st hst hk d) hK hP hD rfl rfl ⟨Nat.le_trans (Nat.le_of_ble_eq_true rfl) hR.1, Nat.le_trans (Nat.le_of_ble_eq_true rfl) hR.2⟩ rfl hsize rfl hW hdg hf

  | 3, hk => exact hs_runU (q0 := 0) (ci := 0) (T := TX5) (N := 8) SF cu_due_3 hlink (c_X5_due l D cN cT cJ h tr nb 3 kd rt vl hr hw cu si st hst hk d) hK hP hD rfl rfl ⟨Nat.le_trans (Nat.le_of_ble_eq_true rfl) hR.1, Nat.le_trans (Nat.le_of_ble_eq_true rfl) hR.2⟩ rfl hsize rfl hW hdg hf

  | 4, hk => exact hs_runU (q0 := 0) (ci := 7) (T := TX5) (N := 8) SF cu_due_4 hlink (c_X5_due l D cN cT cJ h tr nb 4 kd rt vl hr hw cu si st hst hk d) hK hP hD rfl rfl ⟨Nat.le_trans (Nat.le_of_ble_eq_true rfl) hR.1, Nat.le_trans (Nat.le_of_ble_eq_true rfl) hR.2⟩ rfl hsize rfl hW hdg hf

  | 5, hk => exact hs_runU (q0 := 0) (ci := 3) (T := TX5) (N := 8) SF cu_due_5 hlink (c_X5_due l D cN cT cJ h tr nb 5 kd rt vl hr hw cu si st hst hk d) hK hP hD rfl rfl ⟨Nat.le_trans (Nat.le_of_ble_eq_true rfl) hR.1, Nat.le_trans (Nat.le_of_ble_eq_true rfl) hR.2⟩ rfl hsize rfl hW hdg hf

  | 6, hk => exact hs_runU (q0 := 0) (ci := 1) (T := TX5) (N := 8) SF cu_due_6 hlink (c_X5_due l D cN cT cJ h tr nb 6 kd rt vl hr hw cu si st hst hk d) hK hP hD rfl rfl ⟨Nat.le_trans (Nat.le_of_ble_eq_true rfl) hR.1, Nat.le_trans (Nat.le_of_ble_eq_true rfl) hR.2⟩ rfl hsize rfl hW hdg hf

  | k + 7, hk => exact absurd hk (by omega)

theorem cu_goOut_0 : hs_cU RX5 "HireShed$Tool" ⟨"HireShed$Tool", "goOut", "(II)V"⟩ yX5_goOut cX5_goOut 3 none 2 := ⟨tw_461, tw_452, tw_453, tw_20, tw_454, tw_452, ⟨_, _, _, tw_461⟩, by decide +kernel⟩

theorem cu_goOut_1 : hs_cU RX2 "HireShed$Tool" ⟨"HireShed$Tool", "goOut", "(II)V"⟩ yX5_goOut cX5_goOut 3 none 2 := ⟨tw_461, tw_452, tw_457, tw_20, tw_454, tw_452, ⟨_, _, _, tw_461⟩, by decide +kernel⟩

theorem cu_goOut_2 : hs_cU RX4 "HireShed$Tool" ⟨"HireShed$Tool", "goOut", "(II)V"⟩ yX5_goOut cX5_goOut 3 none 2 := ⟨tw_461, tw_452, tw_459, tw_20, tw_454, tw_452, ⟨_, _, _, tw_461⟩, by decide +kernel⟩

theorem cu_goOut_3 : hs_cU RX0 "HireShed$Tool" ⟨"HireShed$Tool", "goOut", "(II)V"⟩ yX5_goOut cX5_goOut 3 none 2 := ⟨tw_461, tw_452, tw_455, tw_20, tw_454, tw_452, ⟨_, _, _, tw_461⟩, by decide +kernel⟩

theorem cu_goOut_4 : hs_cU RX7 "HireShed$Tool" ⟨"HireShed$Tool", "goOut", "(II)V"⟩ yX5_goOut cX5_goOut 3 none 2 := ⟨tw_461, tw_452, tw_460, tw_20, tw_454, tw_452, ⟨_, _, _, tw_461⟩, by decide +kernel⟩

theorem cu_goOut_5 : hs_cU RX3 "HireShed$Tool" ⟨"HireShed$Tool", "goOut", "(II)V"⟩ yX5_goOut cX5_goOut 3 none 2 := ⟨tw_461, tw_452, tw_458, tw_20, tw_454, tw_452, ⟨_, _, _, tw_461⟩, by decide +kernel⟩

theorem cu_goOut_6 : hs_cU RX1 "HireShed$Tool" ⟨"HireShed$Tool", "goOut", "(II)V"⟩ yX5_goOut cX5_goOut 3 none 2 := ⟨tw_461, tw_452, tw_456, tw_20, tw_454, tw_452, ⟨_, _, _, tw_461⟩, by decide +kernel⟩

set_option maxHeartbeats 400000 in
set_option maxRecDepth 100000 in
theorem V_goOut {p : Program} {l : Launch} {e : Env} {R : Room} {s : State} {m : MethodId} {args : Array Value} {below : List Frame} {meth : Method} {c : Code} {H : Heap} {locs : List Loc} {cells slots nL index pc : Nat} {cc0 : ByteArray} {own : String} {ls : Array Slot} {rest : List Value} {D : va_G} {A : Nat → Prop} (cN cT cJ : ClassId) (h tr nb k : Nat) (hk : k < 7) (kd rt vl hr hw cu si : Int32) (st : TS) (hst : okT st) (cc : Int32) (td : Int32) (SF : CallFix p m c cc0 nL s args hs_gt own) (hlink : Cond.methodLink own index ⟨"HireShed$Tool", "goOut", "(II)V"⟩ ∈ hs_gt) (hK : va_K D hs_cl (tyS cN cT cJ) s) (hP : va_P D hs_cl [(h, tlE k tr kd rt vl hr hw cu si), (tr, trE nb st), (nb, nbE cN st)] H) (hD : va_D A [(h, tlE k tr kd rt vl hr hw cu si), (tr, trE nb st), (nb, nbE cN st)]) (hR : 1 ≤ R.frames ∧ 22 ≤ R.locals) (hsize : ls.size = nL) (hW : (rest.map fun v => v.category).sum ≤ 8) (hdg : decode cc0 pc = .ok (.invokevirtual index, 3)) (hf : cells ≤ R.cells ∧ slots ≤ R.slots) :
    va_Run p l e R s m args below meth c H locs cells slots 0 0 (F0 m pc ls (.int td :: .int cc :: .ref h :: rest)) rest (hs_QV D (tyS cN cT cJ) [(h, tlE k tr kd rt vl hr 1 cc td), (tr, trE nb st), (nb, nbE cN st)] (va_A [(h, tlE k tr kd rt vl hr hw cu si), (tr, trE nb st), (nb, nbE cN st)] H.size) (Value.ref h :: [.int cc, .int td]).toArray) (va_A [(h, tlE k tr kd rt vl hr hw cu si), (tr, trE nb st), (nb, nbE cN st)] H.size) := by
  match k, hk with

  | 0, hk => exact hs_runU (q0 := 0) (ci := 5) (T := TX5) (N := 8) SF cu_goOut_0 hlink (c_X5_goOut l D cN cT cJ h tr nb 0 kd rt vl hr hw cu si st hst cc td) hK hP hD rfl rfl ⟨Nat.le_trans (Nat.le_of_ble_eq_true rfl) hR.1, Nat.le_trans (Nat.le_of_ble_eq_true rfl) hR.2⟩ rfl hsize rfl hW hdg hf

  | 1, hk => exact hs_runU (q0 := 0) (ci := 2) (T := TX5) (N := 8) SF cu_goOut_1 hlink (c_X5_goOut l D cN cT cJ h tr nb 1 kd rt vl hr hw cu si st hst cc td) hK hP hD rfl rfl ⟨Nat.le_trans (Nat.le_of_ble_eq_true rfl) hR.1, Nat.le_trans (Nat.le_of_ble_eq_true rfl) hR.2⟩ rfl hsize rfl hW hdg hf

  | 2, hk => exact hs_runU (q0 := 0) (ci := 4) (T := TX5) (N := 8) SF cu_goOut_2 hlink (c_X5_goOut l D cN cT cJ h tr nb 2 kd rt vl hr hw cu si st hst cc td) hK hP hD rfl rfl ⟨Nat.le_trans (Nat.le_of_ble_eq_true rfl) hR.1, Nat.le_trans (Nat.le_of_ble_eq_true rfl) hR.2⟩ rfl hsize rfl hW hdg hf

  | 3, hk => exact hs_runU (q0 := 0) (ci := 0) (T := TX5) (N := 8) SF cu_goOut_3 hlink (c_X5_goOut l D cN cT cJ h tr nb 3 kd rt vl hr hw cu si st hst cc td) hK hP hD rfl rfl ⟨Nat.le_trans (Nat.le_of_ble_eq_true rfl) hR.1, Nat.le_trans (Nat.le_of_ble_eq_true rfl) hR.2⟩ rfl hsize rfl hW hdg hf

  | 4, hk => exact hs_runU (q0 := 0) (ci := 7) (T := TX5) (N := 8) SF cu_goOut_4 hlink (c_X5_goOut l D cN cT cJ h tr nb 4 kd rt vl hr hw cu si st hst cc td) hK hP hD rfl rfl ⟨Nat.le_trans (Nat.le_of_ble_eq_true rfl) hR.1, Nat.le_trans (Nat.le_of_ble_eq_true rfl) hR.2⟩ rfl hsize rfl hW hdg hf

  | 5, hk => exact hs_runU (q0 := 0) (ci := 3) (T := TX5) (N := 8) SF cu_goOut_5 hlink (c_X5_goOut l D cN cT cJ h tr nb 5 kd rt vl hr hw cu si st hst cc td) hK hP hD rfl rfl ⟨Nat.le_trans (Nat.le_of_ble_eq_true rfl) hR.1, Nat.le_trans (Nat.le_of_ble_eq_true rfl) hR.2⟩ rfl hsize rfl hW hdg hf

  | 6, hk => exact hs_runU (q0 := 0) (ci := 1) (T := TX5) (N := 8) SF cu_goOut_6 hlink (c_X5_goOut l D cN cT cJ h tr nb 6 kd rt vl hr hw cu si st hst cc td) hK hP hD rfl rfl ⟨Nat.le_trans (Nat.le_of_ble_eq_true rfl) hR.1, Nat.le_trans (Nat.le_of_ble_eq_true rfl) hR.2⟩ rfl hsize rfl hW hdg hf

  | k + 7, hk => exact absurd hk (by omega)

theorem cu_renew_0 : hs_cU RX5 "HireShed$Tool" ⟨"HireShed$Tool", "renew", "()V"⟩ yX5_renew cX5_renew 1 none 0 := ⟨tw_493, tw_484, tw_485, tw_20, tw_486, tw_484, ⟨_, _, _, tw_493⟩, by decide +kernel⟩

theorem cu_renew_1 : hs_cU RX2 "HireShed$Tool" ⟨"HireShed$Tool", "renew", "()V"⟩ yX5_renew cX5_renew 1 none 0 := ⟨tw_493, tw_484, tw_489, tw_20, tw_486, tw_484, ⟨_, _, _, tw_493⟩, by decide +kernel⟩

theorem cu_renew_2 : hs_cU RX4 "HireShed$Tool" ⟨"HireShed$Tool", "renew", "()V"⟩ yX5_renew cX5_renew 1 none 0 := ⟨tw_493, tw_484, tw_491, tw_20, tw_486, tw_484, ⟨_, _, _, tw_493⟩, by decide +kernel⟩

theorem cu_renew_3 : hs_cU RX0 "HireShed$Tool" ⟨"HireShed$Tool", "renew", "()V"⟩ yX5_renew cX5_renew 1 none 0 := ⟨tw_493, tw_484, tw_487, tw_20, tw_486, tw_484, ⟨_, _, _, tw_493⟩, by decide +kernel⟩

theorem cu_renew_4 : hs_cU RX7 "HireShed$Tool" ⟨"HireShed$Tool", "renew", "()V"⟩ yX5_renew cX5_renew 1 none 0 := ⟨tw_493, tw_484, tw_492, tw_20, tw_486, tw_484, ⟨_, _, _, tw_493⟩, by decide +kernel⟩

theorem cu_renew_5 : hs_cU RX3 "HireShed$Tool" ⟨"HireShed$Tool", "renew", "()V"⟩ yX5_renew cX5_renew 1 none 0 := ⟨tw_493, tw_484, tw_490, tw_20, tw_486, tw_484, ⟨_, _, _, tw_493⟩, by decide +kernel⟩

theorem cu_renew_6 : hs_cU RX1 "HireShed$Tool" ⟨"HireShed$Tool", "renew", "()V"⟩ yX5_renew cX5_renew 1 none 0 := ⟨tw_493, tw_484, tw_488, tw_20, tw_486, tw_484, ⟨_, _, _, tw_493⟩, by decide +kernel⟩

set_option maxHeartbeats 400000 in
set_option maxRecDepth 100000 in
theorem V_renew {p : Program} {l : Launch} {e : Env} {R : Room} {s : State} {m : MethodId} {args : Array Value} {below : List Frame} {meth : Method} {c : Code} {H : Heap} {locs : List Loc} {cells slots nL index pc : Nat} {cc0 : ByteArray} {own : String} {ls : Array Slot} {rest : List Value} {D : va_G} {A : Nat → Prop} (cN cT cJ : ClassId) (h tr nb k : Nat) (hk : k < 7) (kd rt vl hr hw cu si : Int32) (st : TS) (hst : okT st) (SF : CallFix p m c cc0 nL s args hs_gt own) (hlink : Cond.methodLink own index ⟨"HireShed$Tool", "renew", "()V"⟩ ∈ hs_gt) (hK : va_K D hs_cl (tyS cN cT cJ) s) (hP : va_P D hs_cl [(h, tlE k tr kd rt vl hr hw cu si), (tr, trE nb st), (nb, nbE cN st)] H) (hD : va_D A [(h, tlE k tr kd rt vl hr hw cu si), (tr, trE nb st), (nb, nbE cN st)]) (hR : 1 ≤ R.frames ∧ 20 ≤ R.locals) (hsize : ls.size = nL) (hW : (rest.map fun v => v.category).sum ≤ 8) (hdg : decode cc0 pc = .ok (.invokevirtual index, 3)) (hf : cells ≤ R.cells ∧ slots ≤ R.slots) :
    va_Run p l e R s m args below meth c H locs cells slots 0 0 (F0 m pc ls (.ref h :: rest)) rest (hs_QV D (tyS cN cT cJ) [(h, tlE k tr kd rt vl 0 0 cu si), (tr, trE nb st), (nb, nbE cN st)] (va_A [(h, tlE k tr kd rt vl hr hw cu si), (tr, trE nb st), (nb, nbE cN st)] H.size) (Value.ref h :: []).toArray) (va_A [(h, tlE k tr kd rt vl hr hw cu si), (tr, trE nb st), (nb, nbE cN st)] H.size) := by
  match k, hk with

  | 0, hk => exact hs_runU (q0 := 0) (ci := 5) (T := TX5) (N := 8) SF cu_renew_0 hlink (c_X5_renew l D cN cT cJ h tr nb 0 kd rt vl hr hw cu si st hst) hK hP hD rfl rfl ⟨Nat.le_trans (Nat.le_of_ble_eq_true rfl) hR.1, Nat.le_trans (Nat.le_of_ble_eq_true rfl) hR.2⟩ rfl hsize rfl hW hdg hf

  | 1, hk => exact hs_runU (q0 := 0) (ci := 2) (T := TX5) (N := 8) SF cu_renew_1 hlink (c_X5_renew l D cN cT cJ h tr nb 1 kd rt vl hr hw cu si st hst) hK hP hD rfl rfl ⟨Nat.le_trans (Nat.le_of_ble_eq_true rfl) hR.1, Nat.le_trans (Nat.le_of_ble_eq_true rfl) hR.2⟩ rfl hsize rfl hW hdg hf

  | 2, hk => exact hs_runU (q0 := 0) (ci := 4) (T := TX5) (N := 8) SF cu_renew_2 hlink (c_X5_renew l D cN cT cJ h tr nb 2 kd rt vl hr hw cu si st hst) hK hP hD rfl rfl ⟨Nat.le_trans (Nat.le_of_ble_eq_true rfl) hR.1, Nat.le_trans (Nat.le_of_ble_eq_true rfl) hR.2⟩ rfl hsize rfl hW hdg hf

  | 3, hk => exact hs_runU (q0 := 0) (ci := 0) (T := TX5) (N := 8) SF cu_renew_3 hlink (c_X5_renew l D cN cT cJ h tr nb 3 kd rt vl hr hw cu si st hst) hK hP hD rfl rfl ⟨Nat.le_trans (Nat.le_of_ble_eq_true rfl) hR.1, Nat.le_trans (Nat.le_of_ble_eq_true rfl) hR.2⟩ rfl hsize rfl hW hdg hf

  | 4, hk => exact hs_runU (q0 := 0) (ci := 7) (T := TX5) (N := 8) SF cu_renew_4 hlink (c_X5_renew l D cN cT cJ h tr nb 4 kd rt vl hr hw cu si st hst) hK hP hD rfl rfl ⟨Nat.le_trans (Nat.le_of_ble_eq_true rfl) hR.1, Nat.le_trans (Nat.le_of_ble_eq_true rfl) hR.2⟩ rfl hsize rfl hW hdg hf

  | 5, hk => exact hs_runU (q0 := 0) (ci := 3) (T := TX5) (N := 8) SF cu_renew_5 hlink (c_X5_renew l D cN cT cJ h tr nb 5 kd rt vl hr hw cu si st hst) hK hP hD rfl rfl ⟨Nat.le_trans (Nat.le_of_ble_eq_true rfl) hR.1, Nat.le_trans (Nat.le_of_ble_eq_true rfl) hR.2⟩ rfl hsize rfl hW hdg hf

  | 6, hk => exact hs_runU (q0 := 0) (ci := 1) (T := TX5) (N := 8) SF cu_renew_6 hlink (c_X5_renew l D cN cT cJ h tr nb 6 kd rt vl hr hw cu si st hst) hK hP hD rfl rfl ⟨Nat.le_trans (Nat.le_of_ble_eq_true rfl) hR.1, Nat.le_trans (Nat.le_of_ble_eq_true rfl) hR.2⟩ rfl hsize rfl hW hdg hf

  | k + 7, hk => exact absurd hk (by omega)

theorem cu_comeBack_0 : hs_cU RX5 "HireShed$Tool" ⟨"HireShed$Tool", "comeBack", "(I)V"⟩ yX5_comeBack cX5_comeBack 2 none 1 := ⟨tw_477, tw_468, tw_469, tw_20, tw_470, tw_468, ⟨_, _, _, tw_477⟩, by decide +kernel⟩

theorem cu_comeBack_1 : hs_cU RX2 "HireShed$Tool" ⟨"HireShed$Tool", "comeBack", "(I)V"⟩ yX5_comeBack cX5_comeBack 2 none 1 := ⟨tw_477, tw_468, tw_473, tw_20, tw_470, tw_468, ⟨_, _, _, tw_477⟩, by decide +kernel⟩

theorem cu_comeBack_2 : hs_cU RX4 "HireShed$Tool" ⟨"HireShed$Tool", "comeBack", "(I)V"⟩ yX5_comeBack cX5_comeBack 2 none 1 := ⟨tw_477, tw_468, tw_475, tw_20, tw_470, tw_468, ⟨_, _, _, tw_477⟩, by decide +kernel⟩

theorem cu_comeBack_3 : hs_cU RX0 "HireShed$Tool" ⟨"HireShed$Tool", "comeBack", "(I)V"⟩ yX5_comeBack cX5_comeBack 2 none 1 := ⟨tw_477, tw_468, tw_471, tw_20, tw_470, tw_468, ⟨_, _, _, tw_477⟩, by decide +kernel⟩

theorem cu_comeBack_4 : hs_cU RX7 "HireShed$Tool" ⟨"HireShed$Tool", "comeBack", "(I)V"⟩ yX5_comeBack cX5_comeBack 2 none 1 := ⟨tw_477, tw_468, tw_476, tw_20, tw_470, tw_468, ⟨_, _, _, tw_477⟩, by decide +kernel⟩

theorem cu_comeBack_5 : hs_cU RX3 "HireShed$Tool" ⟨"HireShed$Tool", "comeBack", "(I)V"⟩ yX5_comeBack cX5_comeBack 2 none 1 := ⟨tw_477, tw_468, tw_474, tw_20, tw_470, tw_468, ⟨_, _, _, tw_477⟩, by decide +kernel⟩

theorem cu_comeBack_6 : hs_cU RX1 "HireShed$Tool" ⟨"HireShed$Tool", "comeBack", "(I)V"⟩ yX5_comeBack cX5_comeBack 2 none 1 := ⟨tw_477, tw_468, tw_472, tw_20, tw_470, tw_468, ⟨_, _, _, tw_477⟩, by decide +kernel⟩

set_option maxHeartbeats 400000 in
set_option maxRecDepth 100000 in
theorem V_comeBack {p : Program} {l : Launch} {e : Env} {R : Room} {s : State} {m : MethodId} {args : Array Value} {below : List Frame} {meth : Method} {c : Code} {H : Heap} {locs : List Loc} {cells slots nL index pc : Nat} {cc0 : ByteArray} {own : String} {ls : Array Slot} {rest : List Value} {D : va_G} {A : Nat → Prop} (cN cT cJ : ClassId) (h tr nb k : Nat) (hk : k < 7) (kd rt vl hr hw cu si : Int32) (st : TS) (hst : okT st) (d : Int32) (SF : CallFix p m c cc0 nL s args hs_gt own) (hlink : Cond.methodLink own index ⟨"HireShed$Tool", "comeBack", "(I)V"⟩ ∈ hs_gt) (hK : va_K D hs_cl (tyS cN cT cJ) s) (hP : va_P D hs_cl [(h, tlE k tr kd rt vl hr hw cu si), (tr, trE nb st), (nb, nbE cN st)] H) (hD : va_D A [(h, tlE k tr kd rt vl hr hw cu si), (tr, trE nb st), (nb, nbE cN st)]) (hR : 5 ≤ R.frames ∧ 102 ≤ R.locals) (hsize : ls.size = nL) (hW : (rest.map fun v => v.category).sum ≤ 8) (hdg : decode cc0 pc = .ok (.invokevirtual index, 3)) (hf : cells ≤ R.cells ∧ slots ≤ R.slots) :
    va_Run p l e R s m args below meth c H locs cells slots 0 0 (F0 m pc ls (.int d :: .ref h :: rest)) rest (hs_QV D (tyS cN cT cJ) [(h, tlE k tr kd rt vl (hr + weF k hr d) (if ckF k (hr + weF k hr d) ≤ 9 then 0 else 2) (-1) (-1)), (tr, trE nb (lvs (cbN k) st)), (nb, nbE cN (lvs (cbN k) st))] (va_A [(h, tlE k tr kd rt vl hr hw cu si), (tr, trE nb st), (nb, nbE cN st)] H.size) (Value.ref h :: [.int d]).toArray) (va_A [(h, tlE k tr kd rt vl hr hw cu si), (tr, trE nb st), (nb, nbE cN st)] H.size) := by
  match k, hk with

  | 0, hk => exact hs_runU (q0 := 0) (ci := 5) (T := TX5) (N := 8) SF cu_comeBack_0 hlink (c_X5_comeBack l D cN cT cJ h tr nb 0 kd rt vl hr hw cu si st hst hk d) hK hP hD rfl rfl ⟨Nat.le_trans (Nat.le_of_ble_eq_true rfl) hR.1, Nat.le_trans (Nat.le_of_ble_eq_true rfl) hR.2⟩ rfl hsize rfl hW hdg hf

  | 1, hk => exact hs_runU (q0 := 0) (ci := 2) (T := TX5) (N := 8) SF cu_comeBack_1 hlink (c_X5_comeBack l D cN cT cJ h tr nb 1 kd rt vl hr hw cu si st hst hk d) hK hP hD rfl rfl ⟨Nat.le_trans (Nat.le_of_ble_eq_true rfl) hR.1, Nat.le_trans (Nat.le_of_ble_eq_true rfl) hR.2⟩ rfl hsize rfl hW hdg hf

  | 2, hk => exact hs_runU (q0 := 0) (ci := 4) (T := TX5) (N := 8) SF cu_comeBack_2 hlink (c_X5_comeBack l D cN cT cJ h tr nb 2 kd rt vl hr hw cu si st hst hk d) hK hP hD rfl rfl ⟨Nat.le_trans (Nat.le_of_ble_eq_true rfl) hR.1, Nat.le_trans (Nat.le_of_ble_eq_true rfl) hR.2⟩ rfl hsize rfl hW hdg hf

  | 3, hk => exact hs_runU (q0 := 0) (ci := 0) (T := TX5) (N := 8) SF cu_comeBack_3 hlink (c_X5_comeBack l D cN cT cJ h tr nb 3 kd rt vl hr hw cu si st hst hk d) hK hP hD rfl rfl ⟨Nat.le_trans (Nat.le_of_ble_eq_true rfl) hR.1, Nat.le_trans (Nat.le_of_ble_eq_true rfl) hR.2⟩ rfl hsize rfl hW hdg hf

  | 4, hk => exact hs_runU (q0 := 0) (ci := 7) (T := TX5) (N := 8) SF cu_comeBack_4 hlink (c_X5_comeBack l D cN cT cJ h tr nb 4 kd rt vl hr hw cu si st hst hk d) hK hP hD rfl rfl ⟨Nat.le_trans (Nat.le_of_ble_eq_true rfl) hR.1, Nat.le_trans (Nat.le_of_ble_eq_true rfl) hR.2⟩ rfl hsize rfl hW hdg hf

  | 5, hk => exact hs_runU (q0 := 0) (ci := 3) (T := TX5) (N := 8) SF cu_comeBack_5 hlink (c_X5_comeBack l D cN cT cJ h tr nb 5 kd rt vl hr hw cu si st hst hk d) hK hP hD rfl rfl ⟨Nat.le_trans (Nat.le_of_ble_eq_true rfl) hR.1, Nat.le_trans (Nat.le_of_ble_eq_true rfl) hR.2⟩ rfl hsize rfl hW hdg hf

  | 6, hk => exact hs_runU (q0 := 0) (ci := 1) (T := TX5) (N := 8) SF cu_comeBack_6 hlink (c_X5_comeBack l D cN cT cJ h tr nb 6 kd rt vl hr hw cu si st hst hk d) hK hP hD rfl rfl ⟨Nat.le_trans (Nat.le_of_ble_eq_true rfl) hR.1, Nat.le_trans (Nat.le_of_ble_eq_true rfl) hR.2⟩ rfl hsize rfl hW hdg hf

  | k + 7, hk => exact absurd hk (by omega)
end
section
theorem okT_0 (f : Nat → Int32) : okT (0, 1, f) := by show ¬ (0 : Int32) < 0; decide

set_option maxHeartbeats 400000 in
set_option maxRecDepth 100000 in
theorem c_X8_isWithin (l : Launch) (D : va_G) (cN cT cJ : ClassId) (x y z : Int32) : CM l D yX8_isWithin cX8_isWithin 3 (some .boolean) { frames := 0, cells := 0, slots := 0, locals := 0 } (tyS cN cT cJ) [.int x, .int y, .int z] [] (hs_QI D (tyS cN cT cJ) (wi x y z) []) := by
  refine CM.of (by decide) (Nat.le_of_ble_eq_true rfl) ?_
  intro p e s m below meth c A ls hx hb hrt hml htg hown hlocks hnm hA hK hP hD hS hl
  have hown : s.vm.findClass RX8 = some m.cls := hown
  have hl : lv_has ls 3 [(0, .int x), (1, .int y), (2, .int z)] := hl
  have SF : CallFix p m c cX8_isWithin 3 s _ hs_gt RX8 := ⟨hx, hb, hml, hown, htg⟩
  refine lv_iload_n hx hb dX8_isWithin_0 rfl (lv_at hl 0 rfl) ?_
  refine lv_iload_n hx hb dX8_isWithin_1 rfl (lv_at hl 1 rfl) ?_
  refine lv_icmp_lt (tgt := 14) hx hb dX8_isWithin_2 (by decide) (fun c2 => ?_) (fun c2 => ?_)
  · refine lv_iconst (v := 0) hx hb dX8_isWithin_14 (by decide) ?_
    exact hs_zret hx hb hrt hlocks hK hP hD hS dX8_isWithin_15 rfl (by unfold wi; first | rw [if_pos c2] | rw [if_neg c2, if_pos c7] | rw [if_neg c2, if_neg c7]) (rfl)
  · refine lv_iload_n hx hb dX8_isWithin_5 rfl (lv_at hl 0 rfl) ?_
    refine lv_iload_n hx hb dX8_isWithin_6 rfl (lv_at hl 2 rfl) ?_
    refine lv_icmp_gt (tgt := 14) hx hb dX8_isWithin_7 (by decide) (fun c7 => ?_) (fun c7 => ?_)
    · refine lv_iconst (v := 0) hx hb dX8_isWithin_14 (by decide) ?_
      exact hs_zret hx hb hrt hlocks hK hP hD hS dX8_isWithin_15 rfl (by unfold wi; first | rw [if_pos c2] | rw [if_neg c2, if_pos c7] | rw [if_neg c2, if_neg c7]) (rfl)
    · refine lv_iconst (v := 1) hx hb dX8_isWithin_10 (by decide) ?_
      refine lv_goto (tgt := 15) hx hb dX8_isWithin_11 (by decide) ?_
      exact hs_zret hx hb hrt hlocks hK hP hD hS dX8_isWithin_15 rfl (by unfold wi; first | rw [if_pos c2] | rw [if_neg c2, if_pos c7] | rw [if_neg c2, if_neg c7]) (rfl)

theorem cal_X8_isWithin : hs_cS yX8_isWithin cX8_isWithin 3 (some .boolean) 3 := ⟨tw_84, tw_83, tw_17, by decide +kernel⟩

theorem nz_wi (x y z : Int32) : narrow .boolean (.int (wi x y z)) = .int (wi x y z) := by unfold wi; split; rfl; split <;> rfl

set_option maxHeartbeats 400000 in
set_option maxRecDepth 100000 in
theorem c_X8_isCustomer (l : Launch) (D : va_G) (cN cT cJ : ClassId) (x : Int32) : CM l D yX8_isCustomer cX8_isCustomer 1 (some .boolean) { frames := 1, cells := 0, slots := 0, locals := 22 } (tyS cN cT cJ) [.int x] [] (hs_QI D (tyS cN cT cJ) (wi x 0 5) []) := by
  refine CM.of (by decide) (Nat.le_of_ble_eq_true rfl) ?_
  intro p e s m below meth c A ls hx hb hrt hml htg hown hlocks hnm hA hK hP hD hS hl
  have hown : s.vm.findClass RX8 = some m.cls := hown
  have hl : lv_has ls 1 [(0, .int x)] := hl
  have SF : CallFix p m c cX8_isCustomer 1 s _ hs_gt RX8 := ⟨hx, hb, hml, hown, htg⟩
  refine lv_iload_n hx hb dX8_isCustomer_0 rfl (lv_at hl 0 rfl) ?_
  refine lv_iconst (v := 0) hx hb dX8_isCustomer_1 (by decide) ?_
  refine lv_iconst (v := 5) hx hb dX8_isCustomer_2 (by decide) ?_
  refine hs_calli (wc := []) (w1 := []) (wr := []) (ws2 := []) (hs_runS SF cal_X8_isWithin tw_82 (c_X8_isWithin l D cN cT cJ x 0 5) hK (hP.sub (ws' := []) [] rfl) (hD.sub (ws' := []) [] (by decide) rfl) ⟨Nat.le_of_ble_eq_true rfl, Nat.le_of_ble_eq_true rfl⟩ rfl hl.1 rfl (Nat.le_of_ble_eq_true rfl) dX8_isCustomer_3 ⟨Nat.le_of_ble_eq_true rfl, Nat.le_of_ble_eq_true rfl⟩) hP hD hS hA [] [] [] rfl rfl (by decide) (by decide) rfl (by decide) (fun H locs hP hD hS => ?_)
  exact hs_zret hx hb hrt hlocks hK hP hD hS dX8_isCustomer_6 (nz_wi _ _ _) (rfl) (rfl)

theorem cal_X8_isCustomer : hs_cS yX8_isCustomer cX8_isCustomer 1 (some .boolean) 1 := ⟨tw_446, tw_445, tw_17, by decide +kernel⟩

set_option maxHeartbeats 400000 in
set_option maxRecDepth 100000 in
theorem c_X8_toolAt (l : Launch) (D : va_G) (cN cT cJ : ClassId) (o ta ac tr nb : Nat) (tc td cs hi : Int32) (a : Nat → Option Nat) (acc : Nat → Int64) (st : TS) (t : Int32) (r : Option Nat) (hat : tAt a t = r) : CM l D yX8_toolAt cX8_toolAt 2 (some (.object "HireShed$Tool")) { frames := 0, cells := 0, slots := 0, locals := 0 } (tyS cN cT cJ) [.ref o, .int t] [(o, shE tr ta ac tc td cs hi), (ta, taE cT a)] (hs_QQ D (tyS cN cT cJ) r [(o, shE tr ta ac tc td cs hi), (ta, taE cT a)]) := by
  refine CM.of (by decide) (Nat.le_of_ble_eq_true rfl) ?_
  intro p e s m below meth c A ls hx hb hrt hml htg hown hlocks hnm hA hK hP hD hS hl
  have hown : s.vm.findClass RX8 = some m.cls := hown
  have hl : lv_has ls 2 [(0, .ref o), (1, .int t)] := hl
  have SF : CallFix p m c cX8_toolAt 2 s _ hs_gt RX8 := ⟨hx, hb, hml, hown, htg⟩
  refine lv_iload_n hx hb dX8_toolAt_0 rfl (lv_at hl 1 rfl) ?_
  refine lv_if_lt (tgt := 22) hx hb dX8_toolAt_1 (by decide) (fun c1 => ?_) (fun c1 => ?_)
  · refine lv_null hx hb dX8_toolAt_22 ?_
    exact hs_qret (v := none) hx hb hrt hlocks hK hP hD hS dX8_toolAt_23 (by rw [← hat]; unfold tAt; first | rw [if_pos c1] | rw [if_neg c1, if_pos c10] | rw [if_neg c1, if_neg c10]) (rfl)
  · refine lv_iload_n hx hb dX8_toolAt_4 rfl (lv_at hl 1 rfl) ?_
    refine lv_aload_n hx hb dX8_toolAt_5 rfl (lv_at hl 0 rfl) ?_
    refine va_get (D := D) (ci := 8) (v := .ref ta) (C := RX8) (T := TX8) (N := 7) hx hb htg in_X8 hown hK hP 0 rfl rfl 1 (by decide) (htg _ tw_56) (fun _ h9 => h9) rfl dX8_toolAt_6 ?_
    refine va_alen (v := 24) hx hb hK hP 1 1 rfl rfl rfl dX8_toolAt_9 ?_
    refine lv_icmp_ge (tgt := 22) hx hb dX8_toolAt_10 (by decide) (fun c10 => ?_) (fun c10 => ?_)
    · refine lv_null hx hb dX8_toolAt_22 ?_
      exact hs_qret (v := none) hx hb hrt hlocks hK hP hD hS dX8_toolAt_23 (by rw [← hat]; unfold tAt; first | rw [if_pos c1] | rw [if_neg c1, if_pos c10] | rw [if_neg c1, if_neg c10]) (rfl)
    · refine lv_aload_n hx hb dX8_toolAt_13 rfl (lv_at hl 0 rfl) ?_
      refine va_get (D := D) (ci := 8) (v := .ref ta) (C := RX8) (T := TX8) (N := 7) hx hb htg in_X8 hown hK hP 0 rfl rfl 1 (by decide) (htg _ tw_56) (fun _ h9 => h9) rfl dX8_toolAt_14 ?_
      refine lv_iload_n hx hb dX8_toolAt_17 rfl (lv_at hl 1 rfl) ?_
      refine va_aldq hx hb hK hP 1 1 rfl rfl (hs_in24 c1 c10) dX8_toolAt_18 ?_
      refine lv_goto (tgt := 23) hx hb dX8_toolAt_19 (by decide) ?_
      exact hs_qret (v := (a t.toNatClampNeg)) hx hb hrt hlocks hK hP hD hS dX8_toolAt_23 (by rw [← hat]; unfold tAt; first | rw [if_pos c1] | rw [if_neg c1, if_pos c10] | rw [if_neg c1, if_neg c10]) (rfl)

theorem cal_X8_toolAt : hs_cV yX8_toolAt cX8_toolAt 2 (some (.object "HireShed$Tool")) 1 := ⟨tw_240, tw_239, tw_1, tw_17, by decide +kernel⟩

set_option maxHeartbeats 400000 in
set_option maxRecDepth 100000 in
theorem c_X8_pay (l : Launch) (D : va_G) (cN cT cJ : ClassId) (o ta ac tr nb : Nat) (tc td cs hi : Int32) (a : Nat → Option Nat) (acc : Nat → Int64) (st : TS) (cm x : Int32) : CM l D yX8_pay cX8_pay 3 none { frames := 2, cells := 0, slots := 0, locals := 42 } (tyS cN cT cJ) [.ref o, .int cm, .int x] [(o, shE tr ta ac tc td cs hi), (ac, acE cJ acc)] (hs_QV D (tyS cN cT cJ) [(o, shE tr ta ac tc td cs hi), (ac, acE cJ (payF acc cm x))]) := by
  refine CM.of (by decide) (Nat.le_of_ble_eq_true rfl) ?_
  intro p e s m below meth c A ls hx hb hrt hml htg hown hlocks hnm hA hK hP hD hS hl
  have hown : s.vm.findClass RX8 = some m.cls := hown
  have hl : lv_has ls 3 [(0, .ref o), (1, .int cm), (2, .int x)] := hl
  have SF : CallFix p m c cX8_pay 3 s _ hs_gt RX8 := ⟨hx, hb, hml, hown, htg⟩
  refine lv_iload_n hx hb dX8_pay_0 rfl (lv_at hl 1 rfl) ?_
  refine hs_calli (wc := []) (w1 := []) (wr := [(o, shE tr ta ac tc td cs hi), (ac, acE cJ acc)]) (ws2 := [(o, shE tr ta ac tc td cs hi), (ac, acE cJ acc)]) (hs_runS SF cal_X8_isCustomer tw_444 (c_X8_isCustomer l D cN cT cJ cm) hK (hP.sub (ws' := []) [] rfl) (hD.sub (ws' := []) [] (by decide) rfl) ⟨Nat.le_of_ble_eq_true rfl, Nat.le_of_ble_eq_true rfl⟩ rfl hl.1 rfl (Nat.le_of_ble_eq_true rfl) dX8_pay_1 ⟨Nat.le_of_ble_eq_true rfl, Nat.le_of_ble_eq_true rfl⟩) hP hD hS hA [] [0, 1] [0, 1] rfl rfl (by decide) (by decide) rfl (by decide) (fun H locs hP hD hS => ?_)
  refine lv_if_eq (tgt := 18) hx hb dX8_pay_4 (by decide) (fun c4 => ?_) (fun c4 => ?_)
  · exact hs_vret hx hb hrt hlocks hK hP hD hS dX8_pay_18 (by unfold payF; first | rw [if_pos c4] | rw [if_neg c4])
  · refine lv_aload_n hx hb dX8_pay_7 rfl (lv_at hl 0 rfl) ?_
    refine va_get (D := D) (ci := 8) (v := .ref ac) (C := RX8) (T := TX8) (N := 7) hx hb htg in_X8 hown hK hP 0 rfl rfl 2 (by decide) (htg _ tw_57) (fun _ h9 => h9) rfl dX8_pay_8 ?_
    refine lv_iload_n hx hb dX8_pay_11 rfl (lv_at hl 1 rfl) ?_
    refine lv_dup2_11 hx hb dX8_pay_12 rfl rfl ?_
    refine va_lald hx hb hK hP 1 2 rfl rfl (wi_in (n := 5) (by decide) (by decide) c4) dX8_pay_13 ?_
    refine lv_iload_n hx hb dX8_pay_14 rfl (lv_at hl 2 rfl) ?_
    refine lv_i2l hx hb dX8_pay_15 rfl ?_
    refine lv_ladd hx hb dX8_pay_16 ?_
    refine va_last hx hb hK hP hD hS 1 2 rfl rfl (wi_in (n := 5) (by decide) (by decide) c4) dX8_pay_17 (fun H locs hP hD hS => ?_)
    have hP : va_P D hs_cl [(o, shE tr ta ac tc td cs hi), (ac, acE cJ (vp_updL acc cm.toNatClampNeg ((acc cm.toNatClampNeg) + x.toInt64)))] H := hP
    have hD : va_D A [(o, shE tr ta ac tc td cs hi), (ac, acE cJ (vp_updL acc cm.toNatClampNeg ((acc cm.toNatClampNeg) + x.toInt64)))] := hD
    exact hs_vret hx hb hrt hlocks hK hP hD hS dX8_pay_18 (by unfold payF; first | rw [if_pos c4] | rw [if_neg c4])

theorem cal_X8_pay : hs_cV yX8_pay cX8_pay 3 none 2 := ⟨tw_450, tw_449, tw_2, tw_17, by decide +kernel⟩

theorem nz_hasD (k : Nat) : narrow .boolean (.int (hasD k)) = .int (hasD k) := by unfold hasD; split <;> rfl
theorem nz_isI (k : Nat) : narrow .boolean (.int (isI k)) = .int (isI k) := by unfold isI; split <;> rfl
theorem nz_isS (k : Nat) : narrow .boolean (.int (isS k)) = .int (isS k) := by unfold isS; split <;> rfl

set_option maxHeartbeats 400000 in
set_option maxRecDepth 100000 in
theorem c_X8_hasAnswer (l : Launch) (D : va_G) (cN cT cJ : ClassId) (h tr nb k : Nat) (kd rt vl hr hw cu si : Int32) (st : TS) (hst : okT st) (hk : k < 7) (w : Int32) : CM l D yX8_hasAnswer cX8_hasAnswer 2 (some .boolean) { frames := 1, cells := 0, slots := 0, locals := 20 } (tyS cN cT cJ) [.ref h, .int w] [(h, tlE k tr kd rt vl hr hw cu si), (tr, trE nb st), (nb, nbE cN st)] (hs_QI D (tyS cN cT cJ) (hasA k w) [(h, tlE k tr kd rt vl hr hw cu si), (tr, trE nb st), (nb, nbE cN st)]) := by
  refine CM.of (by decide) (Nat.le_of_ble_eq_true rfl) ?_
  intro p e s m below meth c A ls hx hb hrt hml htg hown hlocks hnm hA hK hP hD hS hl
  have hown : s.vm.findClass RX8 = some m.cls := hown
  have hl : lv_has ls 2 [(0, .ref h), (1, .int w)] := hl
  have SF : CallFix p m c cX8_hasAnswer 2 s _ hs_gt RX8 := ⟨hx, hb, hml, hown, htg⟩
  refine lv_iload_n hx hb dX8_hasAnswer_0 rfl (lv_at hl 1 rfl) ?_
  by_cases w3 : w = 3
  · subst w3
    refine lv_tableIn (off := 27) (tgt := 28) hx hb dX8_hasAnswer_1 (by decide) (by decide) (by decide) (by decide) ?_
    refine lv_aload_n hx hb dX8_hasAnswer_28 rfl (lv_at hl 0 rfl) ?_
    refine hs_calli0 (w1 := [(h, tlE k tr kd rt vl hr hw cu si), (tr, trE nb st), (nb, nbE cN st)]) (V_hasDeposit cN cT cJ h tr nb k hk kd rt vl hr hw cu si st hst  SF tw_248 hK hP hD ⟨Nat.le_of_ble_eq_true rfl, Nat.le_of_ble_eq_true rfl⟩ hl.1 (Nat.le_of_ble_eq_true rfl) dX8_hasAnswer_29 ⟨Nat.le_of_ble_eq_true rfl, Nat.le_of_ble_eq_true rfl⟩) hD hS hA (fun H locs hP hD hS => ?_)
    exact hs_zret hx hb hrt hlocks hK hP hD hS dX8_hasAnswer_32 (nz_hasD k) (by simp [hasA]) (rfl)
  by_cases w4 : w = 4
  · subst w4
    refine lv_tableIn (off := 32) (tgt := 33) hx hb dX8_hasAnswer_1 (by decide) (by decide) (by decide) (by decide) ?_
    refine lv_aload_n hx hb dX8_hasAnswer_33 rfl (lv_at hl 0 rfl) ?_
    refine hs_calli0 (w1 := [(h, tlE k tr kd rt vl hr hw cu si), (tr, trE nb st), (nb, nbE cN st)]) (V_isInsured cN cT cJ h tr nb k hk kd rt vl hr hw cu si st hst  SF tw_261 hK hP hD ⟨Nat.le_of_ble_eq_true rfl, Nat.le_of_ble_eq_true rfl⟩ hl.1 (Nat.le_of_ble_eq_true rfl) dX8_hasAnswer_34 ⟨Nat.le_of_ble_eq_true rfl, Nat.le_of_ble_eq_true rfl⟩) hD hS hA (fun H locs hP hD hS => ?_)
    exact hs_zret hx hb hrt hlocks hK hP hD hS dX8_hasAnswer_37 (nz_isI k) (by simp [hasA]) (rfl)
  by_cases w5 : w = 5
  · subst w5
    refine lv_tableIn (off := 37) (tgt := 38) hx hb dX8_hasAnswer_1 (by decide) (by decide) (by decide) (by decide) ?_
    refine lv_aload_n hx hb dX8_hasAnswer_38 rfl (lv_at hl 0 rfl) ?_
    refine hs_calli0 (w1 := [(h, tlE k tr kd rt vl hr hw cu si), (tr, trE nb st), (nb, nbE cN st)]) (V_isServiced cN cT cJ h tr nb k hk kd rt vl hr hw cu si st hst  SF tw_274 hK hP hD ⟨Nat.le_of_ble_eq_true rfl, Nat.le_of_ble_eq_true rfl⟩ hl.1 (Nat.le_of_ble_eq_true rfl) dX8_hasAnswer_39 ⟨Nat.le_of_ble_eq_true rfl, Nat.le_of_ble_eq_true rfl⟩) hD hS hA (fun H locs hP hD hS => ?_)
    exact hs_zret hx hb hrt hlocks hK hP hD hS dX8_hasAnswer_42 (nz_isS k) (by simp [hasA]) (rfl)
  refine lv_tableOut (tgt := 43) hx hb dX8_hasAnswer_1 (by have := lv_neT w3 (a := 3) (by decide); have := lv_neT w4 (a := 4) (by decide); have := lv_neT w5 (a := 5) (by decide); omega) (by decide) ?_
  refine lv_iconst (v := 1) hx hb dX8_hasAnswer_43 (by decide) ?_
  exact hs_zret hx hb hrt hlocks hK hP hD hS dX8_hasAnswer_44 rfl (by simp [hasA, w3, w4, w5]) (rfl)

theorem cal_X8_hasAnswer : hs_cS yX8_hasAnswer cX8_hasAnswer 2 (some .boolean) 2 := ⟨tw_247, tw_246, tw_17, by decide +kernel⟩

set_option maxHeartbeats 400000 in
set_option maxRecDepth 100000 in
theorem c_X8_answerOf (l : Launch) (D : va_G) (cN cT cJ : ClassId) (h tr nb k : Nat) (kd rt vl hr hw cu si : Int32) (st : TS) (hst : okT st) (hk : k < 7) (w d : Int32) : CM l D yX8_answerOf cX8_answerOf 3 (some .int) { frames := 5, cells := 0, slots := 0, locals := 102 } (tyS cN cT cJ) [.ref h, .int w, .int d] [(h, tlE k tr kd rt vl hr hw cu si), (tr, trE nb st), (nb, nbE cN st)] (hs_QI D (tyS cN cT cJ) (ansF k w rt vl hr d) [(h, tlE k tr kd rt vl hr hw cu si), (tr, trE nb (lvs (ansN k w) st)), (nb, nbE cN (lvs (ansN k w) st))]) := by
  refine CM.of (by decide) (Nat.le_of_ble_eq_true rfl) ?_
  intro p e s m below meth c A ls hx hb hrt hml htg hown hlocks hnm hA hK hP hD hS hl
  have hown : s.vm.findClass RX8 = some m.cls := hown
  have hl : lv_has ls 3 [(0, .ref h), (1, .int w), (2, .int d)] := hl
  have SF : CallFix p m c cX8_answerOf 3 s _ hs_gt RX8 := ⟨hx, hb, hml, hown, htg⟩
  refine lv_iload_n hx hb dX8_answerOf_0 rfl (lv_at hl 1 rfl) ?_
  by_cases w0 : w = 0
  · subst w0
    refine lv_tableIn (off := 39) (tgt := 40) hx hb dX8_answerOf_1 (by decide) (by decide) (by decide) (by decide) ?_
    refine lv_aload_n hx hb dX8_answerOf_40 rfl (lv_at hl 0 rfl) ?_
    refine lv_iload_n hx hb dX8_answerOf_41 rfl (lv_at hl 2 rfl) ?_
    refine hs_calli0 (w1 := [(h, tlE k tr kd rt vl hr hw cu si), (tr, trE nb (lvs (chN k) st)), (nb, nbE cN (lvs (chN k) st))]) (V_charge cN cT cJ h tr nb k hk kd rt vl hr hw cu si st hst d SF tw_292 hK hP hD ⟨Nat.le_of_ble_eq_true rfl, Nat.le_of_ble_eq_true rfl⟩ hl.1 (Nat.le_of_ble_eq_true rfl) dX8_answerOf_42 ⟨Nat.le_of_ble_eq_true rfl, Nat.le_of_ble_eq_true rfl⟩) hD hS hA (fun H locs hP hD hS => ?_)
    exact hs_iret hx hb hrt hlocks hK hP hD hS dX8_answerOf_45 (by simp [ansF]) (by simp [ansN, lvs])
  by_cases w1 : w = 1
  · subst w1
    refine lv_tableIn (off := 45) (tgt := 46) hx hb dX8_answerOf_1 (by decide) (by decide) (by decide) (by decide) ?_
    refine lv_aload_n hx hb dX8_answerOf_46 rfl (lv_at hl 0 rfl) ?_
    refine lv_iload_n hx hb dX8_answerOf_47 rfl (lv_at hl 2 rfl) ?_
    refine hs_calli0 (w1 := [(h, tlE k tr kd rt vl hr hw cu si), (tr, trE nb (lvs (weN k) st)), (nb, nbE cN (lvs (weN k) st))]) (V_wear cN cT cJ h tr nb k hk kd rt vl hr hw cu si st hst d SF tw_327 hK hP hD ⟨Nat.le_of_ble_eq_true rfl, Nat.le_of_ble_eq_true rfl⟩ hl.1 (Nat.le_of_ble_eq_true rfl) dX8_answerOf_48 ⟨Nat.le_of_ble_eq_true rfl, Nat.le_of_ble_eq_true rfl⟩) hD hS hA (fun H locs hP hD hS => ?_)
    exact hs_iret hx hb hrt hlocks hK hP hD hS dX8_answerOf_51 (by simp [ansF]) (by simp [ansN, lvs])
  by_cases w2 : w = 2
  · subst w2
    refine lv_tableIn (off := 51) (tgt := 52) hx hb dX8_answerOf_1 (by decide) (by decide) (by decide) (by decide) ?_
    refine lv_aload_n hx hb dX8_answerOf_52 rfl (lv_at hl 0 rfl) ?_
    refine hs_calli0 (w1 := [(h, tlE k tr kd rt vl hr hw cu si), (tr, trE nb (lvs (ckN k) st)), (nb, nbE cN (lvs (ckN k) st))]) (V_check cN cT cJ h tr nb k hk kd rt vl hr hw cu si st hst  SF tw_348 hK hP hD ⟨Nat.le_of_ble_eq_true rfl, Nat.le_of_ble_eq_true rfl⟩ hl.1 (Nat.le_of_ble_eq_true rfl) dX8_answerOf_53 ⟨Nat.le_of_ble_eq_true rfl, Nat.le_of_ble_eq_true rfl⟩) hD hS hA (fun H locs hP hD hS => ?_)
    exact hs_iret hx hb hrt hlocks hK hP hD hS dX8_answerOf_56 (by simp [ansF]) (by simp [ansN, lvs])
  by_cases w3 : w = 3
  · subst w3
    refine lv_tableIn (off := 56) (tgt := 57) hx hb dX8_answerOf_1 (by decide) (by decide) (by decide) (by decide) ?_
    refine lv_aload_n hx hb dX8_answerOf_57 rfl (lv_at hl 0 rfl) ?_
    refine hs_calli0 (w1 := [(h, tlE k tr kd rt vl hr hw cu si), (tr, trE nb (lvs (dpN k) st)), (nb, nbE cN (lvs (dpN k) st))]) (V_deposit cN cT cJ h tr nb k hk kd rt vl hr hw cu si st hst  SF tw_373 hK hP hD ⟨Nat.le_of_ble_eq_true rfl, Nat.le_of_ble_eq_true rfl⟩ hl.1 (Nat.le_of_ble_eq_true rfl) dX8_answerOf_58 ⟨Nat.le_of_ble_eq_true rfl, Nat.le_of_ble_eq_true rfl⟩) hD hS hA (fun H locs hP hD hS => ?_)
    exact hs_iret hx hb hrt hlocks hK hP hD hS dX8_answerOf_61 (by simp [ansF]) (by simp [ansN, lvs])
  by_cases w4 : w = 4
  · subst w4
    refine lv_tableIn (off := 61) (tgt := 62) hx hb dX8_answerOf_1 (by decide) (by decide) (by decide) (by decide) ?_
    refine lv_aload_n hx hb dX8_answerOf_62 rfl (lv_at hl 0 rfl) ?_
    refine lv_iload_n hx hb dX8_answerOf_63 rfl (lv_at hl 2 rfl) ?_
    refine hs_calli0 (w1 := [(h, tlE k tr kd rt vl hr hw cu si), (tr, trE nb (lvs (pmN k) st)), (nb, nbE cN (lvs (pmN k) st))]) (V_premium cN cT cJ h tr nb k hk kd rt vl hr hw cu si st hst d SF tw_391 hK hP hD ⟨Nat.le_of_ble_eq_true rfl, Nat.le_of_ble_eq_true rfl⟩ hl.1 (Nat.le_of_ble_eq_true rfl) dX8_answerOf_64 ⟨Nat.le_of_ble_eq_true rfl, Nat.le_of_ble_eq_true rfl⟩) hD hS hA (fun H locs hP hD hS => ?_)
    exact hs_iret hx hb hrt hlocks hK hP hD hS dX8_answerOf_67 (by simp [ansF]) (by simp [ansN, lvs])
  by_cases w5 : w = 5
  · subst w5
    refine lv_tableIn (off := 67) (tgt := 68) hx hb dX8_answerOf_1 (by decide) (by decide) (by decide) (by decide) ?_
    refine lv_aload_n hx hb dX8_answerOf_68 rfl (lv_at hl 0 rfl) ?_
    refine lv_iload_n hx hb dX8_answerOf_69 rfl (lv_at hl 2 rfl) ?_
    refine hs_calli0 (w1 := [(h, tlE k tr kd rt vl hr hw cu si), (tr, trE nb (lvs (duN k) st)), (nb, nbE cN (lvs (duN k) st))]) (V_due cN cT cJ h tr nb k hk kd rt vl hr hw cu si st hst d SF tw_415 hK hP hD ⟨Nat.le_of_ble_eq_true rfl, Nat.le_of_ble_eq_true rfl⟩ hl.1 (Nat.le_of_ble_eq_true rfl) dX8_answerOf_70 ⟨Nat.le_of_ble_eq_true rfl, Nat.le_of_ble_eq_true rfl⟩) hD hS hA (fun H locs hP hD hS => ?_)
    exact hs_iret hx hb hrt hlocks hK hP hD hS dX8_answerOf_73 (by simp [ansF]) (by simp [ansN, lvs])
  refine lv_tableOut (tgt := 74) hx hb dX8_answerOf_1 (by have := lv_neT w0 (a := 0) (by decide); have := lv_neT w1 (a := 1) (by decide); have := lv_neT w2 (a := 2) (by decide); have := lv_neT w3 (a := 3) (by decide); have := lv_neT w4 (a := 4) (by decide); have := lv_neT w5 (a := 5) (by decide); omega) (by decide) ?_
  refine lv_bipush (v := (-2)) hx hb dX8_answerOf_74 (by decide) ?_
  exact hs_iret hx hb hrt hlocks hK hP hD hS dX8_answerOf_76 (by simp [ansF, w0, w1, w2, w3, w4, w5]) (by simp [ansN, lvs, w0, w1, w2, w3, w4, w5])

theorem cal_X8_answerOf : hs_cS yX8_answerOf cX8_answerOf 3 (some .int) 3 := ⟨tw_291, tw_290, tw_17, by decide +kernel⟩

set_option maxHeartbeats 400000 in
set_option maxRecDepth 100000 in
theorem c_X8_trace (l : Launch) (D : va_G) (cN cT cJ : ClassId) (o ta ac tr nb : Nat) (tc td cs hi : Int32) (a : Nat → Option Nat) (acc : Nat → Int64) (st : TS) (i : Int32) : CM l D yX8_trace cX8_trace 2 (some .int) { frames := 1, cells := 0, slots := 0, locals := 21 } (tyS cN cT cJ) [.ref o, .int i] [(o, shE tr ta ac tc td cs hi), (tr, trE nb st), (nb, nbE cN st)] (hs_QI D (tyS cN cT cJ) (nAt st i) [(o, shE tr ta ac tc td cs hi), (tr, trE nb st), (nb, nbE cN st)]) := by
  refine CM.of (by decide) (Nat.le_of_ble_eq_true rfl) ?_
  intro p e s m below meth c A ls hx hb hrt hml htg hown hlocks hnm hA hK hP hD hS hl
  have hown : s.vm.findClass RX8 = some m.cls := hown
  have hl : lv_has ls 2 [(0, .ref o), (1, .int i)] := hl
  have SF : CallFix p m c cX8_trace 2 s _ hs_gt RX8 := ⟨hx, hb, hml, hown, htg⟩
  refine lv_aload_n hx hb dX8_trace_0 rfl (lv_at hl 0 rfl) ?_
  refine va_get (D := D) (ci := 8) (v := .ref tr) (C := RX8) (T := TX8) (N := 7) hx hb htg in_X8 hown hK hP 0 rfl rfl 0 (by decide) (htg _ tw_55) (fun _ h9 => h9) rfl dX8_trace_1 ?_
  refine lv_iload_n hx hb dX8_trace_4 rfl (lv_at hl 1 rfl) ?_
  refine hs_calli (wc := [(tr, trE nb st), (nb, nbE cN st)]) (w1 := [(tr, trE nb st), (nb, nbE cN st)]) (wr := [(o, shE tr ta ac tc td cs hi)]) (ws2 := [(o, shE tr ta ac tc td cs hi), (tr, trE nb st), (nb, nbE cN st)]) (hs_runV (q0 := 0) SF cal_X6_numberAt tw_436 (c_X6_numberAt l D cN cT cJ tr nb st i) hK (hP.sub (ws' := [(tr, trE nb st), (nb, nbE cN st)]) [1, 2] rfl) (hD.sub (ws' := [(tr, trE nb st), (nb, nbE cN st)]) [1, 2] (by decide) rfl) rfl rfl ⟨Nat.le_of_ble_eq_true rfl, Nat.le_of_ble_eq_true rfl⟩ rfl hl.1 rfl (Nat.le_of_ble_eq_true rfl) dX8_trace_5 ⟨Nat.le_of_ble_eq_true rfl, Nat.le_of_ble_eq_true rfl⟩) hP hD hS hA [1, 2] [0] [0, 1, 2] rfl rfl (by decide) (by decide) rfl (by decide) (fun H locs hP hD hS => ?_)
  exact hs_iret hx hb hrt hlocks hK hP hD hS dX8_trace_8 (rfl) (rfl)

theorem cal_X8_trace : hs_cV yX8_trace cX8_trace 2 (some .int) 1 := ⟨tw_435, tw_433, tw_434, tw_17, by decide +kernel⟩

def dayF (td n : Int32) : Int32 := if wi n 1 50 = 0 then -2 else if td + n ≤ 20000 then td + n else -4
def dayT (td n : Int32) : Int32 := if wi n 1 50 = 0 then td else if td + n ≤ 20000 then td + n else td
def accF (acc : Nat → Int64) (cm : Int32) : Int64 := if wi cm 0 5 = 0 then 0 else acc cm.toNatClampNeg

set_option maxHeartbeats 400000 in
set_option maxRecDepth 100000 in
theorem c_X8_day (l : Launch) (D : va_G) (cN cT cJ : ClassId) (o ta ac tr nb : Nat) (tc td cs hi : Int32) (a : Nat → Option Nat) (acc : Nat → Int64) (st : TS) (n : Int32) : CM l D yX8_day cX8_day 2 (some .int) { frames := 1, cells := 0, slots := 0, locals := 22 } (tyS cN cT cJ) [.ref o, .int n] [(o, shE tr ta ac tc td cs hi)] (hs_QI D (tyS cN cT cJ) (dayF td n) [(o, shE tr ta ac tc (dayT td n) cs hi)]) := by
  refine CM.of (by decide) (Nat.le_of_ble_eq_true rfl) ?_
  intro p e s m below meth c A ls hx hb hrt hml htg hown hlocks hnm hA hK hP hD hS hl
  have hown : s.vm.findClass RX8 = some m.cls := hown
  have hl : lv_has ls 2 [(0, .ref o), (1, .int n)] := hl
  have SF : CallFix p m c cX8_day 2 s _ hs_gt RX8 := ⟨hx, hb, hml, hown, htg⟩
  refine lv_iload_n hx hb dX8_day_0 rfl (lv_at hl 1 rfl) ?_
  refine lv_iconst (v := 1) hx hb dX8_day_1 (by decide) ?_
  refine lv_bipush (v := 50) hx hb dX8_day_2 (by decide) ?_
  refine hs_calli (wc := []) (w1 := []) (wr := [(o, shE tr ta ac tc td cs hi)]) (ws2 := [(o, shE tr ta ac tc td cs hi)]) (hs_runS SF cal_X8_isWithin tw_82 (c_X8_isWithin l D cN cT cJ n 1 50) hK (hP.sub (ws' := []) [] rfl) (hD.sub (ws' := []) [] (by decide) rfl) ⟨Nat.le_of_ble_eq_true rfl, Nat.le_of_ble_eq_true rfl⟩ rfl hl.1 rfl (Nat.le_of_ble_eq_true rfl) dX8_day_4 ⟨Nat.le_of_ble_eq_true rfl, Nat.le_of_ble_eq_true rfl⟩) hP hD hS hA [] [0] [0] rfl rfl (by decide) (by decide) rfl (by decide) (fun H locs hP hD hS => ?_)
  refine lv_if_ne (tgt := 13) hx hb dX8_day_7 (by decide) (fun c7 => ?_) (fun c7 => ?_)
  · refine lv_aload_n hx hb dX8_day_13 rfl (lv_at hl 0 rfl) ?_
    refine va_get (D := D) (ci := 8) (v := .int td) (C := RX8) (T := TX8) (N := 7) hx hb htg in_X8 hown hK hP 0 rfl rfl 4 (by decide) (htg _ tw_59) (fun _ h9 => h9) rfl dX8_day_14 ?_
    refine lv_iload_n hx hb dX8_day_17 rfl (lv_at hl 1 rfl) ?_
    refine lv_iadd hx hb dX8_day_18 ?_
    refine lv_sipush (v := 20000) hx hb dX8_day_19 (by decide) ?_
    refine lv_icmp_le (tgt := 28) hx hb dX8_day_22 (by decide) (fun c22 => ?_) (fun c22 => ?_)
    · refine lv_aload_n hx hb dX8_day_28 rfl (lv_at hl 0 rfl) ?_
      refine lv_dup hx hb dX8_day_29 rfl ?_
      refine va_get (D := D) (ci := 8) (v := .int td) (C := RX8) (T := TX8) (N := 7) hx hb htg in_X8 hown hK hP 0 rfl rfl 4 (by decide) (htg _ tw_59) (fun _ h9 => h9) rfl dX8_day_30 ?_
      refine lv_iload_n hx hb dX8_day_33 rfl (lv_at hl 1 rfl) ?_
      refine lv_iadd hx hb dX8_day_34 ?_
      refine va_put (D := D) (ci := 8) (v := .int (td + n)) (ty := .int) (C := RX8) (T := TX8) (N := 7) hx hb htg in_X8 tyX8 tyX8_ok nmX8 hown hK hP hD hS 0 rfl rfl 4 (by decide) (htg _ tw_59) (fun _ h9 => h9) rfl (by decide +kernel) rfl rfl (Nat.le_of_ble_eq_true rfl) dX8_day_35 (fun H locs hP hD hS => ?_)
      have hP : va_P D hs_cl [(o, shE tr ta ac tc (td + n) cs hi)] H := hP
      have hD : va_D A [(o, shE tr ta ac tc (td + n) cs hi)] := hD
      refine lv_aload_n hx hb dX8_day_38 rfl (lv_at hl 0 rfl) ?_
      refine va_get (D := D) (ci := 8) (v := .int (td + n)) (C := RX8) (T := TX8) (N := 7) hx hb htg in_X8 hown hK hP 0 rfl rfl 4 (by decide) (htg _ tw_59) (fun _ h9 => h9) rfl dX8_day_39 ?_
      exact hs_iret hx hb hrt hlocks hK hP hD hS dX8_day_42 (by unfold dayF; first | rw [if_pos c7] | rw [if_neg c7, if_pos c22] | rw [if_neg c7, if_neg c22]) (by unfold dayT; first | rw [if_pos c7] | rw [if_neg c7, if_pos c22] | rw [if_neg c7, if_neg c22])
    · refine lv_bipush (v := (-4)) hx hb dX8_day_25 (by decide) ?_
      exact hs_iret hx hb hrt hlocks hK hP hD hS dX8_day_27 (by unfold dayF; first | rw [if_pos c7] | rw [if_neg c7, if_pos c22] | rw [if_neg c7, if_neg c22]) (by unfold dayT; first | rw [if_pos c7] | rw [if_neg c7, if_pos c22] | rw [if_neg c7, if_neg c22])
  · refine lv_bipush (v := (-2)) hx hb dX8_day_10 (by decide) ?_
    exact hs_iret hx hb hrt hlocks hK hP hD hS dX8_day_12 (by unfold dayF; first | rw [if_pos c7] | rw [if_neg c7, if_pos c22] | rw [if_neg c7, if_neg c22]) (by unfold dayT; first | rw [if_pos c7] | rw [if_neg c7, if_pos c22] | rw [if_neg c7, if_neg c22])

theorem cal_X8_day : hs_cV yX8_day cX8_day 2 (some .int) 1 := ⟨tw_497, tw_495, tw_496, tw_17, by decide +kernel⟩

set_option maxHeartbeats 400000 in
set_option maxRecDepth 100000 in
theorem c_X8_account (l : Launch) (D : va_G) (cN cT cJ : ClassId) (o ta ac tr nb : Nat) (tc td cs hi : Int32) (a : Nat → Option Nat) (acc : Nat → Int64) (st : TS) (cm : Int32) : CM l D yX8_account cX8_account 2 (some .long) { frames := 2, cells := 0, slots := 0, locals := 42 } (tyS cN cT cJ) [.ref o, .int cm] [(o, shE tr ta ac tc td cs hi), (ac, acE cJ acc)] (hs_QL D (tyS cN cT cJ) (accF acc cm) [(o, shE tr ta ac tc td cs hi), (ac, acE cJ acc)]) := by
  refine CM.of (by decide) (Nat.le_of_ble_eq_true rfl) ?_
  intro p e s m below meth c A ls hx hb hrt hml htg hown hlocks hnm hA hK hP hD hS hl
  have hown : s.vm.findClass RX8 = some m.cls := hown
  have hl : lv_has ls 2 [(0, .ref o), (1, .int cm)] := hl
  have SF : CallFix p m c cX8_account 2 s _ hs_gt RX8 := ⟨hx, hb, hml, hown, htg⟩
  refine lv_iload_n hx hb dX8_account_0 rfl (lv_at hl 1 rfl) ?_
  refine hs_calli (wc := []) (w1 := []) (wr := [(o, shE tr ta ac tc td cs hi), (ac, acE cJ acc)]) (ws2 := [(o, shE tr ta ac tc td cs hi), (ac, acE cJ acc)]) (hs_runS SF cal_X8_isCustomer tw_444 (c_X8_isCustomer l D cN cT cJ cm) hK (hP.sub (ws' := []) [] rfl) (hD.sub (ws' := []) [] (by decide) rfl) ⟨Nat.le_of_ble_eq_true rfl, Nat.le_of_ble_eq_true rfl⟩ rfl hl.1 rfl (Nat.le_of_ble_eq_true rfl) dX8_account_1 ⟨Nat.le_of_ble_eq_true rfl, Nat.le_of_ble_eq_true rfl⟩) hP hD hS hA [] [0, 1] [0, 1] rfl rfl (by decide) (by decide) rfl (by decide) (fun H locs hP hD hS => ?_)
  refine lv_if_eq (tgt := 16) hx hb dX8_account_4 (by decide) (fun c4 => ?_) (fun c4 => ?_)
  · refine lv_lconst (v := 0) hx hb dX8_account_16 (by decide) ?_
    exact hs_lret hx hb hrt hlocks hK hP hD hS dX8_account_17 (by unfold accF; first | rw [if_pos c4] | rw [if_neg c4]) (rfl)
  · refine lv_aload_n hx hb dX8_account_7 rfl (lv_at hl 0 rfl) ?_
    refine va_get (D := D) (ci := 8) (v := .ref ac) (C := RX8) (T := TX8) (N := 7) hx hb htg in_X8 hown hK hP 0 rfl rfl 2 (by decide) (htg _ tw_57) (fun _ h9 => h9) rfl dX8_account_8 ?_
    refine lv_iload_n hx hb dX8_account_11 rfl (lv_at hl 1 rfl) ?_
    refine va_lald hx hb hK hP 1 2 rfl rfl (wi_in (n := 5) (by decide) (by decide) c4) dX8_account_12 ?_
    refine lv_goto (tgt := 17) hx hb dX8_account_13 (by decide) ?_
    exact hs_lret hx hb hrt hlocks hK hP hD hS dX8_account_17 (by unfold accF; first | rw [if_pos c4] | rw [if_neg c4]) (rfl)

theorem cal_X8_account : hs_cV yX8_account cX8_account 2 (some .long) 1 := ⟨tw_501, tw_499, tw_500, tw_17, by decide +kernel⟩

set_option maxHeartbeats 400000 in
set_option maxRecDepth 100000 in
theorem c_X8_ask_none (l : Launch) (D : va_G) (cN cT cJ : ClassId) (o ta ac tr nb : Nat) (tc td cs hi : Int32) (a : Nat → Option Nat) (acc : Nat → Int64) (st : TS) (t : Int32) (hat : tAt a t = none) (w d : Int32) : CM l D yX8_ask cX8_ask 6 (some .int) { frames := 1, cells := 0, slots := 0, locals := 21 } (tyS cN cT cJ) [.ref o, .int t, .int w, .int d] [(o, shE tr ta ac tc td cs hi), (ta, taE cT a)] (hs_QI D (tyS cN cT cJ) (-2) [(o, shE tr ta ac tc td cs hi), (ta, taE cT a)]) := by
  refine CM.of (by decide) (Nat.le_of_ble_eq_true rfl) ?_
  intro p e s m below meth c A ls hx hb hrt hml htg hown hlocks hnm hA hK hP hD hS hl
  have hown : s.vm.findClass RX8 = some m.cls := hown
  have hl : lv_has ls 6 [(0, .ref o), (1, .int t), (2, .int w), (3, .int d)] := hl
  have SF : CallFix p m c cX8_ask 6 s _ hs_gt RX8 := ⟨hx, hb, hml, hown, htg⟩
  refine lv_aload_n hx hb dX8_ask_0 rfl (lv_at hl 0 rfl) ?_
  refine lv_iload_n hx hb dX8_ask_1 rfl (lv_at hl 1 rfl) ?_
  refine hs_callq (wc := [(o, shE tr ta ac tc td cs hi), (ta, taE cT a)]) (w1 := [(o, shE tr ta ac tc td cs hi), (ta, taE cT a)]) (wr := []) (ws2 := [(o, shE tr ta ac tc td cs hi), (ta, taE cT a)]) (hs_runV (q0 := 0) SF cal_X8_toolAt tw_237 (c_X8_toolAt l D cN cT cJ o ta ac tr nb tc td cs hi a acc st t none hat) hK (hP.sub (ws' := [(o, shE tr ta ac tc td cs hi), (ta, taE cT a)]) [0, 1] rfl) (hD.sub (ws' := [(o, shE tr ta ac tc td cs hi), (ta, taE cT a)]) [0, 1] (by decide) rfl) rfl rfl ⟨Nat.le_of_ble_eq_true rfl, Nat.le_of_ble_eq_true rfl⟩ rfl hl.1 rfl (Nat.le_of_ble_eq_true rfl) dX8_ask_2 ⟨Nat.le_of_ble_eq_true rfl, Nat.le_of_ble_eq_true rfl⟩) hP hD hS hA [0, 1] [] [0, 1] rfl rfl (by decide) (by decide) rfl (by decide) (fun H locs hP hD hS => ?_)
  refine lv_astoreN (lv' := [(4, .null), (0, .ref o), (1, .int t), (2, .int w), (3, .int d)]) hx hb dX8_ask_5 hl (by decide) rfl (fun ls hl => ?_)
  refine lv_aloadN hx hb dX8_ask_7 (lv_at hl 0 rfl) ?_
  refine lv_ifnullN (tgt := 32) hx hb dX8_ask_9 (by decide) ?_
  refine lv_bipush (v := (-2)) hx hb dX8_ask_32 (by decide) ?_
  exact hs_iret hx hb hrt hlocks hK hP hD hS dX8_ask_34 (rfl) (rfl)

set_option maxHeartbeats 400000 in
set_option maxRecDepth 100000 in
theorem c_X8_hire_none (l : Launch) (D : va_G) (cN cT cJ : ClassId) (o ta ac tr nb : Nat) (tc td cs hi : Int32) (a : Nat → Option Nat) (acc : Nat → Int64) (st : TS) (t : Int32) (hat : tAt a t = none) (cm : Int32) : CM l D yX8_hire cX8_hire 5 (some .int) { frames := 1, cells := 0, slots := 0, locals := 21 } (tyS cN cT cJ) [.ref o, .int t, .int cm] [(o, shE tr ta ac tc td cs hi), (ta, taE cT a)] (hs_QI D (tyS cN cT cJ) (-2) [(o, shE tr ta ac tc td cs hi), (ta, taE cT a)]) := by
  refine CM.of (by decide) (Nat.le_of_ble_eq_true rfl) ?_
  intro p e s m below meth c A ls hx hb hrt hml htg hown hlocks hnm hA hK hP hD hS hl
  have hown : s.vm.findClass RX8 = some m.cls := hown
  have hl : lv_has ls 5 [(0, .ref o), (1, .int t), (2, .int cm)] := hl
  have SF : CallFix p m c cX8_hire 5 s _ hs_gt RX8 := ⟨hx, hb, hml, hown, htg⟩
  refine lv_aload_n hx hb dX8_hire_0 rfl (lv_at hl 0 rfl) ?_
  refine lv_iload_n hx hb dX8_hire_1 rfl (lv_at hl 1 rfl) ?_
  refine hs_callq (wc := [(o, shE tr ta ac tc td cs hi), (ta, taE cT a)]) (w1 := [(o, shE tr ta ac tc td cs hi), (ta, taE cT a)]) (wr := []) (ws2 := [(o, shE tr ta ac tc td cs hi), (ta, taE cT a)]) (hs_runV (q0 := 0) SF cal_X8_toolAt tw_237 (c_X8_toolAt l D cN cT cJ o ta ac tr nb tc td cs hi a acc st t none hat) hK (hP.sub (ws' := [(o, shE tr ta ac tc td cs hi), (ta, taE cT a)]) [0, 1] rfl) (hD.sub (ws' := [(o, shE tr ta ac tc td cs hi), (ta, taE cT a)]) [0, 1] (by decide) rfl) rfl rfl ⟨Nat.le_of_ble_eq_true rfl, Nat.le_of_ble_eq_true rfl⟩ rfl hl.1 rfl (Nat.le_of_ble_eq_true rfl) dX8_hire_2 ⟨Nat.le_of_ble_eq_true rfl, Nat.le_of_ble_eq_true rfl⟩) hP hD hS hA [0, 1] [] [0, 1] rfl rfl (by decide) (by decide) rfl (by decide) (fun H locs hP hD hS => ?_)
  refine lv_astore_nN (lv' := [(3, .null), (0, .ref o), (1, .int t), (2, .int cm)]) hx hb dX8_hire_5 rfl hl (by decide) rfl (fun ls hl => ?_)
  refine lv_aload_nN hx hb dX8_hire_6 rfl (lv_at hl 0 rfl) ?_
  refine lv_ifnullN (tgt := 17) hx hb dX8_hire_7 (by decide) ?_
  refine lv_bipush (v := (-2)) hx hb dX8_hire_17 (by decide) ?_
  exact hs_iret hx hb hrt hlocks hK hP hD hS dX8_hire_19 (rfl) (rfl)

set_option maxHeartbeats 400000 in
set_option maxRecDepth 100000 in
theorem c_X8_back_none (l : Launch) (D : va_G) (cN cT cJ : ClassId) (o ta ac tr nb : Nat) (tc td cs hi : Int32) (a : Nat → Option Nat) (acc : Nat → Int64) (st : TS) (t : Int32) (hat : tAt a t = none) : CM l D yX8_back cX8_back 5 (some .int) { frames := 1, cells := 0, slots := 0, locals := 21 } (tyS cN cT cJ) [.ref o, .int t] [(o, shE tr ta ac tc td cs hi), (ta, taE cT a)] (hs_QI D (tyS cN cT cJ) (-2) [(o, shE tr ta ac tc td cs hi), (ta, taE cT a)]) := by
  refine CM.of (by decide) (Nat.le_of_ble_eq_true rfl) ?_
  intro p e s m below meth c A ls hx hb hrt hml htg hown hlocks hnm hA hK hP hD hS hl
  have hown : s.vm.findClass RX8 = some m.cls := hown
  have hl : lv_has ls 5 [(0, .ref o), (1, .int t)] := hl
  have SF : CallFix p m c cX8_back 5 s _ hs_gt RX8 := ⟨hx, hb, hml, hown, htg⟩
  refine lv_aload_n hx hb dX8_back_0 rfl (lv_at hl 0 rfl) ?_
  refine lv_iload_n hx hb dX8_back_1 rfl (lv_at hl 1 rfl) ?_
  refine hs_callq (wc := [(o, shE tr ta ac tc td cs hi), (ta, taE cT a)]) (w1 := [(o, shE tr ta ac tc td cs hi), (ta, taE cT a)]) (wr := []) (ws2 := [(o, shE tr ta ac tc td cs hi), (ta, taE cT a)]) (hs_runV (q0 := 0) SF cal_X8_toolAt tw_237 (c_X8_toolAt l D cN cT cJ o ta ac tr nb tc td cs hi a acc st t none hat) hK (hP.sub (ws' := [(o, shE tr ta ac tc td cs hi), (ta, taE cT a)]) [0, 1] rfl) (hD.sub (ws' := [(o, shE tr ta ac tc td cs hi), (ta, taE cT a)]) [0, 1] (by decide) rfl) rfl rfl ⟨Nat.le_of_ble_eq_true rfl, Nat.le_of_ble_eq_true rfl⟩ rfl hl.1 rfl (Nat.le_of_ble_eq_true rfl) dX8_back_2 ⟨Nat.le_of_ble_eq_true rfl, Nat.le_of_ble_eq_true rfl⟩) hP hD hS hA [0, 1] [] [0, 1] rfl rfl (by decide) (by decide) rfl (by decide) (fun H locs hP hD hS => ?_)
  refine lv_astore_nN (lv' := [(2, .null), (0, .ref o), (1, .int t)]) hx hb dX8_back_5 rfl hl (by decide) rfl (fun ls hl => ?_)
  refine lv_aload_nN hx hb dX8_back_6 rfl (lv_at hl 0 rfl) ?_
  refine lv_ifnonnullN hx hb dX8_back_7 ?_
  refine lv_bipush (v := (-2)) hx hb dX8_back_10 (by decide) ?_
  exact hs_iret hx hb hrt hlocks hK hP hD hS dX8_back_12 (rfl) (rfl)

set_option maxHeartbeats 400000 in
set_option maxRecDepth 100000 in
theorem c_X8_service_none (l : Launch) (D : va_G) (cN cT cJ : ClassId) (o ta ac tr nb : Nat) (tc td cs hi : Int32) (a : Nat → Option Nat) (acc : Nat → Int64) (st : TS) (t : Int32) (hat : tAt a t = none) : CM l D yX8_service cX8_service 4 (some .int) { frames := 1, cells := 0, slots := 0, locals := 21 } (tyS cN cT cJ) [.ref o, .int t] [(o, shE tr ta ac tc td cs hi), (ta, taE cT a)] (hs_QI D (tyS cN cT cJ) (-2) [(o, shE tr ta ac tc td cs hi), (ta, taE cT a)]) := by
  refine CM.of (by decide) (Nat.le_of_ble_eq_true rfl) ?_
  intro p e s m below meth c A ls hx hb hrt hml htg hown hlocks hnm hA hK hP hD hS hl
  have hown : s.vm.findClass RX8 = some m.cls := hown
  have hl : lv_has ls 4 [(0, .ref o), (1, .int t)] := hl
  have SF : CallFix p m c cX8_service 4 s _ hs_gt RX8 := ⟨hx, hb, hml, hown, htg⟩
  refine lv_aload_n hx hb dX8_service_0 rfl (lv_at hl 0 rfl) ?_
  refine lv_iload_n hx hb dX8_service_1 rfl (lv_at hl 1 rfl) ?_
  refine hs_callq (wc := [(o, shE tr ta ac tc td cs hi), (ta, taE cT a)]) (w1 := [(o, shE tr ta ac tc td cs hi), (ta, taE cT a)]) (wr := []) (ws2 := [(o, shE tr ta ac tc td cs hi), (ta, taE cT a)]) (hs_runV (q0 := 0) SF cal_X8_toolAt tw_237 (c_X8_toolAt l D cN cT cJ o ta ac tr nb tc td cs hi a acc st t none hat) hK (hP.sub (ws' := [(o, shE tr ta ac tc td cs hi), (ta, taE cT a)]) [0, 1] rfl) (hD.sub (ws' := [(o, shE tr ta ac tc td cs hi), (ta, taE cT a)]) [0, 1] (by decide) rfl) rfl rfl ⟨Nat.le_of_ble_eq_true rfl, Nat.le_of_ble_eq_true rfl⟩ rfl hl.1 rfl (Nat.le_of_ble_eq_true rfl) dX8_service_2 ⟨Nat.le_of_ble_eq_true rfl, Nat.le_of_ble_eq_true rfl⟩) hP hD hS hA [0, 1] [] [0, 1] rfl rfl (by decide) (by decide) rfl (by decide) (fun H locs hP hD hS => ?_)
  refine lv_astore_nN (lv' := [(2, .null), (0, .ref o), (1, .int t)]) hx hb dX8_service_5 rfl hl (by decide) rfl (fun ls hl => ?_)
  refine lv_aload_nN hx hb dX8_service_6 rfl (lv_at hl 0 rfl) ?_
  refine lv_ifnonnullN hx hb dX8_service_7 ?_
  refine lv_bipush (v := (-2)) hx hb dX8_service_10 (by decide) ?_
  exact hs_iret hx hb hrt hlocks hK hP hD hS dX8_service_12 (rfl) (rfl)

set_option maxHeartbeats 400000 in
set_option maxRecDepth 100000 in
theorem c_X8_told_none (l : Launch) (D : va_G) (cN cT cJ : ClassId) (o ta ac tr nb : Nat) (tc td cs hi : Int32) (a : Nat → Option Nat) (acc : Nat → Int64) (st : TS) (t : Int32) (hat : tAt a t = none) (w : Int32) : CM l D yX8_told cX8_told 4 (some .int) { frames := 1, cells := 0, slots := 0, locals := 21 } (tyS cN cT cJ) [.ref o, .int t, .int w] [(o, shE tr ta ac tc td cs hi), (ta, taE cT a)] (hs_QI D (tyS cN cT cJ) (-2) [(o, shE tr ta ac tc td cs hi), (ta, taE cT a)]) := by
  refine CM.of (by decide) (Nat.le_of_ble_eq_true rfl) ?_
  intro p e s m below meth c A ls hx hb hrt hml htg hown hlocks hnm hA hK hP hD hS hl
  have hown : s.vm.findClass RX8 = some m.cls := hown
  have hl : lv_has ls 4 [(0, .ref o), (1, .int t), (2, .int w)] := hl
  have SF : CallFix p m c cX8_told 4 s _ hs_gt RX8 := ⟨hx, hb, hml, hown, htg⟩
  refine lv_aload_n hx hb dX8_told_0 rfl (lv_at hl 0 rfl) ?_
  refine lv_iload_n hx hb dX8_told_1 rfl (lv_at hl 1 rfl) ?_
  refine hs_callq (wc := [(o, shE tr ta ac tc td cs hi), (ta, taE cT a)]) (w1 := [(o, shE tr ta ac tc td cs hi), (ta, taE cT a)]) (wr := []) (ws2 := [(o, shE tr ta ac tc td cs hi), (ta, taE cT a)]) (hs_runV (q0 := 0) SF cal_X8_toolAt tw_237 (c_X8_toolAt l D cN cT cJ o ta ac tr nb tc td cs hi a acc st t none hat) hK (hP.sub (ws' := [(o, shE tr ta ac tc td cs hi), (ta, taE cT a)]) [0, 1] rfl) (hD.sub (ws' := [(o, shE tr ta ac tc td cs hi), (ta, taE cT a)]) [0, 1] (by decide) rfl) rfl rfl ⟨Nat.le_of_ble_eq_true rfl, Nat.le_of_ble_eq_true rfl⟩ rfl hl.1 rfl (Nat.le_of_ble_eq_true rfl) dX8_told_2 ⟨Nat.le_of_ble_eq_true rfl, Nat.le_of_ble_eq_true rfl⟩) hP hD hS hA [0, 1] [] [0, 1] rfl rfl (by decide) (by decide) rfl (by decide) (fun H locs hP hD hS => ?_)
  refine lv_astore_nN (lv' := [(3, .null), (0, .ref o), (1, .int t), (2, .int w)]) hx hb dX8_told_5 rfl hl (by decide) rfl (fun ls hl => ?_)
  refine lv_aload_nN hx hb dX8_told_6 rfl (lv_at hl 0 rfl) ?_
  refine lv_ifnonnullN hx hb dX8_told_7 ?_
  refine lv_bipush (v := (-2)) hx hb dX8_told_10 (by decide) ?_
  exact hs_iret hx hb hrt hlocks hK hP hD hS dX8_told_12 (rfl) (rfl)

def askF (k : Nat) (w rt vl hr d : Int32) : Int32 := if wi w 0 5 = 0 then -2 else if wi d 0 400 = 0 then -2 else if hasA k w = 0 then -3 else ansF k w rt vl hr d
def askT (k : Nat) (w d : Int32) (st : TS) : TS := if wi w 0 5 = 0 then st else if wi d 0 400 = 0 then st else if hasA k w = 0 then (0, 0, st.2.2) else ((lvs (ansN k w) (0, 1, st.2.2)).1, 0, (lvs (ansN k w) (0, 1, st.2.2)).2.2)
def hireF (k : Nat) (vl hr hw cm : Int32) : Int32 := if wi cm 0 5 = 0 then -2 else if ¬ hw = 0 then -3 else if duF k hr 1 = 1 then -3 else dpF k vl
def toldF (k : Nat) (kd hr hw cu si w : Int32) : Int32 := if w = 0 then kd else if w = 1 then hr else if w = 2 then hw else if w = 3 then cu else if w = 4 then si else if w = 5 then (if isI k = 0 then 0 else 1) else if w = 6 then (if isS k = 0 then 0 else 1) else -2
def hireOk (k : Nat) (hr hw cm : Int32) : Prop := ¬ wi cm 0 5 = 0 ∧ hw = 0 ∧ ¬ duF k hr 1 = 1
def daysF (td si : Int32) : Int32 := if 1 < td - si then td - si else 1
def priceF (k : Nat) (rt vl hr d : Int32) : Int32 := chF k rt vl d + pmF k vl hr d
def hoursF (k : Nat) (hr d : Int32) : Int32 := hr + weF k hr d
def howF (k : Nat) (hr d : Int32) : Int32 := if ckF k (hoursF k hr d) ≤ 9 then 0 else 2

set_option maxHeartbeats 400000 in
set_option maxRecDepth 100000 in
theorem c_X8_ask_some (l : Launch) (D : va_G) (cN cT cJ : ClassId) (o ta ac tr nb : Nat) (tc td cs hi : Int32) (a : Nat → Option Nat) (acc : Nat → Int64) (st : TS) (h k : Nat) (hk : k < 7) (kd rt vl hr hw cu si : Int32) (hst : okT st) (hop : st.2.1 = 0) (t : Int32) (hat : tAt a t = some h) (w d : Int32) : CM l D yX8_ask cX8_ask 6 (some .int) { frames := 6, cells := 0, slots := 0, locals := 124 } (tyS cN cT cJ) [.ref o, .int t, .int w, .int d] [(o, shE tr ta ac tc td cs hi), (ta, taE cT a), (ac, acE cJ acc), (tr, trE nb st), (nb, nbE cN st), (h, tlE k tr kd rt vl hr hw cu si)] (hs_QI D (tyS cN cT cJ) (askF k w rt vl hr d) [(o, shE tr ta ac tc td cs hi), (ta, taE cT a), (ac, acE cJ acc), (tr, trE nb (askT k w d st)), (nb, nbE cN (askT k w d st)), (h, tlE k tr kd rt vl hr hw cu si)]) := by
  refine CM.of (by decide) (Nat.le_of_ble_eq_true rfl) ?_
  intro p e s m below meth c A ls hx hb hrt hml htg hown hlocks hnm hA hK hP hD hS hl
  have hown : s.vm.findClass RX8 = some m.cls := hown
  have hl : lv_has ls 6 [(0, .ref o), (1, .int t), (2, .int w), (3, .int d)] := hl
  have SF : CallFix p m c cX8_ask 6 s _ hs_gt RX8 := ⟨hx, hb, hml, hown, htg⟩
  refine lv_aload_n hx hb dX8_ask_0 rfl (lv_at hl 0 rfl) ?_
  refine lv_iload_n hx hb dX8_ask_1 rfl (lv_at hl 1 rfl) ?_
  refine hs_callq (wc := [(o, shE tr ta ac tc td cs hi), (ta, taE cT a)]) (w1 := [(o, shE tr ta ac tc td cs hi), (ta, taE cT a)]) (wr := [(ac, acE cJ acc), (tr, trE nb st), (nb, nbE cN st), (h, tlE k tr kd rt vl hr hw cu si)]) (ws2 := [(o, shE tr ta ac tc td cs hi), (ta, taE cT a), (ac, acE cJ acc), (tr, trE nb st), (nb, nbE cN st), (h, tlE k tr kd rt vl hr hw cu si)]) (hs_runV (q0 := 0) SF cal_X8_toolAt tw_237 (c_X8_toolAt l D cN cT cJ o ta ac tr nb tc td cs hi a acc st t (some h) hat) hK (hP.sub (ws' := [(o, shE tr ta ac tc td cs hi), (ta, taE cT a)]) [0, 1] rfl) (hD.sub (ws' := [(o, shE tr ta ac tc td cs hi), (ta, taE cT a)]) [0, 1] (by decide) rfl) rfl rfl ⟨Nat.le_of_ble_eq_true rfl, Nat.le_of_ble_eq_true rfl⟩ rfl hl.1 rfl (Nat.le_of_ble_eq_true rfl) dX8_ask_2 ⟨Nat.le_of_ble_eq_true rfl, Nat.le_of_ble_eq_true rfl⟩) hP hD hS hA [0, 1] [2, 3, 4, 5] [4, 5, 0, 1, 2, 3] rfl rfl (by decide) (by decide) rfl (by decide) (fun H locs hP hD hS => ?_)
  refine lv_astore (lv' := [(4, .ref h), (0, .ref o), (1, .int t), (2, .int w), (3, .int d)]) hx hb dX8_ask_5 hl (by decide) rfl (fun ls hl => ?_)
  refine lv_aload hx hb dX8_ask_7 (lv_at hl 0 rfl) ?_
  refine lv_ifnull hx hb dX8_ask_9 ?_
  refine lv_iload_n hx hb dX8_ask_12 rfl (lv_at hl 3 rfl) ?_
  refine lv_iconst (v := 0) hx hb dX8_ask_13 (by decide) ?_
  refine lv_iconst (v := 5) hx hb dX8_ask_14 (by decide) ?_
  refine hs_calli (wc := []) (w1 := []) (wr := [(o, shE tr ta ac tc td cs hi), (ta, taE cT a), (ac, acE cJ acc), (tr, trE nb st), (nb, nbE cN st), (h, tlE k tr kd rt vl hr hw cu si)]) (ws2 := [(o, shE tr ta ac tc td cs hi), (ta, taE cT a), (ac, acE cJ acc), (tr, trE nb st), (nb, nbE cN st), (h, tlE k tr kd rt vl hr hw cu si)]) (hs_runS SF cal_X8_isWithin tw_82 (c_X8_isWithin l D cN cT cJ w 0 5) hK (hP.sub (ws' := []) [] rfl) (hD.sub (ws' := []) [] (by decide) rfl) ⟨Nat.le_of_ble_eq_true rfl, Nat.le_of_ble_eq_true rfl⟩ rfl hl.1 rfl (Nat.le_of_ble_eq_true rfl) dX8_ask_15 ⟨Nat.le_of_ble_eq_true rfl, Nat.le_of_ble_eq_true rfl⟩) hP hD hS hA [] [0, 1, 2, 3, 4, 5] [0, 1, 2, 3, 4, 5] rfl rfl (by decide) (by decide) rfl (by decide) (fun H locs hP hD hS => ?_)
  refine lv_if_eq (tgt := 32) hx hb dX8_ask_18 (by decide) (fun c18 => ?_) (fun c18 => ?_)
  · refine lv_bipush (v := (-2)) hx hb dX8_ask_32 (by decide) ?_
    exact hs_iret hx hb hrt hlocks hK hP hD hS dX8_ask_34 (by unfold askF; first | rw [if_pos c18] | rw [if_neg c18, if_pos c29] | rw [if_neg c18, if_neg c29, if_pos c48] | rw [if_neg c18, if_neg c29, if_neg c48]) (by unfold askT; first | rw [if_pos c18] | rw [if_neg c18, if_pos c29] | rw [if_neg c18, if_neg c29, if_pos c48] | rw [if_neg c18, if_neg c29, if_neg c48])
  · refine lv_iload_n hx hb dX8_ask_21 rfl (lv_at hl 4 rfl) ?_
    refine lv_iconst (v := 0) hx hb dX8_ask_22 (by decide) ?_
    refine lv_sipush (v := 400) hx hb dX8_ask_23 (by decide) ?_
    refine hs_calli (wc := []) (w1 := []) (wr := [(o, shE tr ta ac tc td cs hi), (ta, taE cT a), (ac, acE cJ acc), (tr, trE nb st), (nb, nbE cN st), (h, tlE k tr kd rt vl hr hw cu si)]) (ws2 := [(o, shE tr ta ac tc td cs hi), (ta, taE cT a), (ac, acE cJ acc), (tr, trE nb st), (nb, nbE cN st), (h, tlE k tr kd rt vl hr hw cu si)]) (hs_runS SF cal_X8_isWithin tw_82 (c_X8_isWithin l D cN cT cJ d 0 400) hK (hP.sub (ws' := []) [] rfl) (hD.sub (ws' := []) [] (by decide) rfl) ⟨Nat.le_of_ble_eq_true rfl, Nat.le_of_ble_eq_true rfl⟩ rfl hl.1 rfl (Nat.le_of_ble_eq_true rfl) dX8_ask_26 ⟨Nat.le_of_ble_eq_true rfl, Nat.le_of_ble_eq_true rfl⟩) hP hD hS hA [] [0, 1, 2, 3, 4, 5] [0, 1, 2, 3, 4, 5] rfl rfl (by decide) (by decide) rfl (by decide) (fun H locs hP hD hS => ?_)
    refine lv_if_ne (tgt := 35) hx hb dX8_ask_29 (by decide) (fun c29 => ?_) (fun c29 => ?_)
    · refine lv_aload_n hx hb dX8_ask_35 rfl (lv_at hl 1 rfl) ?_
      refine va_get (D := D) (ci := 8) (v := .ref tr) (C := RX8) (T := TX8) (N := 7) hx hb htg in_X8 hown hK hP 0 rfl rfl 0 (by decide) (htg _ tw_55) (fun _ h9 => h9) rfl dX8_ask_36 ?_
      refine hs_callv (wc := [(tr, trE nb st), (nb, nbE cN st)]) (w1 := [(tr, trE nb (0, 1, st.2.2)), (nb, nbE cN (0, 1, st.2.2))]) (wr := [(o, shE tr ta ac tc td cs hi), (ta, taE cT a), (ac, acE cJ acc), (h, tlE k tr kd rt vl hr hw cu si)]) (ws2 := [(o, shE tr ta ac tc td cs hi), (ta, taE cT a), (ac, acE cJ acc), (tr, trE nb (0, 1, st.2.2)), (nb, nbE cN (0, 1, st.2.2)), (h, tlE k tr kd rt vl hr hw cu si)]) (hs_runV (q0 := 0) SF cal_X6_begin tw_241 (c_X6_begin l D cN cT cJ tr nb st) hK (hP.sub (ws' := [(tr, trE nb st), (nb, nbE cN st)]) [3, 4] rfl) (hD.sub (ws' := [(tr, trE nb st), (nb, nbE cN st)]) [3, 4] (by decide) rfl) rfl rfl ⟨Nat.le_of_ble_eq_true rfl, Nat.le_of_ble_eq_true rfl⟩ rfl hl.1 rfl (Nat.le_of_ble_eq_true rfl) dX8_ask_39 ⟨Nat.le_of_ble_eq_true rfl, Nat.le_of_ble_eq_true rfl⟩) hP hD hS hA [3, 4] [0, 1, 2, 5] [0, 1, 2, 4, 5, 3] rfl rfl (by decide) (by decide) rfl (by decide) (fun H locs hP hD hS => ?_)
      refine lv_aload hx hb dX8_ask_42 (lv_at hl 0 rfl) ?_
      refine lv_iload_n hx hb dX8_ask_44 rfl (lv_at hl 3 rfl) ?_
      refine hs_calli (wc := [(h, tlE k tr kd rt vl hr hw cu si), (tr, trE nb (0, 1, st.2.2)), (nb, nbE cN (0, 1, st.2.2))]) (w1 := [(h, tlE k tr kd rt vl hr hw cu si), (tr, trE nb (0, 1, st.2.2)), (nb, nbE cN (0, 1, st.2.2))]) (wr := [(o, shE tr ta ac tc td cs hi), (ta, taE cT a), (ac, acE cJ acc)]) (ws2 := [(o, shE tr ta ac tc td cs hi), (ta, taE cT a), (ac, acE cJ acc), (tr, trE nb (0, 1, st.2.2)), (nb, nbE cN (0, 1, st.2.2)), (h, tlE k tr kd rt vl hr hw cu si)]) (hs_runS SF cal_X8_hasAnswer tw_245 (c_X8_hasAnswer l D cN cT cJ h tr nb k kd rt vl hr hw cu si (0, 1, st.2.2) (okT_0 _) hk w) hK (hP.sub (ws' := [(h, tlE k tr kd rt vl hr hw cu si), (tr, trE nb (0, 1, st.2.2)), (nb, nbE cN (0, 1, st.2.2))]) [5, 3, 4] rfl) (hD.sub (ws' := [(h, tlE k tr kd rt vl hr hw cu si), (tr, trE nb (0, 1, st.2.2)), (nb, nbE cN (0, 1, st.2.2))]) [5, 3, 4] (by decide) rfl) ⟨Nat.le_of_ble_eq_true rfl, Nat.le_of_ble_eq_true rfl⟩ rfl hl.1 rfl (Nat.le_of_ble_eq_true rfl) dX8_ask_45 ⟨Nat.le_of_ble_eq_true rfl, Nat.le_of_ble_eq_true rfl⟩) hP hD hS hA [5, 3, 4] [0, 1, 2] [0, 1, 2, 4, 5, 3] rfl rfl (by decide) (by decide) rfl (by decide) (fun H locs hP hD hS => ?_)
      refine lv_if_eq (tgt := 61) hx hb dX8_ask_48 (by decide) (fun c48 => ?_) (fun c48 => ?_)
      · refine lv_bipush (v := (-3)) hx hb dX8_ask_61 (by decide) ?_
        refine lv_istore (lv' := [(5, .int (-3)), (4, .ref h), (0, .ref o), (1, .int t), (2, .int w), (3, .int d)]) hx hb dX8_ask_63 hl (by decide) rfl (fun ls hl => ?_)
        refine lv_aload_n hx hb dX8_ask_65 rfl (lv_at hl 2 rfl) ?_
        refine va_get (D := D) (ci := 8) (v := .ref tr) (C := RX8) (T := TX8) (N := 7) hx hb htg in_X8 hown hK hP 0 rfl rfl 0 (by decide) (htg _ tw_55) (fun _ h9 => h9) rfl dX8_ask_66 ?_
        refine hs_callv (wc := [(tr, trE nb (0, 1, st.2.2)), (nb, nbE cN (0, 1, st.2.2))]) (w1 := [(tr, trE nb ((0, 1, st.2.2).1, 0, (0, 1, st.2.2).2.2)), (nb, nbE cN ((0, 1, st.2.2).1, 0, (0, 1, st.2.2).2.2))]) (wr := [(o, shE tr ta ac tc td cs hi), (ta, taE cT a), (ac, acE cJ acc), (h, tlE k tr kd rt vl hr hw cu si)]) (ws2 := [(o, shE tr ta ac tc td cs hi), (ta, taE cT a), (ac, acE cJ acc), (tr, trE nb ((0, 1, st.2.2).1, 0, (0, 1, st.2.2).2.2)), (nb, nbE cN ((0, 1, st.2.2).1, 0, (0, 1, st.2.2).2.2)), (h, tlE k tr kd rt vl hr hw cu si)]) (hs_runV (q0 := 0) SF cal_X6_end tw_428 (c_X6_end l D cN cT cJ tr nb (0, 1, st.2.2)) hK (hP.sub (ws' := [(tr, trE nb (0, 1, st.2.2)), (nb, nbE cN (0, 1, st.2.2))]) [3, 4] rfl) (hD.sub (ws' := [(tr, trE nb (0, 1, st.2.2)), (nb, nbE cN (0, 1, st.2.2))]) [3, 4] (by decide) rfl) rfl rfl ⟨Nat.le_of_ble_eq_true rfl, Nat.le_of_ble_eq_true rfl⟩ rfl hl.1 rfl (Nat.le_of_ble_eq_true rfl) dX8_ask_69 ⟨Nat.le_of_ble_eq_true rfl, Nat.le_of_ble_eq_true rfl⟩) hP hD hS hA [3, 4] [0, 1, 2, 5] [0, 1, 2, 4, 5, 3] rfl rfl (by decide) (by decide) rfl (by decide) (fun H locs hP hD hS => ?_)
        refine lv_iload hx hb dX8_ask_72 (lv_at hl 0 rfl) ?_
        exact hs_iret hx hb hrt hlocks hK hP hD hS dX8_ask_74 (by unfold askF; first | rw [if_pos c18] | rw [if_neg c18, if_pos c29] | rw [if_neg c18, if_neg c29, if_pos c48] | rw [if_neg c18, if_neg c29, if_neg c48]) (by unfold askT; first | rw [if_pos c18] | rw [if_neg c18, if_pos c29] | rw [if_neg c18, if_neg c29, if_pos c48] | rw [if_neg c18, if_neg c29, if_neg c48])
      · refine lv_aload hx hb dX8_ask_51 (lv_at hl 0 rfl) ?_
        refine lv_iload_n hx hb dX8_ask_53 rfl (lv_at hl 3 rfl) ?_
        refine lv_iload_n hx hb dX8_ask_54 rfl (lv_at hl 4 rfl) ?_
        refine hs_calli (wc := [(h, tlE k tr kd rt vl hr hw cu si), (tr, trE nb (0, 1, st.2.2)), (nb, nbE cN (0, 1, st.2.2))]) (w1 := [(h, tlE k tr kd rt vl hr hw cu si), (tr, trE nb (lvs (ansN k w) (0, 1, st.2.2))), (nb, nbE cN (lvs (ansN k w) (0, 1, st.2.2)))]) (wr := [(o, shE tr ta ac tc td cs hi), (ta, taE cT a), (ac, acE cJ acc)]) (ws2 := [(o, shE tr ta ac tc td cs hi), (ta, taE cT a), (ac, acE cJ acc), (tr, trE nb (lvs (ansN k w) (0, 1, st.2.2))), (nb, nbE cN (lvs (ansN k w) (0, 1, st.2.2))), (h, tlE k tr kd rt vl hr hw cu si)]) (hs_runS SF cal_X8_answerOf tw_289 (c_X8_answerOf l D cN cT cJ h tr nb k kd rt vl hr hw cu si (0, 1, st.2.2) (okT_0 _) hk w d) hK (hP.sub (ws' := [(h, tlE k tr kd rt vl hr hw cu si), (tr, trE nb (0, 1, st.2.2)), (nb, nbE cN (0, 1, st.2.2))]) [5, 3, 4] rfl) (hD.sub (ws' := [(h, tlE k tr kd rt vl hr hw cu si), (tr, trE nb (0, 1, st.2.2)), (nb, nbE cN (0, 1, st.2.2))]) [5, 3, 4] (by decide) rfl) ⟨Nat.le_of_ble_eq_true rfl, Nat.le_of_ble_eq_true rfl⟩ rfl hl.1 rfl (Nat.le_of_ble_eq_true rfl) dX8_ask_55 ⟨Nat.le_of_ble_eq_true rfl, Nat.le_of_ble_eq_true rfl⟩) hP hD hS hA [5, 3, 4] [0, 1, 2] [0, 1, 2, 4, 5, 3] rfl rfl (by decide) (by decide) rfl (by decide) (fun H locs hP hD hS => ?_)
        refine lv_goto (tgt := 63) hx hb dX8_ask_58 (by decide) ?_
        refine lv_istore (lv' := [(5, .int (ansF k w rt vl hr d)), (4, .ref h), (0, .ref o), (1, .int t), (2, .int w), (3, .int d)]) hx hb dX8_ask_63 hl (by decide) rfl (fun ls hl => ?_)
        refine lv_aload_n hx hb dX8_ask_65 rfl (lv_at hl 2 rfl) ?_
        refine va_get (D := D) (ci := 8) (v := .ref tr) (C := RX8) (T := TX8) (N := 7) hx hb htg in_X8 hown hK hP 0 rfl rfl 0 (by decide) (htg _ tw_55) (fun _ h9 => h9) rfl dX8_ask_66 ?_
        refine hs_callv (wc := [(tr, trE nb (lvs (ansN k w) (0, 1, st.2.2))), (nb, nbE cN (lvs (ansN k w) (0, 1, st.2.2)))]) (w1 := [(tr, trE nb ((lvs (ansN k w) (0, 1, st.2.2)).1, 0, (lvs (ansN k w) (0, 1, st.2.2)).2.2)), (nb, nbE cN ((lvs (ansN k w) (0, 1, st.2.2)).1, 0, (lvs (ansN k w) (0, 1, st.2.2)).2.2))]) (wr := [(o, shE tr ta ac tc td cs hi), (ta, taE cT a), (ac, acE cJ acc), (h, tlE k tr kd rt vl hr hw cu si)]) (ws2 := [(o, shE tr ta ac tc td cs hi), (ta, taE cT a), (ac, acE cJ acc), (tr, trE nb ((lvs (ansN k w) (0, 1, st.2.2)).1, 0, (lvs (ansN k w) (0, 1, st.2.2)).2.2)), (nb, nbE cN ((lvs (ansN k w) (0, 1, st.2.2)).1, 0, (lvs (ansN k w) (0, 1, st.2.2)).2.2)), (h, tlE k tr kd rt vl hr hw cu si)]) (hs_runV (q0 := 0) SF cal_X6_end tw_428 (c_X6_end l D cN cT cJ tr nb (lvs (ansN k w) (0, 1, st.2.2))) hK (hP.sub (ws' := [(tr, trE nb (lvs (ansN k w) (0, 1, st.2.2))), (nb, nbE cN (lvs (ansN k w) (0, 1, st.2.2)))]) [3, 4] rfl) (hD.sub (ws' := [(tr, trE nb (lvs (ansN k w) (0, 1, st.2.2))), (nb, nbE cN (lvs (ansN k w) (0, 1, st.2.2)))]) [3, 4] (by decide) rfl) rfl rfl ⟨Nat.le_of_ble_eq_true rfl, Nat.le_of_ble_eq_true rfl⟩ rfl hl.1 rfl (Nat.le_of_ble_eq_true rfl) dX8_ask_69 ⟨Nat.le_of_ble_eq_true rfl, Nat.le_of_ble_eq_true rfl⟩) hP hD hS hA [3, 4] [0, 1, 2, 5] [0, 1, 2, 4, 5, 3] rfl rfl (by decide) (by decide) rfl (by decide) (fun H locs hP hD hS => ?_)
        refine lv_iload hx hb dX8_ask_72 (lv_at hl 0 rfl) ?_
        exact hs_iret hx hb hrt hlocks hK hP hD hS dX8_ask_74 (by unfold askF; first | rw [if_pos c18] | rw [if_neg c18, if_pos c29] | rw [if_neg c18, if_neg c29, if_pos c48] | rw [if_neg c18, if_neg c29, if_neg c48]) (by unfold askT; first | rw [if_pos c18] | rw [if_neg c18, if_pos c29] | rw [if_neg c18, if_neg c29, if_pos c48] | rw [if_neg c18, if_neg c29, if_neg c48])
    · refine lv_bipush (v := (-2)) hx hb dX8_ask_32 (by decide) ?_
      exact hs_iret hx hb hrt hlocks hK hP hD hS dX8_ask_34 (by unfold askF; first | rw [if_pos c18] | rw [if_neg c18, if_pos c29] | rw [if_neg c18, if_neg c29, if_pos c48] | rw [if_neg c18, if_neg c29, if_neg c48]) (by unfold askT; first | rw [if_pos c18] | rw [if_neg c18, if_pos c29] | rw [if_neg c18, if_neg c29, if_pos c48] | rw [if_neg c18, if_neg c29, if_neg c48])

set_option maxHeartbeats 400000 in
set_option maxRecDepth 100000 in
theorem c_X8_told_some (l : Launch) (D : va_G) (cN cT cJ : ClassId) (o ta ac tr nb : Nat) (tc td cs hi : Int32) (a : Nat → Option Nat) (acc : Nat → Int64) (st : TS) (h k : Nat) (hk : k < 7) (kd rt vl hr hw cu si : Int32) (hst : okT st) (hop : st.2.1 = 0) (t : Int32) (hat : tAt a t = some h) (w : Int32) : CM l D yX8_told cX8_told 4 (some .int) { frames := 1, cells := 0, slots := 0, locals := 21 } (tyS cN cT cJ) [.ref o, .int t, .int w] [(o, shE tr ta ac tc td cs hi), (ta, taE cT a), (ac, acE cJ acc), (tr, trE nb st), (nb, nbE cN st), (h, tlE k tr kd rt vl hr hw cu si)] (hs_QI D (tyS cN cT cJ) (toldF k kd hr hw cu si w) [(o, shE tr ta ac tc td cs hi), (ta, taE cT a), (ac, acE cJ acc), (tr, trE nb st), (nb, nbE cN st), (h, tlE k tr kd rt vl hr hw cu si)]) := by
  refine CM.of (by decide) (Nat.le_of_ble_eq_true rfl) ?_
  intro p e s m below meth c A ls hx hb hrt hml htg hown hlocks hnm hA hK hP hD hS hl
  have hown : s.vm.findClass RX8 = some m.cls := hown
  have hl : lv_has ls 4 [(0, .ref o), (1, .int t), (2, .int w)] := hl
  have SF : CallFix p m c cX8_told 4 s _ hs_gt RX8 := ⟨hx, hb, hml, hown, htg⟩
  refine lv_aload_n hx hb dX8_told_0 rfl (lv_at hl 0 rfl) ?_
  refine lv_iload_n hx hb dX8_told_1 rfl (lv_at hl 1 rfl) ?_
  refine hs_callq (wc := [(o, shE tr ta ac tc td cs hi), (ta, taE cT a)]) (w1 := [(o, shE tr ta ac tc td cs hi), (ta, taE cT a)]) (wr := [(ac, acE cJ acc), (tr, trE nb st), (nb, nbE cN st), (h, tlE k tr kd rt vl hr hw cu si)]) (ws2 := [(o, shE tr ta ac tc td cs hi), (ta, taE cT a), (ac, acE cJ acc), (tr, trE nb st), (nb, nbE cN st), (h, tlE k tr kd rt vl hr hw cu si)]) (hs_runV (q0 := 0) SF cal_X8_toolAt tw_237 (c_X8_toolAt l D cN cT cJ o ta ac tr nb tc td cs hi a acc st t (some h) hat) hK (hP.sub (ws' := [(o, shE tr ta ac tc td cs hi), (ta, taE cT a)]) [0, 1] rfl) (hD.sub (ws' := [(o, shE tr ta ac tc td cs hi), (ta, taE cT a)]) [0, 1] (by decide) rfl) rfl rfl ⟨Nat.le_of_ble_eq_true rfl, Nat.le_of_ble_eq_true rfl⟩ rfl hl.1 rfl (Nat.le_of_ble_eq_true rfl) dX8_told_2 ⟨Nat.le_of_ble_eq_true rfl, Nat.le_of_ble_eq_true rfl⟩) hP hD hS hA [0, 1] [2, 3, 4, 5] [4, 5, 0, 1, 2, 3] rfl rfl (by decide) (by decide) rfl (by decide) (fun H locs hP hD hS => ?_)
  refine lv_astore_n (lv' := [(3, .ref h), (0, .ref o), (1, .int t), (2, .int w)]) hx hb dX8_told_5 rfl hl (by decide) rfl (fun ls hl => ?_)
  refine lv_aload_n hx hb dX8_told_6 rfl (lv_at hl 0 rfl) ?_
  refine lv_ifnonnull (tgt := 13) hx hb dX8_told_7 (by decide) ?_
  refine lv_iload_n hx hb dX8_told_13 rfl (lv_at hl 3 rfl) ?_
  by_cases w0 : w = 0
  · subst w0
    refine lv_tableIn (off := 42) (tgt := 56) hx hb dX8_told_14 (by decide) (by decide) (by decide) (by decide) ?_
    refine lv_aload_n hx hb dX8_told_56 rfl (lv_at hl 0 rfl) ?_
    refine va_get (D := D) (ci := (kc k)) (v := .int kd) (C := (kR k)) (T := TX5) (N := 8) hx hb htg (kc_in k) hown hK hP 5 rfl (kc_cl k) 1 (by decide) (htg _ tw_113) (fun _ h9 => h9) rfl dX8_told_57 ?_
    exact hs_iret hx hb hrt hlocks hK hP hD hS dX8_told_60 (by simp [toldF]) (rfl)
  by_cases w1 : w = 1
  · subst w1
    refine lv_tableIn (off := 47) (tgt := 61) hx hb dX8_told_14 (by decide) (by decide) (by decide) (by decide) ?_
    refine lv_aload_n hx hb dX8_told_61 rfl (lv_at hl 0 rfl) ?_
    refine va_get (D := D) (ci := (kc k)) (v := .int hr) (C := (kR k)) (T := TX5) (N := 8) hx hb htg (kc_in k) hown hK hP 5 rfl (kc_cl k) 4 (by decide) (htg _ tw_123) (fun _ h9 => h9) rfl dX8_told_62 ?_
    exact hs_iret hx hb hrt hlocks hK hP hD hS dX8_told_65 (by simp [toldF]) (rfl)
  by_cases w2 : w = 2
  · subst w2
    refine lv_tableIn (off := 52) (tgt := 66) hx hb dX8_told_14 (by decide) (by decide) (by decide) (by decide) ?_
    refine lv_aload_n hx hb dX8_told_66 rfl (lv_at hl 0 rfl) ?_
    refine va_get (D := D) (ci := (kc k)) (v := .int hw) (C := (kR k)) (T := TX5) (N := 8) hx hb htg (kc_in k) hown hK hP 5 rfl (kc_cl k) 5 (by decide) (htg _ tw_125) (fun _ h9 => h9) rfl dX8_told_67 ?_
    exact hs_iret hx hb hrt hlocks hK hP hD hS dX8_told_70 (by simp [toldF]) (rfl)
  by_cases w3 : w = 3
  · subst w3
    refine lv_tableIn (off := 57) (tgt := 71) hx hb dX8_told_14 (by decide) (by decide) (by decide) (by decide) ?_
    refine lv_aload_n hx hb dX8_told_71 rfl (lv_at hl 0 rfl) ?_
    refine va_get (D := D) (ci := (kc k)) (v := .int cu) (C := (kR k)) (T := TX5) (N := 8) hx hb htg (kc_in k) hown hK hP 5 rfl (kc_cl k) 6 (by decide) (htg _ tw_127) (fun _ h9 => h9) rfl dX8_told_72 ?_
    exact hs_iret hx hb hrt hlocks hK hP hD hS dX8_told_75 (by simp [toldF]) (rfl)
  by_cases w4 : w = 4
  · subst w4
    refine lv_tableIn (off := 62) (tgt := 76) hx hb dX8_told_14 (by decide) (by decide) (by decide) (by decide) ?_
    refine lv_aload_n hx hb dX8_told_76 rfl (lv_at hl 0 rfl) ?_
    refine va_get (D := D) (ci := (kc k)) (v := .int si) (C := (kR k)) (T := TX5) (N := 8) hx hb htg (kc_in k) hown hK hP 5 rfl (kc_cl k) 7 (by decide) (htg _ tw_129) (fun _ h9 => h9) rfl dX8_told_77 ?_
    exact hs_iret hx hb hrt hlocks hK hP hD hS dX8_told_80 (by simp [toldF]) (rfl)
  by_cases w5 : w = 5
  · subst w5
    refine lv_tableIn (off := 67) (tgt := 81) hx hb dX8_told_14 (by decide) (by decide) (by decide) (by decide) ?_
    refine lv_aload_n hx hb dX8_told_81 rfl (lv_at hl 0 rfl) ?_
    refine hs_calli (wc := [(h, tlE k tr kd rt vl hr hw cu si), (tr, trE nb st), (nb, nbE cN st)]) (w1 := [(h, tlE k tr kd rt vl hr hw cu si), (tr, trE nb st), (nb, nbE cN st)]) (wr := [(o, shE tr ta ac tc td cs hi), (ta, taE cT a), (ac, acE cJ acc)]) (ws2 := [(o, shE tr ta ac tc td cs hi), (ta, taE cT a), (ac, acE cJ acc), (tr, trE nb st), (nb, nbE cN st), (h, tlE k tr kd rt vl hr hw cu si)]) (V_isInsured cN cT cJ h tr nb k hk kd rt vl hr hw cu si st hst  SF tw_261 hK (hP.sub (ws' := [(h, tlE k tr kd rt vl hr hw cu si), (tr, trE nb st), (nb, nbE cN st)]) [5, 3, 4] rfl) (hD.sub (ws' := [(h, tlE k tr kd rt vl hr hw cu si), (tr, trE nb st), (nb, nbE cN st)]) [5, 3, 4] (by decide) rfl) ⟨Nat.le_of_ble_eq_true rfl, Nat.le_of_ble_eq_true rfl⟩ hl.1 (Nat.le_of_ble_eq_true rfl) dX8_told_82 ⟨Nat.le_of_ble_eq_true rfl, Nat.le_of_ble_eq_true rfl⟩) hP hD hS hA [5, 3, 4] [0, 1, 2] [0, 1, 2, 4, 5, 3] rfl rfl (by decide) (by decide) rfl (by decide) (fun H locs hP hD hS => ?_)
    refine lv_if_eq (tgt := 92) hx hb dX8_told_85 (by decide) (fun c85 => ?_) (fun c85 => ?_)
    · refine lv_iconst (v := 0) hx hb dX8_told_92 (by decide) ?_
      exact hs_iret hx hb hrt hlocks hK hP hD hS dX8_told_93 (by simp [toldF, c85]) (rfl)
    · refine lv_iconst (v := 1) hx hb dX8_told_88 (by decide) ?_
      refine lv_goto (tgt := 93) hx hb dX8_told_89 (by decide) ?_
      exact hs_iret hx hb hrt hlocks hK hP hD hS dX8_told_93 (by simp [toldF, c85]) (rfl)
  by_cases w6 : w = 6
  · subst w6
    refine lv_tableIn (off := 80) (tgt := 94) hx hb dX8_told_14 (by decide) (by decide) (by decide) (by decide) ?_
    refine lv_aload_n hx hb dX8_told_94 rfl (lv_at hl 0 rfl) ?_
    refine hs_calli (wc := [(h, tlE k tr kd rt vl hr hw cu si), (tr, trE nb st), (nb, nbE cN st)]) (w1 := [(h, tlE k tr kd rt vl hr hw cu si), (tr, trE nb st), (nb, nbE cN st)]) (wr := [(o, shE tr ta ac tc td cs hi), (ta, taE cT a), (ac, acE cJ acc)]) (ws2 := [(o, shE tr ta ac tc td cs hi), (ta, taE cT a), (ac, acE cJ acc), (tr, trE nb st), (nb, nbE cN st), (h, tlE k tr kd rt vl hr hw cu si)]) (V_isServiced cN cT cJ h tr nb k hk kd rt vl hr hw cu si st hst  SF tw_274 hK (hP.sub (ws' := [(h, tlE k tr kd rt vl hr hw cu si), (tr, trE nb st), (nb, nbE cN st)]) [5, 3, 4] rfl) (hD.sub (ws' := [(h, tlE k tr kd rt vl hr hw cu si), (tr, trE nb st), (nb, nbE cN st)]) [5, 3, 4] (by decide) rfl) ⟨Nat.le_of_ble_eq_true rfl, Nat.le_of_ble_eq_true rfl⟩ hl.1 (Nat.le_of_ble_eq_true rfl) dX8_told_95 ⟨Nat.le_of_ble_eq_true rfl, Nat.le_of_ble_eq_true rfl⟩) hP hD hS hA [5, 3, 4] [0, 1, 2] [0, 1, 2, 4, 5, 3] rfl rfl (by decide) (by decide) rfl (by decide) (fun H locs hP hD hS => ?_)
    refine lv_if_eq (tgt := 105) hx hb dX8_told_98 (by decide) (fun c98 => ?_) (fun c98 => ?_)
    · refine lv_iconst (v := 0) hx hb dX8_told_105 (by decide) ?_
      exact hs_iret hx hb hrt hlocks hK hP hD hS dX8_told_106 (by simp [toldF, c98]) (rfl)
    · refine lv_iconst (v := 1) hx hb dX8_told_101 (by decide) ?_
      refine lv_goto (tgt := 106) hx hb dX8_told_102 (by decide) ?_
      exact hs_iret hx hb hrt hlocks hK hP hD hS dX8_told_106 (by simp [toldF, c98]) (rfl)
  refine lv_tableOut (tgt := 107) hx hb dX8_told_14 (by have := lv_neT w0 (a := 0) (by decide); have := lv_neT w1 (a := 1) (by decide); have := lv_neT w2 (a := 2) (by decide); have := lv_neT w3 (a := 3) (by decide); have := lv_neT w4 (a := 4) (by decide); have := lv_neT w5 (a := 5) (by decide); have := lv_neT w6 (a := 6) (by decide); omega) (by decide) ?_
  refine lv_bipush (v := (-2)) hx hb dX8_told_107 (by decide) ?_
  exact hs_iret hx hb hrt hlocks hK hP hD hS dX8_told_109 (by simp [toldF, w0, w1, w2, w3, w4, w5, w6]) (rfl)

set_option maxHeartbeats 400000 in
set_option maxRecDepth 100000 in
theorem c_X8_hire_no (l : Launch) (D : va_G) (cN cT cJ : ClassId) (o ta ac tr nb : Nat) (tc td cs hi : Int32) (a : Nat → Option Nat) (acc : Nat → Int64) (st : TS) (h k : Nat) (hk : k < 7) (kd rt vl hr hw cu si : Int32) (hst : okT st) (hop : st.2.1 = 0) (t : Int32) (hat : tAt a t = some h) (cm : Int32) (hno : ¬ hireOk k hr hw cm) : CM l D yX8_hire cX8_hire 5 (some .int) { frames := 4, cells := 0, slots := 0, locals := 84 } (tyS cN cT cJ) [.ref o, .int t, .int cm] [(o, shE tr ta ac tc td cs hi), (ta, taE cT a), (ac, acE cJ acc), (tr, trE nb st), (nb, nbE cN st), (h, tlE k tr kd rt vl hr hw cu si)] (hs_QI D (tyS cN cT cJ) (hireF k vl hr hw cm) [(o, shE tr ta ac tc td cs hi), (ta, taE cT a), (ac, acE cJ acc), (tr, trE nb st), (nb, nbE cN st), (h, tlE k tr kd rt vl hr hw cu si)]) := by
  refine CM.of (by decide) (Nat.le_of_ble_eq_true rfl) ?_
  intro p e s m below meth c A ls hx hb hrt hml htg hown hlocks hnm hA hK hP hD hS hl
  have hown : s.vm.findClass RX8 = some m.cls := hown
  have hl : lv_has ls 5 [(0, .ref o), (1, .int t), (2, .int cm)] := hl
  have SF : CallFix p m c cX8_hire 5 s _ hs_gt RX8 := ⟨hx, hb, hml, hown, htg⟩
  refine lv_aload_n hx hb dX8_hire_0 rfl (lv_at hl 0 rfl) ?_
  refine lv_iload_n hx hb dX8_hire_1 rfl (lv_at hl 1 rfl) ?_
  refine hs_callq (wc := [(o, shE tr ta ac tc td cs hi), (ta, taE cT a)]) (w1 := [(o, shE tr ta ac tc td cs hi), (ta, taE cT a)]) (wr := [(ac, acE cJ acc), (tr, trE nb st), (nb, nbE cN st), (h, tlE k tr kd rt vl hr hw cu si)]) (ws2 := [(o, shE tr ta ac tc td cs hi), (ta, taE cT a), (ac, acE cJ acc), (tr, trE nb st), (nb, nbE cN st), (h, tlE k tr kd rt vl hr hw cu si)]) (hs_runV (q0 := 0) SF cal_X8_toolAt tw_237 (c_X8_toolAt l D cN cT cJ o ta ac tr nb tc td cs hi a acc st t (some h) hat) hK (hP.sub (ws' := [(o, shE tr ta ac tc td cs hi), (ta, taE cT a)]) [0, 1] rfl) (hD.sub (ws' := [(o, shE tr ta ac tc td cs hi), (ta, taE cT a)]) [0, 1] (by decide) rfl) rfl rfl ⟨Nat.le_of_ble_eq_true rfl, Nat.le_of_ble_eq_true rfl⟩ rfl hl.1 rfl (Nat.le_of_ble_eq_true rfl) dX8_hire_2 ⟨Nat.le_of_ble_eq_true rfl, Nat.le_of_ble_eq_true rfl⟩) hP hD hS hA [0, 1] [2, 3, 4, 5] [4, 5, 0, 1, 2, 3] rfl rfl (by decide) (by decide) rfl (by decide) (fun H locs hP hD hS => ?_)
  refine lv_astore_n (lv' := [(3, .ref h), (0, .ref o), (1, .int t), (2, .int cm)]) hx hb dX8_hire_5 rfl hl (by decide) rfl (fun ls hl => ?_)
  refine lv_aload_n hx hb dX8_hire_6 rfl (lv_at hl 0 rfl) ?_
  refine lv_ifnull hx hb dX8_hire_7 ?_
  refine lv_iload_n hx hb dX8_hire_10 rfl (lv_at hl 3 rfl) ?_
  refine hs_calli (wc := []) (w1 := []) (wr := [(o, shE tr ta ac tc td cs hi), (ta, taE cT a), (ac, acE cJ acc), (tr, trE nb st), (nb, nbE cN st), (h, tlE k tr kd rt vl hr hw cu si)]) (ws2 := [(o, shE tr ta ac tc td cs hi), (ta, taE cT a), (ac, acE cJ acc), (tr, trE nb st), (nb, nbE cN st), (h, tlE k tr kd rt vl hr hw cu si)]) (hs_runS SF cal_X8_isCustomer tw_444 (c_X8_isCustomer l D cN cT cJ cm) hK (hP.sub (ws' := []) [] rfl) (hD.sub (ws' := []) [] (by decide) rfl) ⟨Nat.le_of_ble_eq_true rfl, Nat.le_of_ble_eq_true rfl⟩ rfl hl.1 rfl (Nat.le_of_ble_eq_true rfl) dX8_hire_11 ⟨Nat.le_of_ble_eq_true rfl, Nat.le_of_ble_eq_true rfl⟩) hP hD hS hA [] [0, 1, 2, 3, 4, 5] [0, 1, 2, 3, 4, 5] rfl rfl (by decide) (by decide) rfl (by decide) (fun H locs hP hD hS => ?_)
  refine lv_if_ne (tgt := 20) hx hb dX8_hire_14 (by decide) (fun c14 => ?_) (fun c14 => ?_)
  · refine lv_aload_n hx hb dX8_hire_20 rfl (lv_at hl 0 rfl) ?_
    refine va_get (D := D) (ci := (kc k)) (v := .int hw) (C := (kR k)) (T := TX5) (N := 8) hx hb htg (kc_in k) hown hK hP 5 rfl (kc_cl k) 5 (by decide) (htg _ tw_125) (fun _ h9 => h9) rfl dX8_hire_21 ?_
    refine lv_if_ne (tgt := 36) hx hb dX8_hire_24 (by decide) (fun c24 => ?_) (fun c24 => ?_)
    · refine lv_bipush (v := (-3)) hx hb dX8_hire_36 (by decide) ?_
      exact hs_iret hx hb hrt hlocks hK hP hD hS dX8_hire_38 (by unfold hireF; first | rw [if_pos c14] | rw [if_neg c14, if_pos c24] | rw [if_neg c14, if_neg (fun q => q c24), if_pos c33]) (rfl)
    · refine lv_aload_n hx hb dX8_hire_27 rfl (lv_at hl 0 rfl) ?_
      refine lv_iconst (v := 1) hx hb dX8_hire_28 (by decide) ?_
      refine hs_calli (wc := [(h, tlE k tr kd rt vl hr hw cu si), (tr, trE nb st), (nb, nbE cN st)]) (w1 := [(h, tlE k tr kd rt vl hr hw cu si), (tr, trE nb (lvs (duN k) st)), (nb, nbE cN (lvs (duN k) st))]) (wr := [(o, shE tr ta ac tc td cs hi), (ta, taE cT a), (ac, acE cJ acc)]) (ws2 := [(o, shE tr ta ac tc td cs hi), (ta, taE cT a), (ac, acE cJ acc), (tr, trE nb (lvs (duN k) st)), (nb, nbE cN (lvs (duN k) st)), (h, tlE k tr kd rt vl hr hw cu si)]) (V_due cN cT cJ h tr nb k hk kd rt vl hr hw cu si st hst 1 SF tw_415 hK (hP.sub (ws' := [(h, tlE k tr kd rt vl hr hw cu si), (tr, trE nb st), (nb, nbE cN st)]) [5, 3, 4] rfl) (hD.sub (ws' := [(h, tlE k tr kd rt vl hr hw cu si), (tr, trE nb st), (nb, nbE cN st)]) [5, 3, 4] (by decide) rfl) ⟨Nat.le_of_ble_eq_true rfl, Nat.le_of_ble_eq_true rfl⟩ hl.1 (Nat.le_of_ble_eq_true rfl) dX8_hire_29 ⟨Nat.le_of_ble_eq_true rfl, Nat.le_of_ble_eq_true rfl⟩) hP hD hS hA [5, 3, 4] [0, 1, 2] [0, 1, 2, 4, 5, 3] rfl rfl (by decide) (by decide) rfl (by decide) (fun H locs hP hD hS => ?_)
      rw [lvs_off (duN k) hop] at hP hD
      refine lv_iconst (v := 1) hx hb dX8_hire_32 (by decide) ?_
      refine lv_icmp_ne (tgt := 39) hx hb dX8_hire_33 (by decide) (fun c33 => False.elim (hno ⟨c14, c24, c33⟩)) (fun c33 => ?_)
      refine lv_bipush (v := (-3)) hx hb dX8_hire_36 (by decide) ?_
      exact hs_iret hx hb hrt hlocks hK hP hD hS dX8_hire_38 (by unfold hireF; first | rw [if_pos c14] | rw [if_neg c14, if_pos c24] | rw [if_neg c14, if_neg (fun q => q c24), if_pos c33]) (rfl)
  · refine lv_bipush (v := (-2)) hx hb dX8_hire_17 (by decide) ?_
    exact hs_iret hx hb hrt hlocks hK hP hD hS dX8_hire_19 (by unfold hireF; first | rw [if_pos c14] | rw [if_neg c14, if_pos c24] | rw [if_neg c14, if_neg (fun q => q c24), if_pos c33]) (rfl)

set_option maxHeartbeats 400000 in
set_option maxRecDepth 100000 in
theorem c_X8_hire_ok (l : Launch) (D : va_G) (cN cT cJ : ClassId) (o ta ac tr nb : Nat) (tc td cs hi : Int32) (a : Nat → Option Nat) (acc : Nat → Int64) (st : TS) (h k : Nat) (hk : k < 7) (kd rt vl hr hw cu si : Int32) (hst : okT st) (hop : st.2.1 = 0) (t : Int32) (hat : tAt a t = some h) (cm : Int32) (hyes : hireOk k hr hw cm) : CM l D yX8_hire cX8_hire 5 (some .int) { frames := 4, cells := 0, slots := 0, locals := 84 } (tyS cN cT cJ) [.ref o, .int t, .int cm] [(o, shE tr ta ac tc td cs hi), (ta, taE cT a), (ac, acE cJ acc), (tr, trE nb st), (nb, nbE cN st), (h, tlE k tr kd rt vl hr hw cu si)] (hs_QI D (tyS cN cT cJ) (dpF k vl) [(o, shE tr ta ac tc td cs (hi + 1)), (ta, taE cT a), (ac, acE cJ (payF acc cm (-(dpF k vl)))), (tr, trE nb st), (nb, nbE cN st), (h, tlE k tr kd rt vl hr 1 cm td)]) := by
  refine CM.of (by decide) (Nat.le_of_ble_eq_true rfl) ?_
  intro p e s m below meth c A ls hx hb hrt hml htg hown hlocks hnm hA hK hP hD hS hl
  have hown : s.vm.findClass RX8 = some m.cls := hown
  have hl : lv_has ls 5 [(0, .ref o), (1, .int t), (2, .int cm)] := hl
  have SF : CallFix p m c cX8_hire 5 s _ hs_gt RX8 := ⟨hx, hb, hml, hown, htg⟩
  refine lv_aload_n hx hb dX8_hire_0 rfl (lv_at hl 0 rfl) ?_
  refine lv_iload_n hx hb dX8_hire_1 rfl (lv_at hl 1 rfl) ?_
  refine hs_callq (wc := [(o, shE tr ta ac tc td cs hi), (ta, taE cT a)]) (w1 := [(o, shE tr ta ac tc td cs hi), (ta, taE cT a)]) (wr := [(ac, acE cJ acc), (tr, trE nb st), (nb, nbE cN st), (h, tlE k tr kd rt vl hr hw cu si)]) (ws2 := [(o, shE tr ta ac tc td cs hi), (ta, taE cT a), (ac, acE cJ acc), (tr, trE nb st), (nb, nbE cN st), (h, tlE k tr kd rt vl hr hw cu si)]) (hs_runV (q0 := 0) SF cal_X8_toolAt tw_237 (c_X8_toolAt l D cN cT cJ o ta ac tr nb tc td cs hi a acc st t (some h) hat) hK (hP.sub (ws' := [(o, shE tr ta ac tc td cs hi), (ta, taE cT a)]) [0, 1] rfl) (hD.sub (ws' := [(o, shE tr ta ac tc td cs hi), (ta, taE cT a)]) [0, 1] (by decide) rfl) rfl rfl ⟨Nat.le_of_ble_eq_true rfl, Nat.le_of_ble_eq_true rfl⟩ rfl hl.1 rfl (Nat.le_of_ble_eq_true rfl) dX8_hire_2 ⟨Nat.le_of_ble_eq_true rfl, Nat.le_of_ble_eq_true rfl⟩) hP hD hS hA [0, 1] [2, 3, 4, 5] [4, 5, 0, 1, 2, 3] rfl rfl (by decide) (by decide) rfl (by decide) (fun H locs hP hD hS => ?_)
  refine lv_astore_n (lv' := [(3, .ref h), (0, .ref o), (1, .int t), (2, .int cm)]) hx hb dX8_hire_5 rfl hl (by decide) rfl (fun ls hl => ?_)
  refine lv_aload_n hx hb dX8_hire_6 rfl (lv_at hl 0 rfl) ?_
  refine lv_ifnull hx hb dX8_hire_7 ?_
  refine lv_iload_n hx hb dX8_hire_10 rfl (lv_at hl 3 rfl) ?_
  refine hs_calli (wc := []) (w1 := []) (wr := [(o, shE tr ta ac tc td cs hi), (ta, taE cT a), (ac, acE cJ acc), (tr, trE nb st), (nb, nbE cN st), (h, tlE k tr kd rt vl hr hw cu si)]) (ws2 := [(o, shE tr ta ac tc td cs hi), (ta, taE cT a), (ac, acE cJ acc), (tr, trE nb st), (nb, nbE cN st), (h, tlE k tr kd rt vl hr hw cu si)]) (hs_runS SF cal_X8_isCustomer tw_444 (c_X8_isCustomer l D cN cT cJ cm) hK (hP.sub (ws' := []) [] rfl) (hD.sub (ws' := []) [] (by decide) rfl) ⟨Nat.le_of_ble_eq_true rfl, Nat.le_of_ble_eq_true rfl⟩ rfl hl.1 rfl (Nat.le_of_ble_eq_true rfl) dX8_hire_11 ⟨Nat.le_of_ble_eq_true rfl, Nat.le_of_ble_eq_true rfl⟩) hP hD hS hA [] [0, 1, 2, 3, 4, 5] [0, 1, 2, 3, 4, 5] rfl rfl (by decide) (by decide) rfl (by decide) (fun H locs hP hD hS => ?_)
  refine lv_if_ne (tgt := 20) hx hb dX8_hire_14 (by decide) (fun c14 => ?_) (fun c14 => absurd c14 (hyes.1))
  refine lv_aload_n hx hb dX8_hire_20 rfl (lv_at hl 0 rfl) ?_
  refine va_get (D := D) (ci := (kc k)) (v := .int hw) (C := (kR k)) (T := TX5) (N := 8) hx hb htg (kc_in k) hown hK hP 5 rfl (kc_cl k) 5 (by decide) (htg _ tw_125) (fun _ h9 => h9) rfl dX8_hire_21 ?_
  refine lv_if_ne (tgt := 36) hx hb dX8_hire_24 (by decide) (fun c24 => absurd c24 (fun q => q hyes.2.1)) (fun c24 => ?_)
  refine lv_aload_n hx hb dX8_hire_27 rfl (lv_at hl 0 rfl) ?_
  refine lv_iconst (v := 1) hx hb dX8_hire_28 (by decide) ?_
  refine hs_calli (wc := [(h, tlE k tr kd rt vl hr hw cu si), (tr, trE nb st), (nb, nbE cN st)]) (w1 := [(h, tlE k tr kd rt vl hr hw cu si), (tr, trE nb (lvs (duN k) st)), (nb, nbE cN (lvs (duN k) st))]) (wr := [(o, shE tr ta ac tc td cs hi), (ta, taE cT a), (ac, acE cJ acc)]) (ws2 := [(o, shE tr ta ac tc td cs hi), (ta, taE cT a), (ac, acE cJ acc), (tr, trE nb (lvs (duN k) st)), (nb, nbE cN (lvs (duN k) st)), (h, tlE k tr kd rt vl hr hw cu si)]) (V_due cN cT cJ h tr nb k hk kd rt vl hr hw cu si st hst 1 SF tw_415 hK (hP.sub (ws' := [(h, tlE k tr kd rt vl hr hw cu si), (tr, trE nb st), (nb, nbE cN st)]) [5, 3, 4] rfl) (hD.sub (ws' := [(h, tlE k tr kd rt vl hr hw cu si), (tr, trE nb st), (nb, nbE cN st)]) [5, 3, 4] (by decide) rfl) ⟨Nat.le_of_ble_eq_true rfl, Nat.le_of_ble_eq_true rfl⟩ hl.1 (Nat.le_of_ble_eq_true rfl) dX8_hire_29 ⟨Nat.le_of_ble_eq_true rfl, Nat.le_of_ble_eq_true rfl⟩) hP hD hS hA [5, 3, 4] [0, 1, 2] [0, 1, 2, 4, 5, 3] rfl rfl (by decide) (by decide) rfl (by decide) (fun H locs hP hD hS => ?_)
  rw [lvs_off (duN k) hop] at hP hD
  refine lv_iconst (v := 1) hx hb dX8_hire_32 (by decide) ?_
  refine lv_icmp_ne (tgt := 39) hx hb dX8_hire_33 (by decide) (fun c33 => ?_) (fun c33 => absurd c33 (hyes.2.2))
  refine lv_aload_n hx hb dX8_hire_39 rfl (lv_at hl 0 rfl) ?_
  refine hs_calli (wc := [(h, tlE k tr kd rt vl hr hw cu si), (tr, trE nb st), (nb, nbE cN st)]) (w1 := [(h, tlE k tr kd rt vl hr hw cu si), (tr, trE nb (lvs (dpN k) st)), (nb, nbE cN (lvs (dpN k) st))]) (wr := [(o, shE tr ta ac tc td cs hi), (ta, taE cT a), (ac, acE cJ acc)]) (ws2 := [(o, shE tr ta ac tc td cs hi), (ta, taE cT a), (ac, acE cJ acc), (tr, trE nb (lvs (dpN k) st)), (nb, nbE cN (lvs (dpN k) st)), (h, tlE k tr kd rt vl hr hw cu si)]) (V_deposit cN cT cJ h tr nb k hk kd rt vl hr hw cu si st hst  SF tw_373 hK (hP.sub (ws' := [(h, tlE k tr kd rt vl hr hw cu si), (tr, trE nb st), (nb, nbE cN st)]) [5, 3, 4] rfl) (hD.sub (ws' := [(h, tlE k tr kd rt vl hr hw cu si), (tr, trE nb st), (nb, nbE cN st)]) [5, 3, 4] (by decide) rfl) ⟨Nat.le_of_ble_eq_true rfl, Nat.le_of_ble_eq_true rfl⟩ hl.1 (Nat.le_of_ble_eq_true rfl) dX8_hire_40 ⟨Nat.le_of_ble_eq_true rfl, Nat.le_of_ble_eq_true rfl⟩) hP hD hS hA [5, 3, 4] [0, 1, 2] [0, 1, 2, 4, 5, 3] rfl rfl (by decide) (by decide) rfl (by decide) (fun H locs hP hD hS => ?_)
  rw [lvs_off (dpN k) hop] at hP hD
  refine lv_istore (lv' := [(4, .int (dpF k vl)), (3, .ref h), (0, .ref o), (1, .int t), (2, .int cm)]) hx hb dX8_hire_43 hl (by decide) rfl (fun ls hl => ?_)
  refine lv_aload_n hx hb dX8_hire_45 rfl (lv_at hl 2 rfl) ?_
  refine lv_iload_n hx hb dX8_hire_46 rfl (lv_at hl 4 rfl) ?_
  refine lv_iload hx hb dX8_hire_47 (lv_at hl 0 rfl) ?_
  refine lv_ineg hx hb dX8_hire_49 ?_
  refine hs_callv (wc := [(o, shE tr ta ac tc td cs hi), (ac, acE cJ acc)]) (w1 := [(o, shE tr ta ac tc td cs hi), (ac, acE cJ (payF acc cm (-(dpF k vl))))]) (wr := [(ta, taE cT a), (tr, trE nb st), (nb, nbE cN st), (h, tlE k tr kd rt vl hr hw cu si)]) (ws2 := [(o, shE tr ta ac tc td cs hi), (ta, taE cT a), (ac, acE cJ (payF acc cm (-(dpF k vl)))), (tr, trE nb st), (nb, nbE cN st), (h, tlE k tr kd rt vl hr hw cu si)]) (hs_runV (q0 := 0) SF cal_X8_pay tw_447 (c_X8_pay l D cN cT cJ o ta ac tr nb tc td cs hi a acc st cm (-(dpF k vl))) hK (hP.sub (ws' := [(o, shE tr ta ac tc td cs hi), (ac, acE cJ acc)]) [0, 2] rfl) (hD.sub (ws' := [(o, shE tr ta ac tc td cs hi), (ac, acE cJ acc)]) [0, 2] (by decide) rfl) rfl rfl ⟨Nat.le_of_ble_eq_true rfl, Nat.le_of_ble_eq_true rfl⟩ rfl hl.1 rfl (Nat.le_of_ble_eq_true rfl) dX8_hire_50 ⟨Nat.le_of_ble_eq_true rfl, Nat.le_of_ble_eq_true rfl⟩) hP hD hS hA [0, 2] [1, 3, 4, 5] [4, 0, 5, 1, 2, 3] rfl rfl (by decide) (by decide) rfl (by decide) (fun H locs hP hD hS => ?_)
  refine lv_aload_n hx hb dX8_hire_53 rfl (lv_at hl 1 rfl) ?_
  refine lv_iload_n hx hb dX8_hire_54 rfl (lv_at hl 4 rfl) ?_
  refine lv_aload_n hx hb dX8_hire_55 rfl (lv_at hl 2 rfl) ?_
  refine va_get (D := D) (ci := 8) (v := .int td) (C := RX8) (T := TX8) (N := 7) hx hb htg in_X8 hown hK hP 0 rfl rfl 4 (by decide) (htg _ tw_59) (fun _ h9 => h9) rfl dX8_hire_56 ?_
  refine hs_callv (wc := [(h, tlE k tr kd rt vl hr hw cu si), (tr, trE nb st), (nb, nbE cN st)]) (w1 := [(h, tlE k tr kd rt vl hr 1 cm td), (tr, trE nb st), (nb, nbE cN st)]) (wr := [(o, shE tr ta ac tc td cs hi), (ta, taE cT a), (ac, acE cJ (payF acc cm (-(dpF k vl))))]) (ws2 := [(o, shE tr ta ac tc td cs hi), (ta, taE cT a), (ac, acE cJ (payF acc cm (-(dpF k vl)))), (tr, trE nb st), (nb, nbE cN st), (h, tlE k tr kd rt vl hr 1 cm td)]) (V_goOut cN cT cJ h tr nb k hk kd rt vl hr hw cu si st hst cm td SF tw_451 hK (hP.sub (ws' := [(h, tlE k tr kd rt vl hr hw cu si), (tr, trE nb st), (nb, nbE cN st)]) [5, 3, 4] rfl) (hD.sub (ws' := [(h, tlE k tr kd rt vl hr hw cu si), (tr, trE nb st), (nb, nbE cN st)]) [5, 3, 4] (by decide) rfl) ⟨Nat.le_of_ble_eq_true rfl, Nat.le_of_ble_eq_true rfl⟩ hl.1 (Nat.le_of_ble_eq_true rfl) dX8_hire_59 ⟨Nat.le_of_ble_eq_true rfl, Nat.le_of_ble_eq_true rfl⟩) hP hD hS hA [5, 3, 4] [0, 1, 2] [0, 1, 2, 4, 5, 3] rfl rfl (by decide) (by decide) rfl (by decide) (fun H locs hP hD hS => ?_)
  refine lv_aload_n hx hb dX8_hire_62 rfl (lv_at hl 2 rfl) ?_
  refine lv_dup hx hb dX8_hire_63 rfl ?_
  refine va_get (D := D) (ci := 8) (v := .int hi) (C := RX8) (T := TX8) (N := 7) hx hb htg in_X8 hown hK hP 0 rfl rfl 6 (by decide) (htg _ tw_61) (fun _ h9 => h9) rfl dX8_hire_64 ?_
  refine lv_iconst (v := 1) hx hb dX8_hire_67 (by decide) ?_
  refine lv_iadd hx hb dX8_hire_68 ?_
  refine va_put (D := D) (ci := 8) (v := .int (hi + 1)) (ty := .int) (C := RX8) (T := TX8) (N := 7) hx hb htg in_X8 tyX8 tyX8_ok nmX8 hown hK hP hD hS 0 rfl rfl 6 (by decide) (htg _ tw_61) (fun _ h9 => h9) rfl (by decide +kernel) rfl rfl (Nat.le_of_ble_eq_true rfl) dX8_hire_69 (fun H locs hP hD hS => ?_)
  have hP : va_P D hs_cl [(o, shE tr ta ac tc td cs (hi + 1)), (ta, taE cT a), (ac, acE cJ (payF acc cm (-(dpF k vl)))), (tr, trE nb st), (nb, nbE cN st), (h, tlE k tr kd rt vl hr 1 cm td)] H := hP
  have hD : va_D A [(o, shE tr ta ac tc td cs (hi + 1)), (ta, taE cT a), (ac, acE cJ (payF acc cm (-(dpF k vl)))), (tr, trE nb st), (nb, nbE cN st), (h, tlE k tr kd rt vl hr 1 cm td)] := hD
  refine lv_iload hx hb dX8_hire_72 (lv_at hl 0 rfl) ?_
  exact hs_iret hx hb hrt hlocks hK hP hD hS dX8_hire_74 (rfl) (rfl)

set_option maxHeartbeats 400000 in
set_option maxRecDepth 100000 in
theorem c_X8_back_no (l : Launch) (D : va_G) (cN cT cJ : ClassId) (o ta ac tr nb : Nat) (tc td cs hi : Int32) (a : Nat → Option Nat) (acc : Nat → Int64) (st : TS) (h k : Nat) (hk : k < 7) (kd rt vl hr hw cu si : Int32) (hst : okT st) (hop : st.2.1 = 0) (t : Int32) (hat : tAt a t = some h) (hno : ¬ hw = 1) : CM l D yX8_back cX8_back 5 (some .int) { frames := 1, cells := 0, slots := 0, locals := 21 } (tyS cN cT cJ) [.ref o, .int t] [(o, shE tr ta ac tc td cs hi), (ta, taE cT a), (ac, acE cJ acc), (tr, trE nb st), (nb, nbE cN st), (h, tlE k tr kd rt vl hr hw cu si)] (hs_QI D (tyS cN cT cJ) (-3) [(o, shE tr ta ac tc td cs hi), (ta, taE cT a), (ac, acE cJ acc), (tr, trE nb st), (nb, nbE cN st), (h, tlE k tr kd rt vl hr hw cu si)]) := by
  refine CM.of (by decide) (Nat.le_of_ble_eq_true rfl) ?_
  intro p e s m below meth c A ls hx hb hrt hml htg hown hlocks hnm hA hK hP hD hS hl
  have hown : s.vm.findClass RX8 = some m.cls := hown
  have hl : lv_has ls 5 [(0, .ref o), (1, .int t)] := hl
  have SF : CallFix p m c cX8_back 5 s _ hs_gt RX8 := ⟨hx, hb, hml, hown, htg⟩
  refine lv_aload_n hx hb dX8_back_0 rfl (lv_at hl 0 rfl) ?_
  refine lv_iload_n hx hb dX8_back_1 rfl (lv_at hl 1 rfl) ?_
  refine hs_callq (wc := [(o, shE tr ta ac tc td cs hi), (ta, taE cT a)]) (w1 := [(o, shE tr ta ac tc td cs hi), (ta, taE cT a)]) (wr := [(ac, acE cJ acc), (tr, trE nb st), (nb, nbE cN st), (h, tlE k tr kd rt vl hr hw cu si)]) (ws2 := [(o, shE tr ta ac tc td cs hi), (ta, taE cT a), (ac, acE cJ acc), (tr, trE nb st), (nb, nbE cN st), (h, tlE k tr kd rt vl hr hw cu si)]) (hs_runV (q0 := 0) SF cal_X8_toolAt tw_237 (c_X8_toolAt l D cN cT cJ o ta ac tr nb tc td cs hi a acc st t (some h) hat) hK (hP.sub (ws' := [(o, shE tr ta ac tc td cs hi), (ta, taE cT a)]) [0, 1] rfl) (hD.sub (ws' := [(o, shE tr ta ac tc td cs hi), (ta, taE cT a)]) [0, 1] (by decide) rfl) rfl rfl ⟨Nat.le_of_ble_eq_true rfl, Nat.le_of_ble_eq_true rfl⟩ rfl hl.1 rfl (Nat.le_of_ble_eq_true rfl) dX8_back_2 ⟨Nat.le_of_ble_eq_true rfl, Nat.le_of_ble_eq_true rfl⟩) hP hD hS hA [0, 1] [2, 3, 4, 5] [4, 5, 0, 1, 2, 3] rfl rfl (by decide) (by decide) rfl (by decide) (fun H locs hP hD hS => ?_)
  refine lv_astore_n (lv' := [(2, .ref h), (0, .ref o), (1, .int t)]) hx hb dX8_back_5 rfl hl (by decide) rfl (fun ls hl => ?_)
  refine lv_aload_n hx hb dX8_back_6 rfl (lv_at hl 0 rfl) ?_
  refine lv_ifnonnull (tgt := 13) hx hb dX8_back_7 (by decide) ?_
  refine lv_aload_n hx hb dX8_back_13 rfl (lv_at hl 0 rfl) ?_
  refine va_get (D := D) (ci := (kc k)) (v := .int hw) (C := (kR k)) (T := TX5) (N := 8) hx hb htg (kc_in k) hown hK hP 5 rfl (kc_cl k) 5 (by decide) (htg _ tw_125) (fun _ h9 => h9) rfl dX8_back_14 ?_
  refine lv_iconst (v := 1) hx hb dX8_back_17 (by decide) ?_
  refine lv_icmp_eq (tgt := 24) hx hb dX8_back_18 (by decide) (fun c18 => absurd c18 (hno)) (fun c18 => ?_)
  refine lv_bipush (v := (-3)) hx hb dX8_back_21 (by decide) ?_
  exact hs_iret hx hb hrt hlocks hK hP hD hS dX8_back_23 (rfl) (rfl)

set_option maxHeartbeats 400000 in
set_option maxRecDepth 100000 in
theorem c_X8_back_ok (l : Launch) (D : va_G) (cN cT cJ : ClassId) (o ta ac tr nb : Nat) (tc td cs hi : Int32) (a : Nat → Option Nat) (acc : Nat → Int64) (st : TS) (h k : Nat) (hk : k < 7) (kd rt vl hr hw cu si : Int32) (hst : okT st) (hop : st.2.1 = 0) (t : Int32) (hat : tAt a t = some h) (hyes : hw = 1) : CM l D yX8_back cX8_back 5 (some .int) { frames := 5, cells := 0, slots := 0, locals := 102 } (tyS cN cT cJ) [.ref o, .int t] [(o, shE tr ta ac tc td cs hi), (ta, taE cT a), (ac, acE cJ acc), (tr, trE nb st), (nb, nbE cN st), (h, tlE k tr kd rt vl hr hw cu si)] (hs_QI D (tyS cN cT cJ) (priceF k rt vl hr (daysF td si)) [(o, shE tr ta ac tc td cs hi), (ta, taE cT a), (ac, acE cJ (payF acc cu (dpF k vl - priceF k rt vl hr (daysF td si)))), (tr, trE nb st), (nb, nbE cN st), (h, tlE k tr kd rt vl (hoursF k hr (daysF td si)) (howF k hr (daysF td si)) (-1) (-1))]) := by
  refine CM.of (by decide) (Nat.le_of_ble_eq_true rfl) ?_
  intro p e s m below meth c A ls hx hb hrt hml htg hown hlocks hnm hA hK hP hD hS hl
  have hown : s.vm.findClass RX8 = some m.cls := hown
  have hl : lv_has ls 5 [(0, .ref o), (1, .int t)] := hl
  have SF : CallFix p m c cX8_back 5 s _ hs_gt RX8 := ⟨hx, hb, hml, hown, htg⟩
  refine lv_aload_n hx hb dX8_back_0 rfl (lv_at hl 0 rfl) ?_
  refine lv_iload_n hx hb dX8_back_1 rfl (lv_at hl 1 rfl) ?_
  refine hs_callq (wc := [(o, shE tr ta ac tc td cs hi), (ta, taE cT a)]) (w1 := [(o, shE tr ta ac tc td cs hi), (ta, taE cT a)]) (wr := [(ac, acE cJ acc), (tr, trE nb st), (nb, nbE cN st), (h, tlE k tr kd rt vl hr hw cu si)]) (ws2 := [(o, shE tr ta ac tc td cs hi), (ta, taE cT a), (ac, acE cJ acc), (tr, trE nb st), (nb, nbE cN st), (h, tlE k tr kd rt vl hr hw cu si)]) (hs_runV (q0 := 0) SF cal_X8_toolAt tw_237 (c_X8_toolAt l D cN cT cJ o ta ac tr nb tc td cs hi a acc st t (some h) hat) hK (hP.sub (ws' := [(o, shE tr ta ac tc td cs hi), (ta, taE cT a)]) [0, 1] rfl) (hD.sub (ws' := [(o, shE tr ta ac tc td cs hi), (ta, taE cT a)]) [0, 1] (by decide) rfl) rfl rfl ⟨Nat.le_of_ble_eq_true rfl, Nat.le_of_ble_eq_true rfl⟩ rfl hl.1 rfl (Nat.le_of_ble_eq_true rfl) dX8_back_2 ⟨Nat.le_of_ble_eq_true rfl, Nat.le_of_ble_eq_true rfl⟩) hP hD hS hA [0, 1] [2, 3, 4, 5] [4, 5, 0, 1, 2, 3] rfl rfl (by decide) (by decide) rfl (by decide) (fun H locs hP hD hS => ?_)
  refine lv_astore_n (lv' := [(2, .ref h), (0, .ref o), (1, .int t)]) hx hb dX8_back_5 rfl hl (by decide) rfl (fun ls hl => ?_)
  refine lv_aload_n hx hb dX8_back_6 rfl (lv_at hl 0 rfl) ?_
  refine lv_ifnonnull (tgt := 13) hx hb dX8_back_7 (by decide) ?_
  refine lv_aload_n hx hb dX8_back_13 rfl (lv_at hl 0 rfl) ?_
  refine va_get (D := D) (ci := (kc k)) (v := .int hw) (C := (kR k)) (T := TX5) (N := 8) hx hb htg (kc_in k) hown hK hP 5 rfl (kc_cl k) 5 (by decide) (htg _ tw_125) (fun _ h9 => h9) rfl dX8_back_14 ?_
  refine lv_iconst (v := 1) hx hb dX8_back_17 (by decide) ?_
  refine lv_icmp_eq (tgt := 24) hx hb dX8_back_18 (by decide) (fun c18 => ?_) (fun c18 => absurd c18 (fun q => q hyes))
  refine lv_iconst (v := 1) hx hb dX8_back_24 (by decide) ?_
  refine lv_aload_n hx hb dX8_back_25 rfl (lv_at hl 1 rfl) ?_
  refine va_get (D := D) (ci := 8) (v := .int td) (C := RX8) (T := TX8) (N := 7) hx hb htg in_X8 hown hK hP 0 rfl rfl 4 (by decide) (htg _ tw_59) (fun _ h9 => h9) rfl dX8_back_26 ?_
  refine lv_aload_n hx hb dX8_back_29 rfl (lv_at hl 0 rfl) ?_
  refine va_get (D := D) (ci := (kc k)) (v := .int si) (C := (kR k)) (T := TX5) (N := 8) hx hb htg (kc_in k) hown hK hP 5 rfl (kc_cl k) 7 (by decide) (htg _ tw_129) (fun _ h9 => h9) rfl dX8_back_30 ?_
  refine lv_isub hx hb dX8_back_33 ?_
  refine va_mmax hx hb (by rw [hml]; exact hl.1.symm) hown (htg _ tw_466) (htg _ tw_323) (htg _ tw_27) (htg _ tw_324) (Nat.le_of_ble_eq_true rfl) (Nat.le_of_ble_eq_true rfl) (Nat.zero_le _) (Nat.zero_le _) dX8_back_34 ?_
  refine lv_istore_n (lv' := [(3, .int (if 1 < (td - si) then (td - si) else 1)), (2, .ref h), (0, .ref o), (1, .int t)]) hx hb dX8_back_37 rfl hl (by decide) rfl (fun ls hl => ?_)
  refine lv_aload_n hx hb dX8_back_38 rfl (lv_at hl 1 rfl) ?_
  refine lv_iload_n hx hb dX8_back_39 rfl (lv_at hl 0 rfl) ?_
  refine hs_calli (wc := [(h, tlE k tr kd rt vl hr hw cu si), (tr, trE nb st), (nb, nbE cN st)]) (w1 := [(h, tlE k tr kd rt vl hr hw cu si), (tr, trE nb (lvs (chN k) st)), (nb, nbE cN (lvs (chN k) st))]) (wr := [(o, shE tr ta ac tc td cs hi), (ta, taE cT a), (ac, acE cJ acc)]) (ws2 := [(o, shE tr ta ac tc td cs hi), (ta, taE cT a), (ac, acE cJ acc), (tr, trE nb (lvs (chN k) st)), (nb, nbE cN (lvs (chN k) st)), (h, tlE k tr kd rt vl hr hw cu si)]) (V_charge cN cT cJ h tr nb k hk kd rt vl hr hw cu si st hst (if 1 < (td - si) then (td - si) else 1) SF tw_292 hK (hP.sub (ws' := [(h, tlE k tr kd rt vl hr hw cu si), (tr, trE nb st), (nb, nbE cN st)]) [5, 3, 4] rfl) (hD.sub (ws' := [(h, tlE k tr kd rt vl hr hw cu si), (tr, trE nb st), (nb, nbE cN st)]) [5, 3, 4] (by decide) rfl) ⟨Nat.le_of_ble_eq_true rfl, Nat.le_of_ble_eq_true rfl⟩ hl.1 (Nat.le_of_ble_eq_true rfl) dX8_back_40 ⟨Nat.le_of_ble_eq_true rfl, Nat.le_of_ble_eq_true rfl⟩) hP hD hS hA [5, 3, 4] [0, 1, 2] [0, 1, 2, 4, 5, 3] rfl rfl (by decide) (by decide) rfl (by decide) (fun H locs hP hD hS => ?_)
  rw [lvs_off (chN k) hop] at hP hD
  refine lv_aload_n hx hb dX8_back_43 rfl (lv_at hl 1 rfl) ?_
  refine lv_iload_n hx hb dX8_back_44 rfl (lv_at hl 0 rfl) ?_
  refine hs_calli (wc := [(h, tlE k tr kd rt vl hr hw cu si), (tr, trE nb st), (nb, nbE cN st)]) (w1 := [(h, tlE k tr kd rt vl hr hw cu si), (tr, trE nb (lvs (pmN k) st)), (nb, nbE cN (lvs (pmN k) st))]) (wr := [(o, shE tr ta ac tc td cs hi), (ta, taE cT a), (ac, acE cJ acc)]) (ws2 := [(o, shE tr ta ac tc td cs hi), (ta, taE cT a), (ac, acE cJ acc), (tr, trE nb (lvs (pmN k) st)), (nb, nbE cN (lvs (pmN k) st)), (h, tlE k tr kd rt vl hr hw cu si)]) (V_premium cN cT cJ h tr nb k hk kd rt vl hr hw cu si st hst (if 1 < (td - si) then (td - si) else 1) SF tw_391 hK (hP.sub (ws' := [(h, tlE k tr kd rt vl hr hw cu si), (tr, trE nb st), (nb, nbE cN st)]) [5, 3, 4] rfl) (hD.sub (ws' := [(h, tlE k tr kd rt vl hr hw cu si), (tr, trE nb st), (nb, nbE cN st)]) [5, 3, 4] (by decide) rfl) ⟨Nat.le_of_ble_eq_true rfl, Nat.le_of_ble_eq_true rfl⟩ hl.1 (Nat.le_of_ble_eq_true rfl) dX8_back_45 ⟨Nat.le_of_ble_eq_true rfl, Nat.le_of_ble_eq_true rfl⟩) hP hD hS hA [5, 3, 4] [0, 1, 2] [0, 1, 2, 4, 5, 3] rfl rfl (by decide) (by decide) rfl (by decide) (fun H locs hP hD hS => ?_)
  rw [lvs_off (pmN k) hop] at hP hD
  refine lv_iadd hx hb dX8_back_48 ?_
  refine lv_istore (lv' := [(4, .int ((chF k rt vl (if 1 < (td - si) then (td - si) else 1)) + (pmF k vl hr (if 1 < (td - si) then (td - si) else 1)))), (3, .int (if 1 < (td - si) then (td - si) else 1)), (2, .ref h), (0, .ref o), (1, .int t)]) hx hb dX8_back_49 hl (by decide) rfl (fun ls hl => ?_)
  refine lv_aload_n hx hb dX8_back_51 rfl (lv_at hl 3 rfl) ?_
  refine lv_aload_n hx hb dX8_back_52 rfl (lv_at hl 2 rfl) ?_
  refine va_get (D := D) (ci := (kc k)) (v := .int cu) (C := (kR k)) (T := TX5) (N := 8) hx hb htg (kc_in k) hown hK hP 5 rfl (kc_cl k) 6 (by decide) (htg _ tw_127) (fun _ h9 => h9) rfl dX8_back_53 ?_
  refine lv_aload_n hx hb dX8_back_56 rfl (lv_at hl 2 rfl) ?_
  refine hs_calli (wc := [(h, tlE k tr kd rt vl hr hw cu si), (tr, trE nb st), (nb, nbE cN st)]) (w1 := [(h, tlE k tr kd rt vl hr hw cu si), (tr, trE nb (lvs (dpN k) st)), (nb, nbE cN (lvs (dpN k) st))]) (wr := [(o, shE tr ta ac tc td cs hi), (ta, taE cT a), (ac, acE cJ acc)]) (ws2 := [(o, shE tr ta ac tc td cs hi), (ta, taE cT a), (ac, acE cJ acc), (tr, trE nb (lvs (dpN k) st)), (nb, nbE cN (lvs (dpN k) st)), (h, tlE k tr kd rt vl hr hw cu si)]) (V_deposit cN cT cJ h tr nb k hk kd rt vl hr hw cu si st hst  SF tw_373 hK (hP.sub (ws' := [(h, tlE k tr kd rt vl hr hw cu si), (tr, trE nb st), (nb, nbE cN st)]) [5, 3, 4] rfl) (hD.sub (ws' := [(h, tlE k tr kd rt vl hr hw cu si), (tr, trE nb st), (nb, nbE cN st)]) [5, 3, 4] (by decide) rfl) ⟨Nat.le_of_ble_eq_true rfl, Nat.le_of_ble_eq_true rfl⟩ hl.1 (Nat.le_of_ble_eq_true rfl) dX8_back_57 ⟨Nat.le_of_ble_eq_true rfl, Nat.le_of_ble_eq_true rfl⟩) hP hD hS hA [5, 3, 4] [0, 1, 2] [0, 1, 2, 4, 5, 3] rfl rfl (by decide) (by decide) rfl (by decide) (fun H locs hP hD hS => ?_)
  rw [lvs_off (dpN k) hop] at hP hD
  refine lv_iload hx hb dX8_back_60 (lv_at hl 0 rfl) ?_
  refine lv_isub hx hb dX8_back_62 ?_
  refine hs_callv (wc := [(o, shE tr ta ac tc td cs hi), (ac, acE cJ acc)]) (w1 := [(o, shE tr ta ac tc td cs hi), (ac, acE cJ (payF acc cu ((dpF k vl) - ((chF k rt vl (if 1 < (td - si) then (td - si) else 1)) + (pmF k vl hr (if 1 < (td - si) then (td - si) else 1))))))]) (wr := [(ta, taE cT a), (tr, trE nb st), (nb, nbE cN st), (h, tlE k tr kd rt vl hr hw cu si)]) (ws2 := [(o, shE tr ta ac tc td cs hi), (ta, taE cT a), (ac, acE cJ (payF acc cu ((dpF k vl) - ((chF k rt vl (if 1 < (td - si) then (td - si) else 1)) + (pmF k vl hr (if 1 < (td - si) then (td - si) else 1)))))), (tr, trE nb st), (nb, nbE cN st), (h, tlE k tr kd rt vl hr hw cu si)]) (hs_runV (q0 := 0) SF cal_X8_pay tw_447 (c_X8_pay l D cN cT cJ o ta ac tr nb tc td cs hi a acc st cu ((dpF k vl) - ((chF k rt vl (if 1 < (td - si) then (td - si) else 1)) + (pmF k vl hr (if 1 < (td - si) then (td - si) else 1))))) hK (hP.sub (ws' := [(o, shE tr ta ac tc td cs hi), (ac, acE cJ acc)]) [0, 2] rfl) (hD.sub (ws' := [(o, shE tr ta ac tc td cs hi), (ac, acE cJ acc)]) [0, 2] (by decide) rfl) rfl rfl ⟨Nat.le_of_ble_eq_true rfl, Nat.le_of_ble_eq_true rfl⟩ rfl hl.1 rfl (Nat.le_of_ble_eq_true rfl) dX8_back_63 ⟨Nat.le_of_ble_eq_true rfl, Nat.le_of_ble_eq_true rfl⟩) hP hD hS hA [0, 2] [1, 3, 4, 5] [4, 0, 5, 1, 2, 3] rfl rfl (by decide) (by decide) rfl (by decide) (fun H locs hP hD hS => ?_)
  refine lv_aload_n hx hb dX8_back_66 rfl (lv_at hl 2 rfl) ?_
  refine lv_iload_n hx hb dX8_back_67 rfl (lv_at hl 1 rfl) ?_
  refine hs_callv (wc := [(h, tlE k tr kd rt vl hr hw cu si), (tr, trE nb st), (nb, nbE cN st)]) (w1 := [(h, tlE k tr kd rt vl (hr + weF k hr (if 1 < (td - si) then (td - si) else 1)) (if ckF k (hr + weF k hr (if 1 < (td - si) then (td - si) else 1)) ≤ 9 then 0 else 2) (-1) (-1)), (tr, trE nb (lvs (cbN k) st)), (nb, nbE cN (lvs (cbN k) st))]) (wr := [(o, shE tr ta ac tc td cs hi), (ta, taE cT a), (ac, acE cJ (payF acc cu ((dpF k vl) - ((chF k rt vl (if 1 < (td - si) then (td - si) else 1)) + (pmF k vl hr (if 1 < (td - si) then (td - si) else 1))))))]) (ws2 := [(o, shE tr ta ac tc td cs hi), (ta, taE cT a), (ac, acE cJ (payF acc cu ((dpF k vl) - ((chF k rt vl (if 1 < (td - si) then (td - si) else 1)) + (pmF k vl hr (if 1 < (td - si) then (td - si) else 1)))))), (tr, trE nb (lvs (cbN k) st)), (nb, nbE cN (lvs (cbN k) st)), (h, tlE k tr kd rt vl (hr + weF k hr (if 1 < (td - si) then (td - si) else 1)) (if ckF k (hr + weF k hr (if 1 < (td - si) then (td - si) else 1)) ≤ 9 then 0 else 2) (-1) (-1))]) (V_comeBack cN cT cJ h tr nb k hk kd rt vl hr hw cu si st hst (if 1 < (td - si) then (td - si) else 1) SF tw_467 hK (hP.sub (ws' := [(h, tlE k tr kd rt vl hr hw cu si), (tr, trE nb st), (nb, nbE cN st)]) [5, 3, 4] rfl) (hD.sub (ws' := [(h, tlE k tr kd rt vl hr hw cu si), (tr, trE nb st), (nb, nbE cN st)]) [5, 3, 4] (by decide) rfl) ⟨Nat.le_of_ble_eq_true rfl, Nat.le_of_ble_eq_true rfl⟩ hl.1 (Nat.le_of_ble_eq_true rfl) dX8_back_68 ⟨Nat.le_of_ble_eq_true rfl, Nat.le_of_ble_eq_true rfl⟩) hP hD hS hA [5, 3, 4] [0, 1, 2] [0, 1, 2, 4, 5, 3] rfl rfl (by decide) (by decide) rfl (by decide) (fun H locs hP hD hS => ?_)
  rw [lvs_off (cbN k) hop] at hP hD
  refine lv_iload hx hb dX8_back_71 (lv_at hl 0 rfl) ?_
  exact hs_iret hx hb hrt hlocks hK hP hD hS dX8_back_73 (rfl) (rfl)

set_option maxHeartbeats 400000 in
set_option maxRecDepth 100000 in
theorem c_X8_service_no (l : Launch) (D : va_G) (cN cT cJ : ClassId) (o ta ac tr nb : Nat) (tc td cs hi : Int32) (a : Nat → Option Nat) (acc : Nat → Int64) (st : TS) (h k : Nat) (hk : k < 7) (kd rt vl hr hw cu si : Int32) (hst : okT st) (hop : st.2.1 = 0) (t : Int32) (hat : tAt a t = some h) (hno : hw = 1) : CM l D yX8_service cX8_service 4 (some .int) { frames := 1, cells := 0, slots := 0, locals := 21 } (tyS cN cT cJ) [.ref o, .int t] [(o, shE tr ta ac tc td cs hi), (ta, taE cT a), (ac, acE cJ acc), (tr, trE nb st), (nb, nbE cN st), (h, tlE k tr kd rt vl hr hw cu si)] (hs_QI D (tyS cN cT cJ) (-3) [(o, shE tr ta ac tc td cs hi), (ta, taE cT a), (ac, acE cJ acc), (tr, trE nb st), (nb, nbE cN st), (h, tlE k tr kd rt vl hr hw cu si)]) := by
  refine CM.of (by decide) (Nat.le_of_ble_eq_true rfl) ?_
  intro p e s m below meth c A ls hx hb hrt hml htg hown hlocks hnm hA hK hP hD hS hl
  have hown : s.vm.findClass RX8 = some m.cls := hown
  have hl : lv_has ls 4 [(0, .ref o), (1, .int t)] := hl
  have SF : CallFix p m c cX8_service 4 s _ hs_gt RX8 := ⟨hx, hb, hml, hown, htg⟩
  refine lv_aload_n hx hb dX8_service_0 rfl (lv_at hl 0 rfl) ?_
  refine lv_iload_n hx hb dX8_service_1 rfl (lv_at hl 1 rfl) ?_
  refine hs_callq (wc := [(o, shE tr ta ac tc td cs hi), (ta, taE cT a)]) (w1 := [(o, shE tr ta ac tc td cs hi), (ta, taE cT a)]) (wr := [(ac, acE cJ acc), (tr, trE nb st), (nb, nbE cN st), (h, tlE k tr kd rt vl hr hw cu si)]) (ws2 := [(o, shE tr ta ac tc td cs hi), (ta, taE cT a), (ac, acE cJ acc), (tr, trE nb st), (nb, nbE cN st), (h, tlE k tr kd rt vl hr hw cu si)]) (hs_runV (q0 := 0) SF cal_X8_toolAt tw_237 (c_X8_toolAt l D cN cT cJ o ta ac tr nb tc td cs hi a acc st t (some h) hat) hK (hP.sub (ws' := [(o, shE tr ta ac tc td cs hi), (ta, taE cT a)]) [0, 1] rfl) (hD.sub (ws' := [(o, shE tr ta ac tc td cs hi), (ta, taE cT a)]) [0, 1] (by decide) rfl) rfl rfl ⟨Nat.le_of_ble_eq_true rfl, Nat.le_of_ble_eq_true rfl⟩ rfl hl.1 rfl (Nat.le_of_ble_eq_true rfl) dX8_service_2 ⟨Nat.le_of_ble_eq_true rfl, Nat.le_of_ble_eq_true rfl⟩) hP hD hS hA [0, 1] [2, 3, 4, 5] [4, 5, 0, 1, 2, 3] rfl rfl (by decide) (by decide) rfl (by decide) (fun H locs hP hD hS => ?_)
  refine lv_astore_n (lv' := [(2, .ref h), (0, .ref o), (1, .int t)]) hx hb dX8_service_5 rfl hl (by decide) rfl (fun ls hl => ?_)
  refine lv_aload_n hx hb dX8_service_6 rfl (lv_at hl 0 rfl) ?_
  refine lv_ifnonnull (tgt := 13) hx hb dX8_service_7 (by decide) ?_
  refine lv_aload_n hx hb dX8_service_13 rfl (lv_at hl 0 rfl) ?_
  refine va_get (D := D) (ci := (kc k)) (v := .int hw) (C := (kR k)) (T := TX5) (N := 8) hx hb htg (kc_in k) hown hK hP 5 rfl (kc_cl k) 5 (by decide) (htg _ tw_125) (fun _ h9 => h9) rfl dX8_service_14 ?_
  refine lv_iconst (v := 1) hx hb dX8_service_17 (by decide) ?_
  refine lv_icmp_ne (tgt := 24) hx hb dX8_service_18 (by decide) (fun c18 => absurd c18 (fun q => q hno)) (fun c18 => ?_)
  refine lv_bipush (v := (-3)) hx hb dX8_service_21 (by decide) ?_
  exact hs_iret hx hb hrt hlocks hK hP hD hS dX8_service_23 (rfl) (rfl)

set_option maxHeartbeats 400000 in
set_option maxRecDepth 100000 in
theorem c_X8_service_ok (l : Launch) (D : va_G) (cN cT cJ : ClassId) (o ta ac tr nb : Nat) (tc td cs hi : Int32) (a : Nat → Option Nat) (acc : Nat → Int64) (st : TS) (h k : Nat) (hk : k < 7) (kd rt vl hr hw cu si : Int32) (hst : okT st) (hop : st.2.1 = 0) (t : Int32) (hat : tAt a t = some h) (hyes : ¬ hw = 1) : CM l D yX8_service cX8_service 4 (some .int) { frames := 4, cells := 0, slots := 0, locals := 81 } (tyS cN cT cJ) [.ref o, .int t] [(o, shE tr ta ac tc td cs hi), (ta, taE cT a), (ac, acE cJ acc), (tr, trE nb st), (nb, nbE cN st), (h, tlE k tr kd rt vl hr hw cu si)] (hs_QI D (tyS cN cT cJ) (100 + 50 * ckF k hr) [(o, shE tr ta ac tc td (cs + (100 + 50 * ckF k hr)) hi), (ta, taE cT a), (ac, acE cJ acc), (tr, trE nb st), (nb, nbE cN st), (h, tlE k tr kd rt vl 0 0 cu si)]) := by
  refine CM.of (by decide) (Nat.le_of_ble_eq_true rfl) ?_
  intro p e s m below meth c A ls hx hb hrt hml htg hown hlocks hnm hA hK hP hD hS hl
  have hown : s.vm.findClass RX8 = some m.cls := hown
  have hl : lv_has ls 4 [(0, .ref o), (1, .int t)] := hl
  have SF : CallFix p m c cX8_service 4 s _ hs_gt RX8 := ⟨hx, hb, hml, hown, htg⟩
  refine lv_aload_n hx hb dX8_service_0 rfl (lv_at hl 0 rfl) ?_
  refine lv_iload_n hx hb dX8_service_1 rfl (lv_at hl 1 rfl) ?_
  refine hs_callq (wc := [(o, shE tr ta ac tc td cs hi), (ta, taE cT a)]) (w1 := [(o, shE tr ta ac tc td cs hi), (ta, taE cT a)]) (wr := [(ac, acE cJ acc), (tr, trE nb st), (nb, nbE cN st), (h, tlE k tr kd rt vl hr hw cu si)]) (ws2 := [(o, shE tr ta ac tc td cs hi), (ta, taE cT a), (ac, acE cJ acc), (tr, trE nb st), (nb, nbE cN st), (h, tlE k tr kd rt vl hr hw cu si)]) (hs_runV (q0 := 0) SF cal_X8_toolAt tw_237 (c_X8_toolAt l D cN cT cJ o ta ac tr nb tc td cs hi a acc st t (some h) hat) hK (hP.sub (ws' := [(o, shE tr ta ac tc td cs hi), (ta, taE cT a)]) [0, 1] rfl) (hD.sub (ws' := [(o, shE tr ta ac tc td cs hi), (ta, taE cT a)]) [0, 1] (by decide) rfl) rfl rfl ⟨Nat.le_of_ble_eq_true rfl, Nat.le_of_ble_eq_true rfl⟩ rfl hl.1 rfl (Nat.le_of_ble_eq_true rfl) dX8_service_2 ⟨Nat.le_of_ble_eq_true rfl, Nat.le_of_ble_eq_true rfl⟩) hP hD hS hA [0, 1] [2, 3, 4, 5] [4, 5, 0, 1, 2, 3] rfl rfl (by decide) (by decide) rfl (by decide) (fun H locs hP hD hS => ?_)
  refine lv_astore_n (lv' := [(2, .ref h), (0, .ref o), (1, .int t)]) hx hb dX8_service_5 rfl hl (by decide) rfl (fun ls hl => ?_)
  refine lv_aload_n hx hb dX8_service_6 rfl (lv_at hl 0 rfl) ?_
  refine lv_ifnonnull (tgt := 13) hx hb dX8_service_7 (by decide) ?_
  refine lv_aload_n hx hb dX8_service_13 rfl (lv_at hl 0 rfl) ?_
  refine va_get (D := D) (ci := (kc k)) (v := .int hw) (C := (kR k)) (T := TX5) (N := 8) hx hb htg (kc_in k) hown hK hP 5 rfl (kc_cl k) 5 (by decide) (htg _ tw_125) (fun _ h9 => h9) rfl dX8_service_14 ?_
  refine lv_iconst (v := 1) hx hb dX8_service_17 (by decide) ?_
  refine lv_icmp_ne (tgt := 24) hx hb dX8_service_18 (by decide) (fun c18 => ?_) (fun c18 => absurd c18 (hyes))
  refine lv_bipush (v := 100) hx hb dX8_service_24 (by decide) ?_
  refine lv_bipush (v := 50) hx hb dX8_service_26 (by decide) ?_
  refine lv_aload_n hx hb dX8_service_28 rfl (lv_at hl 0 rfl) ?_
  refine hs_calli (wc := [(h, tlE k tr kd rt vl hr hw cu si), (tr, trE nb st), (nb, nbE cN st)]) (w1 := [(h, tlE k tr kd rt vl hr hw cu si), (tr, trE nb (lvs (ckN k) st)), (nb, nbE cN (lvs (ckN k) st))]) (wr := [(o, shE tr ta ac tc td cs hi), (ta, taE cT a), (ac, acE cJ acc)]) (ws2 := [(o, shE tr ta ac tc td cs hi), (ta, taE cT a), (ac, acE cJ acc), (tr, trE nb (lvs (ckN k) st)), (nb, nbE cN (lvs (ckN k) st)), (h, tlE k tr kd rt vl hr hw cu si)]) (V_check cN cT cJ h tr nb k hk kd rt vl hr hw cu si st hst  SF tw_348 hK (hP.sub (ws' := [(h, tlE k tr kd rt vl hr hw cu si), (tr, trE nb st), (nb, nbE cN st)]) [5, 3, 4] rfl) (hD.sub (ws' := [(h, tlE k tr kd rt vl hr hw cu si), (tr, trE nb st), (nb, nbE cN st)]) [5, 3, 4] (by decide) rfl) ⟨Nat.le_of_ble_eq_true rfl, Nat.le_of_ble_eq_true rfl⟩ hl.1 (Nat.le_of_ble_eq_true rfl) dX8_service_29 ⟨Nat.le_of_ble_eq_true rfl, Nat.le_of_ble_eq_true rfl⟩) hP hD hS hA [5, 3, 4] [0, 1, 2] [0, 1, 2, 4, 5, 3] rfl rfl (by decide) (by decide) rfl (by decide) (fun H locs hP hD hS => ?_)
  rw [lvs_off (ckN k) hop] at hP hD
  refine lv_imul hx hb dX8_service_32 ?_
  refine lv_iadd hx hb dX8_service_33 ?_
  refine lv_istore_n (lv' := [(3, .int (100 + (50 * (ckF k hr)))), (2, .ref h), (0, .ref o), (1, .int t)]) hx hb dX8_service_34 rfl hl (by decide) rfl (fun ls hl => ?_)
  refine lv_aload_n hx hb dX8_service_35 rfl (lv_at hl 1 rfl) ?_
  refine hs_callv (wc := [(h, tlE k tr kd rt vl hr hw cu si), (tr, trE nb st), (nb, nbE cN st)]) (w1 := [(h, tlE k tr kd rt vl 0 0 cu si), (tr, trE nb st), (nb, nbE cN st)]) (wr := [(o, shE tr ta ac tc td cs hi), (ta, taE cT a), (ac, acE cJ acc)]) (ws2 := [(o, shE tr ta ac tc td cs hi), (ta, taE cT a), (ac, acE cJ acc), (tr, trE nb st), (nb, nbE cN st), (h, tlE k tr kd rt vl 0 0 cu si)]) (V_renew cN cT cJ h tr nb k hk kd rt vl hr hw cu si st hst  SF tw_483 hK (hP.sub (ws' := [(h, tlE k tr kd rt vl hr hw cu si), (tr, trE nb st), (nb, nbE cN st)]) [5, 3, 4] rfl) (hD.sub (ws' := [(h, tlE k tr kd rt vl hr hw cu si), (tr, trE nb st), (nb, nbE cN st)]) [5, 3, 4] (by decide) rfl) ⟨Nat.le_of_ble_eq_true rfl, Nat.le_of_ble_eq_true rfl⟩ hl.1 (Nat.le_of_ble_eq_true rfl) dX8_service_36 ⟨Nat.le_of_ble_eq_true rfl, Nat.le_of_ble_eq_true rfl⟩) hP hD hS hA [5, 3, 4] [0, 1, 2] [0, 1, 2, 4, 5, 3] rfl rfl (by decide) (by decide) rfl (by decide) (fun H locs hP hD hS => ?_)
  refine lv_aload_n hx hb dX8_service_39 rfl (lv_at hl 2 rfl) ?_
  refine lv_dup hx hb dX8_service_40 rfl ?_
  refine va_get (D := D) (ci := 8) (v := .int cs) (C := RX8) (T := TX8) (N := 7) hx hb htg in_X8 hown hK hP 0 rfl rfl 5 (by decide) (htg _ tw_60) (fun _ h9 => h9) rfl dX8_service_41 ?_
  refine lv_iload_n hx hb dX8_service_44 rfl (lv_at hl 0 rfl) ?_
  refine lv_iadd hx hb dX8_service_45 ?_
  refine va_put (D := D) (ci := 8) (v := .int (cs + (100 + (50 * (ckF k hr))))) (ty := .int) (C := RX8) (T := TX8) (N := 7) hx hb htg in_X8 tyX8 tyX8_ok nmX8 hown hK hP hD hS 0 rfl rfl 5 (by decide) (htg _ tw_60) (fun _ h9 => h9) rfl (by decide +kernel) rfl rfl (Nat.le_of_ble_eq_true rfl) dX8_service_46 (fun H locs hP hD hS => ?_)
  have hP : va_P D hs_cl [(o, shE tr ta ac tc td (cs + (100 + (50 * (ckF k hr)))) hi), (ta, taE cT a), (ac, acE cJ acc), (tr, trE nb st), (nb, nbE cN st), (h, tlE k tr kd rt vl 0 0 cu si)] H := hP
  have hD : va_D A [(o, shE tr ta ac tc td (cs + (100 + (50 * (ckF k hr)))) hi), (ta, taE cT a), (ac, acE cJ acc), (tr, trE nb st), (nb, nbE cN st), (h, tlE k tr kd rt vl 0 0 cu si)] := hD
  refine lv_iload_n hx hb dX8_service_49 rfl (lv_at hl 0 rfl) ?_
  exact hs_iret hx hb hrt hlocks hK hP hD hS dX8_service_50 (rfl) (rfl)

theorem cal_X8_ask : hs_cV yX8_ask cX8_ask 6 (some .int) 3 := ⟨tw_236, tw_234, tw_235, tw_17, by decide +kernel⟩

theorem cal_X8_hire : hs_cV yX8_hire cX8_hire 5 (some .int) 2 := ⟨tw_443, tw_441, tw_442, tw_17, by decide +kernel⟩

theorem cal_X8_back : hs_cV yX8_back cX8_back 5 (some .int) 1 := ⟨tw_465, tw_463, tw_464, tw_17, by decide +kernel⟩

theorem cal_X8_service : hs_cV yX8_service cX8_service 4 (some .int) 1 := ⟨tw_482, tw_480, tw_481, tw_17, by decide +kernel⟩

theorem cal_X8_told : hs_cV yX8_told cX8_told 4 (some .int) 2 := ⟨tw_505, tw_503, tw_504, tw_17, by decide +kernel⟩
end
section
/-! the reference's trace, and what ties its numbers to the kinds -/
def bdT (n : Int32) (st : TS) : TS := if st.2.1 = 0 then st else (st.1 + 1, st.2.1, upd st.2.2 st.1.toNatClampNeg n)
def bds (ns : List Int32) (st : TS) : TS := ns.foldl (fun s n => bdT n s) st
def okM (n : Nat) (st : TS) : Prop := st.2.1 = 0 ∨ ∃ j : Nat, st.1 = nI j ∧ j + n ≤ 16
theorem okM_mono {n m : Nat} {st : TS} (h : okM n st) (hm : m ≤ n) : okM m st := by
  rcases h with h | ⟨j, e, hj⟩
  · exact Or.inl h
  · exact Or.inr ⟨j, e, by omega⟩
theorem okM_bd {n : Nat} (x : Int32) {st : TS} (h : okM (n + 1) st) : okM n (bdT x st) := by
  unfold bdT
  by_cases h1 : st.2.1 = 0
  · rw [if_pos h1]; exact Or.inl h1
  · rw [if_neg h1]
    rcases h with h | ⟨j, e, hj⟩
    · exact absurd h h1
    · exact Or.inr ⟨j + 1, by show st.1 + 1 = _; rw [e, nI_1], by omega⟩
theorem okM_bds : ∀ (ns : List Int32) {n : Nat} {st : TS}, okM (ns.length + n) st → okM n (bds ns st)
  | [], n, st, h => by
    have h' : okM (0 + n) st := h
    rw [Nat.zero_add] at h'
    exact h'
  | x :: ns, n, st, h => by
    have h' : okM (ns.length + n + 1) st := by
      have e : ns.length + n + 1 = (x :: ns).length + n := by simp only [List.length_cons]; omega
      rw [e]; exact h
    exact okM_bds ns (okM_bd x h')
theorem okM_in {st : TS} (h : okM 1 st) (h1 : ¬ st.2.1 = 0) : vp_in st.1 16 := by
  rcases h with h | ⟨j, e, hj⟩
  · exact absurd h h1
  · rw [e]; exact vp_in_nI (by omega) (by decide)
theorem bdT_off {n : Int32} {st : TS} (h : st.2.1 = 0) : bdT n st = st := by unfold bdT; rw [if_pos h]
theorem bds_off : ∀ (ns : List Int32) {st : TS}, st.2.1 = 0 → bds ns st = st
  | [], _, _ => rfl
  | n :: ns, st, h => by
    show bds ns (bdT n st) = st
    rw [bdT_off h]
    exact bds_off ns h
theorem nz_hasA (k : Nat) (w : Int32) : narrow .boolean (.int (hasA k w)) = .int (hasA k w) := by
  unfold hasA
  split
  · exact nz_hasD k
  · split
    · exact nz_isI k
    · split
      · exact nz_isS k
      · rfl
theorem daysF_ge {td si : Int32} (h : 1 ≤ td - si) : td - si = daysF td si := by
  unfold daysF
  by_cases h1 : 1 < td - si
  · rw [if_pos h1]
  · rw [if_neg h1]
    rw [Int32.lt_iff_toInt_lt] at h1
    rw [Int32.le_iff_toInt_le] at h
    exact Int32.toInt_inj.mp (by omega)
theorem daysF_lt {td si : Int32} (h : ¬ 1 ≤ td - si) : 1 = daysF td si := by
  unfold daysF
  have h1 : ¬ 1 < td - si := by
    rw [Int32.lt_iff_toInt_lt]
    rw [Int32.le_iff_toInt_le] at h
    omega
  rw [if_neg h1]
theorem pmF_0 {k : Nat} {vl hr d : Int32} (h : isI k = 0) : pmF k vl hr d = 0 := by
  match k, h with
  | 0, _ => rfl
  | 1, _ => rfl
  | 2, h => exact absurd h (by decide)
  | 3, h => exact absurd h (by decide)
  | 4, h => exact absurd h (by decide)
  | 5, _ => rfl
  | 6, _ => rfl
  | _ + 7, _ => rfl
theorem duF_0 {k : Nat} {hr d : Int32} (h : isS k = 0) : ¬ duF k hr d = 1 := by
  unfold duF
  rw [if_pos h]
  decide
/-- the two readings of 'each day beyond the 7th' -/
def dOk (d : Int32) : Prop := 0 < d - 7 ↔ ¬ d ≤ 7
theorem dOk_of {d : Int32} (h0 : 0 ≤ d.toInt) (h1 : d.toInt ≤ 1000000) : dOk d := by
  unfold dOk
  rw [Int32.lt_iff_toInt_lt, Int32.le_iff_toInt_le, Int32.toInt_sub]
  have e7 : (7 : Int32).toInt = 7 := by decide
  have e0 : (0 : Int32).toInt = 0 := by decide
  rw [e7, e0]
  have hb : (d.toInt - 7).bmod (2 ^ 32) = d.toInt - 7 := by
    rw [Int.bmod_eq_of_le] <;> omega
  rw [hb]
  omega
theorem wi_bounds {a b c : Int32} (h : ¬ wi a b c = 0) : b.toInt ≤ a.toInt ∧ a.toInt ≤ c.toInt := by
  unfold wi at h
  by_cases h1 : a < b
  · rw [if_pos h1] at h; exact absurd rfl h
  · rw [if_neg h1] at h
    by_cases h2 : c < a
    · rw [if_pos h2] at h; exact absurd rfl h
    · rw [Int32.lt_iff_toInt_lt] at h1 h2
      omega
theorem dOk_400 {d : Int32} (h : ¬ wi d 0 400 = 0) : dOk d := by
  obtain ⟨h0, h1⟩ := wi_bounds h
  have e4 : (400 : Int32).toInt = 400 := by decide
  have e0 : (0 : Int32).toInt = 0 := by decide
  rw [e0] at h0
  rw [e4] at h1
  exact dOk_of h0 (by omega)
theorem w_5 {w : Int32} (h : ¬ wi w 0 5 = 0) (h0 : ¬ w = 0) (h1 : ¬ w = 1) (h2 : ¬ w = 2) (h3 : ¬ w = 3) (h4 : ¬ w = 4) : w = 5 := by
  obtain ⟨b0, b1⟩ := wi_bounds h
  have e0 : (0 : Int32).toInt = 0 := by decide
  have e5 : (5 : Int32).toInt = 5 := by decide
  rw [e0] at b0
  rw [e5] at b1
  have n0 := lv_neT h0 (a := 0) (by decide)
  have n1 := lv_neT h1 (a := 1) (by decide)
  have n2 := lv_neT h2 (a := 2) (by decide)
  have n3 := lv_neT h3 (a := 3) (by decide)
  have n4 := lv_neT h4 (a := 4) (by decide)
  exact Int32.toInt_inj.mp (by rw [e5]; omega)
theorem hasA_3 {k : Nat} {w : Int32} (h : ¬ hasA k w = 0) (e : w = 3) : ¬ hasD k = 0 := by unfold hasA at h; rw [if_pos e] at h; exact h
theorem hasA_4 {k : Nat} {w : Int32} (h : ¬ hasA k w = 0) (e : w = 4) : ¬ isI k = 0 := by subst e; exact h
theorem hasA_5 {k : Nat} {w : Int32} (h : ¬ hasA k w = 0) (e : w = 5) : ¬ isS k = 0 := by subst e; exact h
/-- what ask leaves in the reference's trace -/
def askM (k : Nat) (w d : Int32) (st : TS) : TS := if wi w 0 5 = 0 then st else if wi d 0 400 = 0 then st else if hasA k w = 0 then (0, st.2.1, st.2.2) else ((bds (ansN k w) (0, 1, st.2.2)).1, 0, (bds (ansN k w) (0, 1, st.2.2)).2.2)
def nAtM (st : TS) (i : Int32) : Int32 := if wi i 0 (st.1 - 1) = 0 then -1 else st.2.2 i.toNatClampNeg
theorem okM_0 (f : Nat → Int32) : okM 6 (0, 1, f) := Or.inr ⟨0, nI_0.symm, by decide⟩
theorem trM_in {st : TS} {i : Int32} {j : Nat} (hj : j ≤ 16) (e : st.1 = nI j) (h : ¬ wi i 0 (st.1 - 1) = 0) : vp_in i 16 := by
  obtain ⟨b0, b1⟩ := wi_bounds h
  rw [vp_in_iff]
  have e0 : (0 : Int32).toInt = 0 := by decide
  have e1 : (1 : Int32).toInt = 1 := by decide
  rw [e0] at b0
  rw [e, Int32.toInt_sub, nI_toInt (by omega), e1] at b1
  have hb : ((j : Int) - 1).bmod (2 ^ 32) = (j : Int) - 1 := by
    rw [Int.bmod_eq_of_le] <;> omega
  rw [hb] at b1
  omega
end
section
set_option maxHeartbeats 400000 in
set_option maxRecDepth 100000 in
theorem c_X9_in (l : Launch) (D : va_G) (o : Nat) (ad : Nat → Nat) (cd : Nat → ClassId) (tn td cs hd : Int32) (kd rt vl hr hw cu si : Nat → Int32) (acc : Nat → Int64) (st : TS) (x y z : Int32) : CM l D yX9_in cX9_in 3 (some .boolean) { frames := 0, cells := 0, slots := 0, locals := 0 } (tyM cd) [.int x, .int y, .int z] (mW o ad cd tn td cs hd kd rt vl hr hw cu si acc st) (hs_QI D (tyM cd) (wi x y z) (mW o ad cd tn td cs hd kd rt vl hr hw cu si acc st)) := by
  refine CM.of (by decide) (Nat.le_of_ble_eq_true rfl) ?_
  intro p e s m below meth c A ls hx hb hrt hml htg hown hlocks hnm hA hK hP hD hS hl
  have hown : s.vm.findClass RX9 = some m.cls := hown
  have hl : lv_has ls 3 [(0, .int x), (1, .int y), (2, .int z)] := hl
  have SF : CallFix p m c cX9_in 3 s _ hs_gt RX9 := ⟨hx, hb, hml, hown, htg⟩
  refine lv_iload_n hx hb dX9_in_0 rfl (lv_at hl 0 rfl) ?_
  refine lv_iload_n hx hb dX9_in_1 rfl (lv_at hl 1 rfl) ?_
  refine lv_icmp_lt (tgt := 14) hx hb dX9_in_2 (by decide) (fun c2 => ?_) (fun c2 => ?_)
  · refine lv_iconst (v := 0) hx hb dX9_in_14 (by decide) ?_
    exact hs_zret hx hb hrt hlocks hK hP hD hS dX9_in_15 rfl (by unfold wi; first | rw [if_pos c2] | rw [if_neg c2, if_pos c7] | rw [if_neg c2, if_neg c7]) (rfl)
  · refine lv_iload_n hx hb dX9_in_5 rfl (lv_at hl 0 rfl) ?_
    refine lv_iload_n hx hb dX9_in_6 rfl (lv_at hl 2 rfl) ?_
    refine lv_icmp_gt (tgt := 14) hx hb dX9_in_7 (by decide) (fun c7 => ?_) (fun c7 => ?_)
    · refine lv_iconst (v := 0) hx hb dX9_in_14 (by decide) ?_
      exact hs_zret hx hb hrt hlocks hK hP hD hS dX9_in_15 rfl (by unfold wi; first | rw [if_pos c2] | rw [if_neg c2, if_pos c7] | rw [if_neg c2, if_neg c7]) (rfl)
    · refine lv_iconst (v := 1) hx hb dX9_in_10 (by decide) ?_
      refine lv_goto (tgt := 15) hx hb dX9_in_11 (by decide) ?_
      exact hs_zret hx hb hrt hlocks hK hP hD hS dX9_in_15 rfl (by unfold wi; first | rw [if_pos c2] | rw [if_neg c2, if_pos c7] | rw [if_neg c2, if_neg c7]) (rfl)

theorem cal_X9_in : hs_cS yX9_in cX9_in 3 (some .boolean) 3 := ⟨tw_572, tw_571, tw_19, by decide +kernel⟩

set_option maxHeartbeats 400000 in
set_option maxRecDepth 100000 in
theorem c_X9_isTool (l : Launch) (D : va_G) (o : Nat) (ad : Nat → Nat) (cd : Nat → ClassId) (tn td cs hd : Int32) (kd rt vl hr hw cu si : Nat → Int32) (acc : Nat → Int64) (st : TS) (t : Int32) : CM l D yX9_isTool cX9_isTool 2 (some .boolean) { frames := 1, cells := 0, slots := 0, locals := 22 } (tyM cd) [.ref o, .int t] (mW o ad cd tn td cs hd kd rt vl hr hw cu si acc st) (hs_QI D (tyM cd) (wi t 0 (tn - 1)) (mW o ad cd tn td cs hd kd rt vl hr hw cu si acc st)) := by
  refine CM.of (by decide) (Nat.le_of_ble_eq_true rfl) ?_
  intro p e s m below meth c A ls hx hb hrt hml htg hown hlocks hnm hA hK hP hD hS hl
  have hown : s.vm.findClass RX9 = some m.cls := hown
  have hl : lv_has ls 2 [(0, .ref o), (1, .int t)] := hl
  have SF : CallFix p m c cX9_isTool 2 s _ hs_gt RX9 := ⟨hx, hb, hml, hown, htg⟩
  refine lv_iload_n hx hb dX9_isTool_0 rfl (lv_at hl 1 rfl) ?_
  refine lv_iconst (v := 0) hx hb dX9_isTool_1 (by decide) ?_
  refine lv_aload_n hx hb dX9_isTool_2 rfl (lv_at hl 0 rfl) ?_
  refine va_get (D := D) (ci := 9) (v := .int tn) (C := RX9) (T := TX9) (N := 15) hx hb htg in_X9 hown hK hP 0 rfl rfl 0 (by decide) (htg _ tw_520) (fun _ h9 => h9) rfl dX9_isTool_3 ?_
  refine lv_iconst (v := 1) hx hb dX9_isTool_6 (by decide) ?_
  refine lv_isub hx hb dX9_isTool_7 ?_
  refine hs_calli0 (w1 := (mW o ad cd tn td cs hd kd rt vl hr hw cu si acc st)) (hs_runS SF cal_X9_in tw_570 (c_X9_in l D o ad cd tn td cs hd kd rt vl hr hw cu si acc st t 0 (tn - 1)) hK hP hD ⟨Nat.le_of_ble_eq_true rfl, Nat.le_of_ble_eq_true rfl⟩ rfl hl.1 rfl (Nat.le_of_ble_eq_true rfl) dX9_isTool_8 ⟨Nat.le_of_ble_eq_true rfl, Nat.le_of_ble_eq_true rfl⟩) hD hS hA (fun H locs hP hD hS => ?_)
  exact hs_zret hx hb hrt hlocks hK hP hD hS dX9_isTool_11 (nz_wi _ _ _) (rfl) (rfl)

theorem cal_X9_isTool : hs_cV yX9_isTool cX9_isTool 2 (some .boolean) 1 := ⟨tw_581, tw_580, tw_4, tw_19, by decide +kernel⟩

set_option maxHeartbeats 400000 in
set_option maxRecDepth 100000 in
theorem c_X9_body (l : Launch) (D : va_G) (o : Nat) (ad : Nat → Nat) (cd : Nat → ClassId) (tn td cs hd : Int32) (kd rt vl hr hw cu si : Nat → Int32) (acc : Nat → Int64) (st : TS) (hok : okM 1 st) (n : Int32) : CM l D yX9_body cX9_body 2 none { frames := 0, cells := 0, slots := 0, locals := 0 } (tyM cd) [.ref o, .int n] (mW o ad cd tn td cs hd kd rt vl hr hw cu si acc st) (hs_QV D (tyM cd) (mW o ad cd tn td cs hd kd rt vl hr hw cu si acc (bdT n st))) := by
  refine CM.of (by decide) (Nat.le_of_ble_eq_true rfl) ?_
  intro p e s m below meth c A ls hx hb hrt hml htg hown hlocks hnm hA hK hP hD hS hl
  have hown : s.vm.findClass RX9 = some m.cls := hown
  have hl : lv_has ls 2 [(0, .ref o), (1, .int n)] := hl
  have SF : CallFix p m c cX9_body 2 s _ hs_gt RX9 := ⟨hx, hb, hml, hown, htg⟩
  refine lv_aload_n hx hb dX9_body_0 rfl (lv_at hl 0 rfl) ?_
  refine va_get (D := D) (ci := 9) (v := .int st.2.1) (C := RX9) (T := TX9) (N := 15) hx hb htg in_X9 hown hK hP 0 rfl rfl 14 (by decide) (htg _ tw_534) (fun _ h9 => h9) rfl dX9_body_1 ?_
  refine lv_if_eq (tgt := 27) hx hb dX9_body_4 (by decide) (fun c4 => ?_) (fun c4 => ?_)
  · exact hs_vret hx hb hrt hlocks hK hP hD hS dX9_body_27 (by unfold bdT; first | rw [if_pos c4] | rw [if_neg c4])
  · refine lv_aload_n hx hb dX9_body_7 rfl (lv_at hl 0 rfl) ?_
    refine va_get (D := D) (ci := 9) (v := .ref (ad 9)) (C := RX9) (T := TX9) (N := 15) hx hb htg in_X9 hown hK hP 0 rfl rfl 12 (by decide) (htg _ tw_532) (fun _ h9 => h9) rfl dX9_body_8 ?_
    refine lv_aload_n hx hb dX9_body_11 rfl (lv_at hl 0 rfl) ?_
    refine va_get (D := D) (ci := 9) (v := .int st.1) (C := RX9) (T := TX9) (N := 15) hx hb htg in_X9 hown hK hP 0 rfl rfl 13 (by decide) (htg _ tw_533) (fun _ h9 => h9) rfl dX9_body_12 ?_
    refine lv_iload_n hx hb dX9_body_15 rfl (lv_at hl 1 rfl) ?_
    refine va_iast hx hb hK hP hD hS 9 8 rfl rfl (okM_in hok c4) dX9_body_16 (fun H locs hP hD hS => ?_)
    have hP : va_P D hs_cl (mW o ad cd tn td cs hd kd rt vl hr hw cu si acc (st.1, st.2.1, (upd st.2.2 st.1.toNatClampNeg n))) H := hP
    have hD : va_D A (mW o ad cd tn td cs hd kd rt vl hr hw cu si acc (st.1, st.2.1, (upd st.2.2 st.1.toNatClampNeg n))) := hD
    refine lv_aload_n hx hb dX9_body_17 rfl (lv_at hl 0 rfl) ?_
    refine lv_dup hx hb dX9_body_18 rfl ?_
    refine va_get (D := D) (ci := 9) (v := .int st.1) (C := RX9) (T := TX9) (N := 15) hx hb htg in_X9 hown hK hP 0 rfl rfl 13 (by decide) (htg _ tw_533) (fun _ h9 => h9) rfl dX9_body_19 ?_
    refine lv_iconst (v := 1) hx hb dX9_body_22 (by decide) ?_
    refine lv_iadd hx hb dX9_body_23 ?_
    refine va_put (D := D) (ci := 9) (v := .int (st.1 + 1)) (ty := .int) (C := RX9) (T := TX9) (N := 15) hx hb htg in_X9 tyX9 tyX9_ok nmX9 hown hK hP hD hS 0 rfl rfl 13 (by decide) (htg _ tw_533) (fun _ h9 => h9) rfl (by decide +kernel) rfl rfl (Nat.le_of_ble_eq_true rfl) dX9_body_24 (fun H locs hP hD hS => ?_)
    have hP : va_P D hs_cl (mW o ad cd tn td cs hd kd rt vl hr hw cu si acc ((st.1 + 1), st.2.1, (upd st.2.2 st.1.toNatClampNeg n))) H := hP
    have hD : va_D A (mW o ad cd tn td cs hd kd rt vl hr hw cu si acc ((st.1 + 1), st.2.1, (upd st.2.2 st.1.toNatClampNeg n))) := hD
    exact hs_vret hx hb hrt hlocks hK hP hD hS dX9_body_27 (by unfold bdT; first | rw [if_pos c4] | rw [if_neg c4])

theorem cal_X9_body : hs_cV yX9_body cX9_body 2 none 1 := ⟨tw_601, tw_600, tw_9, tw_19, by decide +kernel⟩

set_option maxHeartbeats 400000 in
set_option maxRecDepth 100000 in
theorem c_X9_charge_0 (l : Launch) (D : va_G) (o : Nat) (ad : Nat → Nat) (cd : Nat → ClassId) (tn td cs hd : Int32) (kd rt vl hr hw cu si : Nat → Int32) (acc : Nat → Int64) (st : TS) (t : Int32) (ht : vp_in t 24) (hkd : kd t.toNatClampNeg = nI 0) (hok : okM 3 st) (d : Int32) (hdk : dOk d) : CM l D yX9_charge cX9_charge 6 (some .int) { frames := 1, cells := 0, slots := 0, locals := 22 } (tyM cd) [.ref o, .int t, .int d] (mW o ad cd tn td cs hd kd rt vl hr hw cu si acc st) (hs_QI D (tyM cd) (chF 0 (rt t.toNatClampNeg) (vl t.toNatClampNeg) d) (mW o ad cd tn td cs hd kd rt vl hr hw cu si acc (bds (chN 0) st))) := by
  refine CM.of (by decide) (Nat.le_of_ble_eq_true rfl) ?_
  intro p e s m below meth c A ls hx hb hrt hml htg hown hlocks hnm hA hK hP hD hS hl
  have hown : s.vm.findClass RX9 = some m.cls := hown
  have hl : lv_has ls 6 [(0, .ref o), (1, .int t), (2, .int d)] := hl
  have SF : CallFix p m c cX9_charge 6 s _ hs_gt RX9 := ⟨hx, hb, hml, hown, htg⟩
  have hkd : kd t.toNatClampNeg = 0 := hkd
  refine lv_aload_n hx hb dX9_charge_0 rfl (lv_at hl 0 rfl) ?_
  refine va_get (D := D) (ci := 9) (v := .ref (ad 1)) (C := RX9) (T := TX9) (N := 15) hx hb htg in_X9 hown hK hP 0 rfl rfl 1 (by decide) (htg _ tw_521) (fun _ h9 => h9) rfl dX9_charge_1 ?_
  refine lv_iload_n hx hb dX9_charge_4 rfl (lv_at hl 1 rfl) ?_
  refine va_iald hx hb hK hP 1 0 rfl rfl (ht) dX9_charge_5 ?_
  rw [hkd]
  refine lv_istore_n (lv' := [(3, .int 0), (0, .ref o), (1, .int t), (2, .int d)]) hx hb dX9_charge_6 rfl hl (by decide) rfl (fun ls hl => ?_)
  refine lv_aload_n hx hb dX9_charge_7 rfl (lv_at hl 1 rfl) ?_
  refine va_get (D := D) (ci := 9) (v := .ref (ad 2)) (C := RX9) (T := TX9) (N := 15) hx hb htg in_X9 hown hK hP 0 rfl rfl 2 (by decide) (htg _ tw_522) (fun _ h9 => h9) rfl dX9_charge_8 ?_
  refine lv_iload_n hx hb dX9_charge_11 rfl (lv_at hl 2 rfl) ?_
  refine va_iald hx hb hK hP 2 1 rfl rfl (ht) dX9_charge_12 ?_
  refine lv_iload_n hx hb dX9_charge_13 rfl (lv_at hl 3 rfl) ?_
  refine lv_imul hx hb dX9_charge_14 ?_
  refine lv_istore (lv' := [(4, .int ((rt t.toNatClampNeg) * d)), (3, .int 0), (0, .ref o), (1, .int t), (2, .int d)]) hx hb dX9_charge_15 hl (by decide) rfl (fun ls hl => ?_)
  refine lv_iload_n hx hb dX9_charge_17 rfl (lv_at hl 1 rfl) ?_
  refine lv_iconst (v := 4) hx hb dX9_charge_18 (by decide) ?_
  refine lv_icmp_ne (tgt := 27) hx hb dX9_charge_19 (by decide) (fun c19 => ?_) (fun c19 => absurd c19 ((by decide)))
  refine lv_iload_n hx hb dX9_charge_27 rfl (lv_at hl 1 rfl) ?_
  refine lv_iconst (v := 2) hx hb dX9_charge_28 (by decide) ?_
  refine lv_iconst (v := 4) hx hb dX9_charge_29 (by decide) ?_
  refine hs_calli0 (w1 := (mW o ad cd tn td cs hd kd rt vl hr hw cu si acc st)) (hs_runS SF cal_X9_in tw_570 (c_X9_in l D o ad cd tn td cs hd kd rt vl hr hw cu si acc st 0 2 4) hK hP hD ⟨Nat.le_of_ble_eq_true rfl, Nat.le_of_ble_eq_true rfl⟩ rfl hl.1 rfl (Nat.le_of_ble_eq_true rfl) dX9_charge_30 ⟨Nat.le_of_ble_eq_true rfl, Nat.le_of_ble_eq_true rfl⟩) hD hS hA (fun H locs hP hD hS => ?_)
  refine lv_if_eq (tgt := 41) hx hb dX9_charge_33 (by decide) (fun c33 => ?_) (fun c33 => absurd c33 ((by decide)))
  refine lv_iload_n hx hb dX9_charge_41 rfl (lv_at hl 1 rfl) ?_
  refine lv_bipush (v := 6) hx hb dX9_charge_42 (by decide) ?_
  refine lv_icmp_ne (tgt := 52) hx hb dX9_charge_44 (by decide) (fun c44 => ?_) (fun c44 => absurd c44 ((by decide)))
  refine lv_aload_n hx hb dX9_charge_52 rfl (lv_at hl 2 rfl) ?_
  refine lv_iconst (v := 1) hx hb dX9_charge_53 (by decide) ?_
  refine hs_callv0 (w1 := (mW o ad cd tn td cs hd kd rt vl hr hw cu si acc (bdT 1 st))) (hs_runV (q0 := 0) SF cal_X9_body tw_598 (c_X9_body l D o ad cd tn td cs hd kd rt vl hr hw cu si acc st (okM_mono hok (by decide)) 1) hK hP hD rfl rfl ⟨Nat.le_of_ble_eq_true rfl, Nat.le_of_ble_eq_true rfl⟩ rfl hl.1 rfl (Nat.le_of_ble_eq_true rfl) dX9_charge_54 ⟨Nat.le_of_ble_eq_true rfl, Nat.le_of_ble_eq_true rfl⟩) hD hS hA (fun H locs hP hD hS => ?_)
  refine lv_iload_n hx hb dX9_charge_57 rfl (lv_at hl 4 rfl) ?_
  refine lv_bipush (v := 7) hx hb dX9_charge_58 (by decide) ?_
  refine lv_icmp_le (tgt := 70) hx hb dX9_charge_60 (by decide) (fun c60 => ?_) (fun c60 => ?_)
  · refine lv_iconst (v := 0) hx hb dX9_charge_70 (by decide) ?_
    refine lv_istore (lv' := [(5, .int 0), (4, .int ((rt t.toNatClampNeg) * d)), (3, .int 0), (0, .ref o), (1, .int t), (2, .int d)]) hx hb dX9_charge_71 hl (by decide) rfl (fun ls hl => ?_)
    refine lv_iload_n hx hb dX9_charge_73 rfl (lv_at hl 2 rfl) ?_
    refine lv_bipush (v := 6) hx hb dX9_charge_74 (by decide) ?_
    refine lv_icmp_ne (tgt := 94) hx hb dX9_charge_76 (by decide) (fun c76 => ?_) (fun c76 => absurd c76 ((by decide)))
    refine lv_iload_n hx hb dX9_charge_94 rfl (lv_at hl 2 rfl) ?_
    refine lv_iconst (v := 4) hx hb dX9_charge_95 (by decide) ?_
    refine lv_icmp_ne (tgt := 115) hx hb dX9_charge_96 (by decide) (fun c96 => ?_) (fun c96 => absurd c96 ((by decide)))
    refine lv_iload_n hx hb dX9_charge_115 rfl (lv_at hl 2 rfl) ?_
    refine lv_iconst (v := 2) hx hb dX9_charge_116 (by decide) ?_
    refine lv_iconst (v := 3) hx hb dX9_charge_117 (by decide) ?_
    refine hs_calli0 (w1 := (mW o ad cd tn td cs hd kd rt vl hr hw cu si acc (bdT 1 st))) (hs_runS SF cal_X9_in tw_570 (c_X9_in l D o ad cd tn td cs hd kd rt vl hr hw cu si acc (bdT 1 st) 0 2 3) hK hP hD ⟨Nat.le_of_ble_eq_true rfl, Nat.le_of_ble_eq_true rfl⟩ rfl hl.1 rfl (Nat.le_of_ble_eq_true rfl) dX9_charge_118 ⟨Nat.le_of_ble_eq_true rfl, Nat.le_of_ble_eq_true rfl⟩) hD hS hA (fun H locs hP hD hS => ?_)
    refine lv_if_eq (tgt := 133) hx hb dX9_charge_121 (by decide) (fun c121 => ?_) (fun c121 => absurd c121 ((by decide)))
    refine lv_iload hx hb dX9_charge_133 (lv_at hl 1 rfl) ?_
    exact hs_iret hx hb hrt hlocks hK hP hD hS dX9_charge_135 (by first | rfl | (unfold chF; first | (rw [if_neg (fun q => (hdk.mp q) c60)]; rfl) | (rw [if_pos (hdk.mpr c60)]; rfl))) (by first | (simp only [bds, chN, List.foldl_cons, List.foldl_nil]; done) | rfl)
  · refine lv_iload_n hx hb dX9_charge_63 rfl (lv_at hl 4 rfl) ?_
    refine lv_bipush (v := 7) hx hb dX9_charge_64 (by decide) ?_
    refine lv_isub hx hb dX9_charge_66 ?_
    refine lv_goto (tgt := 71) hx hb dX9_charge_67 (by decide) ?_
    refine lv_istore (lv' := [(5, .int (d - 7)), (4, .int ((rt t.toNatClampNeg) * d)), (3, .int 0), (0, .ref o), (1, .int t), (2, .int d)]) hx hb dX9_charge_71 hl (by decide) rfl (fun ls hl => ?_)
    refine lv_iload_n hx hb dX9_charge_73 rfl (lv_at hl 2 rfl) ?_
    refine lv_bipush (v := 6) hx hb dX9_charge_74 (by decide) ?_
    refine lv_icmp_ne (tgt := 94) hx hb dX9_charge_76 (by decide) (fun c76 => ?_) (fun c76 => absurd c76 ((by decide)))
    refine lv_iload_n hx hb dX9_charge_94 rfl (lv_at hl 2 rfl) ?_
    refine lv_iconst (v := 4) hx hb dX9_charge_95 (by decide) ?_
    refine lv_icmp_ne (tgt := 115) hx hb dX9_charge_96 (by decide) (fun c96 => ?_) (fun c96 => absurd c96 ((by decide)))
    refine lv_iload_n hx hb dX9_charge_115 rfl (lv_at hl 2 rfl) ?_
    refine lv_iconst (v := 2) hx hb dX9_charge_116 (by decide) ?_
    refine lv_iconst (v := 3) hx hb dX9_charge_117 (by decide) ?_
    refine hs_calli0 (w1 := (mW o ad cd tn td cs hd kd rt vl hr hw cu si acc (bdT 1 st))) (hs_runS SF cal_X9_in tw_570 (c_X9_in l D o ad cd tn td cs hd kd rt vl hr hw cu si acc (bdT 1 st) 0 2 3) hK hP hD ⟨Nat.le_of_ble_eq_true rfl, Nat.le_of_ble_eq_true rfl⟩ rfl hl.1 rfl (Nat.le_of_ble_eq_true rfl) dX9_charge_118 ⟨Nat.le_of_ble_eq_true rfl, Nat.le_of_ble_eq_true rfl⟩) hD hS hA (fun H locs hP hD hS => ?_)
    refine lv_if_eq (tgt := 133) hx hb dX9_charge_121 (by decide) (fun c121 => ?_) (fun c121 => absurd c121 ((by decide)))
    refine lv_iload hx hb dX9_charge_133 (lv_at hl 1 rfl) ?_
    exact hs_iret hx hb hrt hlocks hK hP hD hS dX9_charge_135 (by first | rfl | (unfold chF; first | (rw [if_neg (fun q => (hdk.mp q) c60)]; rfl) | (rw [if_pos (hdk.mpr c60)]; rfl))) (by first | (simp only [bds, chN, List.foldl_cons, List.foldl_nil]; done) | rfl)

set_option maxHeartbeats 400000 in
set_option maxRecDepth 100000 in
theorem c_X9_charge_1 (l : Launch) (D : va_G) (o : Nat) (ad : Nat → Nat) (cd : Nat → ClassId) (tn td cs hd : Int32) (kd rt vl hr hw cu si : Nat → Int32) (acc : Nat → Int64) (st : TS) (t : Int32) (ht : vp_in t 24) (hkd : kd t.toNatClampNeg = nI 1) (hok : okM 3 st) (d : Int32) (hdk : dOk d) : CM l D yX9_charge cX9_charge 6 (some .int) { frames := 1, cells := 0, slots := 0, locals := 22 } (tyM cd) [.ref o, .int t, .int d] (mW o ad cd tn td cs hd kd rt vl hr hw cu si acc st) (hs_QI D (tyM cd) (chF 1 (rt t.toNatClampNeg) (vl t.toNatClampNeg) d) (mW o ad cd tn td cs hd kd rt vl hr hw cu si acc (bds (chN 1) st))) := by
  refine CM.of (by decide) (Nat.le_of_ble_eq_true rfl) ?_
  intro p e s m below meth c A ls hx hb hrt hml htg hown hlocks hnm hA hK hP hD hS hl
  have hown : s.vm.findClass RX9 = some m.cls := hown
  have hl : lv_has ls 6 [(0, .ref o), (1, .int t), (2, .int d)] := hl
  have SF : CallFix p m c cX9_charge 6 s _ hs_gt RX9 := ⟨hx, hb, hml, hown, htg⟩
  have hkd : kd t.toNatClampNeg = 1 := hkd
  refine lv_aload_n hx hb dX9_charge_0 rfl (lv_at hl 0 rfl) ?_
  refine va_get (D := D) (ci := 9) (v := .ref (ad 1)) (C := RX9) (T := TX9) (N := 15) hx hb htg in_X9 hown hK hP 0 rfl rfl 1 (by decide) (htg _ tw_521) (fun _ h9 => h9) rfl dX9_charge_1 ?_
  refine lv_iload_n hx hb dX9_charge_4 rfl (lv_at hl 1 rfl) ?_
  refine va_iald hx hb hK hP 1 0 rfl rfl (ht) dX9_charge_5 ?_
  rw [hkd]
  refine lv_istore_n (lv' := [(3, .int 1), (0, .ref o), (1, .int t), (2, .int d)]) hx hb dX9_charge_6 rfl hl (by decide) rfl (fun ls hl => ?_)
  refine lv_aload_n hx hb dX9_charge_7 rfl (lv_at hl 1 rfl) ?_
  refine va_get (D := D) (ci := 9) (v := .ref (ad 2)) (C := RX9) (T := TX9) (N := 15) hx hb htg in_X9 hown hK hP 0 rfl rfl 2 (by decide) (htg _ tw_522) (fun _ h9 => h9) rfl dX9_charge_8 ?_
  refine lv_iload_n hx hb dX9_charge_11 rfl (lv_at hl 2 rfl) ?_
  refine va_iald hx hb hK hP 2 1 rfl rfl (ht) dX9_charge_12 ?_
  refine lv_iload_n hx hb dX9_charge_13 rfl (lv_at hl 3 rfl) ?_
  refine lv_imul hx hb dX9_charge_14 ?_
  refine lv_istore (lv' := [(4, .int ((rt t.toNatClampNeg) * d)), (3, .int 1), (0, .ref o), (1, .int t), (2, .int d)]) hx hb dX9_charge_15 hl (by decide) rfl (fun ls hl => ?_)
  refine lv_iload_n hx hb dX9_charge_17 rfl (lv_at hl 1 rfl) ?_
  refine lv_iconst (v := 4) hx hb dX9_charge_18 (by decide) ?_
  refine lv_icmp_ne (tgt := 27) hx hb dX9_charge_19 (by decide) (fun c19 => ?_) (fun c19 => absurd c19 ((by decide)))
  refine lv_iload_n hx hb dX9_charge_27 rfl (lv_at hl 1 rfl) ?_
  refine lv_iconst (v := 2) hx hb dX9_charge_28 (by decide) ?_
  refine lv_iconst (v := 4) hx hb dX9_charge_29 (by decide) ?_
  refine hs_calli0 (w1 := (mW o ad cd tn td cs hd kd rt vl hr hw cu si acc st)) (hs_runS SF cal_X9_in tw_570 (c_X9_in l D o ad cd tn td cs hd kd rt vl hr hw cu si acc st 1 2 4) hK hP hD ⟨Nat.le_of_ble_eq_true rfl, Nat.le_of_ble_eq_true rfl⟩ rfl hl.1 rfl (Nat.le_of_ble_eq_true rfl) dX9_charge_30 ⟨Nat.le_of_ble_eq_true rfl, Nat.le_of_ble_eq_true rfl⟩) hD hS hA (fun H locs hP hD hS => ?_)
  refine lv_if_eq (tgt := 41) hx hb dX9_charge_33 (by decide) (fun c33 => ?_) (fun c33 => absurd c33 ((by decide)))
  refine lv_iload_n hx hb dX9_charge_41 rfl (lv_at hl 1 rfl) ?_
  refine lv_bipush (v := 6) hx hb dX9_charge_42 (by decide) ?_
  refine lv_icmp_ne (tgt := 52) hx hb dX9_charge_44 (by decide) (fun c44 => ?_) (fun c44 => absurd c44 ((by decide)))
  refine lv_aload_n hx hb dX9_charge_52 rfl (lv_at hl 2 rfl) ?_
  refine lv_iconst (v := 1) hx hb dX9_charge_53 (by decide) ?_
  refine hs_callv0 (w1 := (mW o ad cd tn td cs hd kd rt vl hr hw cu si acc (bdT 1 st))) (hs_runV (q0 := 0) SF cal_X9_body tw_598 (c_X9_body l D o ad cd tn td cs hd kd rt vl hr hw cu si acc st (okM_mono hok (by decide)) 1) hK hP hD rfl rfl ⟨Nat.le_of_ble_eq_true rfl, Nat.le_of_ble_eq_true rfl⟩ rfl hl.1 rfl (Nat.le_of_ble_eq_true rfl) dX9_charge_54 ⟨Nat.le_of_ble_eq_true rfl, Nat.le_of_ble_eq_true rfl⟩) hD hS hA (fun H locs hP hD hS => ?_)
  refine lv_iload_n hx hb dX9_charge_57 rfl (lv_at hl 4 rfl) ?_
  refine lv_bipush (v := 7) hx hb dX9_charge_58 (by decide) ?_
  refine lv_icmp_le (tgt := 70) hx hb dX9_charge_60 (by decide) (fun c60 => ?_) (fun c60 => ?_)
  · refine lv_iconst (v := 0) hx hb dX9_charge_70 (by decide) ?_
    refine lv_istore (lv' := [(5, .int 0), (4, .int ((rt t.toNatClampNeg) * d)), (3, .int 1), (0, .ref o), (1, .int t), (2, .int d)]) hx hb dX9_charge_71 hl (by decide) rfl (fun ls hl => ?_)
    refine lv_iload_n hx hb dX9_charge_73 rfl (lv_at hl 2 rfl) ?_
    refine lv_bipush (v := 6) hx hb dX9_charge_74 (by decide) ?_
    refine lv_icmp_ne (tgt := 94) hx hb dX9_charge_76 (by decide) (fun c76 => ?_) (fun c76 => absurd c76 ((by decide)))
    refine lv_iload_n hx hb dX9_charge_94 rfl (lv_at hl 2 rfl) ?_
    refine lv_iconst (v := 4) hx hb dX9_charge_95 (by decide) ?_
    refine lv_icmp_ne (tgt := 115) hx hb dX9_charge_96 (by decide) (fun c96 => ?_) (fun c96 => absurd c96 ((by decide)))
    refine lv_iload_n hx hb dX9_charge_115 rfl (lv_at hl 2 rfl) ?_
    refine lv_iconst (v := 2) hx hb dX9_charge_116 (by decide) ?_
    refine lv_iconst (v := 3) hx hb dX9_charge_117 (by decide) ?_
    refine hs_calli0 (w1 := (mW o ad cd tn td cs hd kd rt vl hr hw cu si acc (bdT 1 st))) (hs_runS SF cal_X9_in tw_570 (c_X9_in l D o ad cd tn td cs hd kd rt vl hr hw cu si acc (bdT 1 st) 1 2 3) hK hP hD ⟨Nat.le_of_ble_eq_true rfl, Nat.le_of_ble_eq_true rfl⟩ rfl hl.1 rfl (Nat.le_of_ble_eq_true rfl) dX9_charge_118 ⟨Nat.le_of_ble_eq_true rfl, Nat.le_of_ble_eq_true rfl⟩) hD hS hA (fun H locs hP hD hS => ?_)
    refine lv_if_eq (tgt := 133) hx hb dX9_charge_121 (by decide) (fun c121 => ?_) (fun c121 => absurd c121 ((by decide)))
    refine lv_iload hx hb dX9_charge_133 (lv_at hl 1 rfl) ?_
    exact hs_iret hx hb hrt hlocks hK hP hD hS dX9_charge_135 (by first | rfl | (unfold chF; first | (rw [if_neg (fun q => (hdk.mp q) c60)]; rfl) | (rw [if_pos (hdk.mpr c60)]; rfl))) (by first | (simp only [bds, chN, List.foldl_cons, List.foldl_nil]; done) | rfl)
  · refine lv_iload_n hx hb dX9_charge_63 rfl (lv_at hl 4 rfl) ?_
    refine lv_bipush (v := 7) hx hb dX9_charge_64 (by decide) ?_
    refine lv_isub hx hb dX9_charge_66 ?_
    refine lv_goto (tgt := 71) hx hb dX9_charge_67 (by decide) ?_
    refine lv_istore (lv' := [(5, .int (d - 7)), (4, .int ((rt t.toNatClampNeg) * d)), (3, .int 1), (0, .ref o), (1, .int t), (2, .int d)]) hx hb dX9_charge_71 hl (by decide) rfl (fun ls hl => ?_)
    refine lv_iload_n hx hb dX9_charge_73 rfl (lv_at hl 2 rfl) ?_
    refine lv_bipush (v := 6) hx hb dX9_charge_74 (by decide) ?_
    refine lv_icmp_ne (tgt := 94) hx hb dX9_charge_76 (by decide) (fun c76 => ?_) (fun c76 => absurd c76 ((by decide)))
    refine lv_iload_n hx hb dX9_charge_94 rfl (lv_at hl 2 rfl) ?_
    refine lv_iconst (v := 4) hx hb dX9_charge_95 (by decide) ?_
    refine lv_icmp_ne (tgt := 115) hx hb dX9_charge_96 (by decide) (fun c96 => ?_) (fun c96 => absurd c96 ((by decide)))
    refine lv_iload_n hx hb dX9_charge_115 rfl (lv_at hl 2 rfl) ?_
    refine lv_iconst (v := 2) hx hb dX9_charge_116 (by decide) ?_
    refine lv_iconst (v := 3) hx hb dX9_charge_117 (by decide) ?_
    refine hs_calli0 (w1 := (mW o ad cd tn td cs hd kd rt vl hr hw cu si acc (bdT 1 st))) (hs_runS SF cal_X9_in tw_570 (c_X9_in l D o ad cd tn td cs hd kd rt vl hr hw cu si acc (bdT 1 st) 1 2 3) hK hP hD ⟨Nat.le_of_ble_eq_true rfl, Nat.le_of_ble_eq_true rfl⟩ rfl hl.1 rfl (Nat.le_of_ble_eq_true rfl) dX9_charge_118 ⟨Nat.le_of_ble_eq_true rfl, Nat.le_of_ble_eq_true rfl⟩) hD hS hA (fun H locs hP hD hS => ?_)
    refine lv_if_eq (tgt := 133) hx hb dX9_charge_121 (by decide) (fun c121 => ?_) (fun c121 => absurd c121 ((by decide)))
    refine lv_iload hx hb dX9_charge_133 (lv_at hl 1 rfl) ?_
    exact hs_iret hx hb hrt hlocks hK hP hD hS dX9_charge_135 (by first | rfl | (unfold chF; first | (rw [if_neg (fun q => (hdk.mp q) c60)]; rfl) | (rw [if_pos (hdk.mpr c60)]; rfl))) (by first | (simp only [bds, chN, List.foldl_cons, List.foldl_nil]; done) | rfl)

set_option maxHeartbeats 400000 in
set_option maxRecDepth 100000 in
theorem c_X9_charge_2 (l : Launch) (D : va_G) (o : Nat) (ad : Nat → Nat) (cd : Nat → ClassId) (tn td cs hd : Int32) (kd rt vl hr hw cu si : Nat → Int32) (acc : Nat → Int64) (st : TS) (t : Int32) (ht : vp_in t 24) (hkd : kd t.toNatClampNeg = nI 2) (hok : okM 3 st) (d : Int32) (hdk : dOk d) : CM l D yX9_charge cX9_charge 6 (some .int) { frames := 1, cells := 0, slots := 0, locals := 22 } (tyM cd) [.ref o, .int t, .int d] (mW o ad cd tn td cs hd kd rt vl hr hw cu si acc st) (hs_QI D (tyM cd) (chF 2 (rt t.toNatClampNeg) (vl t.toNatClampNeg) d) (mW o ad cd tn td cs hd kd rt vl hr hw cu si acc (bds (chN 2) st))) := by
  refine CM.of (by decide) (Nat.le_of_ble_eq_true rfl) ?_
  intro p e s m below meth c A ls hx hb hrt hml htg hown hlocks hnm hA hK hP hD hS hl
  have hown : s.vm.findClass RX9 = some m.cls := hown
  have hl : lv_has ls 6 [(0, .ref o), (1, .int t), (2, .int d)] := hl
  have SF : CallFix p m c cX9_charge 6 s _ hs_gt RX9 := ⟨hx, hb, hml, hown, htg⟩
  have hkd : kd t.toNatClampNeg = 2 := hkd
  refine lv_aload_n hx hb dX9_charge_0 rfl (lv_at hl 0 rfl) ?_
  refine va_get (D := D) (ci := 9) (v := .ref (ad 1)) (C := RX9) (T := TX9) (N := 15) hx hb htg in_X9 hown hK hP 0 rfl rfl 1 (by decide) (htg _ tw_521) (fun _ h9 => h9) rfl dX9_charge_1 ?_
  refine lv_iload_n hx hb dX9_charge_4 rfl (lv_at hl 1 rfl) ?_
  refine va_iald hx hb hK hP 1 0 rfl rfl (ht) dX9_charge_5 ?_
  rw [hkd]
  refine lv_istore_n (lv' := [(3, .int 2), (0, .ref o), (1, .int t), (2, .int d)]) hx hb dX9_charge_6 rfl hl (by decide) rfl (fun ls hl => ?_)
  refine lv_aload_n hx hb dX9_charge_7 rfl (lv_at hl 1 rfl) ?_
  refine va_get (D := D) (ci := 9) (v := .ref (ad 2)) (C := RX9) (T := TX9) (N := 15) hx hb htg in_X9 hown hK hP 0 rfl rfl 2 (by decide) (htg _ tw_522) (fun _ h9 => h9) rfl dX9_charge_8 ?_
  refine lv_iload_n hx hb dX9_charge_11 rfl (lv_at hl 2 rfl) ?_
  refine va_iald hx hb hK hP 2 1 rfl rfl (ht) dX9_charge_12 ?_
  refine lv_iload_n hx hb dX9_charge_13 rfl (lv_at hl 3 rfl) ?_
  refine lv_imul hx hb dX9_charge_14 ?_
  refine lv_istore (lv' := [(4, .int ((rt t.toNatClampNeg) * d)), (3, .int 2), (0, .ref o), (1, .int t), (2, .int d)]) hx hb dX9_charge_15 hl (by decide) rfl (fun ls hl => ?_)
  refine lv_iload_n hx hb dX9_charge_17 rfl (lv_at hl 1 rfl) ?_
  refine lv_iconst (v := 4) hx hb dX9_charge_18 (by decide) ?_
  refine lv_icmp_ne (tgt := 27) hx hb dX9_charge_19 (by decide) (fun c19 => ?_) (fun c19 => absurd c19 ((by decide)))
  refine lv_iload_n hx hb dX9_charge_27 rfl (lv_at hl 1 rfl) ?_
  refine lv_iconst (v := 2) hx hb dX9_charge_28 (by decide) ?_
  refine lv_iconst (v := 4) hx hb dX9_charge_29 (by decide) ?_
  refine hs_calli0 (w1 := (mW o ad cd tn td cs hd kd rt vl hr hw cu si acc st)) (hs_runS SF cal_X9_in tw_570 (c_X9_in l D o ad cd tn td cs hd kd rt vl hr hw cu si acc st 2 2 4) hK hP hD ⟨Nat.le_of_ble_eq_true rfl, Nat.le_of_ble_eq_true rfl⟩ rfl hl.1 rfl (Nat.le_of_ble_eq_true rfl) dX9_charge_30 ⟨Nat.le_of_ble_eq_true rfl, Nat.le_of_ble_eq_true rfl⟩) hD hS hA (fun H locs hP hD hS => ?_)
  refine lv_if_eq (tgt := 41) hx hb dX9_charge_33 (by decide) (fun c33 => absurd c33 ((by decide))) (fun c33 => ?_)
  refine lv_aload_n hx hb dX9_charge_36 rfl (lv_at hl 2 rfl) ?_
  refine lv_iconst (v := 2) hx hb dX9_charge_37 (by decide) ?_
  refine hs_callv0 (w1 := (mW o ad cd tn td cs hd kd rt vl hr hw cu si acc (bdT 2 st))) (hs_runV (q0 := 0) SF cal_X9_body tw_598 (c_X9_body l D o ad cd tn td cs hd kd rt vl hr hw cu si acc st (okM_mono hok (by decide)) 2) hK hP hD rfl rfl ⟨Nat.le_of_ble_eq_true rfl, Nat.le_of_ble_eq_true rfl⟩ rfl hl.1 rfl (Nat.le_of_ble_eq_true rfl) dX9_charge_38 ⟨Nat.le_of_ble_eq_true rfl, Nat.le_of_ble_eq_true rfl⟩) hD hS hA (fun H locs hP hD hS => ?_)
  refine lv_iload_n hx hb dX9_charge_41 rfl (lv_at hl 1 rfl) ?_
  refine lv_bipush (v := 6) hx hb dX9_charge_42 (by decide) ?_
  refine lv_icmp_ne (tgt := 52) hx hb dX9_charge_44 (by decide) (fun c44 => ?_) (fun c44 => absurd c44 ((by decide)))
  refine lv_aload_n hx hb dX9_charge_52 rfl (lv_at hl 2 rfl) ?_
  refine lv_iconst (v := 1) hx hb dX9_charge_53 (by decide) ?_
  refine hs_callv0 (w1 := (mW o ad cd tn td cs hd kd rt vl hr hw cu si acc (bdT 1 (bdT 2 st)))) (hs_runV (q0 := 0) SF cal_X9_body tw_598 (c_X9_body l D o ad cd tn td cs hd kd rt vl hr hw cu si acc (bdT 2 st) (okM_mono (okM_bd 2 hok) (by decide)) 1) hK hP hD rfl rfl ⟨Nat.le_of_ble_eq_true rfl, Nat.le_of_ble_eq_true rfl⟩ rfl hl.1 rfl (Nat.le_of_ble_eq_true rfl) dX9_charge_54 ⟨Nat.le_of_ble_eq_true rfl, Nat.le_of_ble_eq_true rfl⟩) hD hS hA (fun H locs hP hD hS => ?_)
  refine lv_iload_n hx hb dX9_charge_57 rfl (lv_at hl 4 rfl) ?_
  refine lv_bipush (v := 7) hx hb dX9_charge_58 (by decide) ?_
  refine lv_icmp_le (tgt := 70) hx hb dX9_charge_60 (by decide) (fun c60 => ?_) (fun c60 => ?_)
  · refine lv_iconst (v := 0) hx hb dX9_charge_70 (by decide) ?_
    refine lv_istore (lv' := [(5, .int 0), (4, .int ((rt t.toNatClampNeg) * d)), (3, .int 2), (0, .ref o), (1, .int t), (2, .int d)]) hx hb dX9_charge_71 hl (by decide) rfl (fun ls hl => ?_)
    refine lv_iload_n hx hb dX9_charge_73 rfl (lv_at hl 2 rfl) ?_
    refine lv_bipush (v := 6) hx hb dX9_charge_74 (by decide) ?_
    refine lv_icmp_ne (tgt := 94) hx hb dX9_charge_76 (by decide) (fun c76 => ?_) (fun c76 => absurd c76 ((by decide)))
    refine lv_iload_n hx hb dX9_charge_94 rfl (lv_at hl 2 rfl) ?_
    refine lv_iconst (v := 4) hx hb dX9_charge_95 (by decide) ?_
    refine lv_icmp_ne (tgt := 115) hx hb dX9_charge_96 (by decide) (fun c96 => ?_) (fun c96 => absurd c96 ((by decide)))
    refine lv_iload_n hx hb dX9_charge_115 rfl (lv_at hl 2 rfl) ?_
    refine lv_iconst (v := 2) hx hb dX9_charge_116 (by decide) ?_
    refine lv_iconst (v := 3) hx hb dX9_charge_117 (by decide) ?_
    refine hs_calli0 (w1 := (mW o ad cd tn td cs hd kd rt vl hr hw cu si acc (bdT 1 (bdT 2 st)))) (hs_runS SF cal_X9_in tw_570 (c_X9_in l D o ad cd tn td cs hd kd rt vl hr hw cu si acc (bdT 1 (bdT 2 st)) 2 2 3) hK hP hD ⟨Nat.le_of_ble_eq_true rfl, Nat.le_of_ble_eq_true rfl⟩ rfl hl.1 rfl (Nat.le_of_ble_eq_true rfl) dX9_charge_118 ⟨Nat.le_of_ble_eq_true rfl, Nat.le_of_ble_eq_true rfl⟩) hD hS hA (fun H locs hP hD hS => ?_)
    refine lv_if_eq (tgt := 133) hx hb dX9_charge_121 (by decide) (fun c121 => absurd c121 ((by decide))) (fun c121 => ?_)
    refine lv_iload hx hb dX9_charge_124 (lv_at hl 1 rfl) ?_
    refine lv_iconst (v := 3) hx hb dX9_charge_126 (by decide) ?_
    refine lv_iload_n hx hb dX9_charge_127 rfl (lv_at hl 5 rfl) ?_
    refine lv_imul hx hb dX9_charge_128 ?_
    refine lv_iadd hx hb dX9_charge_129 ?_
    refine lv_goto (tgt := 135) hx hb dX9_charge_130 (by decide) ?_
    exact hs_iret hx hb hrt hlocks hK hP hD hS dX9_charge_135 (by first | rfl | (unfold chF; first | (rw [if_neg (fun q => (hdk.mp q) c60)]; rfl) | (rw [if_pos (hdk.mpr c60)]; rfl))) (by first | (simp only [bds, chN, List.foldl_cons, List.foldl_nil]; done) | rfl)
  · refine lv_iload_n hx hb dX9_charge_63 rfl (lv_at hl 4 rfl) ?_
    refine lv_bipush (v := 7) hx hb dX9_charge_64 (by decide) ?_
    refine lv_isub hx hb dX9_charge_66 ?_
    refine lv_goto (tgt := 71) hx hb dX9_charge_67 (by decide) ?_
    refine lv_istore (lv' := [(5, .int (d - 7)), (4, .int ((rt t.toNatClampNeg) * d)), (3, .int 2), (0, .ref o), (1, .int t), (2, .int d)]) hx hb dX9_charge_71 hl (by decide) rfl (fun ls hl => ?_)
    refine lv_iload_n hx hb dX9_charge_73 rfl (lv_at hl 2 rfl) ?_
    refine lv_bipush (v := 6) hx hb dX9_charge_74 (by decide) ?_
    refine lv_icmp_ne (tgt := 94) hx hb dX9_charge_76 (by decide) (fun c76 => ?_) (fun c76 => absurd c76 ((by decide)))
    refine lv_iload_n hx hb dX9_charge_94 rfl (lv_at hl 2 rfl) ?_
    refine lv_iconst (v := 4) hx hb dX9_charge_95 (by decide) ?_
    refine lv_icmp_ne (tgt := 115) hx hb dX9_charge_96 (by decide) (fun c96 => ?_) (fun c96 => absurd c96 ((by decide)))
    refine lv_iload_n hx hb dX9_charge_115 rfl (lv_at hl 2 rfl) ?_
    refine lv_iconst (v := 2) hx hb dX9_charge_116 (by decide) ?_
    refine lv_iconst (v := 3) hx hb dX9_charge_117 (by decide) ?_
    refine hs_calli0 (w1 := (mW o ad cd tn td cs hd kd rt vl hr hw cu si acc (bdT 1 (bdT 2 st)))) (hs_runS SF cal_X9_in tw_570 (c_X9_in l D o ad cd tn td cs hd kd rt vl hr hw cu si acc (bdT 1 (bdT 2 st)) 2 2 3) hK hP hD ⟨Nat.le_of_ble_eq_true rfl, Nat.le_of_ble_eq_true rfl⟩ rfl hl.1 rfl (Nat.le_of_ble_eq_true rfl) dX9_charge_118 ⟨Nat.le_of_ble_eq_true rfl, Nat.le_of_ble_eq_true rfl⟩) hD hS hA (fun H locs hP hD hS => ?_)
    refine lv_if_eq (tgt := 133) hx hb dX9_charge_121 (by decide) (fun c121 => absurd c121 ((by decide))) (fun c121 => ?_)
    refine lv_iload hx hb dX9_charge_124 (lv_at hl 1 rfl) ?_
    refine lv_iconst (v := 3) hx hb dX9_charge_126 (by decide) ?_
    refine lv_iload_n hx hb dX9_charge_127 rfl (lv_at hl 5 rfl) ?_
    refine lv_imul hx hb dX9_charge_128 ?_
    refine lv_iadd hx hb dX9_charge_129 ?_
    refine lv_goto (tgt := 135) hx hb dX9_charge_130 (by decide) ?_
    exact hs_iret hx hb hrt hlocks hK hP hD hS dX9_charge_135 (by first | rfl | (unfold chF; first | (rw [if_neg (fun q => (hdk.mp q) c60)]; rfl) | (rw [if_pos (hdk.mpr c60)]; rfl))) (by first | (simp only [bds, chN, List.foldl_cons, List.foldl_nil]; done) | rfl)

set_option maxHeartbeats 400000 in
set_option maxRecDepth 100000 in
theorem c_X9_charge_3 (l : Launch) (D : va_G) (o : Nat) (ad : Nat → Nat) (cd : Nat → ClassId) (tn td cs hd : Int32) (kd rt vl hr hw cu si : Nat → Int32) (acc : Nat → Int64) (st : TS) (t : Int32) (ht : vp_in t 24) (hkd : kd t.toNatClampNeg = nI 3) (hok : okM 3 st) (d : Int32) (hdk : dOk d) : CM l D yX9_charge cX9_charge 6 (some .int) { frames := 1, cells := 0, slots := 0, locals := 22 } (tyM cd) [.ref o, .int t, .int d] (mW o ad cd tn td cs hd kd rt vl hr hw cu si acc st) (hs_QI D (tyM cd) (chF 3 (rt t.toNatClampNeg) (vl t.toNatClampNeg) d) (mW o ad cd tn td cs hd kd rt vl hr hw cu si acc (bds (chN 3) st))) := by
  refine CM.of (by decide) (Nat.le_of_ble_eq_true rfl) ?_
  intro p e s m below meth c A ls hx hb hrt hml htg hown hlocks hnm hA hK hP hD hS hl
  have hown : s.vm.findClass RX9 = some m.cls := hown
  have hl : lv_has ls 6 [(0, .ref o), (1, .int t), (2, .int d)] := hl
  have SF : CallFix p m c cX9_charge 6 s _ hs_gt RX9 := ⟨hx, hb, hml, hown, htg⟩
  have hkd : kd t.toNatClampNeg = 3 := hkd
  refine lv_aload_n hx hb dX9_charge_0 rfl (lv_at hl 0 rfl) ?_
  refine va_get (D := D) (ci := 9) (v := .ref (ad 1)) (C := RX9) (T := TX9) (N := 15) hx hb htg in_X9 hown hK hP 0 rfl rfl 1 (by decide) (htg _ tw_521) (fun _ h9 => h9) rfl dX9_charge_1 ?_
  refine lv_iload_n hx hb dX9_charge_4 rfl (lv_at hl 1 rfl) ?_
  refine va_iald hx hb hK hP 1 0 rfl rfl (ht) dX9_charge_5 ?_
  rw [hkd]
  refine lv_istore_n (lv' := [(3, .int 3), (0, .ref o), (1, .int t), (2, .int d)]) hx hb dX9_charge_6 rfl hl (by decide) rfl (fun ls hl => ?_)
  refine lv_aload_n hx hb dX9_charge_7 rfl (lv_at hl 1 rfl) ?_
  refine va_get (D := D) (ci := 9) (v := .ref (ad 2)) (C := RX9) (T := TX9) (N := 15) hx hb htg in_X9 hown hK hP 0 rfl rfl 2 (by decide) (htg _ tw_522) (fun _ h9 => h9) rfl dX9_charge_8 ?_
  refine lv_iload_n hx hb dX9_charge_11 rfl (lv_at hl 2 rfl) ?_
  refine va_iald hx hb hK hP 2 1 rfl rfl (ht) dX9_charge_12 ?_
  refine lv_iload_n hx hb dX9_charge_13 rfl (lv_at hl 3 rfl) ?_
  refine lv_imul hx hb dX9_charge_14 ?_
  refine lv_istore (lv' := [(4, .int ((rt t.toNatClampNeg) * d)), (3, .int 3), (0, .ref o), (1, .int t), (2, .int d)]) hx hb dX9_charge_15 hl (by decide) rfl (fun ls hl => ?_)
  refine lv_iload_n hx hb dX9_charge_17 rfl (lv_at hl 1 rfl) ?_
  refine lv_iconst (v := 4) hx hb dX9_charge_18 (by decide) ?_
  refine lv_icmp_ne (tgt := 27) hx hb dX9_charge_19 (by decide) (fun c19 => ?_) (fun c19 => absurd c19 ((by decide)))
  refine lv_iload_n hx hb dX9_charge_27 rfl (lv_at hl 1 rfl) ?_
  refine lv_iconst (v := 2) hx hb dX9_charge_28 (by decide) ?_
  refine lv_iconst (v := 4) hx hb dX9_charge_29 (by decide) ?_
  refine hs_calli0 (w1 := (mW o ad cd tn td cs hd kd rt vl hr hw cu si acc st)) (hs_runS SF cal_X9_in tw_570 (c_X9_in l D o ad cd tn td cs hd kd rt vl hr hw cu si acc st 3 2 4) hK hP hD ⟨Nat.le_of_ble_eq_true rfl, Nat.le_of_ble_eq_true rfl⟩ rfl hl.1 rfl (Nat.le_of_ble_eq_true rfl) dX9_charge_30 ⟨Nat.le_of_ble_eq_true rfl, Nat.le_of_ble_eq_true rfl⟩) hD hS hA (fun H locs hP hD hS => ?_)
  refine lv_if_eq (tgt := 41) hx hb dX9_charge_33 (by decide) (fun c33 => absurd c33 ((by decide))) (fun c33 => ?_)
  refine lv_aload_n hx hb dX9_charge_36 rfl (lv_at hl 2 rfl) ?_
  refine lv_iconst (v := 2) hx hb dX9_charge_37 (by decide) ?_
  refine hs_callv0 (w1 := (mW o ad cd tn td cs hd kd rt vl hr hw cu si acc (bdT 2 st))) (hs_runV (q0 := 0) SF cal_X9_body tw_598 (c_X9_body l D o ad cd tn td cs hd kd rt vl hr hw cu si acc st (okM_mono hok (by decide)) 2) hK hP hD rfl rfl ⟨Nat.le_of_ble_eq_true rfl, Nat.le_of_ble_eq_true rfl⟩ rfl hl.1 rfl (Nat.le_of_ble_eq_true rfl) dX9_charge_38 ⟨Nat.le_of_ble_eq_true rfl, Nat.le_of_ble_eq_true rfl⟩) hD hS hA (fun H locs hP hD hS => ?_)
  refine lv_iload_n hx hb dX9_charge_41 rfl (lv_at hl 1 rfl) ?_
  refine lv_bipush (v := 6) hx hb dX9_charge_42 (by decide) ?_
  refine lv_icmp_ne (tgt := 52) hx hb dX9_charge_44 (by decide) (fun c44 => ?_) (fun c44 => absurd c44 ((by decide)))
  refine lv_aload_n hx hb dX9_charge_52 rfl (lv_at hl 2 rfl) ?_
  refine lv_iconst (v := 1) hx hb dX9_charge_53 (by decide) ?_
  refine hs_callv0 (w1 := (mW o ad cd tn td cs hd kd rt vl hr hw cu si acc (bdT 1 (bdT 2 st)))) (hs_runV (q0 := 0) SF cal_X9_body tw_598 (c_X9_body l D o ad cd tn td cs hd kd rt vl hr hw cu si acc (bdT 2 st) (okM_mono (okM_bd 2 hok) (by decide)) 1) hK hP hD rfl rfl ⟨Nat.le_of_ble_eq_true rfl, Nat.le_of_ble_eq_true rfl⟩ rfl hl.1 rfl (Nat.le_of_ble_eq_true rfl) dX9_charge_54 ⟨Nat.le_of_ble_eq_true rfl, Nat.le_of_ble_eq_true rfl⟩) hD hS hA (fun H locs hP hD hS => ?_)
  refine lv_iload_n hx hb dX9_charge_57 rfl (lv_at hl 4 rfl) ?_
  refine lv_bipush (v := 7) hx hb dX9_charge_58 (by decide) ?_
  refine lv_icmp_le (tgt := 70) hx hb dX9_charge_60 (by decide) (fun c60 => ?_) (fun c60 => ?_)
  · refine lv_iconst (v := 0) hx hb dX9_charge_70 (by decide) ?_
    refine lv_istore (lv' := [(5, .int 0), (4, .int ((rt t.toNatClampNeg) * d)), (3, .int 3), (0, .ref o), (1, .int t), (2, .int d)]) hx hb dX9_charge_71 hl (by decide) rfl (fun ls hl => ?_)
    refine lv_iload_n hx hb dX9_charge_73 rfl (lv_at hl 2 rfl) ?_
    refine lv_bipush (v := 6) hx hb dX9_charge_74 (by decide) ?_
    refine lv_icmp_ne (tgt := 94) hx hb dX9_charge_76 (by decide) (fun c76 => ?_) (fun c76 => absurd c76 ((by decide)))
    refine lv_iload_n hx hb dX9_charge_94 rfl (lv_at hl 2 rfl) ?_
    refine lv_iconst (v := 4) hx hb dX9_charge_95 (by decide) ?_
    refine lv_icmp_ne (tgt := 115) hx hb dX9_charge_96 (by decide) (fun c96 => ?_) (fun c96 => absurd c96 ((by decide)))
    refine lv_iload_n hx hb dX9_charge_115 rfl (lv_at hl 2 rfl) ?_
    refine lv_iconst (v := 2) hx hb dX9_charge_116 (by decide) ?_
    refine lv_iconst (v := 3) hx hb dX9_charge_117 (by decide) ?_
    refine hs_calli0 (w1 := (mW o ad cd tn td cs hd kd rt vl hr hw cu si acc (bdT 1 (bdT 2 st)))) (hs_runS SF cal_X9_in tw_570 (c_X9_in l D o ad cd tn td cs hd kd rt vl hr hw cu si acc (bdT 1 (bdT 2 st)) 3 2 3) hK hP hD ⟨Nat.le_of_ble_eq_true rfl, Nat.le_of_ble_eq_true rfl⟩ rfl hl.1 rfl (Nat.le_of_ble_eq_true rfl) dX9_charge_118 ⟨Nat.le_of_ble_eq_true rfl, Nat.le_of_ble_eq_true rfl⟩) hD hS hA (fun H locs hP hD hS => ?_)
    refine lv_if_eq (tgt := 133) hx hb dX9_charge_121 (by decide) (fun c121 => absurd c121 ((by decide))) (fun c121 => ?_)
    refine lv_iload hx hb dX9_charge_124 (lv_at hl 1 rfl) ?_
    refine lv_iconst (v := 3) hx hb dX9_charge_126 (by decide) ?_
    refine lv_iload_n hx hb dX9_charge_127 rfl (lv_at hl 5 rfl) ?_
    refine lv_imul hx hb dX9_charge_128 ?_
    refine lv_iadd hx hb dX9_charge_129 ?_
    refine lv_goto (tgt := 135) hx hb dX9_charge_130 (by decide) ?_
    exact hs_iret hx hb hrt hlocks hK hP hD hS dX9_charge_135 (by first | rfl | (unfold chF; first | (rw [if_neg (fun q => (hdk.mp q) c60)]; rfl) | (rw [if_pos (hdk.mpr c60)]; rfl))) (by first | (simp only [bds, chN, List.foldl_cons, List.foldl_nil]; done) | rfl)
  · refine lv_iload_n hx hb dX9_charge_63 rfl (lv_at hl 4 rfl) ?_
    refine lv_bipush (v := 7) hx hb dX9_charge_64 (by decide) ?_
    refine lv_isub hx hb dX9_charge_66 ?_
    refine lv_goto (tgt := 71) hx hb dX9_charge_67 (by decide) ?_
    refine lv_istore (lv' := [(5, .int (d - 7)), (4, .int ((rt t.toNatClampNeg) * d)), (3, .int 3), (0, .ref o), (1, .int t), (2, .int d)]) hx hb dX9_charge_71 hl (by decide) rfl (fun ls hl => ?_)
    refine lv_iload_n hx hb dX9_charge_73 rfl (lv_at hl 2 rfl) ?_
    refine lv_bipush (v := 6) hx hb dX9_charge_74 (by decide) ?_
    refine lv_icmp_ne (tgt := 94) hx hb dX9_charge_76 (by decide) (fun c76 => ?_) (fun c76 => absurd c76 ((by decide)))
    refine lv_iload_n hx hb dX9_charge_94 rfl (lv_at hl 2 rfl) ?_
    refine lv_iconst (v := 4) hx hb dX9_charge_95 (by decide) ?_
    refine lv_icmp_ne (tgt := 115) hx hb dX9_charge_96 (by decide) (fun c96 => ?_) (fun c96 => absurd c96 ((by decide)))
    refine lv_iload_n hx hb dX9_charge_115 rfl (lv_at hl 2 rfl) ?_
    refine lv_iconst (v := 2) hx hb dX9_charge_116 (by decide) ?_
    refine lv_iconst (v := 3) hx hb dX9_charge_117 (by decide) ?_
    refine hs_calli0 (w1 := (mW o ad cd tn td cs hd kd rt vl hr hw cu si acc (bdT 1 (bdT 2 st)))) (hs_runS SF cal_X9_in tw_570 (c_X9_in l D o ad cd tn td cs hd kd rt vl hr hw cu si acc (bdT 1 (bdT 2 st)) 3 2 3) hK hP hD ⟨Nat.le_of_ble_eq_true rfl, Nat.le_of_ble_eq_true rfl⟩ rfl hl.1 rfl (Nat.le_of_ble_eq_true rfl) dX9_charge_118 ⟨Nat.le_of_ble_eq_true rfl, Nat.le_of_ble_eq_true rfl⟩) hD hS hA (fun H locs hP hD hS => ?_)
    refine lv_if_eq (tgt := 133) hx hb dX9_charge_121 (by decide) (fun c121 => absurd c121 ((by decide))) (fun c121 => ?_)
    refine lv_iload hx hb dX9_charge_124 (lv_at hl 1 rfl) ?_
    refine lv_iconst (v := 3) hx hb dX9_charge_126 (by decide) ?_
    refine lv_iload_n hx hb dX9_charge_127 rfl (lv_at hl 5 rfl) ?_
    refine lv_imul hx hb dX9_charge_128 ?_
    refine lv_iadd hx hb dX9_charge_129 ?_
    refine lv_goto (tgt := 135) hx hb dX9_charge_130 (by decide) ?_
    exact hs_iret hx hb hrt hlocks hK hP hD hS dX9_charge_135 (by first | rfl | (unfold chF; first | (rw [if_neg (fun q => (hdk.mp q) c60)]; rfl) | (rw [if_pos (hdk.mpr c60)]; rfl))) (by first | (simp only [bds, chN, List.foldl_cons, List.foldl_nil]; done) | rfl)

set_option maxHeartbeats 400000 in
set_option maxRecDepth 100000 in
theorem c_X9_charge_4 (l : Launch) (D : va_G) (o : Nat) (ad : Nat → Nat) (cd : Nat → ClassId) (tn td cs hd : Int32) (kd rt vl hr hw cu si : Nat → Int32) (acc : Nat → Int64) (st : TS) (t : Int32) (ht : vp_in t 24) (hkd : kd t.toNatClampNeg = nI 4) (hok : okM 3 st) (d : Int32) (hdk : dOk d) : CM l D yX9_charge cX9_charge 6 (some .int) { frames := 1, cells := 0, slots := 0, locals := 22 } (tyM cd) [.ref o, .int t, .int d] (mW o ad cd tn td cs hd kd rt vl hr hw cu si acc st) (hs_QI D (tyM cd) (chF 4 (rt t.toNatClampNeg) (vl t.toNatClampNeg) d) (mW o ad cd tn td cs hd kd rt vl hr hw cu si acc (bds (chN 4) st))) := by
  refine CM.of (by decide) (Nat.le_of_ble_eq_true rfl) ?_
  intro p e s m below meth c A ls hx hb hrt hml htg hown hlocks hnm hA hK hP hD hS hl
  have hown : s.vm.findClass RX9 = some m.cls := hown
  have hl : lv_has ls 6 [(0, .ref o), (1, .int t), (2, .int d)] := hl
  have SF : CallFix p m c cX9_charge 6 s _ hs_gt RX9 := ⟨hx, hb, hml, hown, htg⟩
  have hkd : kd t.toNatClampNeg = 4 := hkd
  refine lv_aload_n hx hb dX9_charge_0 rfl (lv_at hl 0 rfl) ?_
  refine va_get (D := D) (ci := 9) (v := .ref (ad 1)) (C := RX9) (T := TX9) (N := 15) hx hb htg in_X9 hown hK hP 0 rfl rfl 1 (by decide) (htg _ tw_521) (fun _ h9 => h9) rfl dX9_charge_1 ?_
  refine lv_iload_n hx hb dX9_charge_4 rfl (lv_at hl 1 rfl) ?_
  refine va_iald hx hb hK hP 1 0 rfl rfl (ht) dX9_charge_5 ?_
  rw [hkd]
  refine lv_istore_n (lv' := [(3, .int 4), (0, .ref o), (1, .int t), (2, .int d)]) hx hb dX9_charge_6 rfl hl (by decide) rfl (fun ls hl => ?_)
  refine lv_aload_n hx hb dX9_charge_7 rfl (lv_at hl 1 rfl) ?_
  refine va_get (D := D) (ci := 9) (v := .ref (ad 2)) (C := RX9) (T := TX9) (N := 15) hx hb htg in_X9 hown hK hP 0 rfl rfl 2 (by decide) (htg _ tw_522) (fun _ h9 => h9) rfl dX9_charge_8 ?_
  refine lv_iload_n hx hb dX9_charge_11 rfl (lv_at hl 2 rfl) ?_
  refine va_iald hx hb hK hP 2 1 rfl rfl (ht) dX9_charge_12 ?_
  refine lv_iload_n hx hb dX9_charge_13 rfl (lv_at hl 3 rfl) ?_
  refine lv_imul hx hb dX9_charge_14 ?_
  refine lv_istore (lv' := [(4, .int ((rt t.toNatClampNeg) * d)), (3, .int 4), (0, .ref o), (1, .int t), (2, .int d)]) hx hb dX9_charge_15 hl (by decide) rfl (fun ls hl => ?_)
  refine lv_iload_n hx hb dX9_charge_17 rfl (lv_at hl 1 rfl) ?_
  refine lv_iconst (v := 4) hx hb dX9_charge_18 (by decide) ?_
  refine lv_icmp_ne (tgt := 27) hx hb dX9_charge_19 (by decide) (fun c19 => absurd c19 ((by decide))) (fun c19 => ?_)
  refine lv_aload_n hx hb dX9_charge_22 rfl (lv_at hl 2 rfl) ?_
  refine lv_iconst (v := 3) hx hb dX9_charge_23 (by decide) ?_
  refine hs_callv0 (w1 := (mW o ad cd tn td cs hd kd rt vl hr hw cu si acc (bdT 3 st))) (hs_runV (q0 := 0) SF cal_X9_body tw_598 (c_X9_body l D o ad cd tn td cs hd kd rt vl hr hw cu si acc st (okM_mono hok (by decide)) 3) hK hP hD rfl rfl ⟨Nat.le_of_ble_eq_true rfl, Nat.le_of_ble_eq_true rfl⟩ rfl hl.1 rfl (Nat.le_of_ble_eq_true rfl) dX9_charge_24 ⟨Nat.le_of_ble_eq_true rfl, Nat.le_of_ble_eq_true rfl⟩) hD hS hA (fun H locs hP hD hS => ?_)
  refine lv_iload_n hx hb dX9_charge_27 rfl (lv_at hl 1 rfl) ?_
  refine lv_iconst (v := 2) hx hb dX9_charge_28 (by decide) ?_
  refine lv_iconst (v := 4) hx hb dX9_charge_29 (by decide) ?_
  refine hs_calli0 (w1 := (mW o ad cd tn td cs hd kd rt vl hr hw cu si acc (bdT 3 st))) (hs_runS SF cal_X9_in tw_570 (c_X9_in l D o ad cd tn td cs hd kd rt vl hr hw cu si acc (bdT 3 st) 4 2 4) hK hP hD ⟨Nat.le_of_ble_eq_true rfl, Nat.le_of_ble_eq_true rfl⟩ rfl hl.1 rfl (Nat.le_of_ble_eq_true rfl) dX9_charge_30 ⟨Nat.le_of_ble_eq_true rfl, Nat.le_of_ble_eq_true rfl⟩) hD hS hA (fun H locs hP hD hS => ?_)
  refine lv_if_eq (tgt := 41) hx hb dX9_charge_33 (by decide) (fun c33 => absurd c33 ((by decide))) (fun c33 => ?_)
  refine lv_aload_n hx hb dX9_charge_36 rfl (lv_at hl 2 rfl) ?_
  refine lv_iconst (v := 2) hx hb dX9_charge_37 (by decide) ?_
  refine hs_callv0 (w1 := (mW o ad cd tn td cs hd kd rt vl hr hw cu si acc (bdT 2 (bdT 3 st)))) (hs_runV (q0 := 0) SF cal_X9_body tw_598 (c_X9_body l D o ad cd tn td cs hd kd rt vl hr hw cu si acc (bdT 3 st) (okM_mono (okM_bd 3 hok) (by decide)) 2) hK hP hD rfl rfl ⟨Nat.le_of_ble_eq_true rfl, Nat.le_of_ble_eq_true rfl⟩ rfl hl.1 rfl (Nat.le_of_ble_eq_true rfl) dX9_charge_38 ⟨Nat.le_of_ble_eq_true rfl, Nat.le_of_ble_eq_true rfl⟩) hD hS hA (fun H locs hP hD hS => ?_)
  refine lv_iload_n hx hb dX9_charge_41 rfl (lv_at hl 1 rfl) ?_
  refine lv_bipush (v := 6) hx hb dX9_charge_42 (by decide) ?_
  refine lv_icmp_ne (tgt := 52) hx hb dX9_charge_44 (by decide) (fun c44 => ?_) (fun c44 => absurd c44 ((by decide)))
  refine lv_aload_n hx hb dX9_charge_52 rfl (lv_at hl 2 rfl) ?_
  refine lv_iconst (v := 1) hx hb dX9_charge_53 (by decide) ?_
  refine hs_callv0 (w1 := (mW o ad cd tn td cs hd kd rt vl hr hw cu si acc (bdT 1 (bdT 2 (bdT 3 st))))) (hs_runV (q0 := 0) SF cal_X9_body tw_598 (c_X9_body l D o ad cd tn td cs hd kd rt vl hr hw cu si acc (bdT 2 (bdT 3 st)) (okM_bd 2 (okM_bd 3 hok)) 1) hK hP hD rfl rfl ⟨Nat.le_of_ble_eq_true rfl, Nat.le_of_ble_eq_true rfl⟩ rfl hl.1 rfl (Nat.le_of_ble_eq_true rfl) dX9_charge_54 ⟨Nat.le_of_ble_eq_true rfl, Nat.le_of_ble_eq_true rfl⟩) hD hS hA (fun H locs hP hD hS => ?_)
  refine lv_iload_n hx hb dX9_charge_57 rfl (lv_at hl 4 rfl) ?_
  refine lv_bipush (v := 7) hx hb dX9_charge_58 (by decide) ?_
  refine lv_icmp_le (tgt := 70) hx hb dX9_charge_60 (by decide) (fun c60 => ?_) (fun c60 => ?_)
  · refine lv_iconst (v := 0) hx hb dX9_charge_70 (by decide) ?_
    refine lv_istore (lv' := [(5, .int 0), (4, .int ((rt t.toNatClampNeg) * d)), (3, .int 4), (0, .ref o), (1, .int t), (2, .int d)]) hx hb dX9_charge_71 hl (by decide) rfl (fun ls hl => ?_)
    refine lv_iload_n hx hb dX9_charge_73 rfl (lv_at hl 2 rfl) ?_
    refine lv_bipush (v := 6) hx hb dX9_charge_74 (by decide) ?_
    refine lv_icmp_ne (tgt := 94) hx hb dX9_charge_76 (by decide) (fun c76 => ?_) (fun c76 => absurd c76 ((by decide)))
    refine lv_iload_n hx hb dX9_charge_94 rfl (lv_at hl 2 rfl) ?_
    refine lv_iconst (v := 4) hx hb dX9_charge_95 (by decide) ?_
    refine lv_icmp_ne (tgt := 115) hx hb dX9_charge_96 (by decide) (fun c96 => absurd c96 ((by decide))) (fun c96 => ?_)
    refine lv_iconst (v := 2) hx hb dX9_charge_99 (by decide) ?_
    refine lv_iload hx hb dX9_charge_100 (lv_at hl 1 rfl) ?_
    refine lv_iconst (v := 3) hx hb dX9_charge_102 (by decide) ?_
    refine lv_iload_n hx hb dX9_charge_103 rfl (lv_at hl 5 rfl) ?_
    refine lv_imul hx hb dX9_charge_104 ?_
    refine lv_iadd hx hb dX9_charge_105 ?_
    refine lv_imul hx hb dX9_charge_106 ?_
    refine lv_iconst (v := 5) hx hb dX9_charge_107 (by decide) ?_
    refine lv_iload hx hb dX9_charge_108 (lv_at hl 0 rfl) ?_
    refine lv_imul hx hb dX9_charge_110 ?_
    refine lv_isub hx hb dX9_charge_111 ?_
    refine lv_goto (tgt := 135) hx hb dX9_charge_112 (by decide) ?_
    exact hs_iret hx hb hrt hlocks hK hP hD hS dX9_charge_135 (by first | rfl | (unfold chF; first | (rw [if_neg (fun q => (hdk.mp q) c60)]; rfl) | (rw [if_pos (hdk.mpr c60)]; rfl))) (by first | (simp only [bds, chN, List.foldl_cons, List.foldl_nil]; done) | rfl)
  · refine lv_iload_n hx hb dX9_charge_63 rfl (lv_at hl 4 rfl) ?_
    refine lv_bipush (v := 7) hx hb dX9_charge_64 (by decide) ?_
    refine lv_isub hx hb dX9_charge_66 ?_
    refine lv_goto (tgt := 71) hx hb dX9_charge_67 (by decide) ?_
    refine lv_istore (lv' := [(5, .int (d - 7)), (4, .int ((rt t.toNatClampNeg) * d)), (3, .int 4), (0, .ref o), (1, .int t), (2, .int d)]) hx hb dX9_charge_71 hl (by decide) rfl (fun ls hl => ?_)
    refine lv_iload_n hx hb dX9_charge_73 rfl (lv_at hl 2 rfl) ?_
    refine lv_bipush (v := 6) hx hb dX9_charge_74 (by decide) ?_
    refine lv_icmp_ne (tgt := 94) hx hb dX9_charge_76 (by decide) (fun c76 => ?_) (fun c76 => absurd c76 ((by decide)))
    refine lv_iload_n hx hb dX9_charge_94 rfl (lv_at hl 2 rfl) ?_
    refine lv_iconst (v := 4) hx hb dX9_charge_95 (by decide) ?_
    refine lv_icmp_ne (tgt := 115) hx hb dX9_charge_96 (by decide) (fun c96 => absurd c96 ((by decide))) (fun c96 => ?_)
    refine lv_iconst (v := 2) hx hb dX9_charge_99 (by decide) ?_
    refine lv_iload hx hb dX9_charge_100 (lv_at hl 1 rfl) ?_
    refine lv_iconst (v := 3) hx hb dX9_charge_102 (by decide) ?_
    refine lv_iload_n hx hb dX9_charge_103 rfl (lv_at hl 5 rfl) ?_
    refine lv_imul hx hb dX9_charge_104 ?_
    refine lv_iadd hx hb dX9_charge_105 ?_
    refine lv_imul hx hb dX9_charge_106 ?_
    refine lv_iconst (v := 5) hx hb dX9_charge_107 (by decide) ?_
    refine lv_iload hx hb dX9_charge_108 (lv_at hl 0 rfl) ?_
    refine lv_imul hx hb dX9_charge_110 ?_
    refine lv_isub hx hb dX9_charge_111 ?_
    refine lv_goto (tgt := 135) hx hb dX9_charge_112 (by decide) ?_
    exact hs_iret hx hb hrt hlocks hK hP hD hS dX9_charge_135 (by first | rfl | (unfold chF; first | (rw [if_neg (fun q => (hdk.mp q) c60)]; rfl) | (rw [if_pos (hdk.mpr c60)]; rfl))) (by first | (simp only [bds, chN, List.foldl_cons, List.foldl_nil]; done) | rfl)

set_option maxHeartbeats 400000 in
set_option maxRecDepth 100000 in
theorem c_X9_charge_5 (l : Launch) (D : va_G) (o : Nat) (ad : Nat → Nat) (cd : Nat → ClassId) (tn td cs hd : Int32) (kd rt vl hr hw cu si : Nat → Int32) (acc : Nat → Int64) (st : TS) (t : Int32) (ht : vp_in t 24) (hkd : kd t.toNatClampNeg = nI 5) (hok : okM 3 st) (d : Int32) (hdk : dOk d) : CM l D yX9_charge cX9_charge 6 (some .int) { frames := 1, cells := 0, slots := 0, locals := 22 } (tyM cd) [.ref o, .int t, .int d] (mW o ad cd tn td cs hd kd rt vl hr hw cu si acc st) (hs_QI D (tyM cd) (chF 5 (rt t.toNatClampNeg) (vl t.toNatClampNeg) d) (mW o ad cd tn td cs hd kd rt vl hr hw cu si acc (bds (chN 5) st))) := by
  refine CM.of (by decide) (Nat.le_of_ble_eq_true rfl) ?_
  intro p e s m below meth c A ls hx hb hrt hml htg hown hlocks hnm hA hK hP hD hS hl
  have hown : s.vm.findClass RX9 = some m.cls := hown
  have hl : lv_has ls 6 [(0, .ref o), (1, .int t), (2, .int d)] := hl
  have SF : CallFix p m c cX9_charge 6 s _ hs_gt RX9 := ⟨hx, hb, hml, hown, htg⟩
  have hkd : kd t.toNatClampNeg = 5 := hkd
  refine lv_aload_n hx hb dX9_charge_0 rfl (lv_at hl 0 rfl) ?_
  refine va_get (D := D) (ci := 9) (v := .ref (ad 1)) (C := RX9) (T := TX9) (N := 15) hx hb htg in_X9 hown hK hP 0 rfl rfl 1 (by decide) (htg _ tw_521) (fun _ h9 => h9) rfl dX9_charge_1 ?_
  refine lv_iload_n hx hb dX9_charge_4 rfl (lv_at hl 1 rfl) ?_
  refine va_iald hx hb hK hP 1 0 rfl rfl (ht) dX9_charge_5 ?_
  rw [hkd]
  refine lv_istore_n (lv' := [(3, .int 5), (0, .ref o), (1, .int t), (2, .int d)]) hx hb dX9_charge_6 rfl hl (by decide) rfl (fun ls hl => ?_)
  refine lv_aload_n hx hb dX9_charge_7 rfl (lv_at hl 1 rfl) ?_
  refine va_get (D := D) (ci := 9) (v := .ref (ad 2)) (C := RX9) (T := TX9) (N := 15) hx hb htg in_X9 hown hK hP 0 rfl rfl 2 (by decide) (htg _ tw_522) (fun _ h9 => h9) rfl dX9_charge_8 ?_
  refine lv_iload_n hx hb dX9_charge_11 rfl (lv_at hl 2 rfl) ?_
  refine va_iald hx hb hK hP 2 1 rfl rfl (ht) dX9_charge_12 ?_
  refine lv_iload_n hx hb dX9_charge_13 rfl (lv_at hl 3 rfl) ?_
  refine lv_imul hx hb dX9_charge_14 ?_
  refine lv_istore (lv' := [(4, .int ((rt t.toNatClampNeg) * d)), (3, .int 5), (0, .ref o), (1, .int t), (2, .int d)]) hx hb dX9_charge_15 hl (by decide) rfl (fun ls hl => ?_)
  refine lv_iload_n hx hb dX9_charge_17 rfl (lv_at hl 1 rfl) ?_
  refine lv_iconst (v := 4) hx hb dX9_charge_18 (by decide) ?_
  refine lv_icmp_ne (tgt := 27) hx hb dX9_charge_19 (by decide) (fun c19 => ?_) (fun c19 => absurd c19 ((by decide)))
  refine lv_iload_n hx hb dX9_charge_27 rfl (lv_at hl 1 rfl) ?_
  refine lv_iconst (v := 2) hx hb dX9_charge_28 (by decide) ?_
  refine lv_iconst (v := 4) hx hb dX9_charge_29 (by decide) ?_
  refine hs_calli0 (w1 := (mW o ad cd tn td cs hd kd rt vl hr hw cu si acc st)) (hs_runS SF cal_X9_in tw_570 (c_X9_in l D o ad cd tn td cs hd kd rt vl hr hw cu si acc st 5 2 4) hK hP hD ⟨Nat.le_of_ble_eq_true rfl, Nat.le_of_ble_eq_true rfl⟩ rfl hl.1 rfl (Nat.le_of_ble_eq_true rfl) dX9_charge_30 ⟨Nat.le_of_ble_eq_true rfl, Nat.le_of_ble_eq_true rfl⟩) hD hS hA (fun H locs hP hD hS => ?_)
  refine lv_if_eq (tgt := 41) hx hb dX9_charge_33 (by decide) (fun c33 => ?_) (fun c33 => absurd c33 ((by decide)))
  refine lv_iload_n hx hb dX9_charge_41 rfl (lv_at hl 1 rfl) ?_
  refine lv_bipush (v := 6) hx hb dX9_charge_42 (by decide) ?_
  refine lv_icmp_ne (tgt := 52) hx hb dX9_charge_44 (by decide) (fun c44 => ?_) (fun c44 => absurd c44 ((by decide)))
  refine lv_aload_n hx hb dX9_charge_52 rfl (lv_at hl 2 rfl) ?_
  refine lv_iconst (v := 1) hx hb dX9_charge_53 (by decide) ?_
  refine hs_callv0 (w1 := (mW o ad cd tn td cs hd kd rt vl hr hw cu si acc (bdT 1 st))) (hs_runV (q0 := 0) SF cal_X9_body tw_598 (c_X9_body l D o ad cd tn td cs hd kd rt vl hr hw cu si acc st (okM_mono hok (by decide)) 1) hK hP hD rfl rfl ⟨Nat.le_of_ble_eq_true rfl, Nat.le_of_ble_eq_true rfl⟩ rfl hl.1 rfl (Nat.le_of_ble_eq_true rfl) dX9_charge_54 ⟨Nat.le_of_ble_eq_true rfl, Nat.le_of_ble_eq_true rfl⟩) hD hS hA (fun H locs hP hD hS => ?_)
  refine lv_iload_n hx hb dX9_charge_57 rfl (lv_at hl 4 rfl) ?_
  refine lv_bipush (v := 7) hx hb dX9_charge_58 (by decide) ?_
  refine lv_icmp_le (tgt := 70) hx hb dX9_charge_60 (by decide) (fun c60 => ?_) (fun c60 => ?_)
  · refine lv_iconst (v := 0) hx hb dX9_charge_70 (by decide) ?_
    refine lv_istore (lv' := [(5, .int 0), (4, .int ((rt t.toNatClampNeg) * d)), (3, .int 5), (0, .ref o), (1, .int t), (2, .int d)]) hx hb dX9_charge_71 hl (by decide) rfl (fun ls hl => ?_)
    refine lv_iload_n hx hb dX9_charge_73 rfl (lv_at hl 2 rfl) ?_
    refine lv_bipush (v := 6) hx hb dX9_charge_74 (by decide) ?_
    refine lv_icmp_ne (tgt := 94) hx hb dX9_charge_76 (by decide) (fun c76 => ?_) (fun c76 => absurd c76 ((by decide)))
    refine lv_iload_n hx hb dX9_charge_94 rfl (lv_at hl 2 rfl) ?_
    refine lv_iconst (v := 4) hx hb dX9_charge_95 (by decide) ?_
    refine lv_icmp_ne (tgt := 115) hx hb dX9_charge_96 (by decide) (fun c96 => ?_) (fun c96 => absurd c96 ((by decide)))
    refine lv_iload_n hx hb dX9_charge_115 rfl (lv_at hl 2 rfl) ?_
    refine lv_iconst (v := 2) hx hb dX9_charge_116 (by decide) ?_
    refine lv_iconst (v := 3) hx hb dX9_charge_117 (by decide) ?_
    refine hs_calli0 (w1 := (mW o ad cd tn td cs hd kd rt vl hr hw cu si acc (bdT 1 st))) (hs_runS SF cal_X9_in tw_570 (c_X9_in l D o ad cd tn td cs hd kd rt vl hr hw cu si acc (bdT 1 st) 5 2 3) hK hP hD ⟨Nat.le_of_ble_eq_true rfl, Nat.le_of_ble_eq_true rfl⟩ rfl hl.1 rfl (Nat.le_of_ble_eq_true rfl) dX9_charge_118 ⟨Nat.le_of_ble_eq_true rfl, Nat.le_of_ble_eq_true rfl⟩) hD hS hA (fun H locs hP hD hS => ?_)
    refine lv_if_eq (tgt := 133) hx hb dX9_charge_121 (by decide) (fun c121 => ?_) (fun c121 => absurd c121 ((by decide)))
    refine lv_iload hx hb dX9_charge_133 (lv_at hl 1 rfl) ?_
    exact hs_iret hx hb hrt hlocks hK hP hD hS dX9_charge_135 (by first | rfl | (unfold chF; first | (rw [if_neg (fun q => (hdk.mp q) c60)]; rfl) | (rw [if_pos (hdk.mpr c60)]; rfl))) (by first | (simp only [bds, chN, List.foldl_cons, List.foldl_nil]; done) | rfl)
  · refine lv_iload_n hx hb dX9_charge_63 rfl (lv_at hl 4 rfl) ?_
    refine lv_bipush (v := 7) hx hb dX9_charge_64 (by decide) ?_
    refine lv_isub hx hb dX9_charge_66 ?_
    refine lv_goto (tgt := 71) hx hb dX9_charge_67 (by decide) ?_
    refine lv_istore (lv' := [(5, .int (d - 7)), (4, .int ((rt t.toNatClampNeg) * d)), (3, .int 5), (0, .ref o), (1, .int t), (2, .int d)]) hx hb dX9_charge_71 hl (by decide) rfl (fun ls hl => ?_)
    refine lv_iload_n hx hb dX9_charge_73 rfl (lv_at hl 2 rfl) ?_
    refine lv_bipush (v := 6) hx hb dX9_charge_74 (by decide) ?_
    refine lv_icmp_ne (tgt := 94) hx hb dX9_charge_76 (by decide) (fun c76 => ?_) (fun c76 => absurd c76 ((by decide)))
    refine lv_iload_n hx hb dX9_charge_94 rfl (lv_at hl 2 rfl) ?_
    refine lv_iconst (v := 4) hx hb dX9_charge_95 (by decide) ?_
    refine lv_icmp_ne (tgt := 115) hx hb dX9_charge_96 (by decide) (fun c96 => ?_) (fun c96 => absurd c96 ((by decide)))
    refine lv_iload_n hx hb dX9_charge_115 rfl (lv_at hl 2 rfl) ?_
    refine lv_iconst (v := 2) hx hb dX9_charge_116 (by decide) ?_
    refine lv_iconst (v := 3) hx hb dX9_charge_117 (by decide) ?_
    refine hs_calli0 (w1 := (mW o ad cd tn td cs hd kd rt vl hr hw cu si acc (bdT 1 st))) (hs_runS SF cal_X9_in tw_570 (c_X9_in l D o ad cd tn td cs hd kd rt vl hr hw cu si acc (bdT 1 st) 5 2 3) hK hP hD ⟨Nat.le_of_ble_eq_true rfl, Nat.le_of_ble_eq_true rfl⟩ rfl hl.1 rfl (Nat.le_of_ble_eq_true rfl) dX9_charge_118 ⟨Nat.le_of_ble_eq_true rfl, Nat.le_of_ble_eq_true rfl⟩) hD hS hA (fun H locs hP hD hS => ?_)
    refine lv_if_eq (tgt := 133) hx hb dX9_charge_121 (by decide) (fun c121 => ?_) (fun c121 => absurd c121 ((by decide)))
    refine lv_iload hx hb dX9_charge_133 (lv_at hl 1 rfl) ?_
    exact hs_iret hx hb hrt hlocks hK hP hD hS dX9_charge_135 (by first | rfl | (unfold chF; first | (rw [if_neg (fun q => (hdk.mp q) c60)]; rfl) | (rw [if_pos (hdk.mpr c60)]; rfl))) (by first | (simp only [bds, chN, List.foldl_cons, List.foldl_nil]; done) | rfl)

set_option maxHeartbeats 400000 in
set_option maxRecDepth 100000 in
theorem c_X9_charge_6 (l : Launch) (D : va_G) (o : Nat) (ad : Nat → Nat) (cd : Nat → ClassId) (tn td cs hd : Int32) (kd rt vl hr hw cu si : Nat → Int32) (acc : Nat → Int64) (st : TS) (t : Int32) (ht : vp_in t 24) (hkd : kd t.toNatClampNeg = nI 6) (hok : okM 3 st) (d : Int32) (hdk : dOk d) : CM l D yX9_charge cX9_charge 6 (some .int) { frames := 1, cells := 0, slots := 0, locals := 22 } (tyM cd) [.ref o, .int t, .int d] (mW o ad cd tn td cs hd kd rt vl hr hw cu si acc st) (hs_QI D (tyM cd) (chF 6 (rt t.toNatClampNeg) (vl t.toNatClampNeg) d) (mW o ad cd tn td cs hd kd rt vl hr hw cu si acc (bds (chN 6) st))) := by
  refine CM.of (by decide) (Nat.le_of_ble_eq_true rfl) ?_
  intro p e s m below meth c A ls hx hb hrt hml htg hown hlocks hnm hA hK hP hD hS hl
  have hown : s.vm.findClass RX9 = some m.cls := hown
  have hl : lv_has ls 6 [(0, .ref o), (1, .int t), (2, .int d)] := hl
  have SF : CallFix p m c cX9_charge 6 s _ hs_gt RX9 := ⟨hx, hb, hml, hown, htg⟩
  have hkd : kd t.toNatClampNeg = 6 := hkd
  refine lv_aload_n hx hb dX9_charge_0 rfl (lv_at hl 0 rfl) ?_
  refine va_get (D := D) (ci := 9) (v := .ref (ad 1)) (C := RX9) (T := TX9) (N := 15) hx hb htg in_X9 hown hK hP 0 rfl rfl 1 (by decide) (htg _ tw_521) (fun _ h9 => h9) rfl dX9_charge_1 ?_
  refine lv_iload_n hx hb dX9_charge_4 rfl (lv_at hl 1 rfl) ?_
  refine va_iald hx hb hK hP 1 0 rfl rfl (ht) dX9_charge_5 ?_
  rw [hkd]
  refine lv_istore_n (lv' := [(3, .int 6), (0, .ref o), (1, .int t), (2, .int d)]) hx hb dX9_charge_6 rfl hl (by decide) rfl (fun ls hl => ?_)
  refine lv_aload_n hx hb dX9_charge_7 rfl (lv_at hl 1 rfl) ?_
  refine va_get (D := D) (ci := 9) (v := .ref (ad 2)) (C := RX9) (T := TX9) (N := 15) hx hb htg in_X9 hown hK hP 0 rfl rfl 2 (by decide) (htg _ tw_522) (fun _ h9 => h9) rfl dX9_charge_8 ?_
  refine lv_iload_n hx hb dX9_charge_11 rfl (lv_at hl 2 rfl) ?_
  refine va_iald hx hb hK hP 2 1 rfl rfl (ht) dX9_charge_12 ?_
  refine lv_iload_n hx hb dX9_charge_13 rfl (lv_at hl 3 rfl) ?_
  refine lv_imul hx hb dX9_charge_14 ?_
  refine lv_istore (lv' := [(4, .int ((rt t.toNatClampNeg) * d)), (3, .int 6), (0, .ref o), (1, .int t), (2, .int d)]) hx hb dX9_charge_15 hl (by decide) rfl (fun ls hl => ?_)
  refine lv_iload_n hx hb dX9_charge_17 rfl (lv_at hl 1 rfl) ?_
  refine lv_iconst (v := 4) hx hb dX9_charge_18 (by decide) ?_
  refine lv_icmp_ne (tgt := 27) hx hb dX9_charge_19 (by decide) (fun c19 => ?_) (fun c19 => absurd c19 ((by decide)))
  refine lv_iload_n hx hb dX9_charge_27 rfl (lv_at hl 1 rfl) ?_
  refine lv_iconst (v := 2) hx hb dX9_charge_28 (by decide) ?_
  refine lv_iconst (v := 4) hx hb dX9_charge_29 (by decide) ?_
  refine hs_calli0 (w1 := (mW o ad cd tn td cs hd kd rt vl hr hw cu si acc st)) (hs_runS SF cal_X9_in tw_570 (c_X9_in l D o ad cd tn td cs hd kd rt vl hr hw cu si acc st 6 2 4) hK hP hD ⟨Nat.le_of_ble_eq_true rfl, Nat.le_of_ble_eq_true rfl⟩ rfl hl.1 rfl (Nat.le_of_ble_eq_true rfl) dX9_charge_30 ⟨Nat.le_of_ble_eq_true rfl, Nat.le_of_ble_eq_true rfl⟩) hD hS hA (fun H locs hP hD hS => ?_)
  refine lv_if_eq (tgt := 41) hx hb dX9_charge_33 (by decide) (fun c33 => ?_) (fun c33 => absurd c33 ((by decide)))
  refine lv_iload_n hx hb dX9_charge_41 rfl (lv_at hl 1 rfl) ?_
  refine lv_bipush (v := 6) hx hb dX9_charge_42 (by decide) ?_
  refine lv_icmp_ne (tgt := 52) hx hb dX9_charge_44 (by decide) (fun c44 => absurd c44 ((by decide))) (fun c44 => ?_)
  refine lv_aload_n hx hb dX9_charge_47 rfl (lv_at hl 2 rfl) ?_
  refine lv_iconst (v := 4) hx hb dX9_charge_48 (by decide) ?_
  refine hs_callv0 (w1 := (mW o ad cd tn td cs hd kd rt vl hr hw cu si acc (bdT 4 st))) (hs_runV (q0 := 0) SF cal_X9_body tw_598 (c_X9_body l D o ad cd tn td cs hd kd rt vl hr hw cu si acc st (okM_mono hok (by decide)) 4) hK hP hD rfl rfl ⟨Nat.le_of_ble_eq_true rfl, Nat.le_of_ble_eq_true rfl⟩ rfl hl.1 rfl (Nat.le_of_ble_eq_true rfl) dX9_charge_49 ⟨Nat.le_of_ble_eq_true rfl, Nat.le_of_ble_eq_true rfl⟩) hD hS hA (fun H locs hP hD hS => ?_)
  refine lv_aload_n hx hb dX9_charge_52 rfl (lv_at hl 2 rfl) ?_
  refine lv_iconst (v := 1) hx hb dX9_charge_53 (by decide) ?_
  refine hs_callv0 (w1 := (mW o ad cd tn td cs hd kd rt vl hr hw cu si acc (bdT 1 (bdT 4 st)))) (hs_runV (q0 := 0) SF cal_X9_body tw_598 (c_X9_body l D o ad cd tn td cs hd kd rt vl hr hw cu si acc (bdT 4 st) (okM_mono (okM_bd 4 hok) (by decide)) 1) hK hP hD rfl rfl ⟨Nat.le_of_ble_eq_true rfl, Nat.le_of_ble_eq_true rfl⟩ rfl hl.1 rfl (Nat.le_of_ble_eq_true rfl) dX9_charge_54 ⟨Nat.le_of_ble_eq_true rfl, Nat.le_of_ble_eq_true rfl⟩) hD hS hA (fun H locs hP hD hS => ?_)
  refine lv_iload_n hx hb dX9_charge_57 rfl (lv_at hl 4 rfl) ?_
  refine lv_bipush (v := 7) hx hb dX9_charge_58 (by decide) ?_
  refine lv_icmp_le (tgt := 70) hx hb dX9_charge_60 (by decide) (fun c60 => ?_) (fun c60 => ?_)
  · refine lv_iconst (v := 0) hx hb dX9_charge_70 (by decide) ?_
    refine lv_istore (lv' := [(5, .int 0), (4, .int ((rt t.toNatClampNeg) * d)), (3, .int 6), (0, .ref o), (1, .int t), (2, .int d)]) hx hb dX9_charge_71 hl (by decide) rfl (fun ls hl => ?_)
    refine lv_iload_n hx hb dX9_charge_73 rfl (lv_at hl 2 rfl) ?_
    refine lv_bipush (v := 6) hx hb dX9_charge_74 (by decide) ?_
    refine lv_icmp_ne (tgt := 94) hx hb dX9_charge_76 (by decide) (fun c76 => absurd c76 ((by decide))) (fun c76 => ?_)
    refine lv_iload hx hb dX9_charge_79 (lv_at hl 1 rfl) ?_
    refine lv_aload_n hx hb dX9_charge_81 rfl (lv_at hl 3 rfl) ?_
    refine va_get (D := D) (ci := 9) (v := .ref (ad 3)) (C := RX9) (T := TX9) (N := 15) hx hb htg in_X9 hown hK hP 0 rfl rfl 3 (by decide) (htg _ tw_523) (fun _ h9 => h9) rfl dX9_charge_82 ?_
    refine lv_iload_n hx hb dX9_charge_85 rfl (lv_at hl 4 rfl) ?_
    refine va_iald hx hb hK hP 3 2 rfl rfl (ht) dX9_charge_86 ?_
    refine lv_bipush (v := 100) hx hb dX9_charge_87 (by decide) ?_
    refine lv_idiv hx hb dX9_charge_89 (by decide) ?_
    refine lv_iadd hx hb dX9_charge_90 ?_
    refine lv_goto (tgt := 135) hx hb dX9_charge_91 (by decide) ?_
    exact hs_iret hx hb hrt hlocks hK hP hD hS dX9_charge_135 (by first | rfl | (unfold chF; first | (rw [if_neg (fun q => (hdk.mp q) c60)]; rfl) | (rw [if_pos (hdk.mpr c60)]; rfl))) (by first | (simp only [bds, chN, List.foldl_cons, List.foldl_nil]; done) | rfl)
  · refine lv_iload_n hx hb dX9_charge_63 rfl (lv_at hl 4 rfl) ?_
    refine lv_bipush (v := 7) hx hb dX9_charge_64 (by decide) ?_
    refine lv_isub hx hb dX9_charge_66 ?_
    refine lv_goto (tgt := 71) hx hb dX9_charge_67 (by decide) ?_
    refine lv_istore (lv' := [(5, .int (d - 7)), (4, .int ((rt t.toNatClampNeg) * d)), (3, .int 6), (0, .ref o), (1, .int t), (2, .int d)]) hx hb dX9_charge_71 hl (by decide) rfl (fun ls hl => ?_)
    refine lv_iload_n hx hb dX9_charge_73 rfl (lv_at hl 2 rfl) ?_
    refine lv_bipush (v := 6) hx hb dX9_charge_74 (by decide) ?_
    refine lv_icmp_ne (tgt := 94) hx hb dX9_charge_76 (by decide) (fun c76 => absurd c76 ((by decide))) (fun c76 => ?_)
    refine lv_iload hx hb dX9_charge_79 (lv_at hl 1 rfl) ?_
    refine lv_aload_n hx hb dX9_charge_81 rfl (lv_at hl 3 rfl) ?_
    refine va_get (D := D) (ci := 9) (v := .ref (ad 3)) (C := RX9) (T := TX9) (N := 15) hx hb htg in_X9 hown hK hP 0 rfl rfl 3 (by decide) (htg _ tw_523) (fun _ h9 => h9) rfl dX9_charge_82 ?_
    refine lv_iload_n hx hb dX9_charge_85 rfl (lv_at hl 4 rfl) ?_
    refine va_iald hx hb hK hP 3 2 rfl rfl (ht) dX9_charge_86 ?_
    refine lv_bipush (v := 100) hx hb dX9_charge_87 (by decide) ?_
    refine lv_idiv hx hb dX9_charge_89 (by decide) ?_
    refine lv_iadd hx hb dX9_charge_90 ?_
    refine lv_goto (tgt := 135) hx hb dX9_charge_91 (by decide) ?_
    exact hs_iret hx hb hrt hlocks hK hP hD hS dX9_charge_135 (by first | rfl | (unfold chF; first | (rw [if_neg (fun q => (hdk.mp q) c60)]; rfl) | (rw [if_pos (hdk.mpr c60)]; rfl))) (by first | (simp only [bds, chN, List.foldl_cons, List.foldl_nil]; done) | rfl)

theorem c_X9_charge (l : Launch) (D : va_G) (o : Nat) (ad : Nat → Nat) (cd : Nat → ClassId) (tn td cs hd : Int32) (kd rt vl hr hw cu si : Nat → Int32) (acc : Nat → Int64) (st : TS) (t : Int32) (ht : vp_in t 24) (k : Nat) (hk : k < 7) (hkd : kd t.toNatClampNeg = nI k) (hok : okM 3 st) (d : Int32) (hdk : dOk d) : CM l D yX9_charge cX9_charge 6 (some .int) { frames := 1, cells := 0, slots := 0, locals := 22 } (tyM cd) [.ref o, .int t, .int d] (mW o ad cd tn td cs hd kd rt vl hr hw cu si acc st) (hs_QI D (tyM cd) (chF k (rt t.toNatClampNeg) (vl t.toNatClampNeg) d) (mW o ad cd tn td cs hd kd rt vl hr hw cu si acc (bds (chN k) st))) := by
  match k, hk, hkd with
  | 0, _, hkd => exact c_X9_charge_0 l D o ad cd tn td cs hd kd rt vl hr hw cu si acc st t ht hkd hok d hdk
  | 1, _, hkd => exact c_X9_charge_1 l D o ad cd tn td cs hd kd rt vl hr hw cu si acc st t ht hkd hok d hdk
  | 2, _, hkd => exact c_X9_charge_2 l D o ad cd tn td cs hd kd rt vl hr hw cu si acc st t ht hkd hok d hdk
  | 3, _, hkd => exact c_X9_charge_3 l D o ad cd tn td cs hd kd rt vl hr hw cu si acc st t ht hkd hok d hdk
  | 4, _, hkd => exact c_X9_charge_4 l D o ad cd tn td cs hd kd rt vl hr hw cu si acc st t ht hkd hok d hdk
  | 5, _, hkd => exact c_X9_charge_5 l D o ad cd tn td cs hd kd rt vl hr hw cu si acc st t ht hkd hok d hdk
  | 6, _, hkd => exact c_X9_charge_6 l D o ad cd tn td cs hd kd rt vl hr hw cu si acc st t ht hkd hok d hdk
  | k + 7, hk, _ => exact absurd hk (by omega)

theorem cal_X9_charge : hs_cV yX9_charge cX9_charge 6 (some .int) 2 := ⟨tw_597, tw_596, tw_8, tw_19, by decide +kernel⟩

set_option maxHeartbeats 400000 in
set_option maxRecDepth 100000 in
theorem c_X9_wear_0 (l : Launch) (D : va_G) (o : Nat) (ad : Nat → Nat) (cd : Nat → ClassId) (tn td cs hd : Int32) (kd rt vl hr hw cu si : Nat → Int32) (acc : Nat → Int64) (st : TS) (t : Int32) (ht : vp_in t 24) (hkd : kd t.toNatClampNeg = nI 0) (hok : okM 2 st) (x : Int32) (hhr : hr t.toNatClampNeg = x) (d : Int32) : CM l D yX9_wear cX9_wear 4 (some .int) { frames := 1, cells := 0, slots := 0, locals := 21 } (tyM cd) [.ref o, .int t, .int d] (mW o ad cd tn td cs hd kd rt vl hr hw cu si acc st) (hs_QI D (tyM cd) (weF 0 x d) (mW o ad cd tn td cs hd kd rt vl hr hw cu si acc (bds (weN 0) st))) := by
  refine CM.of (by decide) (Nat.le_of_ble_eq_true rfl) ?_
  intro p e s m below meth c A ls hx hb hrt hml htg hown hlocks hnm hA hK hP hD hS hl
  have hown : s.vm.findClass RX9 = some m.cls := hown
  have hl : lv_has ls 4 [(0, .ref o), (1, .int t), (2, .int d)] := hl
  have SF : CallFix p m c cX9_wear 4 s _ hs_gt RX9 := ⟨hx, hb, hml, hown, htg⟩
  have hkd : kd t.toNatClampNeg = 0 := hkd
  refine lv_aload_n hx hb dX9_wear_0 rfl (lv_at hl 0 rfl) ?_
  refine va_get (D := D) (ci := 9) (v := .ref (ad 1)) (C := RX9) (T := TX9) (N := 15) hx hb htg in_X9 hown hK hP 0 rfl rfl 1 (by decide) (htg _ tw_521) (fun _ h9 => h9) rfl dX9_wear_1 ?_
  refine lv_iload_n hx hb dX9_wear_4 rfl (lv_at hl 1 rfl) ?_
  refine va_iald hx hb hK hP 1 0 rfl rfl (ht) dX9_wear_5 ?_
  rw [hkd]
  refine lv_istore_n (lv' := [(3, .int 0), (0, .ref o), (1, .int t), (2, .int d)]) hx hb dX9_wear_6 rfl hl (by decide) rfl (fun ls hl => ?_)
  refine lv_iload_n hx hb dX9_wear_7 rfl (lv_at hl 0 rfl) ?_
  refine lv_iconst (v := 4) hx hb dX9_wear_8 (by decide) ?_
  refine lv_icmp_ne (tgt := 18) hx hb dX9_wear_9 (by decide) (fun c9 => ?_) (fun c9 => absurd c9 ((by decide)))
  refine lv_iload_n hx hb dX9_wear_18 rfl (lv_at hl 0 rfl) ?_
  refine lv_iconst (v := 5) hx hb dX9_wear_19 (by decide) ?_
  refine lv_icmp_lt (tgt := 29) hx hb dX9_wear_20 (by decide) (fun c20 => ?_) (fun c20 => absurd c20 ((by decide)))
  refine lv_aload_n hx hb dX9_wear_29 rfl (lv_at hl 1 rfl) ?_
  refine lv_bipush (v := 11) hx hb dX9_wear_30 (by decide) ?_
  refine hs_callv0 (w1 := (mW o ad cd tn td cs hd kd rt vl hr hw cu si acc (bdT 11 st))) (hs_runV (q0 := 0) SF cal_X9_body tw_598 (c_X9_body l D o ad cd tn td cs hd kd rt vl hr hw cu si acc st (okM_mono hok (by decide)) 11) hK hP hD rfl rfl ⟨Nat.le_of_ble_eq_true rfl, Nat.le_of_ble_eq_true rfl⟩ rfl hl.1 rfl (Nat.le_of_ble_eq_true rfl) dX9_wear_32 ⟨Nat.le_of_ble_eq_true rfl, Nat.le_of_ble_eq_true rfl⟩) hD hS hA (fun H locs hP hD hS => ?_)
  refine lv_iload_n hx hb dX9_wear_35 rfl (lv_at hl 0 rfl) ?_
  refine lv_iconst (v := 4) hx hb dX9_wear_36 (by decide) ?_
  refine lv_icmp_ne (tgt := 54) hx hb dX9_wear_37 (by decide) (fun c37 => ?_) (fun c37 => absurd c37 ((by decide)))
  refine lv_iload_n hx hb dX9_wear_54 rfl (lv_at hl 0 rfl) ?_
  refine lv_iconst (v := 5) hx hb dX9_wear_55 (by decide) ?_
  refine lv_icmp_lt (tgt := 65) hx hb dX9_wear_56 (by decide) (fun c56 => ?_) (fun c56 => absurd c56 ((by decide)))
  refine lv_iload_n hx hb dX9_wear_65 rfl (lv_at hl 3 rfl) ?_
  exact hs_iret hx hb hrt hlocks hK hP hD hS dX9_wear_66 (rfl) (by first | (simp only [bds, weN, List.foldl_cons, List.foldl_nil]; done) | rfl)

set_option maxHeartbeats 400000 in
set_option maxRecDepth 100000 in
theorem c_X9_wear_1 (l : Launch) (D : va_G) (o : Nat) (ad : Nat → Nat) (cd : Nat → ClassId) (tn td cs hd : Int32) (kd rt vl hr hw cu si : Nat → Int32) (acc : Nat → Int64) (st : TS) (t : Int32) (ht : vp_in t 24) (hkd : kd t.toNatClampNeg = nI 1) (hok : okM 2 st) (x : Int32) (hhr : hr t.toNatClampNeg = x) (d : Int32) : CM l D yX9_wear cX9_wear 4 (some .int) { frames := 1, cells := 0, slots := 0, locals := 21 } (tyM cd) [.ref o, .int t, .int d] (mW o ad cd tn td cs hd kd rt vl hr hw cu si acc st) (hs_QI D (tyM cd) (weF 1 x d) (mW o ad cd tn td cs hd kd rt vl hr hw cu si acc (bds (weN 1) st))) := by
  refine CM.of (by decide) (Nat.le_of_ble_eq_true rfl) ?_
  intro p e s m below meth c A ls hx hb hrt hml htg hown hlocks hnm hA hK hP hD hS hl
  have hown : s.vm.findClass RX9 = some m.cls := hown
  have hl : lv_has ls 4 [(0, .ref o), (1, .int t), (2, .int d)] := hl
  have SF : CallFix p m c cX9_wear 4 s _ hs_gt RX9 := ⟨hx, hb, hml, hown, htg⟩
  have hkd : kd t.toNatClampNeg = 1 := hkd
  refine lv_aload_n hx hb dX9_wear_0 rfl (lv_at hl 0 rfl) ?_
  refine va_get (D := D) (ci := 9) (v := .ref (ad 1)) (C := RX9) (T := TX9) (N := 15) hx hb htg in_X9 hown hK hP 0 rfl rfl 1 (by decide) (htg _ tw_521) (fun _ h9 => h9) rfl dX9_wear_1 ?_
  refine lv_iload_n hx hb dX9_wear_4 rfl (lv_at hl 1 rfl) ?_
  refine va_iald hx hb hK hP 1 0 rfl rfl (ht) dX9_wear_5 ?_
  rw [hkd]
  refine lv_istore_n (lv' := [(3, .int 1), (0, .ref o), (1, .int t), (2, .int d)]) hx hb dX9_wear_6 rfl hl (by decide) rfl (fun ls hl => ?_)
  refine lv_iload_n hx hb dX9_wear_7 rfl (lv_at hl 0 rfl) ?_
  refine lv_iconst (v := 4) hx hb dX9_wear_8 (by decide) ?_
  refine lv_icmp_ne (tgt := 18) hx hb dX9_wear_9 (by decide) (fun c9 => ?_) (fun c9 => absurd c9 ((by decide)))
  refine lv_iload_n hx hb dX9_wear_18 rfl (lv_at hl 0 rfl) ?_
  refine lv_iconst (v := 5) hx hb dX9_wear_19 (by decide) ?_
  refine lv_icmp_lt (tgt := 29) hx hb dX9_wear_20 (by decide) (fun c20 => ?_) (fun c20 => absurd c20 ((by decide)))
  refine lv_aload_n hx hb dX9_wear_29 rfl (lv_at hl 1 rfl) ?_
  refine lv_bipush (v := 11) hx hb dX9_wear_30 (by decide) ?_
  refine hs_callv0 (w1 := (mW o ad cd tn td cs hd kd rt vl hr hw cu si acc (bdT 11 st))) (hs_runV (q0 := 0) SF cal_X9_body tw_598 (c_X9_body l D o ad cd tn td cs hd kd rt vl hr hw cu si acc st (okM_mono hok (by decide)) 11) hK hP hD rfl rfl ⟨Nat.le_of_ble_eq_true rfl, Nat.le_of_ble_eq_true rfl⟩ rfl hl.1 rfl (Nat.le_of_ble_eq_true rfl) dX9_wear_32 ⟨Nat.le_of_ble_eq_true rfl, Nat.le_of_ble_eq_true rfl⟩) hD hS hA (fun H locs hP hD hS => ?_)
  refine lv_iload_n hx hb dX9_wear_35 rfl (lv_at hl 0 rfl) ?_
  refine lv_iconst (v := 4) hx hb dX9_wear_36 (by decide) ?_
  refine lv_icmp_ne (tgt := 54) hx hb dX9_wear_37 (by decide) (fun c37 => ?_) (fun c37 => absurd c37 ((by decide)))
  refine lv_iload_n hx hb dX9_wear_54 rfl (lv_at hl 0 rfl) ?_
  refine lv_iconst (v := 5) hx hb dX9_wear_55 (by decide) ?_
  refine lv_icmp_lt (tgt := 65) hx hb dX9_wear_56 (by decide) (fun c56 => ?_) (fun c56 => absurd c56 ((by decide)))
  refine lv_iload_n hx hb dX9_wear_65 rfl (lv_at hl 3 rfl) ?_
  exact hs_iret hx hb hrt hlocks hK hP hD hS dX9_wear_66 (rfl) (by first | (simp only [bds, weN, List.foldl_cons, List.foldl_nil]; done) | rfl)

set_option maxHeartbeats 400000 in
set_option maxRecDepth 100000 in
theorem c_X9_wear_2 (l : Launch) (D : va_G) (o : Nat) (ad : Nat → Nat) (cd : Nat → ClassId) (tn td cs hd : Int32) (kd rt vl hr hw cu si : Nat → Int32) (acc : Nat → Int64) (st : TS) (t : Int32) (ht : vp_in t 24) (hkd : kd t.toNatClampNeg = nI 2) (hok : okM 2 st) (x : Int32) (hhr : hr t.toNatClampNeg = x) (d : Int32) : CM l D yX9_wear cX9_wear 4 (some .int) { frames := 1, cells := 0, slots := 0, locals := 21 } (tyM cd) [.ref o, .int t, .int d] (mW o ad cd tn td cs hd kd rt vl hr hw cu si acc st) (hs_QI D (tyM cd) (weF 2 x d) (mW o ad cd tn td cs hd kd rt vl hr hw cu si acc (bds (weN 2) st))) := by
  refine CM.of (by decide) (Nat.le_of_ble_eq_true rfl) ?_
  intro p e s m below meth c A ls hx hb hrt hml htg hown hlocks hnm hA hK hP hD hS hl
  have hown : s.vm.findClass RX9 = some m.cls := hown
  have hl : lv_has ls 4 [(0, .ref o), (1, .int t), (2, .int d)] := hl
  have SF : CallFix p m c cX9_wear 4 s _ hs_gt RX9 := ⟨hx, hb, hml, hown, htg⟩
  have hkd : kd t.toNatClampNeg = 2 := hkd
  refine lv_aload_n hx hb dX9_wear_0 rfl (lv_at hl 0 rfl) ?_
  refine va_get (D := D) (ci := 9) (v := .ref (ad 1)) (C := RX9) (T := TX9) (N := 15) hx hb htg in_X9 hown hK hP 0 rfl rfl 1 (by decide) (htg _ tw_521) (fun _ h9 => h9) rfl dX9_wear_1 ?_
  refine lv_iload_n hx hb dX9_wear_4 rfl (lv_at hl 1 rfl) ?_
  refine va_iald hx hb hK hP 1 0 rfl rfl (ht) dX9_wear_5 ?_
  rw [hkd]
  refine lv_istore_n (lv' := [(3, .int 2), (0, .ref o), (1, .int t), (2, .int d)]) hx hb dX9_wear_6 rfl hl (by decide) rfl (fun ls hl => ?_)
  refine lv_iload_n hx hb dX9_wear_7 rfl (lv_at hl 0 rfl) ?_
  refine lv_iconst (v := 4) hx hb dX9_wear_8 (by decide) ?_
  refine lv_icmp_ne (tgt := 18) hx hb dX9_wear_9 (by decide) (fun c9 => ?_) (fun c9 => absurd c9 ((by decide)))
  refine lv_iload_n hx hb dX9_wear_18 rfl (lv_at hl 0 rfl) ?_
  refine lv_iconst (v := 5) hx hb dX9_wear_19 (by decide) ?_
  refine lv_icmp_lt (tgt := 29) hx hb dX9_wear_20 (by decide) (fun c20 => ?_) (fun c20 => absurd c20 ((by decide)))
  refine lv_aload_n hx hb dX9_wear_29 rfl (lv_at hl 1 rfl) ?_
  refine lv_bipush (v := 11) hx hb dX9_wear_30 (by decide) ?_
  refine hs_callv0 (w1 := (mW o ad cd tn td cs hd kd rt vl hr hw cu si acc (bdT 11 st))) (hs_runV (q0 := 0) SF cal_X9_body tw_598 (c_X9_body l D o ad cd tn td cs hd kd rt vl hr hw cu si acc st (okM_mono hok (by decide)) 11) hK hP hD rfl rfl ⟨Nat.le_of_ble_eq_true rfl, Nat.le_of_ble_eq_true rfl⟩ rfl hl.1 rfl (Nat.le_of_ble_eq_true rfl) dX9_wear_32 ⟨Nat.le_of_ble_eq_true rfl, Nat.le_of_ble_eq_true rfl⟩) hD hS hA (fun H locs hP hD hS => ?_)
  refine lv_iload_n hx hb dX9_wear_35 rfl (lv_at hl 0 rfl) ?_
  refine lv_iconst (v := 4) hx hb dX9_wear_36 (by decide) ?_
  refine lv_icmp_ne (tgt := 54) hx hb dX9_wear_37 (by decide) (fun c37 => ?_) (fun c37 => absurd c37 ((by decide)))
  refine lv_iload_n hx hb dX9_wear_54 rfl (lv_at hl 0 rfl) ?_
  refine lv_iconst (v := 5) hx hb dX9_wear_55 (by decide) ?_
  refine lv_icmp_lt (tgt := 65) hx hb dX9_wear_56 (by decide) (fun c56 => ?_) (fun c56 => absurd c56 ((by decide)))
  refine lv_iload_n hx hb dX9_wear_65 rfl (lv_at hl 3 rfl) ?_
  exact hs_iret hx hb hrt hlocks hK hP hD hS dX9_wear_66 (rfl) (by first | (simp only [bds, weN, List.foldl_cons, List.foldl_nil]; done) | rfl)

set_option maxHeartbeats 400000 in
set_option maxRecDepth 100000 in
theorem c_X9_wear_3 (l : Launch) (D : va_G) (o : Nat) (ad : Nat → Nat) (cd : Nat → ClassId) (tn td cs hd : Int32) (kd rt vl hr hw cu si : Nat → Int32) (acc : Nat → Int64) (st : TS) (t : Int32) (ht : vp_in t 24) (hkd : kd t.toNatClampNeg = nI 3) (hok : okM 2 st) (x : Int32) (hhr : hr t.toNatClampNeg = x) (d : Int32) : CM l D yX9_wear cX9_wear 4 (some .int) { frames := 1, cells := 0, slots := 0, locals := 21 } (tyM cd) [.ref o, .int t, .int d] (mW o ad cd tn td cs hd kd rt vl hr hw cu si acc st) (hs_QI D (tyM cd) (weF 3 x d) (mW o ad cd tn td cs hd kd rt vl hr hw cu si acc (bds (weN 3) st))) := by
  refine CM.of (by decide) (Nat.le_of_ble_eq_true rfl) ?_
  intro p e s m below meth c A ls hx hb hrt hml htg hown hlocks hnm hA hK hP hD hS hl
  have hown : s.vm.findClass RX9 = some m.cls := hown
  have hl : lv_has ls 4 [(0, .ref o), (1, .int t), (2, .int d)] := hl
  have SF : CallFix p m c cX9_wear 4 s _ hs_gt RX9 := ⟨hx, hb, hml, hown, htg⟩
  have hkd : kd t.toNatClampNeg = 3 := hkd
  refine lv_aload_n hx hb dX9_wear_0 rfl (lv_at hl 0 rfl) ?_
  refine va_get (D := D) (ci := 9) (v := .ref (ad 1)) (C := RX9) (T := TX9) (N := 15) hx hb htg in_X9 hown hK hP 0 rfl rfl 1 (by decide) (htg _ tw_521) (fun _ h9 => h9) rfl dX9_wear_1 ?_
  refine lv_iload_n hx hb dX9_wear_4 rfl (lv_at hl 1 rfl) ?_
  refine va_iald hx hb hK hP 1 0 rfl rfl (ht) dX9_wear_5 ?_
  rw [hkd]
  refine lv_istore_n (lv' := [(3, .int 3), (0, .ref o), (1, .int t), (2, .int d)]) hx hb dX9_wear_6 rfl hl (by decide) rfl (fun ls hl => ?_)
  refine lv_iload_n hx hb dX9_wear_7 rfl (lv_at hl 0 rfl) ?_
  refine lv_iconst (v := 4) hx hb dX9_wear_8 (by decide) ?_
  refine lv_icmp_ne (tgt := 18) hx hb dX9_wear_9 (by decide) (fun c9 => ?_) (fun c9 => absurd c9 ((by decide)))
  refine lv_iload_n hx hb dX9_wear_18 rfl (lv_at hl 0 rfl) ?_
  refine lv_iconst (v := 5) hx hb dX9_wear_19 (by decide) ?_
  refine lv_icmp_lt (tgt := 29) hx hb dX9_wear_20 (by decide) (fun c20 => ?_) (fun c20 => absurd c20 ((by decide)))
  refine lv_aload_n hx hb dX9_wear_29 rfl (lv_at hl 1 rfl) ?_
  refine lv_bipush (v := 11) hx hb dX9_wear_30 (by decide) ?_
  refine hs_callv0 (w1 := (mW o ad cd tn td cs hd kd rt vl hr hw cu si acc (bdT 11 st))) (hs_runV (q0 := 0) SF cal_X9_body tw_598 (c_X9_body l D o ad cd tn td cs hd kd rt vl hr hw cu si acc st (okM_mono hok (by decide)) 11) hK hP hD rfl rfl ⟨Nat.le_of_ble_eq_true rfl, Nat.le_of_ble_eq_true rfl⟩ rfl hl.1 rfl (Nat.le_of_ble_eq_true rfl) dX9_wear_32 ⟨Nat.le_of_ble_eq_true rfl, Nat.le_of_ble_eq_true rfl⟩) hD hS hA (fun H locs hP hD hS => ?_)
  refine lv_iload_n hx hb dX9_wear_35 rfl (lv_at hl 0 rfl) ?_
  refine lv_iconst (v := 4) hx hb dX9_wear_36 (by decide) ?_
  refine lv_icmp_ne (tgt := 54) hx hb dX9_wear_37 (by decide) (fun c37 => ?_) (fun c37 => absurd c37 ((by decide)))
  refine lv_iload_n hx hb dX9_wear_54 rfl (lv_at hl 0 rfl) ?_
  refine lv_iconst (v := 5) hx hb dX9_wear_55 (by decide) ?_
  refine lv_icmp_lt (tgt := 65) hx hb dX9_wear_56 (by decide) (fun c56 => ?_) (fun c56 => absurd c56 ((by decide)))
  refine lv_iload_n hx hb dX9_wear_65 rfl (lv_at hl 3 rfl) ?_
  exact hs_iret hx hb hrt hlocks hK hP hD hS dX9_wear_66 (rfl) (by first | (simp only [bds, weN, List.foldl_cons, List.foldl_nil]; done) | rfl)

set_option maxHeartbeats 400000 in
set_option maxRecDepth 100000 in
theorem c_X9_wear_4 (l : Launch) (D : va_G) (o : Nat) (ad : Nat → Nat) (cd : Nat → ClassId) (tn td cs hd : Int32) (kd rt vl hr hw cu si : Nat → Int32) (acc : Nat → Int64) (st : TS) (t : Int32) (ht : vp_in t 24) (hkd : kd t.toNatClampNeg = nI 4) (hok : okM 2 st) (x : Int32) (hhr : hr t.toNatClampNeg = x) (d : Int32) : CM l D yX9_wear cX9_wear 4 (some .int) { frames := 1, cells := 0, slots := 0, locals := 21 } (tyM cd) [.ref o, .int t, .int d] (mW o ad cd tn td cs hd kd rt vl hr hw cu si acc st) (hs_QI D (tyM cd) (weF 4 x d) (mW o ad cd tn td cs hd kd rt vl hr hw cu si acc (bds (weN 4) st))) := by
  refine CM.of (by decide) (Nat.le_of_ble_eq_true rfl) ?_
  intro p e s m below meth c A ls hx hb hrt hml htg hown hlocks hnm hA hK hP hD hS hl
  have hown : s.vm.findClass RX9 = some m.cls := hown
  have hl : lv_has ls 4 [(0, .ref o), (1, .int t), (2, .int d)] := hl
  have SF : CallFix p m c cX9_wear 4 s _ hs_gt RX9 := ⟨hx, hb, hml, hown, htg⟩
  have hkd : kd t.toNatClampNeg = 4 := hkd
  refine lv_aload_n hx hb dX9_wear_0 rfl (lv_at hl 0 rfl) ?_
  refine va_get (D := D) (ci := 9) (v := .ref (ad 1)) (C := RX9) (T := TX9) (N := 15) hx hb htg in_X9 hown hK hP 0 rfl rfl 1 (by decide) (htg _ tw_521) (fun _ h9 => h9) rfl dX9_wear_1 ?_
  refine lv_iload_n hx hb dX9_wear_4 rfl (lv_at hl 1 rfl) ?_
  refine va_iald hx hb hK hP 1 0 rfl rfl (ht) dX9_wear_5 ?_
  rw [hkd]
  refine lv_istore_n (lv' := [(3, .int 4), (0, .ref o), (1, .int t), (2, .int d)]) hx hb dX9_wear_6 rfl hl (by decide) rfl (fun ls hl => ?_)
  refine lv_iload_n hx hb dX9_wear_7 rfl (lv_at hl 0 rfl) ?_
  refine lv_iconst (v := 4) hx hb dX9_wear_8 (by decide) ?_
  refine lv_icmp_ne (tgt := 18) hx hb dX9_wear_9 (by decide) (fun c9 => absurd c9 ((by decide))) (fun c9 => ?_)
  refine lv_aload_n hx hb dX9_wear_12 rfl (lv_at hl 1 rfl) ?_
  refine lv_bipush (v := 12) hx hb dX9_wear_13 (by decide) ?_
  refine hs_callv0 (w1 := (mW o ad cd tn td cs hd kd rt vl hr hw cu si acc (bdT 12 st))) (hs_runV (q0 := 0) SF cal_X9_body tw_598 (c_X9_body l D o ad cd tn td cs hd kd rt vl hr hw cu si acc st (okM_mono hok (by decide)) 12) hK hP hD rfl rfl ⟨Nat.le_of_ble_eq_true rfl, Nat.le_of_ble_eq_true rfl⟩ rfl hl.1 rfl (Nat.le_of_ble_eq_true rfl) dX9_wear_15 ⟨Nat.le_of_ble_eq_true rfl, Nat.le_of_ble_eq_true rfl⟩) hD hS hA (fun H locs hP hD hS => ?_)
  refine lv_iload_n hx hb dX9_wear_18 rfl (lv_at hl 0 rfl) ?_
  refine lv_iconst (v := 5) hx hb dX9_wear_19 (by decide) ?_
  refine lv_icmp_lt (tgt := 29) hx hb dX9_wear_20 (by decide) (fun c20 => ?_) (fun c20 => absurd c20 ((by decide)))
  refine lv_aload_n hx hb dX9_wear_29 rfl (lv_at hl 1 rfl) ?_
  refine lv_bipush (v := 11) hx hb dX9_wear_30 (by decide) ?_
  refine hs_callv0 (w1 := (mW o ad cd tn td cs hd kd rt vl hr hw cu si acc (bdT 11 (bdT 12 st)))) (hs_runV (q0 := 0) SF cal_X9_body tw_598 (c_X9_body l D o ad cd tn td cs hd kd rt vl hr hw cu si acc (bdT 12 st) (okM_bd 12 hok) 11) hK hP hD rfl rfl ⟨Nat.le_of_ble_eq_true rfl, Nat.le_of_ble_eq_true rfl⟩ rfl hl.1 rfl (Nat.le_of_ble_eq_true rfl) dX9_wear_32 ⟨Nat.le_of_ble_eq_true rfl, Nat.le_of_ble_eq_true rfl⟩) hD hS hA (fun H locs hP hD hS => ?_)
  refine lv_iload_n hx hb dX9_wear_35 rfl (lv_at hl 0 rfl) ?_
  refine lv_iconst (v := 4) hx hb dX9_wear_36 (by decide) ?_
  refine lv_icmp_ne (tgt := 54) hx hb dX9_wear_37 (by decide) (fun c37 => absurd c37 ((by decide))) (fun c37 => ?_)
  refine lv_iload_n hx hb dX9_wear_40 rfl (lv_at hl 3 rfl) ?_
  refine lv_aload_n hx hb dX9_wear_41 rfl (lv_at hl 1 rfl) ?_
  refine va_get (D := D) (ci := 9) (v := .ref (ad 4)) (C := RX9) (T := TX9) (N := 15) hx hb htg in_X9 hown hK hP 0 rfl rfl 4 (by decide) (htg _ tw_524) (fun _ h9 => h9) rfl dX9_wear_42 ?_
  refine lv_iload_n hx hb dX9_wear_45 rfl (lv_at hl 2 rfl) ?_
  refine va_iald hx hb hK hP 4 3 rfl rfl (ht) dX9_wear_46 ?_
  rw [hhr]
  refine lv_bipush (v := 10) hx hb dX9_wear_47 (by decide) ?_
  refine lv_idiv hx hb dX9_wear_49 (by decide) ?_
  refine lv_iadd hx hb dX9_wear_50 ?_
  refine lv_goto (tgt := 66) hx hb dX9_wear_51 (by decide) ?_
  exact hs_iret hx hb hrt hlocks hK hP hD hS dX9_wear_66 (rfl) (by first | (simp only [bds, weN, List.foldl_cons, List.foldl_nil]; done) | rfl)

set_option maxHeartbeats 400000 in
set_option maxRecDepth 100000 in
theorem c_X9_wear_5 (l : Launch) (D : va_G) (o : Nat) (ad : Nat → Nat) (cd : Nat → ClassId) (tn td cs hd : Int32) (kd rt vl hr hw cu si : Nat → Int32) (acc : Nat → Int64) (st : TS) (t : Int32) (ht : vp_in t 24) (hkd : kd t.toNatClampNeg = nI 5) (hok : okM 2 st) (x : Int32) (hhr : hr t.toNatClampNeg = x) (d : Int32) : CM l D yX9_wear cX9_wear 4 (some .int) { frames := 1, cells := 0, slots := 0, locals := 21 } (tyM cd) [.ref o, .int t, .int d] (mW o ad cd tn td cs hd kd rt vl hr hw cu si acc st) (hs_QI D (tyM cd) (weF 5 x d) (mW o ad cd tn td cs hd kd rt vl hr hw cu si acc (bds (weN 5) st))) := by
  refine CM.of (by decide) (Nat.le_of_ble_eq_true rfl) ?_
  intro p e s m below meth c A ls hx hb hrt hml htg hown hlocks hnm hA hK hP hD hS hl
  have hown : s.vm.findClass RX9 = some m.cls := hown
  have hl : lv_has ls 4 [(0, .ref o), (1, .int t), (2, .int d)] := hl
  have SF : CallFix p m c cX9_wear 4 s _ hs_gt RX9 := ⟨hx, hb, hml, hown, htg⟩
  have hkd : kd t.toNatClampNeg = 5 := hkd
  refine lv_aload_n hx hb dX9_wear_0 rfl (lv_at hl 0 rfl) ?_
  refine va_get (D := D) (ci := 9) (v := .ref (ad 1)) (C := RX9) (T := TX9) (N := 15) hx hb htg in_X9 hown hK hP 0 rfl rfl 1 (by decide) (htg _ tw_521) (fun _ h9 => h9) rfl dX9_wear_1 ?_
  refine lv_iload_n hx hb dX9_wear_4 rfl (lv_at hl 1 rfl) ?_
  refine va_iald hx hb hK hP 1 0 rfl rfl (ht) dX9_wear_5 ?_
  rw [hkd]
  refine lv_istore_n (lv' := [(3, .int 5), (0, .ref o), (1, .int t), (2, .int d)]) hx hb dX9_wear_6 rfl hl (by decide) rfl (fun ls hl => ?_)
  refine lv_iload_n hx hb dX9_wear_7 rfl (lv_at hl 0 rfl) ?_
  refine lv_iconst (v := 4) hx hb dX9_wear_8 (by decide) ?_
  refine lv_icmp_ne (tgt := 18) hx hb dX9_wear_9 (by decide) (fun c9 => ?_) (fun c9 => absurd c9 ((by decide)))
  refine lv_iload_n hx hb dX9_wear_18 rfl (lv_at hl 0 rfl) ?_
  refine lv_iconst (v := 5) hx hb dX9_wear_19 (by decide) ?_
  refine lv_icmp_lt (tgt := 29) hx hb dX9_wear_20 (by decide) (fun c20 => absurd c20 ((by decide))) (fun c20 => ?_)
  refine lv_aload_n hx hb dX9_wear_23 rfl (lv_at hl 1 rfl) ?_
  refine lv_bipush (v := 13) hx hb dX9_wear_24 (by decide) ?_
  refine hs_callv0 (w1 := (mW o ad cd tn td cs hd kd rt vl hr hw cu si acc (bdT 13 st))) (hs_runV (q0 := 0) SF cal_X9_body tw_598 (c_X9_body l D o ad cd tn td cs hd kd rt vl hr hw cu si acc st (okM_mono hok (by decide)) 13) hK hP hD rfl rfl ⟨Nat.le_of_ble_eq_true rfl, Nat.le_of_ble_eq_true rfl⟩ rfl hl.1 rfl (Nat.le_of_ble_eq_true rfl) dX9_wear_26 ⟨Nat.le_of_ble_eq_true rfl, Nat.le_of_ble_eq_true rfl⟩) hD hS hA (fun H locs hP hD hS => ?_)
  refine lv_aload_n hx hb dX9_wear_29 rfl (lv_at hl 1 rfl) ?_
  refine lv_bipush (v := 11) hx hb dX9_wear_30 (by decide) ?_
  refine hs_callv0 (w1 := (mW o ad cd tn td cs hd kd rt vl hr hw cu si acc (bdT 11 (bdT 13 st)))) (hs_runV (q0 := 0) SF cal_X9_body tw_598 (c_X9_body l D o ad cd tn td cs hd kd rt vl hr hw cu si acc (bdT 13 st) (okM_bd 13 hok) 11) hK hP hD rfl rfl ⟨Nat.le_of_ble_eq_true rfl, Nat.le_of_ble_eq_true rfl⟩ rfl hl.1 rfl (Nat.le_of_ble_eq_true rfl) dX9_wear_32 ⟨Nat.le_of_ble_eq_true rfl, Nat.le_of_ble_eq_true rfl⟩) hD hS hA (fun H locs hP hD hS => ?_)
  refine lv_iload_n hx hb dX9_wear_35 rfl (lv_at hl 0 rfl) ?_
  refine lv_iconst (v := 4) hx hb dX9_wear_36 (by decide) ?_
  refine lv_icmp_ne (tgt := 54) hx hb dX9_wear_37 (by decide) (fun c37 => ?_) (fun c37 => absurd c37 ((by decide)))
  refine lv_iload_n hx hb dX9_wear_54 rfl (lv_at hl 0 rfl) ?_
  refine lv_iconst (v := 5) hx hb dX9_wear_55 (by decide) ?_
  refine lv_icmp_lt (tgt := 65) hx hb dX9_wear_56 (by decide) (fun c56 => absurd c56 ((by decide))) (fun c56 => ?_)
  refine lv_iconst (v := 3) hx hb dX9_wear_59 (by decide) ?_
  refine lv_iload_n hx hb dX9_wear_60 rfl (lv_at hl 3 rfl) ?_
  refine lv_imul hx hb dX9_wear_61 ?_
  refine lv_goto (tgt := 66) hx hb dX9_wear_62 (by decide) ?_
  exact hs_iret hx hb hrt hlocks hK hP hD hS dX9_wear_66 (rfl) (by first | (simp only [bds, weN, List.foldl_cons, List.foldl_nil]; done) | rfl)

set_option maxHeartbeats 400000 in
set_option maxRecDepth 100000 in
theorem c_X9_wear_6 (l : Launch) (D : va_G) (o : Nat) (ad : Nat → Nat) (cd : Nat → ClassId) (tn td cs hd : Int32) (kd rt vl hr hw cu si : Nat → Int32) (acc : Nat → Int64) (st : TS) (t : Int32) (ht : vp_in t 24) (hkd : kd t.toNatClampNeg = nI 6) (hok : okM 2 st) (x : Int32) (hhr : hr t.toNatClampNeg = x) (d : Int32) : CM l D yX9_wear cX9_wear 4 (some .int) { frames := 1, cells := 0, slots := 0, locals := 21 } (tyM cd) [.ref o, .int t, .int d] (mW o ad cd tn td cs hd kd rt vl hr hw cu si acc st) (hs_QI D (tyM cd) (weF 6 x d) (mW o ad cd tn td cs hd kd rt vl hr hw cu si acc (bds (weN 6) st))) := by
  refine CM.of (by decide) (Nat.le_of_ble_eq_true rfl) ?_
  intro p e s m below meth c A ls hx hb hrt hml htg hown hlocks hnm hA hK hP hD hS hl
  have hown : s.vm.findClass RX9 = some m.cls := hown
  have hl : lv_has ls 4 [(0, .ref o), (1, .int t), (2, .int d)] := hl
  have SF : CallFix p m c cX9_wear 4 s _ hs_gt RX9 := ⟨hx, hb, hml, hown, htg⟩
  have hkd : kd t.toNatClampNeg = 6 := hkd
  refine lv_aload_n hx hb dX9_wear_0 rfl (lv_at hl 0 rfl) ?_
  refine va_get (D := D) (ci := 9) (v := .ref (ad 1)) (C := RX9) (T := TX9) (N := 15) hx hb htg in_X9 hown hK hP 0 rfl rfl 1 (by decide) (htg _ tw_521) (fun _ h9 => h9) rfl dX9_wear_1 ?_
  refine lv_iload_n hx hb dX9_wear_4 rfl (lv_at hl 1 rfl) ?_
  refine va_iald hx hb hK hP 1 0 rfl rfl (ht) dX9_wear_5 ?_
  rw [hkd]
  refine lv_istore_n (lv' := [(3, .int 6), (0, .ref o), (1, .int t), (2, .int d)]) hx hb dX9_wear_6 rfl hl (by decide) rfl (fun ls hl => ?_)
  refine lv_iload_n hx hb dX9_wear_7 rfl (lv_at hl 0 rfl) ?_
  refine lv_iconst (v := 4) hx hb dX9_wear_8 (by decide) ?_
  refine lv_icmp_ne (tgt := 18) hx hb dX9_wear_9 (by decide) (fun c9 => ?_) (fun c9 => absurd c9 ((by decide)))
  refine lv_iload_n hx hb dX9_wear_18 rfl (lv_at hl 0 rfl) ?_
  refine lv_iconst (v := 5) hx hb dX9_wear_19 (by decide) ?_
  refine lv_icmp_lt (tgt := 29) hx hb dX9_wear_20 (by decide) (fun c20 => absurd c20 ((by decide))) (fun c20 => ?_)
  refine lv_aload_n hx hb dX9_wear_23 rfl (lv_at hl 1 rfl) ?_
  refine lv_bipush (v := 13) hx hb dX9_wear_24 (by decide) ?_
  refine hs_callv0 (w1 := (mW o ad cd tn td cs hd kd rt vl hr hw cu si acc (bdT 13 st))) (hs_runV (q0 := 0) SF cal_X9_body tw_598 (c_X9_body l D o ad cd tn td cs hd kd rt vl hr hw cu si acc st (okM_mono hok (by decide)) 13) hK hP hD rfl rfl ⟨Nat.le_of_ble_eq_true rfl, Nat.le_of_ble_eq_true rfl⟩ rfl hl.1 rfl (Nat.le_of_ble_eq_true rfl) dX9_wear_26 ⟨Nat.le_of_ble_eq_true rfl, Nat.le_of_ble_eq_true rfl⟩) hD hS hA (fun H locs hP hD hS => ?_)
  refine lv_aload_n hx hb dX9_wear_29 rfl (lv_at hl 1 rfl) ?_
  refine lv_bipush (v := 11) hx hb dX9_wear_30 (by decide) ?_
  refine hs_callv0 (w1 := (mW o ad cd tn td cs hd kd rt vl hr hw cu si acc (bdT 11 (bdT 13 st)))) (hs_runV (q0 := 0) SF cal_X9_body tw_598 (c_X9_body l D o ad cd tn td cs hd kd rt vl hr hw cu si acc (bdT 13 st) (okM_bd 13 hok) 11) hK hP hD rfl rfl ⟨Nat.le_of_ble_eq_true rfl, Nat.le_of_ble_eq_true rfl⟩ rfl hl.1 rfl (Nat.le_of_ble_eq_true rfl) dX9_wear_32 ⟨Nat.le_of_ble_eq_true rfl, Nat.le_of_ble_eq_true rfl⟩) hD hS hA (fun H locs hP hD hS => ?_)
  refine lv_iload_n hx hb dX9_wear_35 rfl (lv_at hl 0 rfl) ?_
  refine lv_iconst (v := 4) hx hb dX9_wear_36 (by decide) ?_
  refine lv_icmp_ne (tgt := 54) hx hb dX9_wear_37 (by decide) (fun c37 => ?_) (fun c37 => absurd c37 ((by decide)))
  refine lv_iload_n hx hb dX9_wear_54 rfl (lv_at hl 0 rfl) ?_
  refine lv_iconst (v := 5) hx hb dX9_wear_55 (by decide) ?_
  refine lv_icmp_lt (tgt := 65) hx hb dX9_wear_56 (by decide) (fun c56 => absurd c56 ((by decide))) (fun c56 => ?_)
  refine lv_iconst (v := 3) hx hb dX9_wear_59 (by decide) ?_
  refine lv_iload_n hx hb dX9_wear_60 rfl (lv_at hl 3 rfl) ?_
  refine lv_imul hx hb dX9_wear_61 ?_
  refine lv_goto (tgt := 66) hx hb dX9_wear_62 (by decide) ?_
  exact hs_iret hx hb hrt hlocks hK hP hD hS dX9_wear_66 (rfl) (by first | (simp only [bds, weN, List.foldl_cons, List.foldl_nil]; done) | rfl)

theorem c_X9_wear (l : Launch) (D : va_G) (o : Nat) (ad : Nat → Nat) (cd : Nat → ClassId) (tn td cs hd : Int32) (kd rt vl hr hw cu si : Nat → Int32) (acc : Nat → Int64) (st : TS) (t : Int32) (ht : vp_in t 24) (k : Nat) (hk : k < 7) (hkd : kd t.toNatClampNeg = nI k) (hok : okM 2 st) (x : Int32) (hhr : hr t.toNatClampNeg = x) (d : Int32) : CM l D yX9_wear cX9_wear 4 (some .int) { frames := 1, cells := 0, slots := 0, locals := 21 } (tyM cd) [.ref o, .int t, .int d] (mW o ad cd tn td cs hd kd rt vl hr hw cu si acc st) (hs_QI D (tyM cd) (weF k x d) (mW o ad cd tn td cs hd kd rt vl hr hw cu si acc (bds (weN k) st))) := by
  match k, hk, hkd with
  | 0, _, hkd => exact c_X9_wear_0 l D o ad cd tn td cs hd kd rt vl hr hw cu si acc st t ht hkd hok x hhr d
  | 1, _, hkd => exact c_X9_wear_1 l D o ad cd tn td cs hd kd rt vl hr hw cu si acc st t ht hkd hok x hhr d
  | 2, _, hkd => exact c_X9_wear_2 l D o ad cd tn td cs hd kd rt vl hr hw cu si acc st t ht hkd hok x hhr d
  | 3, _, hkd => exact c_X9_wear_3 l D o ad cd tn td cs hd kd rt vl hr hw cu si acc st t ht hkd hok x hhr d
  | 4, _, hkd => exact c_X9_wear_4 l D o ad cd tn td cs hd kd rt vl hr hw cu si acc st t ht hkd hok x hhr d
  | 5, _, hkd => exact c_X9_wear_5 l D o ad cd tn td cs hd kd rt vl hr hw cu si acc st t ht hkd hok x hhr d
  | 6, _, hkd => exact c_X9_wear_6 l D o ad cd tn td cs hd kd rt vl hr hw cu si acc st t ht hkd hok x hhr d
  | k + 7, hk, _ => exact absurd hk (by omega)

theorem cal_X9_wear : hs_cV yX9_wear cX9_wear 4 (some .int) 2 := ⟨tw_605, tw_604, tw_10, tw_19, by decide +kernel⟩

set_option maxHeartbeats 400000 in
set_option maxRecDepth 100000 in
theorem c_X9_check_0 (l : Launch) (D : va_G) (o : Nat) (ad : Nat → Nat) (cd : Nat → ClassId) (tn td cs hd : Int32) (kd rt vl hr hw cu si : Nat → Int32) (acc : Nat → Int64) (st : TS) (t : Int32) (ht : vp_in t 24) (hkd : kd t.toNatClampNeg = nI 0) (hok : okM 3 st) (x : Int32) (hhr : hr t.toNatClampNeg = x) : CM l D yX9_check cX9_check 4 (some .int) { frames := 1, cells := 0, slots := 0, locals := 21 } (tyM cd) [.ref o, .int t] (mW o ad cd tn td cs hd kd rt vl hr hw cu si acc st) (hs_QI D (tyM cd) (ckF 0 x) (mW o ad cd tn td cs hd kd rt vl hr hw cu si acc (bds (ckN 0) st))) := by
  refine CM.of (by decide) (Nat.le_of_ble_eq_true rfl) ?_
  intro p e s m below meth c A ls hx hb hrt hml htg hown hlocks hnm hA hK hP hD hS hl
  have hown : s.vm.findClass RX9 = some m.cls := hown
  have hl : lv_has ls 4 [(0, .ref o), (1, .int t)] := hl
  have SF : CallFix p m c cX9_check 4 s _ hs_gt RX9 := ⟨hx, hb, hml, hown, htg⟩
  have hkd : kd t.toNatClampNeg = 0 := hkd
  refine lv_aload_n hx hb dX9_check_0 rfl (lv_at hl 0 rfl) ?_
  refine va_get (D := D) (ci := 9) (v := .ref (ad 1)) (C := RX9) (T := TX9) (N := 15) hx hb htg in_X9 hown hK hP 0 rfl rfl 1 (by decide) (htg _ tw_521) (fun _ h9 => h9) rfl dX9_check_1 ?_
  refine lv_iload_n hx hb dX9_check_4 rfl (lv_at hl 1 rfl) ?_
  refine va_iald hx hb hK hP 1 0 rfl rfl (ht) dX9_check_5 ?_
  rw [hkd]
  refine lv_istore_n (lv' := [(2, .int 0), (0, .ref o), (1, .int t)]) hx hb dX9_check_6 rfl hl (by decide) rfl (fun ls hl => ?_)
  refine lv_iconst (v := 0) hx hb dX9_check_7 (by decide) ?_
  refine lv_istore_n (lv' := [(3, .int 0), (2, .int 0), (0, .ref o), (1, .int t)]) hx hb dX9_check_8 rfl hl (by decide) rfl (fun ls hl => ?_)
  refine lv_iload_n hx hb dX9_check_9 rfl (lv_at hl 1 rfl) ?_
  refine lv_iconst (v := 3) hx hb dX9_check_10 (by decide) ?_
  refine lv_icmp_eq (tgt := 19) hx hb dX9_check_11 (by decide) (fun c11 => absurd c11 ((by decide))) (fun c11 => ?_)
  refine lv_iload_n hx hb dX9_check_14 rfl (lv_at hl 1 rfl) ?_
  refine lv_iconst (v := 4) hx hb dX9_check_15 (by decide) ?_
  refine lv_icmp_ne (tgt := 27) hx hb dX9_check_16 (by decide) (fun c16 => ?_) (fun c16 => absurd c16 ((by decide)))
  refine lv_iload_n hx hb dX9_check_27 rfl (lv_at hl 1 rfl) ?_
  refine lv_bipush (v := 6) hx hb dX9_check_28 (by decide) ?_
  refine lv_icmp_ne (tgt := 41) hx hb dX9_check_30 (by decide) (fun c30 => ?_) (fun c30 => absurd c30 ((by decide)))
  refine lv_iload_n hx hb dX9_check_41 rfl (lv_at hl 1 rfl) ?_
  refine lv_if_le (tgt := 54) hx hb dX9_check_42 (by decide) (fun c42 => ?_) (fun c42 => absurd c42 ((by decide)))
  refine lv_aload_n hx hb dX9_check_54 rfl (lv_at hl 2 rfl) ?_
  refine lv_bipush (v := 20) hx hb dX9_check_55 (by decide) ?_
  refine hs_callv0 (w1 := (mW o ad cd tn td cs hd kd rt vl hr hw cu si acc (bdT 20 st))) (hs_runV (q0 := 0) SF cal_X9_body tw_598 (c_X9_body l D o ad cd tn td cs hd kd rt vl hr hw cu si acc st (okM_mono hok (by decide)) 20) hK hP hD rfl rfl ⟨Nat.le_of_ble_eq_true rfl, Nat.le_of_ble_eq_true rfl⟩ rfl hl.1 rfl (Nat.le_of_ble_eq_true rfl) dX9_check_57 ⟨Nat.le_of_ble_eq_true rfl, Nat.le_of_ble_eq_true rfl⟩) hD hS hA (fun H locs hP hD hS => ?_)
  refine lv_aload_n hx hb dX9_check_60 rfl (lv_at hl 2 rfl) ?_
  refine va_get (D := D) (ci := 9) (v := .ref (ad 4)) (C := RX9) (T := TX9) (N := 15) hx hb htg in_X9 hown hK hP 0 rfl rfl 4 (by decide) (htg _ tw_524) (fun _ h9 => h9) rfl dX9_check_61 ?_
  refine lv_iload_n hx hb dX9_check_64 rfl (lv_at hl 3 rfl) ?_
  refine va_iald hx hb hK hP 4 3 rfl rfl (ht) dX9_check_65 ?_
  rw [hhr]
  refine lv_bipush (v := 10) hx hb dX9_check_66 (by decide) ?_
  refine lv_idiv hx hb dX9_check_68 (by decide) ?_
  refine lv_iload_n hx hb dX9_check_69 rfl (lv_at hl 0 rfl) ?_
  refine lv_iadd hx hb dX9_check_70 ?_
  exact hs_iret hx hb hrt hlocks hK hP hD hS dX9_check_71 (by first | rfl | (show _ = x / 10 + 1 + 2; rw [Int32.add_assoc]; rfl) | (unfold ckF; simp; done)) (by first | (simp only [bds, ckN, List.foldl_cons, List.foldl_nil]; done) | rfl)

set_option maxHeartbeats 400000 in
set_option maxRecDepth 100000 in
theorem c_X9_check_1 (l : Launch) (D : va_G) (o : Nat) (ad : Nat → Nat) (cd : Nat → ClassId) (tn td cs hd : Int32) (kd rt vl hr hw cu si : Nat → Int32) (acc : Nat → Int64) (st : TS) (t : Int32) (ht : vp_in t 24) (hkd : kd t.toNatClampNeg = nI 1) (hok : okM 3 st) (x : Int32) (hhr : hr t.toNatClampNeg = x) : CM l D yX9_check cX9_check 4 (some .int) { frames := 1, cells := 0, slots := 0, locals := 21 } (tyM cd) [.ref o, .int t] (mW o ad cd tn td cs hd kd rt vl hr hw cu si acc st) (hs_QI D (tyM cd) (ckF 1 x) (mW o ad cd tn td cs hd kd rt vl hr hw cu si acc (bds (ckN 1) st))) := by
  refine CM.of (by decide) (Nat.le_of_ble_eq_true rfl) ?_
  intro p e s m below meth c A ls hx hb hrt hml htg hown hlocks hnm hA hK hP hD hS hl
  have hown : s.vm.findClass RX9 = some m.cls := hown
  have hl : lv_has ls 4 [(0, .ref o), (1, .int t)] := hl
  have SF : CallFix p m c cX9_check 4 s _ hs_gt RX9 := ⟨hx, hb, hml, hown, htg⟩
  have hkd : kd t.toNatClampNeg = 1 := hkd
  refine lv_aload_n hx hb dX9_check_0 rfl (lv_at hl 0 rfl) ?_
  refine va_get (D := D) (ci := 9) (v := .ref (ad 1)) (C := RX9) (T := TX9) (N := 15) hx hb htg in_X9 hown hK hP 0 rfl rfl 1 (by decide) (htg _ tw_521) (fun _ h9 => h9) rfl dX9_check_1 ?_
  refine lv_iload_n hx hb dX9_check_4 rfl (lv_at hl 1 rfl) ?_
  refine va_iald hx hb hK hP 1 0 rfl rfl (ht) dX9_check_5 ?_
  rw [hkd]
  refine lv_istore_n (lv' := [(2, .int 1), (0, .ref o), (1, .int t)]) hx hb dX9_check_6 rfl hl (by decide) rfl (fun ls hl => ?_)
  refine lv_iconst (v := 0) hx hb dX9_check_7 (by decide) ?_
  refine lv_istore_n (lv' := [(3, .int 0), (2, .int 1), (0, .ref o), (1, .int t)]) hx hb dX9_check_8 rfl hl (by decide) rfl (fun ls hl => ?_)
  refine lv_iload_n hx hb dX9_check_9 rfl (lv_at hl 1 rfl) ?_
  refine lv_iconst (v := 3) hx hb dX9_check_10 (by decide) ?_
  refine lv_icmp_eq (tgt := 19) hx hb dX9_check_11 (by decide) (fun c11 => absurd c11 ((by decide))) (fun c11 => ?_)
  refine lv_iload_n hx hb dX9_check_14 rfl (lv_at hl 1 rfl) ?_
  refine lv_iconst (v := 4) hx hb dX9_check_15 (by decide) ?_
  refine lv_icmp_ne (tgt := 27) hx hb dX9_check_16 (by decide) (fun c16 => ?_) (fun c16 => absurd c16 ((by decide)))
  refine lv_iload_n hx hb dX9_check_27 rfl (lv_at hl 1 rfl) ?_
  refine lv_bipush (v := 6) hx hb dX9_check_28 (by decide) ?_
  refine lv_icmp_ne (tgt := 41) hx hb dX9_check_30 (by decide) (fun c30 => ?_) (fun c30 => absurd c30 ((by decide)))
  refine lv_iload_n hx hb dX9_check_41 rfl (lv_at hl 1 rfl) ?_
  refine lv_if_le (tgt := 54) hx hb dX9_check_42 (by decide) (fun c42 => absurd c42 ((by decide))) (fun c42 => ?_)
  refine lv_aload_n hx hb dX9_check_45 rfl (lv_at hl 2 rfl) ?_
  refine lv_bipush (v := 21) hx hb dX9_check_46 (by decide) ?_
  refine hs_callv0 (w1 := (mW o ad cd tn td cs hd kd rt vl hr hw cu si acc (bdT 21 st))) (hs_runV (q0 := 0) SF cal_X9_body tw_598 (c_X9_body l D o ad cd tn td cs hd kd rt vl hr hw cu si acc st (okM_mono hok (by decide)) 21) hK hP hD rfl rfl ⟨Nat.le_of_ble_eq_true rfl, Nat.le_of_ble_eq_true rfl⟩ rfl hl.1 rfl (Nat.le_of_ble_eq_true rfl) dX9_check_48 ⟨Nat.le_of_ble_eq_true rfl, Nat.le_of_ble_eq_true rfl⟩) hD hS hA (fun H locs hP hD hS => ?_)
  refine lv_iinc (v := (0 + 1)) (lv' := [(3, .int (0 + 1)), (2, .int 1), (0, .ref o), (1, .int t)]) hx hb dX9_check_51 hl (k := 0) rfl rfl (by decide) rfl (fun ls hl => ?_)
  refine lv_aload_n hx hb dX9_check_54 rfl (lv_at hl 2 rfl) ?_
  refine lv_bipush (v := 20) hx hb dX9_check_55 (by decide) ?_
  refine hs_callv0 (w1 := (mW o ad cd tn td cs hd kd rt vl hr hw cu si acc (bdT 20 (bdT 21 st)))) (hs_runV (q0 := 0) SF cal_X9_body tw_598 (c_X9_body l D o ad cd tn td cs hd kd rt vl hr hw cu si acc (bdT 21 st) (okM_mono (okM_bd 21 hok) (by decide)) 20) hK hP hD rfl rfl ⟨Nat.le_of_ble_eq_true rfl, Nat.le_of_ble_eq_true rfl⟩ rfl hl.1 rfl (Nat.le_of_ble_eq_true rfl) dX9_check_57 ⟨Nat.le_of_ble_eq_true rfl, Nat.le_of_ble_eq_true rfl⟩) hD hS hA (fun H locs hP hD hS => ?_)
  refine lv_aload_n hx hb dX9_check_60 rfl (lv_at hl 2 rfl) ?_
  refine va_get (D := D) (ci := 9) (v := .ref (ad 4)) (C := RX9) (T := TX9) (N := 15) hx hb htg in_X9 hown hK hP 0 rfl rfl 4 (by decide) (htg _ tw_524) (fun _ h9 => h9) rfl dX9_check_61 ?_
  refine lv_iload_n hx hb dX9_check_64 rfl (lv_at hl 3 rfl) ?_
  refine va_iald hx hb hK hP 4 3 rfl rfl (ht) dX9_check_65 ?_
  rw [hhr]
  refine lv_bipush (v := 10) hx hb dX9_check_66 (by decide) ?_
  refine lv_idiv hx hb dX9_check_68 (by decide) ?_
  refine lv_iload_n hx hb dX9_check_69 rfl (lv_at hl 0 rfl) ?_
  refine lv_iadd hx hb dX9_check_70 ?_
  exact hs_iret hx hb hrt hlocks hK hP hD hS dX9_check_71 (by first | rfl | (show _ = x / 10 + 1 + 2; rw [Int32.add_assoc]; rfl) | (unfold ckF; simp; done)) (by first | (simp only [bds, ckN, List.foldl_cons, List.foldl_nil]; done) | rfl)

set_option maxHeartbeats 400000 in
set_option maxRecDepth 100000 in
theorem c_X9_check_2 (l : Launch) (D : va_G) (o : Nat) (ad : Nat → Nat) (cd : Nat → ClassId) (tn td cs hd : Int32) (kd rt vl hr hw cu si : Nat → Int32) (acc : Nat → Int64) (st : TS) (t : Int32) (ht : vp_in t 24) (hkd : kd t.toNatClampNeg = nI 2) (hok : okM 3 st) (x : Int32) (hhr : hr t.toNatClampNeg = x) : CM l D yX9_check cX9_check 4 (some .int) { frames := 1, cells := 0, slots := 0, locals := 21 } (tyM cd) [.ref o, .int t] (mW o ad cd tn td cs hd kd rt vl hr hw cu si acc st) (hs_QI D (tyM cd) (ckF 2 x) (mW o ad cd tn td cs hd kd rt vl hr hw cu si acc (bds (ckN 2) st))) := by
  refine CM.of (by decide) (Nat.le_of_ble_eq_true rfl) ?_
  intro p e s m below meth c A ls hx hb hrt hml htg hown hlocks hnm hA hK hP hD hS hl
  have hown : s.vm.findClass RX9 = some m.cls := hown
  have hl : lv_has ls 4 [(0, .ref o), (1, .int t)] := hl
  have SF : CallFix p m c cX9_check 4 s _ hs_gt RX9 := ⟨hx, hb, hml, hown, htg⟩
  have hkd : kd t.toNatClampNeg = 2 := hkd
  refine lv_aload_n hx hb dX9_check_0 rfl (lv_at hl 0 rfl) ?_
  refine va_get (D := D) (ci := 9) (v := .ref (ad 1)) (C := RX9) (T := TX9) (N := 15) hx hb htg in_X9 hown hK hP 0 rfl rfl 1 (by decide) (htg _ tw_521) (fun _ h9 => h9) rfl dX9_check_1 ?_
  refine lv_iload_n hx hb dX9_check_4 rfl (lv_at hl 1 rfl) ?_
  refine va_iald hx hb hK hP 1 0 rfl rfl (ht) dX9_check_5 ?_
  rw [hkd]
  refine lv_istore_n (lv' := [(2, .int 2), (0, .ref o), (1, .int t)]) hx hb dX9_check_6 rfl hl (by decide) rfl (fun ls hl => ?_)
  refine lv_iconst (v := 0) hx hb dX9_check_7 (by decide) ?_
  refine lv_istore_n (lv' := [(3, .int 0), (2, .int 2), (0, .ref o), (1, .int t)]) hx hb dX9_check_8 rfl hl (by decide) rfl (fun ls hl => ?_)
  refine lv_iload_n hx hb dX9_check_9 rfl (lv_at hl 1 rfl) ?_
  refine lv_iconst (v := 3) hx hb dX9_check_10 (by decide) ?_
  refine lv_icmp_eq (tgt := 19) hx hb dX9_check_11 (by decide) (fun c11 => absurd c11 ((by decide))) (fun c11 => ?_)
  refine lv_iload_n hx hb dX9_check_14 rfl (lv_at hl 1 rfl) ?_
  refine lv_iconst (v := 4) hx hb dX9_check_15 (by decide) ?_
  refine lv_icmp_ne (tgt := 27) hx hb dX9_check_16 (by decide) (fun c16 => ?_) (fun c16 => absurd c16 ((by decide)))
  refine lv_iload_n hx hb dX9_check_27 rfl (lv_at hl 1 rfl) ?_
  refine lv_bipush (v := 6) hx hb dX9_check_28 (by decide) ?_
  refine lv_icmp_ne (tgt := 41) hx hb dX9_check_30 (by decide) (fun c30 => ?_) (fun c30 => absurd c30 ((by decide)))
  refine lv_iload_n hx hb dX9_check_41 rfl (lv_at hl 1 rfl) ?_
  refine lv_if_le (tgt := 54) hx hb dX9_check_42 (by decide) (fun c42 => absurd c42 ((by decide))) (fun c42 => ?_)
  refine lv_aload_n hx hb dX9_check_45 rfl (lv_at hl 2 rfl) ?_
  refine lv_bipush (v := 21) hx hb dX9_check_46 (by decide) ?_
  refine hs_callv0 (w1 := (mW o ad cd tn td cs hd kd rt vl hr hw cu si acc (bdT 21 st))) (hs_runV (q0 := 0) SF cal_X9_body tw_598 (c_X9_body l D o ad cd tn td cs hd kd rt vl hr hw cu si acc st (okM_mono hok (by decide)) 21) hK hP hD rfl rfl ⟨Nat.le_of_ble_eq_true rfl, Nat.le_of_ble_eq_true rfl⟩ rfl hl.1 rfl (Nat.le_of_ble_eq_true rfl) dX9_check_48 ⟨Nat.le_of_ble_eq_true rfl, Nat.le_of_ble_eq_true rfl⟩) hD hS hA (fun H locs hP hD hS => ?_)
  refine lv_iinc (v := (0 + 1)) (lv' := [(3, .int (0 + 1)), (2, .int 2), (0, .ref o), (1, .int t)]) hx hb dX9_check_51 hl (k := 0) rfl rfl (by decide) rfl (fun ls hl => ?_)
  refine lv_aload_n hx hb dX9_check_54 rfl (lv_at hl 2 rfl) ?_
  refine lv_bipush (v := 20) hx hb dX9_check_55 (by decide) ?_
  refine hs_callv0 (w1 := (mW o ad cd tn td cs hd kd rt vl hr hw cu si acc (bdT 20 (bdT 21 st)))) (hs_runV (q0 := 0) SF cal_X9_body tw_598 (c_X9_body l D o ad cd tn td cs hd kd rt vl hr hw cu si acc (bdT 21 st) (okM_mono (okM_bd 21 hok) (by decide)) 20) hK hP hD rfl rfl ⟨Nat.le_of_ble_eq_true rfl, Nat.le_of_ble_eq_true rfl⟩ rfl hl.1 rfl (Nat.le_of_ble_eq_true rfl) dX9_check_57 ⟨Nat.le_of_ble_eq_true rfl, Nat.le_of_ble_eq_true rfl⟩) hD hS hA (fun H locs hP hD hS => ?_)
  refine lv_aload_n hx hb dX9_check_60 rfl (lv_at hl 2 rfl) ?_
  refine va_get (D := D) (ci := 9) (v := .ref (ad 4)) (C := RX9) (T := TX9) (N := 15) hx hb htg in_X9 hown hK hP 0 rfl rfl 4 (by decide) (htg _ tw_524) (fun _ h9 => h9) rfl dX9_check_61 ?_
  refine lv_iload_n hx hb dX9_check_64 rfl (lv_at hl 3 rfl) ?_
  refine va_iald hx hb hK hP 4 3 rfl rfl (ht) dX9_check_65 ?_
  rw [hhr]
  refine lv_bipush (v := 10) hx hb dX9_check_66 (by decide) ?_
  refine lv_idiv hx hb dX9_check_68 (by decide) ?_
  refine lv_iload_n hx hb dX9_check_69 rfl (lv_at hl 0 rfl) ?_
  refine lv_iadd hx hb dX9_check_70 ?_
  exact hs_iret hx hb hrt hlocks hK hP hD hS dX9_check_71 (by first | rfl | (show _ = x / 10 + 1 + 2; rw [Int32.add_assoc]; rfl) | (unfold ckF; simp; done)) (by first | (simp only [bds, ckN, List.foldl_cons, List.foldl_nil]; done) | rfl)

set_option maxHeartbeats 400000 in
set_option maxRecDepth 100000 in
theorem c_X9_check_3 (l : Launch) (D : va_G) (o : Nat) (ad : Nat → Nat) (cd : Nat → ClassId) (tn td cs hd : Int32) (kd rt vl hr hw cu si : Nat → Int32) (acc : Nat → Int64) (st : TS) (t : Int32) (ht : vp_in t 24) (hkd : kd t.toNatClampNeg = nI 3) (hok : okM 3 st) (x : Int32) (hhr : hr t.toNatClampNeg = x) : CM l D yX9_check cX9_check 4 (some .int) { frames := 1, cells := 0, slots := 0, locals := 21 } (tyM cd) [.ref o, .int t] (mW o ad cd tn td cs hd kd rt vl hr hw cu si acc st) (hs_QI D (tyM cd) (ckF 3 x) (mW o ad cd tn td cs hd kd rt vl hr hw cu si acc (bds (ckN 3) st))) := by
  refine CM.of (by decide) (Nat.le_of_ble_eq_true rfl) ?_
  intro p e s m below meth c A ls hx hb hrt hml htg hown hlocks hnm hA hK hP hD hS hl
  have hown : s.vm.findClass RX9 = some m.cls := hown
  have hl : lv_has ls 4 [(0, .ref o), (1, .int t)] := hl
  have SF : CallFix p m c cX9_check 4 s _ hs_gt RX9 := ⟨hx, hb, hml, hown, htg⟩
  have hkd : kd t.toNatClampNeg = 3 := hkd
  refine lv_aload_n hx hb dX9_check_0 rfl (lv_at hl 0 rfl) ?_
  refine va_get (D := D) (ci := 9) (v := .ref (ad 1)) (C := RX9) (T := TX9) (N := 15) hx hb htg in_X9 hown hK hP 0 rfl rfl 1 (by decide) (htg _ tw_521) (fun _ h9 => h9) rfl dX9_check_1 ?_
  refine lv_iload_n hx hb dX9_check_4 rfl (lv_at hl 1 rfl) ?_
  refine va_iald hx hb hK hP 1 0 rfl rfl (ht) dX9_check_5 ?_
  rw [hkd]
  refine lv_istore_n (lv' := [(2, .int 3), (0, .ref o), (1, .int t)]) hx hb dX9_check_6 rfl hl (by decide) rfl (fun ls hl => ?_)
  refine lv_iconst (v := 0) hx hb dX9_check_7 (by decide) ?_
  refine lv_istore_n (lv' := [(3, .int 0), (2, .int 3), (0, .ref o), (1, .int t)]) hx hb dX9_check_8 rfl hl (by decide) rfl (fun ls hl => ?_)
  refine lv_iload_n hx hb dX9_check_9 rfl (lv_at hl 1 rfl) ?_
  refine lv_iconst (v := 3) hx hb dX9_check_10 (by decide) ?_
  refine lv_icmp_eq (tgt := 19) hx hb dX9_check_11 (by decide) (fun c11 => ?_) (fun c11 => absurd c11 ((by decide)))
  refine lv_aload_n hx hb dX9_check_19 rfl (lv_at hl 2 rfl) ?_
  refine lv_bipush (v := 22) hx hb dX9_check_20 (by decide) ?_
  refine hs_callv0 (w1 := (mW o ad cd tn td cs hd kd rt vl hr hw cu si acc (bdT 22 st))) (hs_runV (q0 := 0) SF cal_X9_body tw_598 (c_X9_body l D o ad cd tn td cs hd kd rt vl hr hw cu si acc st (okM_mono hok (by decide)) 22) hK hP hD rfl rfl ⟨Nat.le_of_ble_eq_true rfl, Nat.le_of_ble_eq_true rfl⟩ rfl hl.1 rfl (Nat.le_of_ble_eq_true rfl) dX9_check_22 ⟨Nat.le_of_ble_eq_true rfl, Nat.le_of_ble_eq_true rfl⟩) hD hS hA (fun H locs hP hD hS => ?_)
  refine lv_iconst (v := 2) hx hb dX9_check_25 (by decide) ?_
  refine lv_istore_n (lv' := [(3, .int 2), (2, .int 3), (0, .ref o), (1, .int t)]) hx hb dX9_check_26 rfl hl (by decide) rfl (fun ls hl => ?_)
  refine lv_iload_n hx hb dX9_check_27 rfl (lv_at hl 1 rfl) ?_
  refine lv_bipush (v := 6) hx hb dX9_check_28 (by decide) ?_
  refine lv_icmp_ne (tgt := 41) hx hb dX9_check_30 (by decide) (fun c30 => ?_) (fun c30 => absurd c30 ((by decide)))
  refine lv_iload_n hx hb dX9_check_41 rfl (lv_at hl 1 rfl) ?_
  refine lv_if_le (tgt := 54) hx hb dX9_check_42 (by decide) (fun c42 => absurd c42 ((by decide))) (fun c42 => ?_)
  refine lv_aload_n hx hb dX9_check_45 rfl (lv_at hl 2 rfl) ?_
  refine lv_bipush (v := 21) hx hb dX9_check_46 (by decide) ?_
  refine hs_callv0 (w1 := (mW o ad cd tn td cs hd kd rt vl hr hw cu si acc (bdT 21 (bdT 22 st)))) (hs_runV (q0 := 0) SF cal_X9_body tw_598 (c_X9_body l D o ad cd tn td cs hd kd rt vl hr hw cu si acc (bdT 22 st) (okM_mono (okM_bd 22 hok) (by decide)) 21) hK hP hD rfl rfl ⟨Nat.le_of_ble_eq_true rfl, Nat.le_of_ble_eq_true rfl⟩ rfl hl.1 rfl (Nat.le_of_ble_eq_true rfl) dX9_check_48 ⟨Nat.le_of_ble_eq_true rfl, Nat.le_of_ble_eq_true rfl⟩) hD hS hA (fun H locs hP hD hS => ?_)
  refine lv_iinc (v := (2 + 1)) (lv' := [(3, .int (2 + 1)), (2, .int 3), (0, .ref o), (1, .int t)]) hx hb dX9_check_51 hl (k := 0) rfl rfl (by decide) rfl (fun ls hl => ?_)
  refine lv_aload_n hx hb dX9_check_54 rfl (lv_at hl 2 rfl) ?_
  refine lv_bipush (v := 20) hx hb dX9_check_55 (by decide) ?_
  refine hs_callv0 (w1 := (mW o ad cd tn td cs hd kd rt vl hr hw cu si acc (bdT 20 (bdT 21 (bdT 22 st))))) (hs_runV (q0 := 0) SF cal_X9_body tw_598 (c_X9_body l D o ad cd tn td cs hd kd rt vl hr hw cu si acc (bdT 21 (bdT 22 st)) (okM_bd 21 (okM_bd 22 hok)) 20) hK hP hD rfl rfl ⟨Nat.le_of_ble_eq_true rfl, Nat.le_of_ble_eq_true rfl⟩ rfl hl.1 rfl (Nat.le_of_ble_eq_true rfl) dX9_check_57 ⟨Nat.le_of_ble_eq_true rfl, Nat.le_of_ble_eq_true rfl⟩) hD hS hA (fun H locs hP hD hS => ?_)
  refine lv_aload_n hx hb dX9_check_60 rfl (lv_at hl 2 rfl) ?_
  refine va_get (D := D) (ci := 9) (v := .ref (ad 4)) (C := RX9) (T := TX9) (N := 15) hx hb htg in_X9 hown hK hP 0 rfl rfl 4 (by decide) (htg _ tw_524) (fun _ h9 => h9) rfl dX9_check_61 ?_
  refine lv_iload_n hx hb dX9_check_64 rfl (lv_at hl 3 rfl) ?_
  refine va_iald hx hb hK hP 4 3 rfl rfl (ht) dX9_check_65 ?_
  rw [hhr]
  refine lv_bipush (v := 10) hx hb dX9_check_66 (by decide) ?_
  refine lv_idiv hx hb dX9_check_68 (by decide) ?_
  refine lv_iload_n hx hb dX9_check_69 rfl (lv_at hl 0 rfl) ?_
  refine lv_iadd hx hb dX9_check_70 ?_
  exact hs_iret hx hb hrt hlocks hK hP hD hS dX9_check_71 (by first | rfl | (show _ = x / 10 + 1 + 2; rw [Int32.add_assoc]; rfl) | (unfold ckF; simp; done)) (by first | (simp only [bds, ckN, List.foldl_cons, List.foldl_nil]; done) | rfl)

set_option maxHeartbeats 400000 in
set_option maxRecDepth 100000 in
theorem c_X9_check_4 (l : Launch) (D : va_G) (o : Nat) (ad : Nat → Nat) (cd : Nat → ClassId) (tn td cs hd : Int32) (kd rt vl hr hw cu si : Nat → Int32) (acc : Nat → Int64) (st : TS) (t : Int32) (ht : vp_in t 24) (hkd : kd t.toNatClampNeg = nI 4) (hok : okM 3 st) (x : Int32) (hhr : hr t.toNatClampNeg = x) : CM l D yX9_check cX9_check 4 (some .int) { frames := 1, cells := 0, slots := 0, locals := 21 } (tyM cd) [.ref o, .int t] (mW o ad cd tn td cs hd kd rt vl hr hw cu si acc st) (hs_QI D (tyM cd) (ckF 4 x) (mW o ad cd tn td cs hd kd rt vl hr hw cu si acc (bds (ckN 4) st))) := by
  refine CM.of (by decide) (Nat.le_of_ble_eq_true rfl) ?_
  intro p e s m below meth c A ls hx hb hrt hml htg hown hlocks hnm hA hK hP hD hS hl
  have hown : s.vm.findClass RX9 = some m.cls := hown
  have hl : lv_has ls 4 [(0, .ref o), (1, .int t)] := hl
  have SF : CallFix p m c cX9_check 4 s _ hs_gt RX9 := ⟨hx, hb, hml, hown, htg⟩
  have hkd : kd t.toNatClampNeg = 4 := hkd
  refine lv_aload_n hx hb dX9_check_0 rfl (lv_at hl 0 rfl) ?_
  refine va_get (D := D) (ci := 9) (v := .ref (ad 1)) (C := RX9) (T := TX9) (N := 15) hx hb htg in_X9 hown hK hP 0 rfl rfl 1 (by decide) (htg _ tw_521) (fun _ h9 => h9) rfl dX9_check_1 ?_
  refine lv_iload_n hx hb dX9_check_4 rfl (lv_at hl 1 rfl) ?_
  refine va_iald hx hb hK hP 1 0 rfl rfl (ht) dX9_check_5 ?_
  rw [hkd]
  refine lv_istore_n (lv' := [(2, .int 4), (0, .ref o), (1, .int t)]) hx hb dX9_check_6 rfl hl (by decide) rfl (fun ls hl => ?_)
  refine lv_iconst (v := 0) hx hb dX9_check_7 (by decide) ?_
  refine lv_istore_n (lv' := [(3, .int 0), (2, .int 4), (0, .ref o), (1, .int t)]) hx hb dX9_check_8 rfl hl (by decide) rfl (fun ls hl => ?_)
  refine lv_iload_n hx hb dX9_check_9 rfl (lv_at hl 1 rfl) ?_
  refine lv_iconst (v := 3) hx hb dX9_check_10 (by decide) ?_
  refine lv_icmp_eq (tgt := 19) hx hb dX9_check_11 (by decide) (fun c11 => absurd c11 ((by decide))) (fun c11 => ?_)
  refine lv_iload_n hx hb dX9_check_14 rfl (lv_at hl 1 rfl) ?_
  refine lv_iconst (v := 4) hx hb dX9_check_15 (by decide) ?_
  refine lv_icmp_ne (tgt := 27) hx hb dX9_check_16 (by decide) (fun c16 => absurd c16 ((by decide))) (fun c16 => ?_)
  refine lv_aload_n hx hb dX9_check_19 rfl (lv_at hl 2 rfl) ?_
  refine lv_bipush (v := 22) hx hb dX9_check_20 (by decide) ?_
  refine hs_callv0 (w1 := (mW o ad cd tn td cs hd kd rt vl hr hw cu si acc (bdT 22 st))) (hs_runV (q0 := 0) SF cal_X9_body tw_598 (c_X9_body l D o ad cd tn td cs hd kd rt vl hr hw cu si acc st (okM_mono hok (by decide)) 22) hK hP hD rfl rfl ⟨Nat.le_of_ble_eq_true rfl, Nat.le_of_ble_eq_true rfl⟩ rfl hl.1 rfl (Nat.le_of_ble_eq_true rfl) dX9_check_22 ⟨Nat.le_of_ble_eq_true rfl, Nat.le_of_ble_eq_true rfl⟩) hD hS hA (fun H locs hP hD hS => ?_)
  refine lv_iconst (v := 2) hx hb dX9_check_25 (by decide) ?_
  refine lv_istore_n (lv' := [(3, .int 2), (2, .int 4), (0, .ref o), (1, .int t)]) hx hb dX9_check_26 rfl hl (by decide) rfl (fun ls hl => ?_)
  refine lv_iload_n hx hb dX9_check_27 rfl (lv_at hl 1 rfl) ?_
  refine lv_bipush (v := 6) hx hb dX9_check_28 (by decide) ?_
  refine lv_icmp_ne (tgt := 41) hx hb dX9_check_30 (by decide) (fun c30 => ?_) (fun c30 => absurd c30 ((by decide)))
  refine lv_iload_n hx hb dX9_check_41 rfl (lv_at hl 1 rfl) ?_
  refine lv_if_le (tgt := 54) hx hb dX9_check_42 (by decide) (fun c42 => absurd c42 ((by decide))) (fun c42 => ?_)
  refine lv_aload_n hx hb dX9_check_45 rfl (lv_at hl 2 rfl) ?_
  refine lv_bipush (v := 21) hx hb dX9_check_46 (by decide) ?_
  refine hs_callv0 (w1 := (mW o ad cd tn td cs hd kd rt vl hr hw cu si acc (bdT 21 (bdT 22 st)))) (hs_runV (q0 := 0) SF cal_X9_body tw_598 (c_X9_body l D o ad cd tn td cs hd kd rt vl hr hw cu si acc (bdT 22 st) (okM_mono (okM_bd 22 hok) (by decide)) 21) hK hP hD rfl rfl ⟨Nat.le_of_ble_eq_true rfl, Nat.le_of_ble_eq_true rfl⟩ rfl hl.1 rfl (Nat.le_of_ble_eq_true rfl) dX9_check_48 ⟨Nat.le_of_ble_eq_true rfl, Nat.le_of_ble_eq_true rfl⟩) hD hS hA (fun H locs hP hD hS => ?_)
  refine lv_iinc (v := (2 + 1)) (lv' := [(3, .int (2 + 1)), (2, .int 4), (0, .ref o), (1, .int t)]) hx hb dX9_check_51 hl (k := 0) rfl rfl (by decide) rfl (fun ls hl => ?_)
  refine lv_aload_n hx hb dX9_check_54 rfl (lv_at hl 2 rfl) ?_
  refine lv_bipush (v := 20) hx hb dX9_check_55 (by decide) ?_
  refine hs_callv0 (w1 := (mW o ad cd tn td cs hd kd rt vl hr hw cu si acc (bdT 20 (bdT 21 (bdT 22 st))))) (hs_runV (q0 := 0) SF cal_X9_body tw_598 (c_X9_body l D o ad cd tn td cs hd kd rt vl hr hw cu si acc (bdT 21 (bdT 22 st)) (okM_bd 21 (okM_bd 22 hok)) 20) hK hP hD rfl rfl ⟨Nat.le_of_ble_eq_true rfl, Nat.le_of_ble_eq_true rfl⟩ rfl hl.1 rfl (Nat.le_of_ble_eq_true rfl) dX9_check_57 ⟨Nat.le_of_ble_eq_true rfl, Nat.le_of_ble_eq_true rfl⟩) hD hS hA (fun H locs hP hD hS => ?_)
  refine lv_aload_n hx hb dX9_check_60 rfl (lv_at hl 2 rfl) ?_
  refine va_get (D := D) (ci := 9) (v := .ref (ad 4)) (C := RX9) (T := TX9) (N := 15) hx hb htg in_X9 hown hK hP 0 rfl rfl 4 (by decide) (htg _ tw_524) (fun _ h9 => h9) rfl dX9_check_61 ?_
  refine lv_iload_n hx hb dX9_check_64 rfl (lv_at hl 3 rfl) ?_
  refine va_iald hx hb hK hP 4 3 rfl rfl (ht) dX9_check_65 ?_
  rw [hhr]
  refine lv_bipush (v := 10) hx hb dX9_check_66 (by decide) ?_
  refine lv_idiv hx hb dX9_check_68 (by decide) ?_
  refine lv_iload_n hx hb dX9_check_69 rfl (lv_at hl 0 rfl) ?_
  refine lv_iadd hx hb dX9_check_70 ?_
  exact hs_iret hx hb hrt hlocks hK hP hD hS dX9_check_71 (by first | rfl | (show _ = x / 10 + 1 + 2; rw [Int32.add_assoc]; rfl) | (unfold ckF; simp; done)) (by first | (simp only [bds, ckN, List.foldl_cons, List.foldl_nil]; done) | rfl)

set_option maxHeartbeats 400000 in
set_option maxRecDepth 100000 in
theorem c_X9_check_5 (l : Launch) (D : va_G) (o : Nat) (ad : Nat → Nat) (cd : Nat → ClassId) (tn td cs hd : Int32) (kd rt vl hr hw cu si : Nat → Int32) (acc : Nat → Int64) (st : TS) (t : Int32) (ht : vp_in t 24) (hkd : kd t.toNatClampNeg = nI 5) (hok : okM 3 st) (x : Int32) (hhr : hr t.toNatClampNeg = x) : CM l D yX9_check cX9_check 4 (some .int) { frames := 1, cells := 0, slots := 0, locals := 21 } (tyM cd) [.ref o, .int t] (mW o ad cd tn td cs hd kd rt vl hr hw cu si acc st) (hs_QI D (tyM cd) (ckF 5 x) (mW o ad cd tn td cs hd kd rt vl hr hw cu si acc (bds (ckN 5) st))) := by
  refine CM.of (by decide) (Nat.le_of_ble_eq_true rfl) ?_
  intro p e s m below meth c A ls hx hb hrt hml htg hown hlocks hnm hA hK hP hD hS hl
  have hown : s.vm.findClass RX9 = some m.cls := hown
  have hl : lv_has ls 4 [(0, .ref o), (1, .int t)] := hl
  have SF : CallFix p m c cX9_check 4 s _ hs_gt RX9 := ⟨hx, hb, hml, hown, htg⟩
  have hkd : kd t.toNatClampNeg = 5 := hkd
  refine lv_aload_n hx hb dX9_check_0 rfl (lv_at hl 0 rfl) ?_
  refine va_get (D := D) (ci := 9) (v := .ref (ad 1)) (C := RX9) (T := TX9) (N := 15) hx hb htg in_X9 hown hK hP 0 rfl rfl 1 (by decide) (htg _ tw_521) (fun _ h9 => h9) rfl dX9_check_1 ?_
  refine lv_iload_n hx hb dX9_check_4 rfl (lv_at hl 1 rfl) ?_
  refine va_iald hx hb hK hP 1 0 rfl rfl (ht) dX9_check_5 ?_
  rw [hkd]
  refine lv_istore_n (lv' := [(2, .int 5), (0, .ref o), (1, .int t)]) hx hb dX9_check_6 rfl hl (by decide) rfl (fun ls hl => ?_)
  refine lv_iconst (v := 0) hx hb dX9_check_7 (by decide) ?_
  refine lv_istore_n (lv' := [(3, .int 0), (2, .int 5), (0, .ref o), (1, .int t)]) hx hb dX9_check_8 rfl hl (by decide) rfl (fun ls hl => ?_)
  refine lv_iload_n hx hb dX9_check_9 rfl (lv_at hl 1 rfl) ?_
  refine lv_iconst (v := 3) hx hb dX9_check_10 (by decide) ?_
  refine lv_icmp_eq (tgt := 19) hx hb dX9_check_11 (by decide) (fun c11 => absurd c11 ((by decide))) (fun c11 => ?_)
  refine lv_iload_n hx hb dX9_check_14 rfl (lv_at hl 1 rfl) ?_
  refine lv_iconst (v := 4) hx hb dX9_check_15 (by decide) ?_
  refine lv_icmp_ne (tgt := 27) hx hb dX9_check_16 (by decide) (fun c16 => ?_) (fun c16 => absurd c16 ((by decide)))
  refine lv_iload_n hx hb dX9_check_27 rfl (lv_at hl 1 rfl) ?_
  refine lv_bipush (v := 6) hx hb dX9_check_28 (by decide) ?_
  refine lv_icmp_ne (tgt := 41) hx hb dX9_check_30 (by decide) (fun c30 => ?_) (fun c30 => absurd c30 ((by decide)))
  refine lv_iload_n hx hb dX9_check_41 rfl (lv_at hl 1 rfl) ?_
  refine lv_if_le (tgt := 54) hx hb dX9_check_42 (by decide) (fun c42 => absurd c42 ((by decide))) (fun c42 => ?_)
  refine lv_aload_n hx hb dX9_check_45 rfl (lv_at hl 2 rfl) ?_
  refine lv_bipush (v := 21) hx hb dX9_check_46 (by decide) ?_
  refine hs_callv0 (w1 := (mW o ad cd tn td cs hd kd rt vl hr hw cu si acc (bdT 21 st))) (hs_runV (q0 := 0) SF cal_X9_body tw_598 (c_X9_body l D o ad cd tn td cs hd kd rt vl hr hw cu si acc st (okM_mono hok (by decide)) 21) hK hP hD rfl rfl ⟨Nat.le_of_ble_eq_true rfl, Nat.le_of_ble_eq_true rfl⟩ rfl hl.1 rfl (Nat.le_of_ble_eq_true rfl) dX9_check_48 ⟨Nat.le_of_ble_eq_true rfl, Nat.le_of_ble_eq_true rfl⟩) hD hS hA (fun H locs hP hD hS => ?_)
  refine lv_iinc (v := (0 + 1)) (lv' := [(3, .int (0 + 1)), (2, .int 5), (0, .ref o), (1, .int t)]) hx hb dX9_check_51 hl (k := 0) rfl rfl (by decide) rfl (fun ls hl => ?_)
  refine lv_aload_n hx hb dX9_check_54 rfl (lv_at hl 2 rfl) ?_
  refine lv_bipush (v := 20) hx hb dX9_check_55 (by decide) ?_
  refine hs_callv0 (w1 := (mW o ad cd tn td cs hd kd rt vl hr hw cu si acc (bdT 20 (bdT 21 st)))) (hs_runV (q0 := 0) SF cal_X9_body tw_598 (c_X9_body l D o ad cd tn td cs hd kd rt vl hr hw cu si acc (bdT 21 st) (okM_mono (okM_bd 21 hok) (by decide)) 20) hK hP hD rfl rfl ⟨Nat.le_of_ble_eq_true rfl, Nat.le_of_ble_eq_true rfl⟩ rfl hl.1 rfl (Nat.le_of_ble_eq_true rfl) dX9_check_57 ⟨Nat.le_of_ble_eq_true rfl, Nat.le_of_ble_eq_true rfl⟩) hD hS hA (fun H locs hP hD hS => ?_)
  refine lv_aload_n hx hb dX9_check_60 rfl (lv_at hl 2 rfl) ?_
  refine va_get (D := D) (ci := 9) (v := .ref (ad 4)) (C := RX9) (T := TX9) (N := 15) hx hb htg in_X9 hown hK hP 0 rfl rfl 4 (by decide) (htg _ tw_524) (fun _ h9 => h9) rfl dX9_check_61 ?_
  refine lv_iload_n hx hb dX9_check_64 rfl (lv_at hl 3 rfl) ?_
  refine va_iald hx hb hK hP 4 3 rfl rfl (ht) dX9_check_65 ?_
  rw [hhr]
  refine lv_bipush (v := 10) hx hb dX9_check_66 (by decide) ?_
  refine lv_idiv hx hb dX9_check_68 (by decide) ?_
  refine lv_iload_n hx hb dX9_check_69 rfl (lv_at hl 0 rfl) ?_
  refine lv_iadd hx hb dX9_check_70 ?_
  exact hs_iret hx hb hrt hlocks hK hP hD hS dX9_check_71 (by first | rfl | (show _ = x / 10 + 1 + 2; rw [Int32.add_assoc]; rfl) | (unfold ckF; simp; done)) (by first | (simp only [bds, ckN, List.foldl_cons, List.foldl_nil]; done) | rfl)

set_option maxHeartbeats 400000 in
set_option maxRecDepth 100000 in
theorem c_X9_check_6 (l : Launch) (D : va_G) (o : Nat) (ad : Nat → Nat) (cd : Nat → ClassId) (tn td cs hd : Int32) (kd rt vl hr hw cu si : Nat → Int32) (acc : Nat → Int64) (st : TS) (t : Int32) (ht : vp_in t 24) (hkd : kd t.toNatClampNeg = nI 6) (hok : okM 3 st) (x : Int32) (hhr : hr t.toNatClampNeg = x) : CM l D yX9_check cX9_check 4 (some .int) { frames := 1, cells := 0, slots := 0, locals := 21 } (tyM cd) [.ref o, .int t] (mW o ad cd tn td cs hd kd rt vl hr hw cu si acc st) (hs_QI D (tyM cd) (ckF 6 x) (mW o ad cd tn td cs hd kd rt vl hr hw cu si acc (bds (ckN 6) st))) := by
  refine CM.of (by decide) (Nat.le_of_ble_eq_true rfl) ?_
  intro p e s m below meth c A ls hx hb hrt hml htg hown hlocks hnm hA hK hP hD hS hl
  have hown : s.vm.findClass RX9 = some m.cls := hown
  have hl : lv_has ls 4 [(0, .ref o), (1, .int t)] := hl
  have SF : CallFix p m c cX9_check 4 s _ hs_gt RX9 := ⟨hx, hb, hml, hown, htg⟩
  have hkd : kd t.toNatClampNeg = 6 := hkd
  refine lv_aload_n hx hb dX9_check_0 rfl (lv_at hl 0 rfl) ?_
  refine va_get (D := D) (ci := 9) (v := .ref (ad 1)) (C := RX9) (T := TX9) (N := 15) hx hb htg in_X9 hown hK hP 0 rfl rfl 1 (by decide) (htg _ tw_521) (fun _ h9 => h9) rfl dX9_check_1 ?_
  refine lv_iload_n hx hb dX9_check_4 rfl (lv_at hl 1 rfl) ?_
  refine va_iald hx hb hK hP 1 0 rfl rfl (ht) dX9_check_5 ?_
  rw [hkd]
  refine lv_istore_n (lv' := [(2, .int 6), (0, .ref o), (1, .int t)]) hx hb dX9_check_6 rfl hl (by decide) rfl (fun ls hl => ?_)
  refine lv_iconst (v := 0) hx hb dX9_check_7 (by decide) ?_
  refine lv_istore_n (lv' := [(3, .int 0), (2, .int 6), (0, .ref o), (1, .int t)]) hx hb dX9_check_8 rfl hl (by decide) rfl (fun ls hl => ?_)
  refine lv_iload_n hx hb dX9_check_9 rfl (lv_at hl 1 rfl) ?_
  refine lv_iconst (v := 3) hx hb dX9_check_10 (by decide) ?_
  refine lv_icmp_eq (tgt := 19) hx hb dX9_check_11 (by decide) (fun c11 => absurd c11 ((by decide))) (fun c11 => ?_)
  refine lv_iload_n hx hb dX9_check_14 rfl (lv_at hl 1 rfl) ?_
  refine lv_iconst (v := 4) hx hb dX9_check_15 (by decide) ?_
  refine lv_icmp_ne (tgt := 27) hx hb dX9_check_16 (by decide) (fun c16 => ?_) (fun c16 => absurd c16 ((by decide)))
  refine lv_iload_n hx hb dX9_check_27 rfl (lv_at hl 1 rfl) ?_
  refine lv_bipush (v := 6) hx hb dX9_check_28 (by decide) ?_
  refine lv_icmp_ne (tgt := 41) hx hb dX9_check_30 (by decide) (fun c30 => absurd c30 ((by decide))) (fun c30 => ?_)
  refine lv_aload_n hx hb dX9_check_33 rfl (lv_at hl 2 rfl) ?_
  refine lv_bipush (v := 23) hx hb dX9_check_34 (by decide) ?_
  refine hs_callv0 (w1 := (mW o ad cd tn td cs hd kd rt vl hr hw cu si acc (bdT 23 st))) (hs_runV (q0 := 0) SF cal_X9_body tw_598 (c_X9_body l D o ad cd tn td cs hd kd rt vl hr hw cu si acc st (okM_mono hok (by decide)) 23) hK hP hD rfl rfl ⟨Nat.le_of_ble_eq_true rfl, Nat.le_of_ble_eq_true rfl⟩ rfl hl.1 rfl (Nat.le_of_ble_eq_true rfl) dX9_check_36 ⟨Nat.le_of_ble_eq_true rfl, Nat.le_of_ble_eq_true rfl⟩) hD hS hA (fun H locs hP hD hS => ?_)
  refine lv_iconst (v := 4) hx hb dX9_check_39 (by decide) ?_
  refine lv_istore_n (lv' := [(3, .int 4), (2, .int 6), (0, .ref o), (1, .int t)]) hx hb dX9_check_40 rfl hl (by decide) rfl (fun ls hl => ?_)
  refine lv_iload_n hx hb dX9_check_41 rfl (lv_at hl 1 rfl) ?_
  refine lv_if_le (tgt := 54) hx hb dX9_check_42 (by decide) (fun c42 => absurd c42 ((by decide))) (fun c42 => ?_)
  refine lv_aload_n hx hb dX9_check_45 rfl (lv_at hl 2 rfl) ?_
  refine lv_bipush (v := 21) hx hb dX9_check_46 (by decide) ?_
  refine hs_callv0 (w1 := (mW o ad cd tn td cs hd kd rt vl hr hw cu si acc (bdT 21 (bdT 23 st)))) (hs_runV (q0 := 0) SF cal_X9_body tw_598 (c_X9_body l D o ad cd tn td cs hd kd rt vl hr hw cu si acc (bdT 23 st) (okM_mono (okM_bd 23 hok) (by decide)) 21) hK hP hD rfl rfl ⟨Nat.le_of_ble_eq_true rfl, Nat.le_of_ble_eq_true rfl⟩ rfl hl.1 rfl (Nat.le_of_ble_eq_true rfl) dX9_check_48 ⟨Nat.le_of_ble_eq_true rfl, Nat.le_of_ble_eq_true rfl⟩) hD hS hA (fun H locs hP hD hS => ?_)
  refine lv_iinc (v := (4 + 1)) (lv' := [(3, .int (4 + 1)), (2, .int 6), (0, .ref o), (1, .int t)]) hx hb dX9_check_51 hl (k := 0) rfl rfl (by decide) rfl (fun ls hl => ?_)
  refine lv_aload_n hx hb dX9_check_54 rfl (lv_at hl 2 rfl) ?_
  refine lv_bipush (v := 20) hx hb dX9_check_55 (by decide) ?_
  refine hs_callv0 (w1 := (mW o ad cd tn td cs hd kd rt vl hr hw cu si acc (bdT 20 (bdT 21 (bdT 23 st))))) (hs_runV (q0 := 0) SF cal_X9_body tw_598 (c_X9_body l D o ad cd tn td cs hd kd rt vl hr hw cu si acc (bdT 21 (bdT 23 st)) (okM_bd 21 (okM_bd 23 hok)) 20) hK hP hD rfl rfl ⟨Nat.le_of_ble_eq_true rfl, Nat.le_of_ble_eq_true rfl⟩ rfl hl.1 rfl (Nat.le_of_ble_eq_true rfl) dX9_check_57 ⟨Nat.le_of_ble_eq_true rfl, Nat.le_of_ble_eq_true rfl⟩) hD hS hA (fun H locs hP hD hS => ?_)
  refine lv_aload_n hx hb dX9_check_60 rfl (lv_at hl 2 rfl) ?_
  refine va_get (D := D) (ci := 9) (v := .ref (ad 4)) (C := RX9) (T := TX9) (N := 15) hx hb htg in_X9 hown hK hP 0 rfl rfl 4 (by decide) (htg _ tw_524) (fun _ h9 => h9) rfl dX9_check_61 ?_
  refine lv_iload_n hx hb dX9_check_64 rfl (lv_at hl 3 rfl) ?_
  refine va_iald hx hb hK hP 4 3 rfl rfl (ht) dX9_check_65 ?_
  rw [hhr]
  refine lv_bipush (v := 10) hx hb dX9_check_66 (by decide) ?_
  refine lv_idiv hx hb dX9_check_68 (by decide) ?_
  refine lv_iload_n hx hb dX9_check_69 rfl (lv_at hl 0 rfl) ?_
  refine lv_iadd hx hb dX9_check_70 ?_
  exact hs_iret hx hb hrt hlocks hK hP hD hS dX9_check_71 (by first | rfl | (show _ = x / 10 + 1 + 4; rw [Int32.add_assoc]; rfl) | (unfold ckF; simp; done)) (by first | (simp only [bds, ckN, List.foldl_cons, List.foldl_nil]; done) | rfl)

theorem c_X9_check (l : Launch) (D : va_G) (o : Nat) (ad : Nat → Nat) (cd : Nat → ClassId) (tn td cs hd : Int32) (kd rt vl hr hw cu si : Nat → Int32) (acc : Nat → Int64) (st : TS) (t : Int32) (ht : vp_in t 24) (k : Nat) (hk : k < 7) (hkd : kd t.toNatClampNeg = nI k) (hok : okM 3 st) (x : Int32) (hhr : hr t.toNatClampNeg = x) : CM l D yX9_check cX9_check 4 (some .int) { frames := 1, cells := 0, slots := 0, locals := 21 } (tyM cd) [.ref o, .int t] (mW o ad cd tn td cs hd kd rt vl hr hw cu si acc st) (hs_QI D (tyM cd) (ckF k x) (mW o ad cd tn td cs hd kd rt vl hr hw cu si acc (bds (ckN k) st))) := by
  match k, hk, hkd with
  | 0, _, hkd => exact c_X9_check_0 l D o ad cd tn td cs hd kd rt vl hr hw cu si acc st t ht hkd hok x hhr
  | 1, _, hkd => exact c_X9_check_1 l D o ad cd tn td cs hd kd rt vl hr hw cu si acc st t ht hkd hok x hhr
  | 2, _, hkd => exact c_X9_check_2 l D o ad cd tn td cs hd kd rt vl hr hw cu si acc st t ht hkd hok x hhr
  | 3, _, hkd => exact c_X9_check_3 l D o ad cd tn td cs hd kd rt vl hr hw cu si acc st t ht hkd hok x hhr
  | 4, _, hkd => exact c_X9_check_4 l D o ad cd tn td cs hd kd rt vl hr hw cu si acc st t ht hkd hok x hhr
  | 5, _, hkd => exact c_X9_check_5 l D o ad cd tn td cs hd kd rt vl hr hw cu si acc st t ht hkd hok x hhr
  | 6, _, hkd => exact c_X9_check_6 l D o ad cd tn td cs hd kd rt vl hr hw cu si acc st t ht hkd hok x hhr
  | k + 7, hk, _ => exact absurd hk (by omega)

theorem cal_X9_check : hs_cV yX9_check cX9_check 4 (some .int) 1 := ⟨tw_609, tw_608, tw_11, tw_19, by decide +kernel⟩

set_option maxHeartbeats 400000 in
set_option maxRecDepth 100000 in
theorem c_X9_deposit_1 (l : Launch) (D : va_G) (o : Nat) (ad : Nat → Nat) (cd : Nat → ClassId) (tn td cs hd : Int32) (kd rt vl hr hw cu si : Nat → Int32) (acc : Nat → Int64) (st : TS) (t : Int32) (ht : vp_in t 24) (hkd : kd t.toNatClampNeg = nI 1) (hok : okM 2 st) : CM l D yX9_deposit cX9_deposit 2 (some .int) { frames := 1, cells := 0, slots := 0, locals := 21 } (tyM cd) [.ref o, .int t] (mW o ad cd tn td cs hd kd rt vl hr hw cu si acc st) (hs_QI D (tyM cd) (dpF 1 (vl t.toNatClampNeg)) (mW o ad cd tn td cs hd kd rt vl hr hw cu si acc (bds (dpN 1) st))) := by
  refine CM.of (by decide) (Nat.le_of_ble_eq_true rfl) ?_
  intro p e s m below meth c A ls hx hb hrt hml htg hown hlocks hnm hA hK hP hD hS hl
  have hown : s.vm.findClass RX9 = some m.cls := hown
  have hl : lv_has ls 2 [(0, .ref o), (1, .int t)] := hl
  have SF : CallFix p m c cX9_deposit 2 s _ hs_gt RX9 := ⟨hx, hb, hml, hown, htg⟩
  have hkd : kd t.toNatClampNeg = 1 := hkd
  refine lv_aload_n hx hb dX9_deposit_0 rfl (lv_at hl 0 rfl) ?_
  refine va_get (D := D) (ci := 9) (v := .ref (ad 1)) (C := RX9) (T := TX9) (N := 15) hx hb htg in_X9 hown hK hP 0 rfl rfl 1 (by decide) (htg _ tw_521) (fun _ h9 => h9) rfl dX9_deposit_1 ?_
  refine lv_iload_n hx hb dX9_deposit_4 rfl (lv_at hl 1 rfl) ?_
  refine va_iald hx hb hK hP 1 0 rfl rfl (ht) dX9_deposit_5 ?_
  rw [hkd]
  refine lv_iconst (v := 4) hx hb dX9_deposit_6 (by decide) ?_
  refine lv_icmp_ne (tgt := 16) hx hb dX9_deposit_7 (by decide) (fun c7 => ?_) (fun c7 => absurd c7 ((by decide)))
  refine lv_aload_n hx hb dX9_deposit_16 rfl (lv_at hl 0 rfl) ?_
  refine lv_bipush (v := 31) hx hb dX9_deposit_17 (by decide) ?_
  refine hs_callv0 (w1 := (mW o ad cd tn td cs hd kd rt vl hr hw cu si acc (bdT 31 st))) (hs_runV (q0 := 0) SF cal_X9_body tw_598 (c_X9_body l D o ad cd tn td cs hd kd rt vl hr hw cu si acc st (okM_mono hok (by decide)) 31) hK hP hD rfl rfl ⟨Nat.le_of_ble_eq_true rfl, Nat.le_of_ble_eq_true rfl⟩ rfl hl.1 rfl (Nat.le_of_ble_eq_true rfl) dX9_deposit_19 ⟨Nat.le_of_ble_eq_true rfl, Nat.le_of_ble_eq_true rfl⟩) hD hS hA (fun H locs hP hD hS => ?_)
  refine lv_aload_n hx hb dX9_deposit_22 rfl (lv_at hl 0 rfl) ?_
  refine va_get (D := D) (ci := 9) (v := .ref (ad 3)) (C := RX9) (T := TX9) (N := 15) hx hb htg in_X9 hown hK hP 0 rfl rfl 3 (by decide) (htg _ tw_523) (fun _ h9 => h9) rfl dX9_deposit_23 ?_
  refine lv_iload_n hx hb dX9_deposit_26 rfl (lv_at hl 1 rfl) ?_
  refine va_iald hx hb hK hP 3 2 rfl rfl (ht) dX9_deposit_27 ?_
  refine lv_iconst (v := 2) hx hb dX9_deposit_28 (by decide) ?_
  refine lv_idiv hx hb dX9_deposit_29 (by decide) ?_
  refine lv_aload_n hx hb dX9_deposit_30 rfl (lv_at hl 0 rfl) ?_
  refine va_get (D := D) (ci := 9) (v := .ref (ad 1)) (C := RX9) (T := TX9) (N := 15) hx hb htg in_X9 hown hK hP 0 rfl rfl 1 (by decide) (htg _ tw_521) (fun _ h9 => h9) rfl dX9_deposit_31 ?_
  refine lv_iload_n hx hb dX9_deposit_34 rfl (lv_at hl 1 rfl) ?_
  refine va_iald hx hb hK hP 1 0 rfl rfl (ht) dX9_deposit_35 ?_
  rw [hkd]
  refine lv_iconst (v := 4) hx hb dX9_deposit_36 (by decide) ?_
  refine lv_icmp_ne (tgt := 46) hx hb dX9_deposit_37 (by decide) (fun c37 => ?_) (fun c37 => absurd c37 ((by decide)))
  refine lv_iconst (v := 0) hx hb dX9_deposit_46 (by decide) ?_
  refine lv_iadd hx hb dX9_deposit_47 ?_
  exact hs_iret hx hb hrt hlocks hK hP hD hS dX9_deposit_48 (by unfold dpF; first | rfl | (simp; done)) (by first | (simp only [bds, dpN, List.foldl_cons, List.foldl_nil]; done) | rfl)

set_option maxHeartbeats 400000 in
set_option maxRecDepth 100000 in
theorem c_X9_deposit_2 (l : Launch) (D : va_G) (o : Nat) (ad : Nat → Nat) (cd : Nat → ClassId) (tn td cs hd : Int32) (kd rt vl hr hw cu si : Nat → Int32) (acc : Nat → Int64) (st : TS) (t : Int32) (ht : vp_in t 24) (hkd : kd t.toNatClampNeg = nI 2) (hok : okM 2 st) : CM l D yX9_deposit cX9_deposit 2 (some .int) { frames := 1, cells := 0, slots := 0, locals := 21 } (tyM cd) [.ref o, .int t] (mW o ad cd tn td cs hd kd rt vl hr hw cu si acc st) (hs_QI D (tyM cd) (dpF 2 (vl t.toNatClampNeg)) (mW o ad cd tn td cs hd kd rt vl hr hw cu si acc (bds (dpN 2) st))) := by
  refine CM.of (by decide) (Nat.le_of_ble_eq_true rfl) ?_
  intro p e s m below meth c A ls hx hb hrt hml htg hown hlocks hnm hA hK hP hD hS hl
  have hown : s.vm.findClass RX9 = some m.cls := hown
  have hl : lv_has ls 2 [(0, .ref o), (1, .int t)] := hl
  have SF : CallFix p m c cX9_deposit 2 s _ hs_gt RX9 := ⟨hx, hb, hml, hown, htg⟩
  have hkd : kd t.toNatClampNeg = 2 := hkd
  refine lv_aload_n hx hb dX9_deposit_0 rfl (lv_at hl 0 rfl) ?_
  refine va_get (D := D) (ci := 9) (v := .ref (ad 1)) (C := RX9) (T := TX9) (N := 15) hx hb htg in_X9 hown hK hP 0 rfl rfl 1 (by decide) (htg _ tw_521) (fun _ h9 => h9) rfl dX9_deposit_1 ?_
  refine lv_iload_n hx hb dX9_deposit_4 rfl (lv_at hl 1 rfl) ?_
  refine va_iald hx hb hK hP 1 0 rfl rfl (ht) dX9_deposit_5 ?_
  rw [hkd]
  refine lv_iconst (v := 4) hx hb dX9_deposit_6 (by decide) ?_
  refine lv_icmp_ne (tgt := 16) hx hb dX9_deposit_7 (by decide) (fun c7 => ?_) (fun c7 => absurd c7 ((by decide)))
  refine lv_aload_n hx hb dX9_deposit_16 rfl (lv_at hl 0 rfl) ?_
  refine lv_bipush (v := 31) hx hb dX9_deposit_17 (by decide) ?_
  refine hs_callv0 (w1 := (mW o ad cd tn td cs hd kd rt vl hr hw cu si acc (bdT 31 st))) (hs_runV (q0 := 0) SF cal_X9_body tw_598 (c_X9_body l D o ad cd tn td cs hd kd rt vl hr hw cu si acc st (okM_mono hok (by decide)) 31) hK hP hD rfl rfl ⟨Nat.le_of_ble_eq_true rfl, Nat.le_of_ble_eq_true rfl⟩ rfl hl.1 rfl (Nat.le_of_ble_eq_true rfl) dX9_deposit_19 ⟨Nat.le_of_ble_eq_true rfl, Nat.le_of_ble_eq_true rfl⟩) hD hS hA (fun H locs hP hD hS => ?_)
  refine lv_aload_n hx hb dX9_deposit_22 rfl (lv_at hl 0 rfl) ?_
  refine va_get (D := D) (ci := 9) (v := .ref (ad 3)) (C := RX9) (T := TX9) (N := 15) hx hb htg in_X9 hown hK hP 0 rfl rfl 3 (by decide) (htg _ tw_523) (fun _ h9 => h9) rfl dX9_deposit_23 ?_
  refine lv_iload_n hx hb dX9_deposit_26 rfl (lv_at hl 1 rfl) ?_
  refine va_iald hx hb hK hP 3 2 rfl rfl (ht) dX9_deposit_27 ?_
  refine lv_iconst (v := 2) hx hb dX9_deposit_28 (by decide) ?_
  refine lv_idiv hx hb dX9_deposit_29 (by decide) ?_
  refine lv_aload_n hx hb dX9_deposit_30 rfl (lv_at hl 0 rfl) ?_
  refine va_get (D := D) (ci := 9) (v := .ref (ad 1)) (C := RX9) (T := TX9) (N := 15) hx hb htg in_X9 hown hK hP 0 rfl rfl 1 (by decide) (htg _ tw_521) (fun _ h9 => h9) rfl dX9_deposit_31 ?_
  refine lv_iload_n hx hb dX9_deposit_34 rfl (lv_at hl 1 rfl) ?_
  refine va_iald hx hb hK hP 1 0 rfl rfl (ht) dX9_deposit_35 ?_
  rw [hkd]
  refine lv_iconst (v := 4) hx hb dX9_deposit_36 (by decide) ?_
  refine lv_icmp_ne (tgt := 46) hx hb dX9_deposit_37 (by decide) (fun c37 => ?_) (fun c37 => absurd c37 ((by decide)))
  refine lv_iconst (v := 0) hx hb dX9_deposit_46 (by decide) ?_
  refine lv_iadd hx hb dX9_deposit_47 ?_
  exact hs_iret hx hb hrt hlocks hK hP hD hS dX9_deposit_48 (by unfold dpF; first | rfl | (simp; done)) (by first | (simp only [bds, dpN, List.foldl_cons, List.foldl_nil]; done) | rfl)

set_option maxHeartbeats 400000 in
set_option maxRecDepth 100000 in
theorem c_X9_deposit_3 (l : Launch) (D : va_G) (o : Nat) (ad : Nat → Nat) (cd : Nat → ClassId) (tn td cs hd : Int32) (kd rt vl hr hw cu si : Nat → Int32) (acc : Nat → Int64) (st : TS) (t : Int32) (ht : vp_in t 24) (hkd : kd t.toNatClampNeg = nI 3) (hok : okM 2 st) : CM l D yX9_deposit cX9_deposit 2 (some .int) { frames := 1, cells := 0, slots := 0, locals := 21 } (tyM cd) [.ref o, .int t] (mW o ad cd tn td cs hd kd rt vl hr hw cu si acc st) (hs_QI D (tyM cd) (dpF 3 (vl t.toNatClampNeg)) (mW o ad cd tn td cs hd kd rt vl hr hw cu si acc (bds (dpN 3) st))) := by
  refine CM.of (by decide) (Nat.le_of_ble_eq_true rfl) ?_
  intro p e s m below meth c A ls hx hb hrt hml htg hown hlocks hnm hA hK hP hD hS hl
  have hown : s.vm.findClass RX9 = some m.cls := hown
  have hl : lv_has ls 2 [(0, .ref o), (1, .int t)] := hl
  have SF : CallFix p m c cX9_deposit 2 s _ hs_gt RX9 := ⟨hx, hb, hml, hown, htg⟩
  have hkd : kd t.toNatClampNeg = 3 := hkd
  refine lv_aload_n hx hb dX9_deposit_0 rfl (lv_at hl 0 rfl) ?_
  refine va_get (D := D) (ci := 9) (v := .ref (ad 1)) (C := RX9) (T := TX9) (N := 15) hx hb htg in_X9 hown hK hP 0 rfl rfl 1 (by decide) (htg _ tw_521) (fun _ h9 => h9) rfl dX9_deposit_1 ?_
  refine lv_iload_n hx hb dX9_deposit_4 rfl (lv_at hl 1 rfl) ?_
  refine va_iald hx hb hK hP 1 0 rfl rfl (ht) dX9_deposit_5 ?_
  rw [hkd]
  refine lv_iconst (v := 4) hx hb dX9_deposit_6 (by decide) ?_
  refine lv_icmp_ne (tgt := 16) hx hb dX9_deposit_7 (by decide) (fun c7 => ?_) (fun c7 => absurd c7 ((by decide)))
  refine lv_aload_n hx hb dX9_deposit_16 rfl (lv_at hl 0 rfl) ?_
  refine lv_bipush (v := 31) hx hb dX9_deposit_17 (by decide) ?_
  refine hs_callv0 (w1 := (mW o ad cd tn td cs hd kd rt vl hr hw cu si acc (bdT 31 st))) (hs_runV (q0 := 0) SF cal_X9_body tw_598 (c_X9_body l D o ad cd tn td cs hd kd rt vl hr hw cu si acc st (okM_mono hok (by decide)) 31) hK hP hD rfl rfl ⟨Nat.le_of_ble_eq_true rfl, Nat.le_of_ble_eq_true rfl⟩ rfl hl.1 rfl (Nat.le_of_ble_eq_true rfl) dX9_deposit_19 ⟨Nat.le_of_ble_eq_true rfl, Nat.le_of_ble_eq_true rfl⟩) hD hS hA (fun H locs hP hD hS => ?_)
  refine lv_aload_n hx hb dX9_deposit_22 rfl (lv_at hl 0 rfl) ?_
  refine va_get (D := D) (ci := 9) (v := .ref (ad 3)) (C := RX9) (T := TX9) (N := 15) hx hb htg in_X9 hown hK hP 0 rfl rfl 3 (by decide) (htg _ tw_523) (fun _ h9 => h9) rfl dX9_deposit_23 ?_
  refine lv_iload_n hx hb dX9_deposit_26 rfl (lv_at hl 1 rfl) ?_
  refine va_iald hx hb hK hP 3 2 rfl rfl (ht) dX9_deposit_27 ?_
  refine lv_iconst (v := 2) hx hb dX9_deposit_28 (by decide) ?_
  refine lv_idiv hx hb dX9_deposit_29 (by decide) ?_
  refine lv_aload_n hx hb dX9_deposit_30 rfl (lv_at hl 0 rfl) ?_
  refine va_get (D := D) (ci := 9) (v := .ref (ad 1)) (C := RX9) (T := TX9) (N := 15) hx hb htg in_X9 hown hK hP 0 rfl rfl 1 (by decide) (htg _ tw_521) (fun _ h9 => h9) rfl dX9_deposit_31 ?_
  refine lv_iload_n hx hb dX9_deposit_34 rfl (lv_at hl 1 rfl) ?_
  refine va_iald hx hb hK hP 1 0 rfl rfl (ht) dX9_deposit_35 ?_
  rw [hkd]
  refine lv_iconst (v := 4) hx hb dX9_deposit_36 (by decide) ?_
  refine lv_icmp_ne (tgt := 46) hx hb dX9_deposit_37 (by decide) (fun c37 => ?_) (fun c37 => absurd c37 ((by decide)))
  refine lv_iconst (v := 0) hx hb dX9_deposit_46 (by decide) ?_
  refine lv_iadd hx hb dX9_deposit_47 ?_
  exact hs_iret hx hb hrt hlocks hK hP hD hS dX9_deposit_48 (by unfold dpF; first | rfl | (simp; done)) (by first | (simp only [bds, dpN, List.foldl_cons, List.foldl_nil]; done) | rfl)

set_option maxHeartbeats 400000 in
set_option maxRecDepth 100000 in
theorem c_X9_deposit_4 (l : Launch) (D : va_G) (o : Nat) (ad : Nat → Nat) (cd : Nat → ClassId) (tn td cs hd : Int32) (kd rt vl hr hw cu si : Nat → Int32) (acc : Nat → Int64) (st : TS) (t : Int32) (ht : vp_in t 24) (hkd : kd t.toNatClampNeg = nI 4) (hok : okM 2 st) : CM l D yX9_deposit cX9_deposit 2 (some .int) { frames := 1, cells := 0, slots := 0, locals := 21 } (tyM cd) [.ref o, .int t] (mW o ad cd tn td cs hd kd rt vl hr hw cu si acc st) (hs_QI D (tyM cd) (dpF 4 (vl t.toNatClampNeg)) (mW o ad cd tn td cs hd kd rt vl hr hw cu si acc (bds (dpN 4) st))) := by
  refine CM.of (by decide) (Nat.le_of_ble_eq_true rfl) ?_
  intro p e s m below meth c A ls hx hb hrt hml htg hown hlocks hnm hA hK hP hD hS hl
  have hown : s.vm.findClass RX9 = some m.cls := hown
  have hl : lv_has ls 2 [(0, .ref o), (1, .int t)] := hl
  have SF : CallFix p m c cX9_deposit 2 s _ hs_gt RX9 := ⟨hx, hb, hml, hown, htg⟩
  have hkd : kd t.toNatClampNeg = 4 := hkd
  refine lv_aload_n hx hb dX9_deposit_0 rfl (lv_at hl 0 rfl) ?_
  refine va_get (D := D) (ci := 9) (v := .ref (ad 1)) (C := RX9) (T := TX9) (N := 15) hx hb htg in_X9 hown hK hP 0 rfl rfl 1 (by decide) (htg _ tw_521) (fun _ h9 => h9) rfl dX9_deposit_1 ?_
  refine lv_iload_n hx hb dX9_deposit_4 rfl (lv_at hl 1 rfl) ?_
  refine va_iald hx hb hK hP 1 0 rfl rfl (ht) dX9_deposit_5 ?_
  rw [hkd]
  refine lv_iconst (v := 4) hx hb dX9_deposit_6 (by decide) ?_
  refine lv_icmp_ne (tgt := 16) hx hb dX9_deposit_7 (by decide) (fun c7 => absurd c7 ((by decide))) (fun c7 => ?_)
  refine lv_aload_n hx hb dX9_deposit_10 rfl (lv_at hl 0 rfl) ?_
  refine lv_bipush (v := 32) hx hb dX9_deposit_11 (by decide) ?_
  refine hs_callv0 (w1 := (mW o ad cd tn td cs hd kd rt vl hr hw cu si acc (bdT 32 st))) (hs_runV (q0 := 0) SF cal_X9_body tw_598 (c_X9_body l D o ad cd tn td cs hd kd rt vl hr hw cu si acc st (okM_mono hok (by decide)) 32) hK hP hD rfl rfl ⟨Nat.le_of_ble_eq_true rfl, Nat.le_of_ble_eq_true rfl⟩ rfl hl.1 rfl (Nat.le_of_ble_eq_true rfl) dX9_deposit_13 ⟨Nat.le_of_ble_eq_true rfl, Nat.le_of_ble_eq_true rfl⟩) hD hS hA (fun H locs hP hD hS => ?_)
  refine lv_aload_n hx hb dX9_deposit_16 rfl (lv_at hl 0 rfl) ?_
  refine lv_bipush (v := 31) hx hb dX9_deposit_17 (by decide) ?_
  refine hs_callv0 (w1 := (mW o ad cd tn td cs hd kd rt vl hr hw cu si acc (bdT 31 (bdT 32 st)))) (hs_runV (q0 := 0) SF cal_X9_body tw_598 (c_X9_body l D o ad cd tn td cs hd kd rt vl hr hw cu si acc (bdT 32 st) (okM_bd 32 hok) 31) hK hP hD rfl rfl ⟨Nat.le_of_ble_eq_true rfl, Nat.le_of_ble_eq_true rfl⟩ rfl hl.1 rfl (Nat.le_of_ble_eq_true rfl) dX9_deposit_19 ⟨Nat.le_of_ble_eq_true rfl, Nat.le_of_ble_eq_true rfl⟩) hD hS hA (fun H locs hP hD hS => ?_)
  refine lv_aload_n hx hb dX9_deposit_22 rfl (lv_at hl 0 rfl) ?_
  refine va_get (D := D) (ci := 9) (v := .ref (ad 3)) (C := RX9) (T := TX9) (N := 15) hx hb htg in_X9 hown hK hP 0 rfl rfl 3 (by decide) (htg _ tw_523) (fun _ h9 => h9) rfl dX9_deposit_23 ?_
  refine lv_iload_n hx hb dX9_deposit_26 rfl (lv_at hl 1 rfl) ?_
  refine va_iald hx hb hK hP 3 2 rfl rfl (ht) dX9_deposit_27 ?_
  refine lv_iconst (v := 2) hx hb dX9_deposit_28 (by decide) ?_
  refine lv_idiv hx hb dX9_deposit_29 (by decide) ?_
  refine lv_aload_n hx hb dX9_deposit_30 rfl (lv_at hl 0 rfl) ?_
  refine va_get (D := D) (ci := 9) (v := .ref (ad 1)) (C := RX9) (T := TX9) (N := 15) hx hb htg in_X9 hown hK hP 0 rfl rfl 1 (by decide) (htg _ tw_521) (fun _ h9 => h9) rfl dX9_deposit_31 ?_
  refine lv_iload_n hx hb dX9_deposit_34 rfl (lv_at hl 1 rfl) ?_
  refine va_iald hx hb hK hP 1 0 rfl rfl (ht) dX9_deposit_35 ?_
  rw [hkd]
  refine lv_iconst (v := 4) hx hb dX9_deposit_36 (by decide) ?_
  refine lv_icmp_ne (tgt := 46) hx hb dX9_deposit_37 (by decide) (fun c37 => absurd c37 ((by decide))) (fun c37 => ?_)
  refine lv_sipush (v := 500) hx hb dX9_deposit_40 (by decide) ?_
  refine lv_goto (tgt := 47) hx hb dX9_deposit_43 (by decide) ?_
  refine lv_iadd hx hb dX9_deposit_47 ?_
  exact hs_iret hx hb hrt hlocks hK hP hD hS dX9_deposit_48 (by unfold dpF; first | rfl | (simp; done)) (by first | (simp only [bds, dpN, List.foldl_cons, List.foldl_nil]; done) | rfl)

set_option maxHeartbeats 400000 in
set_option maxRecDepth 100000 in
theorem c_X9_deposit_5 (l : Launch) (D : va_G) (o : Nat) (ad : Nat → Nat) (cd : Nat → ClassId) (tn td cs hd : Int32) (kd rt vl hr hw cu si : Nat → Int32) (acc : Nat → Int64) (st : TS) (t : Int32) (ht : vp_in t 24) (hkd : kd t.toNatClampNeg = nI 5) (hok : okM 2 st) : CM l D yX9_deposit cX9_deposit 2 (some .int) { frames := 1, cells := 0, slots := 0, locals := 21 } (tyM cd) [.ref o, .int t] (mW o ad cd tn td cs hd kd rt vl hr hw cu si acc st) (hs_QI D (tyM cd) (dpF 5 (vl t.toNatClampNeg)) (mW o ad cd tn td cs hd kd rt vl hr hw cu si acc (bds (dpN 5) st))) := by
  refine CM.of (by decide) (Nat.le_of_ble_eq_true rfl) ?_
  intro p e s m below meth c A ls hx hb hrt hml htg hown hlocks hnm hA hK hP hD hS hl
  have hown : s.vm.findClass RX9 = some m.cls := hown
  have hl : lv_has ls 2 [(0, .ref o), (1, .int t)] := hl
  have SF : CallFix p m c cX9_deposit 2 s _ hs_gt RX9 := ⟨hx, hb, hml, hown, htg⟩
  have hkd : kd t.toNatClampNeg = 5 := hkd
  refine lv_aload_n hx hb dX9_deposit_0 rfl (lv_at hl 0 rfl) ?_
  refine va_get (D := D) (ci := 9) (v := .ref (ad 1)) (C := RX9) (T := TX9) (N := 15) hx hb htg in_X9 hown hK hP 0 rfl rfl 1 (by decide) (htg _ tw_521) (fun _ h9 => h9) rfl dX9_deposit_1 ?_
  refine lv_iload_n hx hb dX9_deposit_4 rfl (lv_at hl 1 rfl) ?_
  refine va_iald hx hb hK hP 1 0 rfl rfl (ht) dX9_deposit_5 ?_
  rw [hkd]
  refine lv_iconst (v := 4) hx hb dX9_deposit_6 (by decide) ?_
  refine lv_icmp_ne (tgt := 16) hx hb dX9_deposit_7 (by decide) (fun c7 => ?_) (fun c7 => absurd c7 ((by decide)))
  refine lv_aload_n hx hb dX9_deposit_16 rfl (lv_at hl 0 rfl) ?_
  refine lv_bipush (v := 31) hx hb dX9_deposit_17 (by decide) ?_
  refine hs_callv0 (w1 := (mW o ad cd tn td cs hd kd rt vl hr hw cu si acc (bdT 31 st))) (hs_runV (q0 := 0) SF cal_X9_body tw_598 (c_X9_body l D o ad cd tn td cs hd kd rt vl hr hw cu si acc st (okM_mono hok (by decide)) 31) hK hP hD rfl rfl ⟨Nat.le_of_ble_eq_true rfl, Nat.le_of_ble_eq_true rfl⟩ rfl hl.1 rfl (Nat.le_of_ble_eq_true rfl) dX9_deposit_19 ⟨Nat.le_of_ble_eq_true rfl, Nat.le_of_ble_eq_true rfl⟩) hD hS hA (fun H locs hP hD hS => ?_)
  refine lv_aload_n hx hb dX9_deposit_22 rfl (lv_at hl 0 rfl) ?_
  refine va_get (D := D) (ci := 9) (v := .ref (ad 3)) (C := RX9) (T := TX9) (N := 15) hx hb htg in_X9 hown hK hP 0 rfl rfl 3 (by decide) (htg _ tw_523) (fun _ h9 => h9) rfl dX9_deposit_23 ?_
  refine lv_iload_n hx hb dX9_deposit_26 rfl (lv_at hl 1 rfl) ?_
  refine va_iald hx hb hK hP 3 2 rfl rfl (ht) dX9_deposit_27 ?_
  refine lv_iconst (v := 2) hx hb dX9_deposit_28 (by decide) ?_
  refine lv_idiv hx hb dX9_deposit_29 (by decide) ?_
  refine lv_aload_n hx hb dX9_deposit_30 rfl (lv_at hl 0 rfl) ?_
  refine va_get (D := D) (ci := 9) (v := .ref (ad 1)) (C := RX9) (T := TX9) (N := 15) hx hb htg in_X9 hown hK hP 0 rfl rfl 1 (by decide) (htg _ tw_521) (fun _ h9 => h9) rfl dX9_deposit_31 ?_
  refine lv_iload_n hx hb dX9_deposit_34 rfl (lv_at hl 1 rfl) ?_
  refine va_iald hx hb hK hP 1 0 rfl rfl (ht) dX9_deposit_35 ?_
  rw [hkd]
  refine lv_iconst (v := 4) hx hb dX9_deposit_36 (by decide) ?_
  refine lv_icmp_ne (tgt := 46) hx hb dX9_deposit_37 (by decide) (fun c37 => ?_) (fun c37 => absurd c37 ((by decide)))
  refine lv_iconst (v := 0) hx hb dX9_deposit_46 (by decide) ?_
  refine lv_iadd hx hb dX9_deposit_47 ?_
  exact hs_iret hx hb hrt hlocks hK hP hD hS dX9_deposit_48 (by unfold dpF; first | rfl | (simp; done)) (by first | (simp only [bds, dpN, List.foldl_cons, List.foldl_nil]; done) | rfl)

set_option maxHeartbeats 400000 in
set_option maxRecDepth 100000 in
theorem c_X9_deposit_6 (l : Launch) (D : va_G) (o : Nat) (ad : Nat → Nat) (cd : Nat → ClassId) (tn td cs hd : Int32) (kd rt vl hr hw cu si : Nat → Int32) (acc : Nat → Int64) (st : TS) (t : Int32) (ht : vp_in t 24) (hkd : kd t.toNatClampNeg = nI 6) (hok : okM 2 st) : CM l D yX9_deposit cX9_deposit 2 (some .int) { frames := 1, cells := 0, slots := 0, locals := 21 } (tyM cd) [.ref o, .int t] (mW o ad cd tn td cs hd kd rt vl hr hw cu si acc st) (hs_QI D (tyM cd) (dpF 6 (vl t.toNatClampNeg)) (mW o ad cd tn td cs hd kd rt vl hr hw cu si acc (bds (dpN 6) st))) := by
  refine CM.of (by decide) (Nat.le_of_ble_eq_true rfl) ?_
  intro p e s m below meth c A ls hx hb hrt hml htg hown hlocks hnm hA hK hP hD hS hl
  have hown : s.vm.findClass RX9 = some m.cls := hown
  have hl : lv_has ls 2 [(0, .ref o), (1, .int t)] := hl
  have SF : CallFix p m c cX9_deposit 2 s _ hs_gt RX9 := ⟨hx, hb, hml, hown, htg⟩
  have hkd : kd t.toNatClampNeg = 6 := hkd
  refine lv_aload_n hx hb dX9_deposit_0 rfl (lv_at hl 0 rfl) ?_
  refine va_get (D := D) (ci := 9) (v := .ref (ad 1)) (C := RX9) (T := TX9) (N := 15) hx hb htg in_X9 hown hK hP 0 rfl rfl 1 (by decide) (htg _ tw_521) (fun _ h9 => h9) rfl dX9_deposit_1 ?_
  refine lv_iload_n hx hb dX9_deposit_4 rfl (lv_at hl 1 rfl) ?_
  refine va_iald hx hb hK hP 1 0 rfl rfl (ht) dX9_deposit_5 ?_
  rw [hkd]
  refine lv_iconst (v := 4) hx hb dX9_deposit_6 (by decide) ?_
  refine lv_icmp_ne (tgt := 16) hx hb dX9_deposit_7 (by decide) (fun c7 => ?_) (fun c7 => absurd c7 ((by decide)))
  refine lv_aload_n hx hb dX9_deposit_16 rfl (lv_at hl 0 rfl) ?_
  refine lv_bipush (v := 31) hx hb dX9_deposit_17 (by decide) ?_
  refine hs_callv0 (w1 := (mW o ad cd tn td cs hd kd rt vl hr hw cu si acc (bdT 31 st))) (hs_runV (q0 := 0) SF cal_X9_body tw_598 (c_X9_body l D o ad cd tn td cs hd kd rt vl hr hw cu si acc st (okM_mono hok (by decide)) 31) hK hP hD rfl rfl ⟨Nat.le_of_ble_eq_true rfl, Nat.le_of_ble_eq_true rfl⟩ rfl hl.1 rfl (Nat.le_of_ble_eq_true rfl) dX9_deposit_19 ⟨Nat.le_of_ble_eq_true rfl, Nat.le_of_ble_eq_true rfl⟩) hD hS hA (fun H locs hP hD hS => ?_)
  refine lv_aload_n hx hb dX9_deposit_22 rfl (lv_at hl 0 rfl) ?_
  refine va_get (D := D) (ci := 9) (v := .ref (ad 3)) (C := RX9) (T := TX9) (N := 15) hx hb htg in_X9 hown hK hP 0 rfl rfl 3 (by decide) (htg _ tw_523) (fun _ h9 => h9) rfl dX9_deposit_23 ?_
  refine lv_iload_n hx hb dX9_deposit_26 rfl (lv_at hl 1 rfl) ?_
  refine va_iald hx hb hK hP 3 2 rfl rfl (ht) dX9_deposit_27 ?_
  refine lv_iconst (v := 2) hx hb dX9_deposit_28 (by decide) ?_
  refine lv_idiv hx hb dX9_deposit_29 (by decide) ?_
  refine lv_aload_n hx hb dX9_deposit_30 rfl (lv_at hl 0 rfl) ?_
  refine va_get (D := D) (ci := 9) (v := .ref (ad 1)) (C := RX9) (T := TX9) (N := 15) hx hb htg in_X9 hown hK hP 0 rfl rfl 1 (by decide) (htg _ tw_521) (fun _ h9 => h9) rfl dX9_deposit_31 ?_
  refine lv_iload_n hx hb dX9_deposit_34 rfl (lv_at hl 1 rfl) ?_
  refine va_iald hx hb hK hP 1 0 rfl rfl (ht) dX9_deposit_35 ?_
  rw [hkd]
  refine lv_iconst (v := 4) hx hb dX9_deposit_36 (by decide) ?_
  refine lv_icmp_ne (tgt := 46) hx hb dX9_deposit_37 (by decide) (fun c37 => ?_) (fun c37 => absurd c37 ((by decide)))
  refine lv_iconst (v := 0) hx hb dX9_deposit_46 (by decide) ?_
  refine lv_iadd hx hb dX9_deposit_47 ?_
  exact hs_iret hx hb hrt hlocks hK hP hD hS dX9_deposit_48 (by unfold dpF; first | rfl | (simp; done)) (by first | (simp only [bds, dpN, List.foldl_cons, List.foldl_nil]; done) | rfl)

theorem c_X9_deposit (l : Launch) (D : va_G) (o : Nat) (ad : Nat → Nat) (cd : Nat → ClassId) (tn td cs hd : Int32) (kd rt vl hr hw cu si : Nat → Int32) (acc : Nat → Int64) (st : TS) (t : Int32) (ht : vp_in t 24) (k : Nat) (hk : k < 7) (hkd : kd t.toNatClampNeg = nI k) (hok : okM 2 st) (hg : ¬ hasD k = 0) : CM l D yX9_deposit cX9_deposit 2 (some .int) { frames := 1, cells := 0, slots := 0, locals := 21 } (tyM cd) [.ref o, .int t] (mW o ad cd tn td cs hd kd rt vl hr hw cu si acc st) (hs_QI D (tyM cd) (dpF k (vl t.toNatClampNeg)) (mW o ad cd tn td cs hd kd rt vl hr hw cu si acc (bds (dpN k) st))) := by
  match k, hk, hkd, hg with
  | 0, _, _, hg => exact absurd hg (by decide)
  | 1, _, hkd, hg => exact c_X9_deposit_1 l D o ad cd tn td cs hd kd rt vl hr hw cu si acc st t ht hkd hok 
  | 2, _, hkd, hg => exact c_X9_deposit_2 l D o ad cd tn td cs hd kd rt vl hr hw cu si acc st t ht hkd hok 
  | 3, _, hkd, hg => exact c_X9_deposit_3 l D o ad cd tn td cs hd kd rt vl hr hw cu si acc st t ht hkd hok 
  | 4, _, hkd, hg => exact c_X9_deposit_4 l D o ad cd tn td cs hd kd rt vl hr hw cu si acc st t ht hkd hok 
  | 5, _, hkd, hg => exact c_X9_deposit_5 l D o ad cd tn td cs hd kd rt vl hr hw cu si acc st t ht hkd hok 
  | 6, _, hkd, hg => exact c_X9_deposit_6 l D o ad cd tn td cs hd kd rt vl hr hw cu si acc st t ht hkd hok 
  | k + 7, hk, _, _ => exact absurd hk (by omega)

theorem cal_X9_deposit : hs_cV yX9_deposit cX9_deposit 2 (some .int) 1 := ⟨tw_613, tw_612, tw_12, tw_19, by decide +kernel⟩

set_option maxHeartbeats 400000 in
set_option maxRecDepth 100000 in
theorem c_X9_isInsured_0 (l : Launch) (D : va_G) (o : Nat) (ad : Nat → Nat) (cd : Nat → ClassId) (tn td cs hd : Int32) (kd rt vl hr hw cu si : Nat → Int32) (acc : Nat → Int64) (st : TS) (t : Int32) (ht : vp_in t 24) (hkd : kd t.toNatClampNeg = nI 0) : CM l D yX9_isInsured cX9_isInsured 2 (some .boolean) { frames := 1, cells := 0, slots := 0, locals := 22 } (tyM cd) [.ref o, .int t] (mW o ad cd tn td cs hd kd rt vl hr hw cu si acc st) (hs_QI D (tyM cd) (isI 0) (mW o ad cd tn td cs hd kd rt vl hr hw cu si acc st)) := by
  refine CM.of (by decide) (Nat.le_of_ble_eq_true rfl) ?_
  intro p e s m below meth c A ls hx hb hrt hml htg hown hlocks hnm hA hK hP hD hS hl
  have hown : s.vm.findClass RX9 = some m.cls := hown
  have hl : lv_has ls 2 [(0, .ref o), (1, .int t)] := hl
  have SF : CallFix p m c cX9_isInsured 2 s _ hs_gt RX9 := ⟨hx, hb, hml, hown, htg⟩
  have hkd : kd t.toNatClampNeg = 0 := hkd
  refine lv_aload_n hx hb dX9_isInsured_0 rfl (lv_at hl 0 rfl) ?_
  refine va_get (D := D) (ci := 9) (v := .ref (ad 1)) (C := RX9) (T := TX9) (N := 15) hx hb htg in_X9 hown hK hP 0 rfl rfl 1 (by decide) (htg _ tw_521) (fun _ h9 => h9) rfl dX9_isInsured_1 ?_
  refine lv_iload_n hx hb dX9_isInsured_4 rfl (lv_at hl 1 rfl) ?_
  refine va_iald hx hb hK hP 1 0 rfl rfl (ht) dX9_isInsured_5 ?_
  rw [hkd]
  refine lv_iconst (v := 2) hx hb dX9_isInsured_6 (by decide) ?_
  refine lv_iconst (v := 4) hx hb dX9_isInsured_7 (by decide) ?_
  refine hs_calli0 (w1 := (mW o ad cd tn td cs hd kd rt vl hr hw cu si acc st)) (hs_runS SF cal_X9_in tw_570 (c_X9_in l D o ad cd tn td cs hd kd rt vl hr hw cu si acc st 0 2 4) hK hP hD ⟨Nat.le_of_ble_eq_true rfl, Nat.le_of_ble_eq_true rfl⟩ rfl hl.1 rfl (Nat.le_of_ble_eq_true rfl) dX9_isInsured_8 ⟨Nat.le_of_ble_eq_true rfl, Nat.le_of_ble_eq_true rfl⟩) hD hS hA (fun H locs hP hD hS => ?_)
  exact hs_zret hx hb hrt hlocks hK hP hD hS dX9_isInsured_11 (nz_wi _ _ _) (by decide) (rfl)

set_option maxHeartbeats 400000 in
set_option maxRecDepth 100000 in
theorem c_X9_isInsured_1 (l : Launch) (D : va_G) (o : Nat) (ad : Nat → Nat) (cd : Nat → ClassId) (tn td cs hd : Int32) (kd rt vl hr hw cu si : Nat → Int32) (acc : Nat → Int64) (st : TS) (t : Int32) (ht : vp_in t 24) (hkd : kd t.toNatClampNeg = nI 1) : CM l D yX9_isInsured cX9_isInsured 2 (some .boolean) { frames := 1, cells := 0, slots := 0, locals := 22 } (tyM cd) [.ref o, .int t] (mW o ad cd tn td cs hd kd rt vl hr hw cu si acc st) (hs_QI D (tyM cd) (isI 1) (mW o ad cd tn td cs hd kd rt vl hr hw cu si acc st)) := by
  refine CM.of (by decide) (Nat.le_of_ble_eq_true rfl) ?_
  intro p e s m below meth c A ls hx hb hrt hml htg hown hlocks hnm hA hK hP hD hS hl
  have hown : s.vm.findClass RX9 = some m.cls := hown
  have hl : lv_has ls 2 [(0, .ref o), (1, .int t)] := hl
  have SF : CallFix p m c cX9_isInsured 2 s _ hs_gt RX9 := ⟨hx, hb, hml, hown, htg⟩
  have hkd : kd t.toNatClampNeg = 1 := hkd
  refine lv_aload_n hx hb dX9_isInsured_0 rfl (lv_at hl 0 rfl) ?_
  refine va_get (D := D) (ci := 9) (v := .ref (ad 1)) (C := RX9) (T := TX9) (N := 15) hx hb htg in_X9 hown hK hP 0 rfl rfl 1 (by decide) (htg _ tw_521) (fun _ h9 => h9) rfl dX9_isInsured_1 ?_
  refine lv_iload_n hx hb dX9_isInsured_4 rfl (lv_at hl 1 rfl) ?_
  refine va_iald hx hb hK hP 1 0 rfl rfl (ht) dX9_isInsured_5 ?_
  rw [hkd]
  refine lv_iconst (v := 2) hx hb dX9_isInsured_6 (by decide) ?_
  refine lv_iconst (v := 4) hx hb dX9_isInsured_7 (by decide) ?_
  refine hs_calli0 (w1 := (mW o ad cd tn td cs hd kd rt vl hr hw cu si acc st)) (hs_runS SF cal_X9_in tw_570 (c_X9_in l D o ad cd tn td cs hd kd rt vl hr hw cu si acc st 1 2 4) hK hP hD ⟨Nat.le_of_ble_eq_true rfl, Nat.le_of_ble_eq_true rfl⟩ rfl hl.1 rfl (Nat.le_of_ble_eq_true rfl) dX9_isInsured_8 ⟨Nat.le_of_ble_eq_true rfl, Nat.le_of_ble_eq_true rfl⟩) hD hS hA (fun H locs hP hD hS => ?_)
  exact hs_zret hx hb hrt hlocks hK hP hD hS dX9_isInsured_11 (nz_wi _ _ _) (by decide) (rfl)

set_option maxHeartbeats 400000 in
set_option maxRecDepth 100000 in
theorem c_X9_isInsured_2 (l : Launch) (D : va_G) (o : Nat) (ad : Nat → Nat) (cd : Nat → ClassId) (tn td cs hd : Int32) (kd rt vl hr hw cu si : Nat → Int32) (acc : Nat → Int64) (st : TS) (t : Int32) (ht : vp_in t 24) (hkd : kd t.toNatClampNeg = nI 2) : CM l D yX9_isInsured cX9_isInsured 2 (some .boolean) { frames := 1, cells := 0, slots := 0, locals := 22 } (tyM cd) [.ref o, .int t] (mW o ad cd tn td cs hd kd rt vl hr hw cu si acc st) (hs_QI D (tyM cd) (isI 2) (mW o ad cd tn td cs hd kd rt vl hr hw cu si acc st)) := by
  refine CM.of (by decide) (Nat.le_of_ble_eq_true rfl) ?_
  intro p e s m below meth c A ls hx hb hrt hml htg hown hlocks hnm hA hK hP hD hS hl
  have hown : s.vm.findClass RX9 = some m.cls := hown
  have hl : lv_has ls 2 [(0, .ref o), (1, .int t)] := hl
  have SF : CallFix p m c cX9_isInsured 2 s _ hs_gt RX9 := ⟨hx, hb, hml, hown, htg⟩
  have hkd : kd t.toNatClampNeg = 2 := hkd
  refine lv_aload_n hx hb dX9_isInsured_0 rfl (lv_at hl 0 rfl) ?_
  refine va_get (D := D) (ci := 9) (v := .ref (ad 1)) (C := RX9) (T := TX9) (N := 15) hx hb htg in_X9 hown hK hP 0 rfl rfl 1 (by decide) (htg _ tw_521) (fun _ h9 => h9) rfl dX9_isInsured_1 ?_
  refine lv_iload_n hx hb dX9_isInsured_4 rfl (lv_at hl 1 rfl) ?_
  refine va_iald hx hb hK hP 1 0 rfl rfl (ht) dX9_isInsured_5 ?_
  rw [hkd]
  refine lv_iconst (v := 2) hx hb dX9_isInsured_6 (by decide) ?_
  refine lv_iconst (v := 4) hx hb dX9_isInsured_7 (by decide) ?_
  refine hs_calli0 (w1 := (mW o ad cd tn td cs hd kd rt vl hr hw cu si acc st)) (hs_runS SF cal_X9_in tw_570 (c_X9_in l D o ad cd tn td cs hd kd rt vl hr hw cu si acc st 2 2 4) hK hP hD ⟨Nat.le_of_ble_eq_true rfl, Nat.le_of_ble_eq_true rfl⟩ rfl hl.1 rfl (Nat.le_of_ble_eq_true rfl) dX9_isInsured_8 ⟨Nat.le_of_ble_eq_true rfl, Nat.le_of_ble_eq_true rfl⟩) hD hS hA (fun H locs hP hD hS => ?_)
  exact hs_zret hx hb hrt hlocks hK hP hD hS dX9_isInsured_11 (nz_wi _ _ _) (by decide) (rfl)

set_option maxHeartbeats 400000 in
set_option maxRecDepth 100000 in
theorem c_X9_isInsured_3 (l : Launch) (D : va_G) (o : Nat) (ad : Nat → Nat) (cd : Nat → ClassId) (tn td cs hd : Int32) (kd rt vl hr hw cu si : Nat → Int32) (acc : Nat → Int64) (st : TS) (t : Int32) (ht : vp_in t 24) (hkd : kd t.toNatClampNeg = nI 3) : CM l D yX9_isInsured cX9_isInsured 2 (some .boolean) { frames := 1, cells := 0, slots := 0, locals := 22 } (tyM cd) [.ref o, .int t] (mW o ad cd tn td cs hd kd rt vl hr hw cu si acc st) (hs_QI D (tyM cd) (isI 3) (mW o ad cd tn td cs hd kd rt vl hr hw cu si acc st)) := by
  refine CM.of (by decide) (Nat.le_of_ble_eq_true rfl) ?_
  intro p e s m below meth c A ls hx hb hrt hml htg hown hlocks hnm hA hK hP hD hS hl
  have hown : s.vm.findClass RX9 = some m.cls := hown
  have hl : lv_has ls 2 [(0, .ref o), (1, .int t)] := hl
  have SF : CallFix p m c cX9_isInsured 2 s _ hs_gt RX9 := ⟨hx, hb, hml, hown, htg⟩
  have hkd : kd t.toNatClampNeg = 3 := hkd
  refine lv_aload_n hx hb dX9_isInsured_0 rfl (lv_at hl 0 rfl) ?_
  refine va_get (D := D) (ci := 9) (v := .ref (ad 1)) (C := RX9) (T := TX9) (N := 15) hx hb htg in_X9 hown hK hP 0 rfl rfl 1 (by decide) (htg _ tw_521) (fun _ h9 => h9) rfl dX9_isInsured_1 ?_
  refine lv_iload_n hx hb dX9_isInsured_4 rfl (lv_at hl 1 rfl) ?_
  refine va_iald hx hb hK hP 1 0 rfl rfl (ht) dX9_isInsured_5 ?_
  rw [hkd]
  refine lv_iconst (v := 2) hx hb dX9_isInsured_6 (by decide) ?_
  refine lv_iconst (v := 4) hx hb dX9_isInsured_7 (by decide) ?_
  refine hs_calli0 (w1 := (mW o ad cd tn td cs hd kd rt vl hr hw cu si acc st)) (hs_runS SF cal_X9_in tw_570 (c_X9_in l D o ad cd tn td cs hd kd rt vl hr hw cu si acc st 3 2 4) hK hP hD ⟨Nat.le_of_ble_eq_true rfl, Nat.le_of_ble_eq_true rfl⟩ rfl hl.1 rfl (Nat.le_of_ble_eq_true rfl) dX9_isInsured_8 ⟨Nat.le_of_ble_eq_true rfl, Nat.le_of_ble_eq_true rfl⟩) hD hS hA (fun H locs hP hD hS => ?_)
  exact hs_zret hx hb hrt hlocks hK hP hD hS dX9_isInsured_11 (nz_wi _ _ _) (by decide) (rfl)

set_option maxHeartbeats 400000 in
set_option maxRecDepth 100000 in
theorem c_X9_isInsured_4 (l : Launch) (D : va_G) (o : Nat) (ad : Nat → Nat) (cd : Nat → ClassId) (tn td cs hd : Int32) (kd rt vl hr hw cu si : Nat → Int32) (acc : Nat → Int64) (st : TS) (t : Int32) (ht : vp_in t 24) (hkd : kd t.toNatClampNeg = nI 4) : CM l D yX9_isInsured cX9_isInsured 2 (some .boolean) { frames := 1, cells := 0, slots := 0, locals := 22 } (tyM cd) [.ref o, .int t] (mW o ad cd tn td cs hd kd rt vl hr hw cu si acc st) (hs_QI D (tyM cd) (isI 4) (mW o ad cd tn td cs hd kd rt vl hr hw cu si acc st)) := by
  refine CM.of (by decide) (Nat.le_of_ble_eq_true rfl) ?_
  intro p e s m below meth c A ls hx hb hrt hml htg hown hlocks hnm hA hK hP hD hS hl
  have hown : s.vm.findClass RX9 = some m.cls := hown
  have hl : lv_has ls 2 [(0, .ref o), (1, .int t)] := hl
  have SF : CallFix p m c cX9_isInsured 2 s _ hs_gt RX9 := ⟨hx, hb, hml, hown, htg⟩
  have hkd : kd t.toNatClampNeg = 4 := hkd
  refine lv_aload_n hx hb dX9_isInsured_0 rfl (lv_at hl 0 rfl) ?_
  refine va_get (D := D) (ci := 9) (v := .ref (ad 1)) (C := RX9) (T := TX9) (N := 15) hx hb htg in_X9 hown hK hP 0 rfl rfl 1 (by decide) (htg _ tw_521) (fun _ h9 => h9) rfl dX9_isInsured_1 ?_
  refine lv_iload_n hx hb dX9_isInsured_4 rfl (lv_at hl 1 rfl) ?_
  refine va_iald hx hb hK hP 1 0 rfl rfl (ht) dX9_isInsured_5 ?_
  rw [hkd]
  refine lv_iconst (v := 2) hx hb dX9_isInsured_6 (by decide) ?_
  refine lv_iconst (v := 4) hx hb dX9_isInsured_7 (by decide) ?_
  refine hs_calli0 (w1 := (mW o ad cd tn td cs hd kd rt vl hr hw cu si acc st)) (hs_runS SF cal_X9_in tw_570 (c_X9_in l D o ad cd tn td cs hd kd rt vl hr hw cu si acc st 4 2 4) hK hP hD ⟨Nat.le_of_ble_eq_true rfl, Nat.le_of_ble_eq_true rfl⟩ rfl hl.1 rfl (Nat.le_of_ble_eq_true rfl) dX9_isInsured_8 ⟨Nat.le_of_ble_eq_true rfl, Nat.le_of_ble_eq_true rfl⟩) hD hS hA (fun H locs hP hD hS => ?_)
  exact hs_zret hx hb hrt hlocks hK hP hD hS dX9_isInsured_11 (nz_wi _ _ _) (by decide) (rfl)

set_option maxHeartbeats 400000 in
set_option maxRecDepth 100000 in
theorem c_X9_isInsured_5 (l : Launch) (D : va_G) (o : Nat) (ad : Nat → Nat) (cd : Nat → ClassId) (tn td cs hd : Int32) (kd rt vl hr hw cu si : Nat → Int32) (acc : Nat → Int64) (st : TS) (t : Int32) (ht : vp_in t 24) (hkd : kd t.toNatClampNeg = nI 5) : CM l D yX9_isInsured cX9_isInsured 2 (some .boolean) { frames := 1, cells := 0, slots := 0, locals := 22 } (tyM cd) [.ref o, .int t] (mW o ad cd tn td cs hd kd rt vl hr hw cu si acc st) (hs_QI D (tyM cd) (isI 5) (mW o ad cd tn td cs hd kd rt vl hr hw cu si acc st)) := by
  refine CM.of (by decide) (Nat.le_of_ble_eq_true rfl) ?_
  intro p e s m below meth c A ls hx hb hrt hml htg hown hlocks hnm hA hK hP hD hS hl
  have hown : s.vm.findClass RX9 = some m.cls := hown
  have hl : lv_has ls 2 [(0, .ref o), (1, .int t)] := hl
  have SF : CallFix p m c cX9_isInsured 2 s _ hs_gt RX9 := ⟨hx, hb, hml, hown, htg⟩
  have hkd : kd t.toNatClampNeg = 5 := hkd
  refine lv_aload_n hx hb dX9_isInsured_0 rfl (lv_at hl 0 rfl) ?_
  refine va_get (D := D) (ci := 9) (v := .ref (ad 1)) (C := RX9) (T := TX9) (N := 15) hx hb htg in_X9 hown hK hP 0 rfl rfl 1 (by decide) (htg _ tw_521) (fun _ h9 => h9) rfl dX9_isInsured_1 ?_
  refine lv_iload_n hx hb dX9_isInsured_4 rfl (lv_at hl 1 rfl) ?_
  refine va_iald hx hb hK hP 1 0 rfl rfl (ht) dX9_isInsured_5 ?_
  rw [hkd]
  refine lv_iconst (v := 2) hx hb dX9_isInsured_6 (by decide) ?_
  refine lv_iconst (v := 4) hx hb dX9_isInsured_7 (by decide) ?_
  refine hs_calli0 (w1 := (mW o ad cd tn td cs hd kd rt vl hr hw cu si acc st)) (hs_runS SF cal_X9_in tw_570 (c_X9_in l D o ad cd tn td cs hd kd rt vl hr hw cu si acc st 5 2 4) hK hP hD ⟨Nat.le_of_ble_eq_true rfl, Nat.le_of_ble_eq_true rfl⟩ rfl hl.1 rfl (Nat.le_of_ble_eq_true rfl) dX9_isInsured_8 ⟨Nat.le_of_ble_eq_true rfl, Nat.le_of_ble_eq_true rfl⟩) hD hS hA (fun H locs hP hD hS => ?_)
  exact hs_zret hx hb hrt hlocks hK hP hD hS dX9_isInsured_11 (nz_wi _ _ _) (by decide) (rfl)

set_option maxHeartbeats 400000 in
set_option maxRecDepth 100000 in
theorem c_X9_isInsured_6 (l : Launch) (D : va_G) (o : Nat) (ad : Nat → Nat) (cd : Nat → ClassId) (tn td cs hd : Int32) (kd rt vl hr hw cu si : Nat → Int32) (acc : Nat → Int64) (st : TS) (t : Int32) (ht : vp_in t 24) (hkd : kd t.toNatClampNeg = nI 6) : CM l D yX9_isInsured cX9_isInsured 2 (some .boolean) { frames := 1, cells := 0, slots := 0, locals := 22 } (tyM cd) [.ref o, .int t] (mW o ad cd tn td cs hd kd rt vl hr hw cu si acc st) (hs_QI D (tyM cd) (isI 6) (mW o ad cd tn td cs hd kd rt vl hr hw cu si acc st)) := by
  refine CM.of (by decide) (Nat.le_of_ble_eq_true rfl) ?_
  intro p e s m below meth c A ls hx hb hrt hml htg hown hlocks hnm hA hK hP hD hS hl
  have hown : s.vm.findClass RX9 = some m.cls := hown
  have hl : lv_has ls 2 [(0, .ref o), (1, .int t)] := hl
  have SF : CallFix p m c cX9_isInsured 2 s _ hs_gt RX9 := ⟨hx, hb, hml, hown, htg⟩
  have hkd : kd t.toNatClampNeg = 6 := hkd
  refine lv_aload_n hx hb dX9_isInsured_0 rfl (lv_at hl 0 rfl) ?_
  refine va_get (D := D) (ci := 9) (v := .ref (ad 1)) (C := RX9) (T := TX9) (N := 15) hx hb htg in_X9 hown hK hP 0 rfl rfl 1 (by decide) (htg _ tw_521) (fun _ h9 => h9) rfl dX9_isInsured_1 ?_
  refine lv_iload_n hx hb dX9_isInsured_4 rfl (lv_at hl 1 rfl) ?_
  refine va_iald hx hb hK hP 1 0 rfl rfl (ht) dX9_isInsured_5 ?_
  rw [hkd]
  refine lv_iconst (v := 2) hx hb dX9_isInsured_6 (by decide) ?_
  refine lv_iconst (v := 4) hx hb dX9_isInsured_7 (by decide) ?_
  refine hs_calli0 (w1 := (mW o ad cd tn td cs hd kd rt vl hr hw cu si acc st)) (hs_runS SF cal_X9_in tw_570 (c_X9_in l D o ad cd tn td cs hd kd rt vl hr hw cu si acc st 6 2 4) hK hP hD ⟨Nat.le_of_ble_eq_true rfl, Nat.le_of_ble_eq_true rfl⟩ rfl hl.1 rfl (Nat.le_of_ble_eq_true rfl) dX9_isInsured_8 ⟨Nat.le_of_ble_eq_true rfl, Nat.le_of_ble_eq_true rfl⟩) hD hS hA (fun H locs hP hD hS => ?_)
  exact hs_zret hx hb hrt hlocks hK hP hD hS dX9_isInsured_11 (nz_wi _ _ _) (by decide) (rfl)

theorem c_X9_isInsured (l : Launch) (D : va_G) (o : Nat) (ad : Nat → Nat) (cd : Nat → ClassId) (tn td cs hd : Int32) (kd rt vl hr hw cu si : Nat → Int32) (acc : Nat → Int64) (st : TS) (t : Int32) (ht : vp_in t 24) (k : Nat) (hk : k < 7) (hkd : kd t.toNatClampNeg = nI k) : CM l D yX9_isInsured cX9_isInsured 2 (some .boolean) { frames := 1, cells := 0, slots := 0, locals := 22 } (tyM cd) [.ref o, .int t] (mW o ad cd tn td cs hd kd rt vl hr hw cu si acc st) (hs_QI D (tyM cd) (isI k) (mW o ad cd tn td cs hd kd rt vl hr hw cu si acc st)) := by
  match k, hk, hkd with
  | 0, _, hkd => exact c_X9_isInsured_0 l D o ad cd tn td cs hd kd rt vl hr hw cu si acc st t ht hkd 
  | 1, _, hkd => exact c_X9_isInsured_1 l D o ad cd tn td cs hd kd rt vl hr hw cu si acc st t ht hkd 
  | 2, _, hkd => exact c_X9_isInsured_2 l D o ad cd tn td cs hd kd rt vl hr hw cu si acc st t ht hkd 
  | 3, _, hkd => exact c_X9_isInsured_3 l D o ad cd tn td cs hd kd rt vl hr hw cu si acc st t ht hkd 
  | 4, _, hkd => exact c_X9_isInsured_4 l D o ad cd tn td cs hd kd rt vl hr hw cu si acc st t ht hkd 
  | 5, _, hkd => exact c_X9_isInsured_5 l D o ad cd tn td cs hd kd rt vl hr hw cu si acc st t ht hkd 
  | 6, _, hkd => exact c_X9_isInsured_6 l D o ad cd tn td cs hd kd rt vl hr hw cu si acc st t ht hkd 
  | k + 7, hk, _ => exact absurd hk (by omega)

theorem cal_X9_isInsured : hs_cV yX9_isInsured cX9_isInsured 2 (some .boolean) 1 := ⟨tw_589, tw_588, tw_6, tw_19, by decide +kernel⟩

set_option maxHeartbeats 400000 in
set_option maxRecDepth 100000 in
theorem c_X9_isServiced_0 (l : Launch) (D : va_G) (o : Nat) (ad : Nat → Nat) (cd : Nat → ClassId) (tn td cs hd : Int32) (kd rt vl hr hw cu si : Nat → Int32) (acc : Nat → Int64) (st : TS) (t : Int32) (ht : vp_in t 24) (hkd : kd t.toNatClampNeg = nI 0) : CM l D yX9_isServiced cX9_isServiced 2 (some .boolean) { frames := 0, cells := 0, slots := 0, locals := 0 } (tyM cd) [.ref o, .int t] (mW o ad cd tn td cs hd kd rt vl hr hw cu si acc st) (hs_QI D (tyM cd) (isS 0) (mW o ad cd tn td cs hd kd rt vl hr hw cu si acc st)) := by
  refine CM.of (by decide) (Nat.le_of_ble_eq_true rfl) ?_
  intro p e s m below meth c A ls hx hb hrt hml htg hown hlocks hnm hA hK hP hD hS hl
  have hown : s.vm.findClass RX9 = some m.cls := hown
  have hl : lv_has ls 2 [(0, .ref o), (1, .int t)] := hl
  have SF : CallFix p m c cX9_isServiced 2 s _ hs_gt RX9 := ⟨hx, hb, hml, hown, htg⟩
  have hkd : kd t.toNatClampNeg = 0 := hkd
  refine lv_aload_n hx hb dX9_isServiced_0 rfl (lv_at hl 0 rfl) ?_
  refine va_get (D := D) (ci := 9) (v := .ref (ad 1)) (C := RX9) (T := TX9) (N := 15) hx hb htg in_X9 hown hK hP 0 rfl rfl 1 (by decide) (htg _ tw_521) (fun _ h9 => h9) rfl dX9_isServiced_1 ?_
  refine lv_iload_n hx hb dX9_isServiced_4 rfl (lv_at hl 1 rfl) ?_
  refine va_iald hx hb hK hP 1 0 rfl rfl (ht) dX9_isServiced_5 ?_
  rw [hkd]
  refine lv_iconst (v := 3) hx hb dX9_isServiced_6 (by decide) ?_
  refine lv_icmp_lt (tgt := 14) hx hb dX9_isServiced_7 (by decide) (fun c7 => ?_) (fun c7 => absurd c7 ((by decide)))
  refine lv_iconst (v := 0) hx hb dX9_isServiced_14 (by decide) ?_
  exact hs_zret hx hb hrt hlocks hK hP hD hS dX9_isServiced_15 rfl (by decide) (rfl)

set_option maxHeartbeats 400000 in
set_option maxRecDepth 100000 in
theorem c_X9_isServiced_1 (l : Launch) (D : va_G) (o : Nat) (ad : Nat → Nat) (cd : Nat → ClassId) (tn td cs hd : Int32) (kd rt vl hr hw cu si : Nat → Int32) (acc : Nat → Int64) (st : TS) (t : Int32) (ht : vp_in t 24) (hkd : kd t.toNatClampNeg = nI 1) : CM l D yX9_isServiced cX9_isServiced 2 (some .boolean) { frames := 0, cells := 0, slots := 0, locals := 0 } (tyM cd) [.ref o, .int t] (mW o ad cd tn td cs hd kd rt vl hr hw cu si acc st) (hs_QI D (tyM cd) (isS 1) (mW o ad cd tn td cs hd kd rt vl hr hw cu si acc st)) := by
  refine CM.of (by decide) (Nat.le_of_ble_eq_true rfl) ?_
  intro p e s m below meth c A ls hx hb hrt hml htg hown hlocks hnm hA hK hP hD hS hl
  have hown : s.vm.findClass RX9 = some m.cls := hown
  have hl : lv_has ls 2 [(0, .ref o), (1, .int t)] := hl
  have SF : CallFix p m c cX9_isServiced 2 s _ hs_gt RX9 := ⟨hx, hb, hml, hown, htg⟩
  have hkd : kd t.toNatClampNeg = 1 := hkd
  refine lv_aload_n hx hb dX9_isServiced_0 rfl (lv_at hl 0 rfl) ?_
  refine va_get (D := D) (ci := 9) (v := .ref (ad 1)) (C := RX9) (T := TX9) (N := 15) hx hb htg in_X9 hown hK hP 0 rfl rfl 1 (by decide) (htg _ tw_521) (fun _ h9 => h9) rfl dX9_isServiced_1 ?_
  refine lv_iload_n hx hb dX9_isServiced_4 rfl (lv_at hl 1 rfl) ?_
  refine va_iald hx hb hK hP 1 0 rfl rfl (ht) dX9_isServiced_5 ?_
  rw [hkd]
  refine lv_iconst (v := 3) hx hb dX9_isServiced_6 (by decide) ?_
  refine lv_icmp_lt (tgt := 14) hx hb dX9_isServiced_7 (by decide) (fun c7 => ?_) (fun c7 => absurd c7 ((by decide)))
  refine lv_iconst (v := 0) hx hb dX9_isServiced_14 (by decide) ?_
  exact hs_zret hx hb hrt hlocks hK hP hD hS dX9_isServiced_15 rfl (by decide) (rfl)

set_option maxHeartbeats 400000 in
set_option maxRecDepth 100000 in
theorem c_X9_isServiced_2 (l : Launch) (D : va_G) (o : Nat) (ad : Nat → Nat) (cd : Nat → ClassId) (tn td cs hd : Int32) (kd rt vl hr hw cu si : Nat → Int32) (acc : Nat → Int64) (st : TS) (t : Int32) (ht : vp_in t 24) (hkd : kd t.toNatClampNeg = nI 2) : CM l D yX9_isServiced cX9_isServiced 2 (some .boolean) { frames := 0, cells := 0, slots := 0, locals := 0 } (tyM cd) [.ref o, .int t] (mW o ad cd tn td cs hd kd rt vl hr hw cu si acc st) (hs_QI D (tyM cd) (isS 2) (mW o ad cd tn td cs hd kd rt vl hr hw cu si acc st)) := by
  refine CM.of (by decide) (Nat.le_of_ble_eq_true rfl) ?_
  intro p e s m below meth c A ls hx hb hrt hml htg hown hlocks hnm hA hK hP hD hS hl
  have hown : s.vm.findClass RX9 = some m.cls := hown
  have hl : lv_has ls 2 [(0, .ref o), (1, .int t)] := hl
  have SF : CallFix p m c cX9_isServiced 2 s _ hs_gt RX9 := ⟨hx, hb, hml, hown, htg⟩
  have hkd : kd t.toNatClampNeg = 2 := hkd
  refine lv_aload_n hx hb dX9_isServiced_0 rfl (lv_at hl 0 rfl) ?_
  refine va_get (D := D) (ci := 9) (v := .ref (ad 1)) (C := RX9) (T := TX9) (N := 15) hx hb htg in_X9 hown hK hP 0 rfl rfl 1 (by decide) (htg _ tw_521) (fun _ h9 => h9) rfl dX9_isServiced_1 ?_
  refine lv_iload_n hx hb dX9_isServiced_4 rfl (lv_at hl 1 rfl) ?_
  refine va_iald hx hb hK hP 1 0 rfl rfl (ht) dX9_isServiced_5 ?_
  rw [hkd]
  refine lv_iconst (v := 3) hx hb dX9_isServiced_6 (by decide) ?_
  refine lv_icmp_lt (tgt := 14) hx hb dX9_isServiced_7 (by decide) (fun c7 => ?_) (fun c7 => absurd c7 ((by decide)))
  refine lv_iconst (v := 0) hx hb dX9_isServiced_14 (by decide) ?_
  exact hs_zret hx hb hrt hlocks hK hP hD hS dX9_isServiced_15 rfl (by decide) (rfl)

set_option maxHeartbeats 400000 in
set_option maxRecDepth 100000 in
theorem c_X9_isServiced_3 (l : Launch) (D : va_G) (o : Nat) (ad : Nat → Nat) (cd : Nat → ClassId) (tn td cs hd : Int32) (kd rt vl hr hw cu si : Nat → Int32) (acc : Nat → Int64) (st : TS) (t : Int32) (ht : vp_in t 24) (hkd : kd t.toNatClampNeg = nI 3) : CM l D yX9_isServiced cX9_isServiced 2 (some .boolean) { frames := 0, cells := 0, slots := 0, locals := 0 } (tyM cd) [.ref o, .int t] (mW o ad cd tn td cs hd kd rt vl hr hw cu si acc st) (hs_QI D (tyM cd) (isS 3) (mW o ad cd tn td cs hd kd rt vl hr hw cu si acc st)) := by
  refine CM.of (by decide) (Nat.le_of_ble_eq_true rfl) ?_
  intro p e s m below meth c A ls hx hb hrt hml htg hown hlocks hnm hA hK hP hD hS hl
  have hown : s.vm.findClass RX9 = some m.cls := hown
  have hl : lv_has ls 2 [(0, .ref o), (1, .int t)] := hl
  have SF : CallFix p m c cX9_isServiced 2 s _ hs_gt RX9 := ⟨hx, hb, hml, hown, htg⟩
  have hkd : kd t.toNatClampNeg = 3 := hkd
  refine lv_aload_n hx hb dX9_isServiced_0 rfl (lv_at hl 0 rfl) ?_
  refine va_get (D := D) (ci := 9) (v := .ref (ad 1)) (C := RX9) (T := TX9) (N := 15) hx hb htg in_X9 hown hK hP 0 rfl rfl 1 (by decide) (htg _ tw_521) (fun _ h9 => h9) rfl dX9_isServiced_1 ?_
  refine lv_iload_n hx hb dX9_isServiced_4 rfl (lv_at hl 1 rfl) ?_
  refine va_iald hx hb hK hP 1 0 rfl rfl (ht) dX9_isServiced_5 ?_
  rw [hkd]
  refine lv_iconst (v := 3) hx hb dX9_isServiced_6 (by decide) ?_
  refine lv_icmp_lt (tgt := 14) hx hb dX9_isServiced_7 (by decide) (fun c7 => absurd c7 ((by decide))) (fun c7 => ?_)
  refine lv_iconst (v := 1) hx hb dX9_isServiced_10 (by decide) ?_
  refine lv_goto (tgt := 15) hx hb dX9_isServiced_11 (by decide) ?_
  exact hs_zret hx hb hrt hlocks hK hP hD hS dX9_isServiced_15 rfl (by decide) (rfl)

set_option maxHeartbeats 400000 in
set_option maxRecDepth 100000 in
theorem c_X9_isServiced_4 (l : Launch) (D : va_G) (o : Nat) (ad : Nat → Nat) (cd : Nat → ClassId) (tn td cs hd : Int32) (kd rt vl hr hw cu si : Nat → Int32) (acc : Nat → Int64) (st : TS) (t : Int32) (ht : vp_in t 24) (hkd : kd t.toNatClampNeg = nI 4) : CM l D yX9_isServiced cX9_isServiced 2 (some .boolean) { frames := 0, cells := 0, slots := 0, locals := 0 } (tyM cd) [.ref o, .int t] (mW o ad cd tn td cs hd kd rt vl hr hw cu si acc st) (hs_QI D (tyM cd) (isS 4) (mW o ad cd tn td cs hd kd rt vl hr hw cu si acc st)) := by
  refine CM.of (by decide) (Nat.le_of_ble_eq_true rfl) ?_
  intro p e s m below meth c A ls hx hb hrt hml htg hown hlocks hnm hA hK hP hD hS hl
  have hown : s.vm.findClass RX9 = some m.cls := hown
  have hl : lv_has ls 2 [(0, .ref o), (1, .int t)] := hl
  have SF : CallFix p m c cX9_isServiced 2 s _ hs_gt RX9 := ⟨hx, hb, hml, hown, htg⟩
  have hkd : kd t.toNatClampNeg = 4 := hkd
  refine lv_aload_n hx hb dX9_isServiced_0 rfl (lv_at hl 0 rfl) ?_
  refine va_get (D := D) (ci := 9) (v := .ref (ad 1)) (C := RX9) (T := TX9) (N := 15) hx hb htg in_X9 hown hK hP 0 rfl rfl 1 (by decide) (htg _ tw_521) (fun _ h9 => h9) rfl dX9_isServiced_1 ?_
  refine lv_iload_n hx hb dX9_isServiced_4 rfl (lv_at hl 1 rfl) ?_
  refine va_iald hx hb hK hP 1 0 rfl rfl (ht) dX9_isServiced_5 ?_
  rw [hkd]
  refine lv_iconst (v := 3) hx hb dX9_isServiced_6 (by decide) ?_
  refine lv_icmp_lt (tgt := 14) hx hb dX9_isServiced_7 (by decide) (fun c7 => absurd c7 ((by decide))) (fun c7 => ?_)
  refine lv_iconst (v := 1) hx hb dX9_isServiced_10 (by decide) ?_
  refine lv_goto (tgt := 15) hx hb dX9_isServiced_11 (by decide) ?_
  exact hs_zret hx hb hrt hlocks hK hP hD hS dX9_isServiced_15 rfl (by decide) (rfl)

set_option maxHeartbeats 400000 in
set_option maxRecDepth 100000 in
theorem c_X9_isServiced_5 (l : Launch) (D : va_G) (o : Nat) (ad : Nat → Nat) (cd : Nat → ClassId) (tn td cs hd : Int32) (kd rt vl hr hw cu si : Nat → Int32) (acc : Nat → Int64) (st : TS) (t : Int32) (ht : vp_in t 24) (hkd : kd t.toNatClampNeg = nI 5) : CM l D yX9_isServiced cX9_isServiced 2 (some .boolean) { frames := 0, cells := 0, slots := 0, locals := 0 } (tyM cd) [.ref o, .int t] (mW o ad cd tn td cs hd kd rt vl hr hw cu si acc st) (hs_QI D (tyM cd) (isS 5) (mW o ad cd tn td cs hd kd rt vl hr hw cu si acc st)) := by
  refine CM.of (by decide) (Nat.le_of_ble_eq_true rfl) ?_
  intro p e s m below meth c A ls hx hb hrt hml htg hown hlocks hnm hA hK hP hD hS hl
  have hown : s.vm.findClass RX9 = some m.cls := hown
  have hl : lv_has ls 2 [(0, .ref o), (1, .int t)] := hl
  have SF : CallFix p m c cX9_isServiced 2 s _ hs_gt RX9 := ⟨hx, hb, hml, hown, htg⟩
  have hkd : kd t.toNatClampNeg = 5 := hkd
  refine lv_aload_n hx hb dX9_isServiced_0 rfl (lv_at hl 0 rfl) ?_
  refine va_get (D := D) (ci := 9) (v := .ref (ad 1)) (C := RX9) (T := TX9) (N := 15) hx hb htg in_X9 hown hK hP 0 rfl rfl 1 (by decide) (htg _ tw_521) (fun _ h9 => h9) rfl dX9_isServiced_1 ?_
  refine lv_iload_n hx hb dX9_isServiced_4 rfl (lv_at hl 1 rfl) ?_
  refine va_iald hx hb hK hP 1 0 rfl rfl (ht) dX9_isServiced_5 ?_
  rw [hkd]
  refine lv_iconst (v := 3) hx hb dX9_isServiced_6 (by decide) ?_
  refine lv_icmp_lt (tgt := 14) hx hb dX9_isServiced_7 (by decide) (fun c7 => absurd c7 ((by decide))) (fun c7 => ?_)
  refine lv_iconst (v := 1) hx hb dX9_isServiced_10 (by decide) ?_
  refine lv_goto (tgt := 15) hx hb dX9_isServiced_11 (by decide) ?_
  exact hs_zret hx hb hrt hlocks hK hP hD hS dX9_isServiced_15 rfl (by decide) (rfl)

set_option maxHeartbeats 400000 in
set_option maxRecDepth 100000 in
theorem c_X9_isServiced_6 (l : Launch) (D : va_G) (o : Nat) (ad : Nat → Nat) (cd : Nat → ClassId) (tn td cs hd : Int32) (kd rt vl hr hw cu si : Nat → Int32) (acc : Nat → Int64) (st : TS) (t : Int32) (ht : vp_in t 24) (hkd : kd t.toNatClampNeg = nI 6) : CM l D yX9_isServiced cX9_isServiced 2 (some .boolean) { frames := 0, cells := 0, slots := 0, locals := 0 } (tyM cd) [.ref o, .int t] (mW o ad cd tn td cs hd kd rt vl hr hw cu si acc st) (hs_QI D (tyM cd) (isS 6) (mW o ad cd tn td cs hd kd rt vl hr hw cu si acc st)) := by
  refine CM.of (by decide) (Nat.le_of_ble_eq_true rfl) ?_
  intro p e s m below meth c A ls hx hb hrt hml htg hown hlocks hnm hA hK hP hD hS hl
  have hown : s.vm.findClass RX9 = some m.cls := hown
  have hl : lv_has ls 2 [(0, .ref o), (1, .int t)] := hl
  have SF : CallFix p m c cX9_isServiced 2 s _ hs_gt RX9 := ⟨hx, hb, hml, hown, htg⟩
  have hkd : kd t.toNatClampNeg = 6 := hkd
  refine lv_aload_n hx hb dX9_isServiced_0 rfl (lv_at hl 0 rfl) ?_
  refine va_get (D := D) (ci := 9) (v := .ref (ad 1)) (C := RX9) (T := TX9) (N := 15) hx hb htg in_X9 hown hK hP 0 rfl rfl 1 (by decide) (htg _ tw_521) (fun _ h9 => h9) rfl dX9_isServiced_1 ?_
  refine lv_iload_n hx hb dX9_isServiced_4 rfl (lv_at hl 1 rfl) ?_
  refine va_iald hx hb hK hP 1 0 rfl rfl (ht) dX9_isServiced_5 ?_
  rw [hkd]
  refine lv_iconst (v := 3) hx hb dX9_isServiced_6 (by decide) ?_
  refine lv_icmp_lt (tgt := 14) hx hb dX9_isServiced_7 (by decide) (fun c7 => absurd c7 ((by decide))) (fun c7 => ?_)
  refine lv_iconst (v := 1) hx hb dX9_isServiced_10 (by decide) ?_
  refine lv_goto (tgt := 15) hx hb dX9_isServiced_11 (by decide) ?_
  exact hs_zret hx hb hrt hlocks hK hP hD hS dX9_isServiced_15 rfl (by decide) (rfl)

theorem c_X9_isServiced (l : Launch) (D : va_G) (o : Nat) (ad : Nat → Nat) (cd : Nat → ClassId) (tn td cs hd : Int32) (kd rt vl hr hw cu si : Nat → Int32) (acc : Nat → Int64) (st : TS) (t : Int32) (ht : vp_in t 24) (k : Nat) (hk : k < 7) (hkd : kd t.toNatClampNeg = nI k) : CM l D yX9_isServiced cX9_isServiced 2 (some .boolean) { frames := 0, cells := 0, slots := 0, locals := 0 } (tyM cd) [.ref o, .int t] (mW o ad cd tn td cs hd kd rt vl hr hw cu si acc st) (hs_QI D (tyM cd) (isS k) (mW o ad cd tn td cs hd kd rt vl hr hw cu si acc st)) := by
  match k, hk, hkd with
  | 0, _, hkd => exact c_X9_isServiced_0 l D o ad cd tn td cs hd kd rt vl hr hw cu si acc st t ht hkd 
  | 1, _, hkd => exact c_X9_isServiced_1 l D o ad cd tn td cs hd kd rt vl hr hw cu si acc st t ht hkd 
  | 2, _, hkd => exact c_X9_isServiced_2 l D o ad cd tn td cs hd kd rt vl hr hw cu si acc st t ht hkd 
  | 3, _, hkd => exact c_X9_isServiced_3 l D o ad cd tn td cs hd kd rt vl hr hw cu si acc st t ht hkd 
  | 4, _, hkd => exact c_X9_isServiced_4 l D o ad cd tn td cs hd kd rt vl hr hw cu si acc st t ht hkd 
  | 5, _, hkd => exact c_X9_isServiced_5 l D o ad cd tn td cs hd kd rt vl hr hw cu si acc st t ht hkd 
  | 6, _, hkd => exact c_X9_isServiced_6 l D o ad cd tn td cs hd kd rt vl hr hw cu si acc st t ht hkd 
  | k + 7, hk, _ => exact absurd hk (by omega)

theorem cal_X9_isServiced : hs_cV yX9_isServiced cX9_isServiced 2 (some .boolean) 1 := ⟨tw_593, tw_592, tw_7, tw_19, by decide +kernel⟩

theorem isI_cases {k : Nat} (hk : k < 7) (h : ¬ isI k = 0) : k = 2 ∨ k = 3 ∨ k = 4 := by
  match k, hk, h with
  | 0, _, h => exact absurd h (by decide)
  | 1, _, h => exact absurd h (by decide)
  | 2, _, _ => exact Or.inl rfl
  | 3, _, _ => exact Or.inr (Or.inl rfl)
  | 4, _, _ => exact Or.inr (Or.inr rfl)
  | 5, _, h => exact absurd h (by decide)
  | 6, _, h => exact absurd h (by decide)
  | k + 7, hk, _ => exact absurd hk (by omega)
end
section
set_option maxHeartbeats 400000 in
set_option maxRecDepth 100000 in
theorem c_X9_premium_2 (l : Launch) (D : va_G) (o : Nat) (ad : Nat → Nat) (cd : Nat → ClassId) (tn td cs hd : Int32) (kd rt vl hr hw cu si : Nat → Int32) (acc : Nat → Int64) (st : TS) (t : Int32) (ht : vp_in t 24) (hkd : kd t.toNatClampNeg = nI 2) (hok : okM 6 st) (x : Int32) (hhr : hr t.toNatClampNeg = x) (d : Int32) : CM l D yX9_premium cX9_premium 4 (some .int) { frames := 2, cells := 0, slots := 0, locals := 44 } (tyM cd) [.ref o, .int t, .int d] (mW o ad cd tn td cs hd kd rt vl hr hw cu si acc st) (hs_QI D (tyM cd) (pmF 2 (vl t.toNatClampNeg) x d) (mW o ad cd tn td cs hd kd rt vl hr hw cu si acc (bds (pmN 2) st))) := by
  refine CM.of (by decide) (Nat.le_of_ble_eq_true rfl) ?_
  intro p e s m below meth c A ls hx hb hrt hml htg hown hlocks hnm hA hK hP hD hS hl
  have hown : s.vm.findClass RX9 = some m.cls := hown
  have hl : lv_has ls 4 [(0, .ref o), (1, .int t), (2, .int d)] := hl
  have SF : CallFix p m c cX9_premium 4 s _ hs_gt RX9 := ⟨hx, hb, hml, hown, htg⟩
  have hkd : kd t.toNatClampNeg = 2 := hkd
  refine lv_aload_n hx hb dX9_premium_0 rfl (lv_at hl 0 rfl) ?_
  refine va_get (D := D) (ci := 9) (v := .ref (ad 1)) (C := RX9) (T := TX9) (N := 15) hx hb htg in_X9 hown hK hP 0 rfl rfl 1 (by decide) (htg _ tw_521) (fun _ h9 => h9) rfl dX9_premium_1 ?_
  refine lv_iload_n hx hb dX9_premium_4 rfl (lv_at hl 1 rfl) ?_
  refine va_iald hx hb hK hP 1 0 rfl rfl (ht) dX9_premium_5 ?_
  rw [hkd]
  refine lv_iconst (v := 2) hx hb dX9_premium_6 (by decide) ?_
  refine lv_icmp_ne (tgt := 27) hx hb dX9_premium_7 (by decide) (fun c7 => absurd c7 ((by decide))) (fun c7 => ?_)
  refine lv_aload_n hx hb dX9_premium_10 rfl (lv_at hl 0 rfl) ?_
  refine lv_bipush (v := 41) hx hb dX9_premium_11 (by decide) ?_
  refine hs_callv0 (w1 := (mW o ad cd tn td cs hd kd rt vl hr hw cu si acc (bdT 41 st))) (hs_runV (q0 := 0) SF cal_X9_body tw_598 (c_X9_body l D o ad cd tn td cs hd kd rt vl hr hw cu si acc st (okM_mono hok (by decide)) 41) hK hP hD rfl rfl ⟨Nat.le_of_ble_eq_true rfl, Nat.le_of_ble_eq_true rfl⟩ rfl hl.1 rfl (Nat.le_of_ble_eq_true rfl) dX9_premium_13 ⟨Nat.le_of_ble_eq_true rfl, Nat.le_of_ble_eq_true rfl⟩) hD hS hA (fun H locs hP hD hS => ?_)
  refine lv_iload_n hx hb dX9_premium_16 rfl (lv_at hl 2 rfl) ?_
  refine lv_aload_n hx hb dX9_premium_17 rfl (lv_at hl 0 rfl) ?_
  refine lv_iload_n hx hb dX9_premium_18 rfl (lv_at hl 1 rfl) ?_
  refine hs_calli0 (w1 := (mW o ad cd tn td cs hd kd rt vl hr hw cu si acc (bds [31] (bdT 41 st)))) (hs_runV (q0 := 0) SF cal_X9_deposit tw_610 (c_X9_deposit l D o ad cd tn td cs hd kd rt vl hr hw cu si acc (bdT 41 st) t ht 2 (by decide) hkd (okM_mono (okM_bd 41 hok) (by decide)) (by decide)) hK hP hD rfl rfl ⟨Nat.le_of_ble_eq_true rfl, Nat.le_of_ble_eq_true rfl⟩ rfl hl.1 rfl (Nat.le_of_ble_eq_true rfl) dX9_premium_19 ⟨Nat.le_of_ble_eq_true rfl, Nat.le_of_ble_eq_true rfl⟩) hD hS hA (fun H locs hP hD hS => ?_)
  refine lv_bipush (v := 100) hx hb dX9_premium_22 (by decide) ?_
  refine lv_idiv hx hb dX9_premium_24 (by decide) ?_
  refine lv_imul hx hb dX9_premium_25 ?_
  exact hs_iret hx hb hrt hlocks hK hP hD hS dX9_premium_26 (by rfl) (by simp only [bds, pmN, List.foldl_cons, List.foldl_nil])

set_option maxHeartbeats 400000 in
set_option maxRecDepth 100000 in
theorem c_X9_premium_3 (l : Launch) (D : va_G) (o : Nat) (ad : Nat → Nat) (cd : Nat → ClassId) (tn td cs hd : Int32) (kd rt vl hr hw cu si : Nat → Int32) (acc : Nat → Int64) (st : TS) (t : Int32) (ht : vp_in t 24) (hkd : kd t.toNatClampNeg = nI 3) (hok : okM 6 st) (x : Int32) (hhr : hr t.toNatClampNeg = x) (d : Int32) : CM l D yX9_premium cX9_premium 4 (some .int) { frames := 2, cells := 0, slots := 0, locals := 44 } (tyM cd) [.ref o, .int t, .int d] (mW o ad cd tn td cs hd kd rt vl hr hw cu si acc st) (hs_QI D (tyM cd) (pmF 3 (vl t.toNatClampNeg) x d) (mW o ad cd tn td cs hd kd rt vl hr hw cu si acc (bds (pmN 3) st))) := by
  refine CM.of (by decide) (Nat.le_of_ble_eq_true rfl) ?_
  intro p e s m below meth c A ls hx hb hrt hml htg hown hlocks hnm hA hK hP hD hS hl
  have hown : s.vm.findClass RX9 = some m.cls := hown
  have hl : lv_has ls 4 [(0, .ref o), (1, .int t), (2, .int d)] := hl
  have SF : CallFix p m c cX9_premium 4 s _ hs_gt RX9 := ⟨hx, hb, hml, hown, htg⟩
  have hkd : kd t.toNatClampNeg = 3 := hkd
  refine lv_aload_n hx hb dX9_premium_0 rfl (lv_at hl 0 rfl) ?_
  refine va_get (D := D) (ci := 9) (v := .ref (ad 1)) (C := RX9) (T := TX9) (N := 15) hx hb htg in_X9 hown hK hP 0 rfl rfl 1 (by decide) (htg _ tw_521) (fun _ h9 => h9) rfl dX9_premium_1 ?_
  refine lv_iload_n hx hb dX9_premium_4 rfl (lv_at hl 1 rfl) ?_
  refine va_iald hx hb hK hP 1 0 rfl rfl (ht) dX9_premium_5 ?_
  rw [hkd]
  refine lv_iconst (v := 2) hx hb dX9_premium_6 (by decide) ?_
  refine lv_icmp_ne (tgt := 27) hx hb dX9_premium_7 (by decide) (fun c7 => ?_) (fun c7 => absurd c7 ((by decide)))
  refine lv_aload_n hx hb dX9_premium_27 rfl (lv_at hl 0 rfl) ?_
  refine lv_bipush (v := 42) hx hb dX9_premium_28 (by decide) ?_
  refine hs_callv0 (w1 := (mW o ad cd tn td cs hd kd rt vl hr hw cu si acc (bdT 42 st))) (hs_runV (q0 := 0) SF cal_X9_body tw_598 (c_X9_body l D o ad cd tn td cs hd kd rt vl hr hw cu si acc st (okM_mono hok (by decide)) 42) hK hP hD rfl rfl ⟨Nat.le_of_ble_eq_true rfl, Nat.le_of_ble_eq_true rfl⟩ rfl hl.1 rfl (Nat.le_of_ble_eq_true rfl) dX9_premium_30 ⟨Nat.le_of_ble_eq_true rfl, Nat.le_of_ble_eq_true rfl⟩) hD hS hA (fun H locs hP hD hS => ?_)
  refine lv_aload_n hx hb dX9_premium_33 rfl (lv_at hl 0 rfl) ?_
  refine lv_iload_n hx hb dX9_premium_34 rfl (lv_at hl 1 rfl) ?_
  refine hs_calli0 (w1 := (mW o ad cd tn td cs hd kd rt vl hr hw cu si acc (bds [22, 21, 20] (bdT 42 st)))) (hs_runV (q0 := 0) SF cal_X9_check tw_606 (c_X9_check l D o ad cd tn td cs hd kd rt vl hr hw cu si acc (bdT 42 st) t ht 3 (by decide) hkd (okM_mono (okM_bd 42 hok) (by decide)) x hhr) hK hP hD rfl rfl ⟨Nat.le_of_ble_eq_true rfl, Nat.le_of_ble_eq_true rfl⟩ rfl hl.1 rfl (Nat.le_of_ble_eq_true rfl) dX9_premium_35 ⟨Nat.le_of_ble_eq_true rfl, Nat.le_of_ble_eq_true rfl⟩) hD hS hA (fun H locs hP hD hS => ?_)
  refine lv_istore_n (lv' := [(3, .int (ckF 3 x)), (0, .ref o), (1, .int t), (2, .int d)]) hx hb dX9_premium_38 rfl hl (by decide) rfl (fun ls hl => ?_)
  refine lv_iload_n hx hb dX9_premium_39 rfl (lv_at hl 3 rfl) ?_
  refine lv_iload_n hx hb dX9_premium_40 rfl (lv_at hl 0 rfl) ?_
  refine lv_aload_n hx hb dX9_premium_41 rfl (lv_at hl 1 rfl) ?_
  refine lv_iload_n hx hb dX9_premium_42 rfl (lv_at hl 2 rfl) ?_
  refine hs_calli0 (w1 := (mW o ad cd tn td cs hd kd rt vl hr hw cu si acc (bds [31] (bds [22, 21, 20] (bdT 42 st))))) (hs_runV (q0 := 0) SF cal_X9_deposit tw_610 (c_X9_deposit l D o ad cd tn td cs hd kd rt vl hr hw cu si acc (bds [22, 21, 20] (bdT 42 st)) t ht 3 (by decide) hkd (okM_bds (n := 2) [22, 21, 20] (okM_bd 42 hok)) (by decide)) hK hP hD rfl rfl ⟨Nat.le_of_ble_eq_true rfl, Nat.le_of_ble_eq_true rfl⟩ rfl hl.1 rfl (Nat.le_of_ble_eq_true rfl) dX9_premium_43 ⟨Nat.le_of_ble_eq_true rfl, Nat.le_of_ble_eq_true rfl⟩) hD hS hA (fun H locs hP hD hS => ?_)
  refine lv_sipush (v := 200) hx hb dX9_premium_46 (by decide) ?_
  refine lv_idiv hx hb dX9_premium_49 (by decide) ?_
  refine lv_iadd hx hb dX9_premium_50 ?_
  refine lv_imul hx hb dX9_premium_51 ?_
  exact hs_iret hx hb hrt hlocks hK hP hD hS dX9_premium_52 (by rfl) (by simp only [bds, pmN, List.foldl_cons, List.foldl_nil])

set_option maxHeartbeats 400000 in
set_option maxRecDepth 100000 in
theorem c_X9_premium_4 (l : Launch) (D : va_G) (o : Nat) (ad : Nat → Nat) (cd : Nat → ClassId) (tn td cs hd : Int32) (kd rt vl hr hw cu si : Nat → Int32) (acc : Nat → Int64) (st : TS) (t : Int32) (ht : vp_in t 24) (hkd : kd t.toNatClampNeg = nI 4) (hok : okM 6 st) (x : Int32) (hhr : hr t.toNatClampNeg = x) (d : Int32) : CM l D yX9_premium cX9_premium 4 (some .int) { frames := 2, cells := 0, slots := 0, locals := 44 } (tyM cd) [.ref o, .int t, .int d] (mW o ad cd tn td cs hd kd rt vl hr hw cu si acc st) (hs_QI D (tyM cd) (pmF 4 (vl t.toNatClampNeg) x d) (mW o ad cd tn td cs hd kd rt vl hr hw cu si acc (bds (pmN 4) st))) := by
  refine CM.of (by decide) (Nat.le_of_ble_eq_true rfl) ?_
  intro p e s m below meth c A ls hx hb hrt hml htg hown hlocks hnm hA hK hP hD hS hl
  have hown : s.vm.findClass RX9 = some m.cls := hown
  have hl : lv_has ls 4 [(0, .ref o), (1, .int t), (2, .int d)] := hl
  have SF : CallFix p m c cX9_premium 4 s _ hs_gt RX9 := ⟨hx, hb, hml, hown, htg⟩
  have hkd : kd t.toNatClampNeg = 4 := hkd
  refine lv_aload_n hx hb dX9_premium_0 rfl (lv_at hl 0 rfl) ?_
  refine va_get (D := D) (ci := 9) (v := .ref (ad 1)) (C := RX9) (T := TX9) (N := 15) hx hb htg in_X9 hown hK hP 0 rfl rfl 1 (by decide) (htg _ tw_521) (fun _ h9 => h9) rfl dX9_premium_1 ?_
  refine lv_iload_n hx hb dX9_premium_4 rfl (lv_at hl 1 rfl) ?_
  refine va_iald hx hb hK hP 1 0 rfl rfl (ht) dX9_premium_5 ?_
  rw [hkd]
  refine lv_iconst (v := 2) hx hb dX9_premium_6 (by decide) ?_
  refine lv_icmp_ne (tgt := 27) hx hb dX9_premium_7 (by decide) (fun c7 => ?_) (fun c7 => absurd c7 ((by decide)))
  refine lv_aload_n hx hb dX9_premium_27 rfl (lv_at hl 0 rfl) ?_
  refine lv_bipush (v := 42) hx hb dX9_premium_28 (by decide) ?_
  refine hs_callv0 (w1 := (mW o ad cd tn td cs hd kd rt vl hr hw cu si acc (bdT 42 st))) (hs_runV (q0 := 0) SF cal_X9_body tw_598 (c_X9_body l D o ad cd tn td cs hd kd rt vl hr hw cu si acc st (okM_mono hok (by decide)) 42) hK hP hD rfl rfl ⟨Nat.le_of_ble_eq_true rfl, Nat.le_of_ble_eq_true rfl⟩ rfl hl.1 rfl (Nat.le_of_ble_eq_true rfl) dX9_premium_30 ⟨Nat.le_of_ble_eq_true rfl, Nat.le_of_ble_eq_true rfl⟩) hD hS hA (fun H locs hP hD hS => ?_)
  refine lv_aload_n hx hb dX9_premium_33 rfl (lv_at hl 0 rfl) ?_
  refine lv_iload_n hx hb dX9_premium_34 rfl (lv_at hl 1 rfl) ?_
  refine hs_calli0 (w1 := (mW o ad cd tn td cs hd kd rt vl hr hw cu si acc (bds [22, 21, 20] (bdT 42 st)))) (hs_runV (q0 := 0) SF cal_X9_check tw_606 (c_X9_check l D o ad cd tn td cs hd kd rt vl hr hw cu si acc (bdT 42 st) t ht 4 (by decide) hkd (okM_mono (okM_bd 42 hok) (by decide)) x hhr) hK hP hD rfl rfl ⟨Nat.le_of_ble_eq_true rfl, Nat.le_of_ble_eq_true rfl⟩ rfl hl.1 rfl (Nat.le_of_ble_eq_true rfl) dX9_premium_35 ⟨Nat.le_of_ble_eq_true rfl, Nat.le_of_ble_eq_true rfl⟩) hD hS hA (fun H locs hP hD hS => ?_)
  refine lv_istore_n (lv' := [(3, .int (ckF 4 x)), (0, .ref o), (1, .int t), (2, .int d)]) hx hb dX9_premium_38 rfl hl (by decide) rfl (fun ls hl => ?_)
  refine lv_iload_n hx hb dX9_premium_39 rfl (lv_at hl 3 rfl) ?_
  refine lv_iload_n hx hb dX9_premium_40 rfl (lv_at hl 0 rfl) ?_
  refine lv_aload_n hx hb dX9_premium_41 rfl (lv_at hl 1 rfl) ?_
  refine lv_iload_n hx hb dX9_premium_42 rfl (lv_at hl 2 rfl) ?_
  refine hs_calli0 (w1 := (mW o ad cd tn td cs hd kd rt vl hr hw cu si acc (bds [32, 31] (bds [22, 21, 20] (bdT 42 st))))) (hs_runV (q0 := 0) SF cal_X9_deposit tw_610 (c_X9_deposit l D o ad cd tn td cs hd kd rt vl hr hw cu si acc (bds [22, 21, 20] (bdT 42 st)) t ht 4 (by decide) hkd (okM_bds (n := 2) [22, 21, 20] (okM_bd 42 hok)) (by decide)) hK hP hD rfl rfl ⟨Nat.le_of_ble_eq_true rfl, Nat.le_of_ble_eq_true rfl⟩ rfl hl.1 rfl (Nat.le_of_ble_eq_true rfl) dX9_premium_43 ⟨Nat.le_of_ble_eq_true rfl, Nat.le_of_ble_eq_true rfl⟩) hD hS hA (fun H locs hP hD hS => ?_)
  refine lv_sipush (v := 200) hx hb dX9_premium_46 (by decide) ?_
  refine lv_idiv hx hb dX9_premium_49 (by decide) ?_
  refine lv_iadd hx hb dX9_premium_50 ?_
  refine lv_imul hx hb dX9_premium_51 ?_
  exact hs_iret hx hb hrt hlocks hK hP hD hS dX9_premium_52 (by rfl) (by simp only [bds, pmN, List.foldl_cons, List.foldl_nil])

theorem c_X9_premium (l : Launch) (D : va_G) (o : Nat) (ad : Nat → Nat) (cd : Nat → ClassId) (tn td cs hd : Int32) (kd rt vl hr hw cu si : Nat → Int32) (acc : Nat → Int64) (st : TS) (t : Int32) (ht : vp_in t 24) (k : Nat) (hk : k < 7) (hkd : kd t.toNatClampNeg = nI k) (hok : okM 6 st) (x : Int32) (hhr : hr t.toNatClampNeg = x) (d : Int32) (hg : ¬ isI k = 0) : CM l D yX9_premium cX9_premium 4 (some .int) { frames := 2, cells := 0, slots := 0, locals := 44 } (tyM cd) [.ref o, .int t, .int d] (mW o ad cd tn td cs hd kd rt vl hr hw cu si acc st) (hs_QI D (tyM cd) (pmF k (vl t.toNatClampNeg) x d) (mW o ad cd tn td cs hd kd rt vl hr hw cu si acc (bds (pmN k) st))) := by
  match k, hk, hkd, hg with
  | 0, _, _, hg => exact absurd hg (by decide)
  | 1, _, _, hg => exact absurd hg (by decide)
  | 2, _, hkd, hg => exact c_X9_premium_2 l D o ad cd tn td cs hd kd rt vl hr hw cu si acc st t ht hkd hok x hhr d
  | 3, _, hkd, hg => exact c_X9_premium_3 l D o ad cd tn td cs hd kd rt vl hr hw cu si acc st t ht hkd hok x hhr d
  | 4, _, hkd, hg => exact c_X9_premium_4 l D o ad cd tn td cs hd kd rt vl hr hw cu si acc st t ht hkd hok x hhr d
  | 5, _, _, hg => exact absurd hg (by decide)
  | 6, _, _, hg => exact absurd hg (by decide)
  | k + 7, hk, _, _ => exact absurd hk (by omega)

theorem cal_X9_premium : hs_cV yX9_premium cX9_premium 4 (some .int) 2 := ⟨tw_617, tw_616, tw_13, tw_19, by decide +kernel⟩

set_option maxHeartbeats 400000 in
set_option maxRecDepth 100000 in
theorem c_X9_due_3 (l : Launch) (D : va_G) (o : Nat) (ad : Nat → Nat) (cd : Nat → ClassId) (tn td cs hd : Int32) (kd rt vl hr hw cu si : Nat → Int32) (acc : Nat → Int64) (st : TS) (t : Int32) (ht : vp_in t 24) (hkd : kd t.toNatClampNeg = nI 3) (hok : okM 3 st) (x : Int32) (hhr : hr t.toNatClampNeg = x) (d : Int32) : CM l D yX9_due cX9_due 3 (some .int) { frames := 2, cells := 0, slots := 0, locals := 44 } (tyM cd) [.ref o, .int t, .int d] (mW o ad cd tn td cs hd kd rt vl hr hw cu si acc st) (hs_QI D (tyM cd) (duF 3 x d) (mW o ad cd tn td cs hd kd rt vl hr hw cu si acc (bds (duN 3) st))) := by
  refine CM.of (by decide) (Nat.le_of_ble_eq_true rfl) ?_
  intro p e s m below meth c A ls hx hb hrt hml htg hown hlocks hnm hA hK hP hD hS hl
  have hown : s.vm.findClass RX9 = some m.cls := hown
  have hl : lv_has ls 3 [(0, .ref o), (1, .int t), (2, .int d)] := hl
  have SF : CallFix p m c cX9_due 3 s _ hs_gt RX9 := ⟨hx, hb, hml, hown, htg⟩
  have hkd : kd t.toNatClampNeg = 3 := hkd
  refine lv_aload_n hx hb dX9_due_0 rfl (lv_at hl 0 rfl) ?_
  refine lv_bipush (v := 43) hx hb dX9_due_1 (by decide) ?_
  refine hs_callv0 (w1 := (mW o ad cd tn td cs hd kd rt vl hr hw cu si acc (bdT 43 st))) (hs_runV (q0 := 0) SF cal_X9_body tw_598 (c_X9_body l D o ad cd tn td cs hd kd rt vl hr hw cu si acc st (okM_mono hok (by decide)) 43) hK hP hD rfl rfl ⟨Nat.le_of_ble_eq_true rfl, Nat.le_of_ble_eq_true rfl⟩ rfl hl.1 rfl (Nat.le_of_ble_eq_true rfl) dX9_due_3 ⟨Nat.le_of_ble_eq_true rfl, Nat.le_of_ble_eq_true rfl⟩) hD hS hA (fun H locs hP hD hS => ?_)
  refine lv_aload_n hx hb dX9_due_6 rfl (lv_at hl 0 rfl) ?_
  refine va_get (D := D) (ci := 9) (v := .ref (ad 4)) (C := RX9) (T := TX9) (N := 15) hx hb htg in_X9 hown hK hP 0 rfl rfl 4 (by decide) (htg _ tw_524) (fun _ h9 => h9) rfl dX9_due_7 ?_
  refine lv_iload_n hx hb dX9_due_10 rfl (lv_at hl 1 rfl) ?_
  refine va_iald hx hb hK hP 4 3 rfl rfl (ht) dX9_due_11 ?_
  rw [hhr]
  refine lv_aload_n hx hb dX9_due_12 rfl (lv_at hl 0 rfl) ?_
  refine lv_iload_n hx hb dX9_due_13 rfl (lv_at hl 1 rfl) ?_
  refine lv_iload_n hx hb dX9_due_14 rfl (lv_at hl 2 rfl) ?_
  refine hs_calli0 (w1 := (mW o ad cd tn td cs hd kd rt vl hr hw cu si acc (bds [11] (bdT 43 st)))) (hs_runV (q0 := 0) SF cal_X9_wear tw_602 (c_X9_wear l D o ad cd tn td cs hd kd rt vl hr hw cu si acc (bdT 43 st) t ht 3 (by decide) hkd (okM_bd 43 hok) x hhr d) hK hP hD rfl rfl ⟨Nat.le_of_ble_eq_true rfl, Nat.le_of_ble_eq_true rfl⟩ rfl hl.1 rfl (Nat.le_of_ble_eq_true rfl) dX9_due_15 ⟨Nat.le_of_ble_eq_true rfl, Nat.le_of_ble_eq_true rfl⟩) hD hS hA (fun H locs hP hD hS => ?_)
  refine lv_iadd hx hb dX9_due_18 ?_
  refine lv_bipush (v := 60) hx hb dX9_due_19 (by decide) ?_
  refine lv_icmp_le (tgt := 28) hx hb dX9_due_21 (by decide) (fun c21 => ?_) (fun c21 => ?_)
  · refine lv_iconst (v := 0) hx hb dX9_due_28 (by decide) ?_
    exact hs_iret hx hb hrt hlocks hK hP hD hS dX9_due_29 (by unfold duF; rw [if_neg (by decide)]; first | rw [if_pos c21] | rw [if_neg c21]) (by unfold duN; rw [if_neg (by decide)]; simp only [bds, weN, List.foldl_cons, List.foldl_nil])
  · refine lv_iconst (v := 1) hx hb dX9_due_24 (by decide) ?_
    refine lv_goto (tgt := 29) hx hb dX9_due_25 (by decide) ?_
    exact hs_iret hx hb hrt hlocks hK hP hD hS dX9_due_29 (by unfold duF; rw [if_neg (by decide)]; first | rw [if_pos c21] | rw [if_neg c21]) (by unfold duN; rw [if_neg (by decide)]; simp only [bds, weN, List.foldl_cons, List.foldl_nil])

set_option maxHeartbeats 400000 in
set_option maxRecDepth 100000 in
theorem c_X9_due_4 (l : Launch) (D : va_G) (o : Nat) (ad : Nat → Nat) (cd : Nat → ClassId) (tn td cs hd : Int32) (kd rt vl hr hw cu si : Nat → Int32) (acc : Nat → Int64) (st : TS) (t : Int32) (ht : vp_in t 24) (hkd : kd t.toNatClampNeg = nI 4) (hok : okM 3 st) (x : Int32) (hhr : hr t.toNatClampNeg = x) (d : Int32) : CM l D yX9_due cX9_due 3 (some .int) { frames := 2, cells := 0, slots := 0, locals := 44 } (tyM cd) [.ref o, .int t, .int d] (mW o ad cd tn td cs hd kd rt vl hr hw cu si acc st) (hs_QI D (tyM cd) (duF 4 x d) (mW o ad cd tn td cs hd kd rt vl hr hw cu si acc (bds (duN 4) st))) := by
  refine CM.of (by decide) (Nat.le_of_ble_eq_true rfl) ?_
  intro p e s m below meth c A ls hx hb hrt hml htg hown hlocks hnm hA hK hP hD hS hl
  have hown : s.vm.findClass RX9 = some m.cls := hown
  have hl : lv_has ls 3 [(0, .ref o), (1, .int t), (2, .int d)] := hl
  have SF : CallFix p m c cX9_due 3 s _ hs_gt RX9 := ⟨hx, hb, hml, hown, htg⟩
  have hkd : kd t.toNatClampNeg = 4 := hkd
  refine lv_aload_n hx hb dX9_due_0 rfl (lv_at hl 0 rfl) ?_
  refine lv_bipush (v := 43) hx hb dX9_due_1 (by decide) ?_
  refine hs_callv0 (w1 := (mW o ad cd tn td cs hd kd rt vl hr hw cu si acc (bdT 43 st))) (hs_runV (q0 := 0) SF cal_X9_body tw_598 (c_X9_body l D o ad cd tn td cs hd kd rt vl hr hw cu si acc st (okM_mono hok (by decide)) 43) hK hP hD rfl rfl ⟨Nat.le_of_ble_eq_true rfl, Nat.le_of_ble_eq_true rfl⟩ rfl hl.1 rfl (Nat.le_of_ble_eq_true rfl) dX9_due_3 ⟨Nat.le_of_ble_eq_true rfl, Nat.le_of_ble_eq_true rfl⟩) hD hS hA (fun H locs hP hD hS => ?_)
  refine lv_aload_n hx hb dX9_due_6 rfl (lv_at hl 0 rfl) ?_
  refine va_get (D := D) (ci := 9) (v := .ref (ad 4)) (C := RX9) (T := TX9) (N := 15) hx hb htg in_X9 hown hK hP 0 rfl rfl 4 (by decide) (htg _ tw_524) (fun _ h9 => h9) rfl dX9_due_7 ?_
  refine lv_iload_n hx hb dX9_due_10 rfl (lv_at hl 1 rfl) ?_
  refine va_iald hx hb hK hP 4 3 rfl rfl (ht) dX9_due_11 ?_
  rw [hhr]
  refine lv_aload_n hx hb dX9_due_12 rfl (lv_at hl 0 rfl) ?_
  refine lv_iload_n hx hb dX9_due_13 rfl (lv_at hl 1 rfl) ?_
  refine lv_iload_n hx hb dX9_due_14 rfl (lv_at hl 2 rfl) ?_
  refine hs_calli0 (w1 := (mW o ad cd tn td cs hd kd rt vl hr hw cu si acc (bds [12, 11] (bdT 43 st)))) (hs_runV (q0 := 0) SF cal_X9_wear tw_602 (c_X9_wear l D o ad cd tn td cs hd kd rt vl hr hw cu si acc (bdT 43 st) t ht 4 (by decide) hkd (okM_bd 43 hok) x hhr d) hK hP hD rfl rfl ⟨Nat.le_of_ble_eq_true rfl, Nat.le_of_ble_eq_true rfl⟩ rfl hl.1 rfl (Nat.le_of_ble_eq_true rfl) dX9_due_15 ⟨Nat.le_of_ble_eq_true rfl, Nat.le_of_ble_eq_true rfl⟩) hD hS hA (fun H locs hP hD hS => ?_)
  refine lv_iadd hx hb dX9_due_18 ?_
  refine lv_bipush (v := 60) hx hb dX9_due_19 (by decide) ?_
  refine lv_icmp_le (tgt := 28) hx hb dX9_due_21 (by decide) (fun c21 => ?_) (fun c21 => ?_)
  · refine lv_iconst (v := 0) hx hb dX9_due_28 (by decide) ?_
    exact hs_iret hx hb hrt hlocks hK hP hD hS dX9_due_29 (by unfold duF; rw [if_neg (by decide)]; first | rw [if_pos c21] | rw [if_neg c21]) (by unfold duN; rw [if_neg (by decide)]; simp only [bds, weN, List.foldl_cons, List.foldl_nil])
  · refine lv_iconst (v := 1) hx hb dX9_due_24 (by decide) ?_
    refine lv_goto (tgt := 29) hx hb dX9_due_25 (by decide) ?_
    exact hs_iret hx hb hrt hlocks hK hP hD hS dX9_due_29 (by unfold duF; rw [if_neg (by decide)]; first | rw [if_pos c21] | rw [if_neg c21]) (by unfold duN; rw [if_neg (by decide)]; simp only [bds, weN, List.foldl_cons, List.foldl_nil])

set_option maxHeartbeats 400000 in
set_option maxRecDepth 100000 in
theorem c_X9_due_5 (l : Launch) (D : va_G) (o : Nat) (ad : Nat → Nat) (cd : Nat → ClassId) (tn td cs hd : Int32) (kd rt vl hr hw cu si : Nat → Int32) (acc : Nat → Int64) (st : TS) (t : Int32) (ht : vp_in t 24) (hkd : kd t.toNatClampNeg = nI 5) (hok : okM 3 st) (x : Int32) (hhr : hr t.toNatClampNeg = x) (d : Int32) : CM l D yX9_due cX9_due 3 (some .int) { frames := 2, cells := 0, slots := 0, locals := 44 } (tyM cd) [.ref o, .int t, .int d] (mW o ad cd tn td cs hd kd rt vl hr hw cu si acc st) (hs_QI D (tyM cd) (duF 5 x d) (mW o ad cd tn td cs hd kd rt vl hr hw cu si acc (bds (duN 5) st))) := by
  refine CM.of (by decide) (Nat.le_of_ble_eq_true rfl) ?_
  intro p e s m below meth c A ls hx hb hrt hml htg hown hlocks hnm hA hK hP hD hS hl
  have hown : s.vm.findClass RX9 = some m.cls := hown
  have hl : lv_has ls 3 [(0, .ref o), (1, .int t), (2, .int d)] := hl
  have SF : CallFix p m c cX9_due 3 s _ hs_gt RX9 := ⟨hx, hb, hml, hown, htg⟩
  have hkd : kd t.toNatClampNeg = 5 := hkd
  refine lv_aload_n hx hb dX9_due_0 rfl (lv_at hl 0 rfl) ?_
  refine lv_bipush (v := 43) hx hb dX9_due_1 (by decide) ?_
  refine hs_callv0 (w1 := (mW o ad cd tn td cs hd kd rt vl hr hw cu si acc (bdT 43 st))) (hs_runV (q0 := 0) SF cal_X9_body tw_598 (c_X9_body l D o ad cd tn td cs hd kd rt vl hr hw cu si acc st (okM_mono hok (by decide)) 43) hK hP hD rfl rfl ⟨Nat.le_of_ble_eq_true rfl, Nat.le_of_ble_eq_true rfl⟩ rfl hl.1 rfl (Nat.le_of_ble_eq_true rfl) dX9_due_3 ⟨Nat.le_of_ble_eq_true rfl, Nat.le_of_ble_eq_true rfl⟩) hD hS hA (fun H locs hP hD hS => ?_)
  refine lv_aload_n hx hb dX9_due_6 rfl (lv_at hl 0 rfl) ?_
  refine va_get (D := D) (ci := 9) (v := .ref (ad 4)) (C := RX9) (T := TX9) (N := 15) hx hb htg in_X9 hown hK hP 0 rfl rfl 4 (by decide) (htg _ tw_524) (fun _ h9 => h9) rfl dX9_due_7 ?_
  refine lv_iload_n hx hb dX9_due_10 rfl (lv_at hl 1 rfl) ?_
  refine va_iald hx hb hK hP 4 3 rfl rfl (ht) dX9_due_11 ?_
  rw [hhr]
  refine lv_aload_n hx hb dX9_due_12 rfl (lv_at hl 0 rfl) ?_
  refine lv_iload_n hx hb dX9_due_13 rfl (lv_at hl 1 rfl) ?_
  refine lv_iload_n hx hb dX9_due_14 rfl (lv_at hl 2 rfl) ?_
  refine hs_calli0 (w1 := (mW o ad cd tn td cs hd kd rt vl hr hw cu si acc (bds [13, 11] (bdT 43 st)))) (hs_runV (q0 := 0) SF cal_X9_wear tw_602 (c_X9_wear l D o ad cd tn td cs hd kd rt vl hr hw cu si acc (bdT 43 st) t ht 5 (by decide) hkd (okM_bd 43 hok) x hhr d) hK hP hD rfl rfl ⟨Nat.le_of_ble_eq_true rfl, Nat.le_of_ble_eq_true rfl⟩ rfl hl.1 rfl (Nat.le_of_ble_eq_true rfl) dX9_due_15 ⟨Nat.le_of_ble_eq_true rfl, Nat.le_of_ble_eq_true rfl⟩) hD hS hA (fun H locs hP hD hS => ?_)
  refine lv_iadd hx hb dX9_due_18 ?_
  refine lv_bipush (v := 60) hx hb dX9_due_19 (by decide) ?_
  refine lv_icmp_le (tgt := 28) hx hb dX9_due_21 (by decide) (fun c21 => ?_) (fun c21 => ?_)
  · refine lv_iconst (v := 0) hx hb dX9_due_28 (by decide) ?_
    exact hs_iret hx hb hrt hlocks hK hP hD hS dX9_due_29 (by unfold duF; rw [if_neg (by decide)]; first | rw [if_pos c21] | rw [if_neg c21]) (by unfold duN; rw [if_neg (by decide)]; simp only [bds, weN, List.foldl_cons, List.foldl_nil])
  · refine lv_iconst (v := 1) hx hb dX9_due_24 (by decide) ?_
    refine lv_goto (tgt := 29) hx hb dX9_due_25 (by decide) ?_
    exact hs_iret hx hb hrt hlocks hK hP hD hS dX9_due_29 (by unfold duF; rw [if_neg (by decide)]; first | rw [if_pos c21] | rw [if_neg c21]) (by unfold duN; rw [if_neg (by decide)]; simp only [bds, weN, List.foldl_cons, List.foldl_nil])

set_option maxHeartbeats 400000 in
set_option maxRecDepth 100000 in
theorem c_X9_due_6 (l : Launch) (D : va_G) (o : Nat) (ad : Nat → Nat) (cd : Nat → ClassId) (tn td cs hd : Int32) (kd rt vl hr hw cu si : Nat → Int32) (acc : Nat → Int64) (st : TS) (t : Int32) (ht : vp_in t 24) (hkd : kd t.toNatClampNeg = nI 6) (hok : okM 3 st) (x : Int32) (hhr : hr t.toNatClampNeg = x) (d : Int32) : CM l D yX9_due cX9_due 3 (some .int) { frames := 2, cells := 0, slots := 0, locals := 44 } (tyM cd) [.ref o, .int t, .int d] (mW o ad cd tn td cs hd kd rt vl hr hw cu si acc st) (hs_QI D (tyM cd) (duF 6 x d) (mW o ad cd tn td cs hd kd rt vl hr hw cu si acc (bds (duN 6) st))) := by
  refine CM.of (by decide) (Nat.le_of_ble_eq_true rfl) ?_
  intro p e s m below meth c A ls hx hb hrt hml htg hown hlocks hnm hA hK hP hD hS hl
  have hown : s.vm.findClass RX9 = some m.cls := hown
  have hl : lv_has ls 3 [(0, .ref o), (1, .int t), (2, .int d)] := hl
  have SF : CallFix p m c cX9_due 3 s _ hs_gt RX9 := ⟨hx, hb, hml, hown, htg⟩
  have hkd : kd t.toNatClampNeg = 6 := hkd
  refine lv_aload_n hx hb dX9_due_0 rfl (lv_at hl 0 rfl) ?_
  refine lv_bipush (v := 43) hx hb dX9_due_1 (by decide) ?_
  refine hs_callv0 (w1 := (mW o ad cd tn td cs hd kd rt vl hr hw cu si acc (bdT 43 st))) (hs_runV (q0 := 0) SF cal_X9_body tw_598 (c_X9_body l D o ad cd tn td cs hd kd rt vl hr hw cu si acc st (okM_mono hok (by decide)) 43) hK hP hD rfl rfl ⟨Nat.le_of_ble_eq_true rfl, Nat.le_of_ble_eq_true rfl⟩ rfl hl.1 rfl (Nat.le_of_ble_eq_true rfl) dX9_due_3 ⟨Nat.le_of_ble_eq_true rfl, Nat.le_of_ble_eq_true rfl⟩) hD hS hA (fun H locs hP hD hS => ?_)
  refine lv_aload_n hx hb dX9_due_6 rfl (lv_at hl 0 rfl) ?_
  refine va_get (D := D) (ci := 9) (v := .ref (ad 4)) (C := RX9) (T := TX9) (N := 15) hx hb htg in_X9 hown hK hP 0 rfl rfl 4 (by decide) (htg _ tw_524) (fun _ h9 => h9) rfl dX9_due_7 ?_
  refine lv_iload_n hx hb dX9_due_10 rfl (lv_at hl 1 rfl) ?_
  refine va_iald hx hb hK hP 4 3 rfl rfl (ht) dX9_due_11 ?_
  rw [hhr]
  refine lv_aload_n hx hb dX9_due_12 rfl (lv_at hl 0 rfl) ?_
  refine lv_iload_n hx hb dX9_due_13 rfl (lv_at hl 1 rfl) ?_
  refine lv_iload_n hx hb dX9_due_14 rfl (lv_at hl 2 rfl) ?_
  refine hs_calli0 (w1 := (mW o ad cd tn td cs hd kd rt vl hr hw cu si acc (bds [13, 11] (bdT 43 st)))) (hs_runV (q0 := 0) SF cal_X9_wear tw_602 (c_X9_wear l D o ad cd tn td cs hd kd rt vl hr hw cu si acc (bdT 43 st) t ht 6 (by decide) hkd (okM_bd 43 hok) x hhr d) hK hP hD rfl rfl ⟨Nat.le_of_ble_eq_true rfl, Nat.le_of_ble_eq_true rfl⟩ rfl hl.1 rfl (Nat.le_of_ble_eq_true rfl) dX9_due_15 ⟨Nat.le_of_ble_eq_true rfl, Nat.le_of_ble_eq_true rfl⟩) hD hS hA (fun H locs hP hD hS => ?_)
  refine lv_iadd hx hb dX9_due_18 ?_
  refine lv_bipush (v := 60) hx hb dX9_due_19 (by decide) ?_
  refine lv_icmp_le (tgt := 28) hx hb dX9_due_21 (by decide) (fun c21 => ?_) (fun c21 => ?_)
  · refine lv_iconst (v := 0) hx hb dX9_due_28 (by decide) ?_
    exact hs_iret hx hb hrt hlocks hK hP hD hS dX9_due_29 (by unfold duF; rw [if_neg (by decide)]; first | rw [if_pos c21] | rw [if_neg c21]) (by unfold duN; rw [if_neg (by decide)]; simp only [bds, weN, List.foldl_cons, List.foldl_nil])
  · refine lv_iconst (v := 1) hx hb dX9_due_24 (by decide) ?_
    refine lv_goto (tgt := 29) hx hb dX9_due_25 (by decide) ?_
    exact hs_iret hx hb hrt hlocks hK hP hD hS dX9_due_29 (by unfold duF; rw [if_neg (by decide)]; first | rw [if_pos c21] | rw [if_neg c21]) (by unfold duN; rw [if_neg (by decide)]; simp only [bds, weN, List.foldl_cons, List.foldl_nil])

theorem c_X9_due (l : Launch) (D : va_G) (o : Nat) (ad : Nat → Nat) (cd : Nat → ClassId) (tn td cs hd : Int32) (kd rt vl hr hw cu si : Nat → Int32) (acc : Nat → Int64) (st : TS) (t : Int32) (ht : vp_in t 24) (k : Nat) (hk : k < 7) (hkd : kd t.toNatClampNeg = nI k) (hok : okM 3 st) (x : Int32) (hhr : hr t.toNatClampNeg = x) (d : Int32) (hg : ¬ isS k = 0) : CM l D yX9_due cX9_due 3 (some .int) { frames := 2, cells := 0, slots := 0, locals := 44 } (tyM cd) [.ref o, .int t, .int d] (mW o ad cd tn td cs hd kd rt vl hr hw cu si acc st) (hs_QI D (tyM cd) (duF k x d) (mW o ad cd tn td cs hd kd rt vl hr hw cu si acc (bds (duN k) st))) := by
  match k, hk, hkd, hg with
  | 0, _, _, hg => exact absurd hg (by decide)
  | 1, _, _, hg => exact absurd hg (by decide)
  | 2, _, _, hg => exact absurd hg (by decide)
  | 3, _, hkd, hg => exact c_X9_due_3 l D o ad cd tn td cs hd kd rt vl hr hw cu si acc st t ht hkd hok x hhr d
  | 4, _, hkd, hg => exact c_X9_due_4 l D o ad cd tn td cs hd kd rt vl hr hw cu si acc st t ht hkd hok x hhr d
  | 5, _, hkd, hg => exact c_X9_due_5 l D o ad cd tn td cs hd kd rt vl hr hw cu si acc st t ht hkd hok x hhr d
  | 6, _, hkd, hg => exact c_X9_due_6 l D o ad cd tn td cs hd kd rt vl hr hw cu si acc st t ht hkd hok x hhr d
  | k + 7, hk, _, _ => exact absurd hk (by omega)

theorem cal_X9_due : hs_cV yX9_due cX9_due 3 (some .int) 2 := ⟨tw_621, tw_620, tw_14, tw_19, by decide +kernel⟩

set_option maxHeartbeats 400000 in
set_option maxRecDepth 100000 in
theorem c_X9_lent_0 (l : Launch) (D : va_G) (o : Nat) (ad : Nat → Nat) (cd : Nat → ClassId) (tn td cs hd : Int32) (kd rt vl hr hw cu si : Nat → Int32) (acc : Nat → Int64) (st : TS) (t : Int32) (ht : vp_in t 24) (hkd : kd t.toNatClampNeg = nI 0) (hok : okM 2 st) : CM l D yX9_lent cX9_lent 2 (some .int) { frames := 2, cells := 0, slots := 0, locals := 42 } (tyM cd) [.ref o, .int t] (mW o ad cd tn td cs hd kd rt vl hr hw cu si acc st) (hs_QI D (tyM cd) (dpF 0 (vl t.toNatClampNeg)) (mW o ad cd tn td cs hd kd rt vl hr hw cu si acc (bds (dpN 0) st))) := by
  refine CM.of (by decide) (Nat.le_of_ble_eq_true rfl) ?_
  intro p e s m below meth c A ls hx hb hrt hml htg hown hlocks hnm hA hK hP hD hS hl
  have hown : s.vm.findClass RX9 = some m.cls := hown
  have hl : lv_has ls 2 [(0, .ref o), (1, .int t)] := hl
  have SF : CallFix p m c cX9_lent 2 s _ hs_gt RX9 := ⟨hx, hb, hml, hown, htg⟩
  have hkd : kd t.toNatClampNeg = 0 := hkd
  refine lv_aload_n hx hb dX9_lent_0 rfl (lv_at hl 0 rfl) ?_
  refine va_get (D := D) (ci := 9) (v := .ref (ad 1)) (C := RX9) (T := TX9) (N := 15) hx hb htg in_X9 hown hK hP 0 rfl rfl 1 (by decide) (htg _ tw_521) (fun _ h9 => h9) rfl dX9_lent_1 ?_
  refine lv_iload_n hx hb dX9_lent_4 rfl (lv_at hl 1 rfl) ?_
  refine va_iald hx hb hK hP 1 0 rfl rfl (ht) dX9_lent_5 ?_
  rw [hkd]
  refine lv_if_le (tgt := 17) hx hb dX9_lent_6 (by decide) (fun c6 => ?_) (fun c6 => absurd c6 ((by decide)))
  refine lv_iconst (v := 0) hx hb dX9_lent_17 (by decide) ?_
  exact hs_iret hx hb hrt hlocks hK hP hD hS dX9_lent_18 (rfl) (by first | (simp only [bds, dpN, List.foldl_cons, List.foldl_nil]; done) | rfl)

set_option maxHeartbeats 400000 in
set_option maxRecDepth 100000 in
theorem c_X9_lent_1 (l : Launch) (D : va_G) (o : Nat) (ad : Nat → Nat) (cd : Nat → ClassId) (tn td cs hd : Int32) (kd rt vl hr hw cu si : Nat → Int32) (acc : Nat → Int64) (st : TS) (t : Int32) (ht : vp_in t 24) (hkd : kd t.toNatClampNeg = nI 1) (hok : okM 2 st) : CM l D yX9_lent cX9_lent 2 (some .int) { frames := 2, cells := 0, slots := 0, locals := 42 } (tyM cd) [.ref o, .int t] (mW o ad cd tn td cs hd kd rt vl hr hw cu si acc st) (hs_QI D (tyM cd) (dpF 1 (vl t.toNatClampNeg)) (mW o ad cd tn td cs hd kd rt vl hr hw cu si acc (bds (dpN 1) st))) := by
  refine CM.of (by decide) (Nat.le_of_ble_eq_true rfl) ?_
  intro p e s m below meth c A ls hx hb hrt hml htg hown hlocks hnm hA hK hP hD hS hl
  have hown : s.vm.findClass RX9 = some m.cls := hown
  have hl : lv_has ls 2 [(0, .ref o), (1, .int t)] := hl
  have SF : CallFix p m c cX9_lent 2 s _ hs_gt RX9 := ⟨hx, hb, hml, hown, htg⟩
  have hkd : kd t.toNatClampNeg = 1 := hkd
  refine lv_aload_n hx hb dX9_lent_0 rfl (lv_at hl 0 rfl) ?_
  refine va_get (D := D) (ci := 9) (v := .ref (ad 1)) (C := RX9) (T := TX9) (N := 15) hx hb htg in_X9 hown hK hP 0 rfl rfl 1 (by decide) (htg _ tw_521) (fun _ h9 => h9) rfl dX9_lent_1 ?_
  refine lv_iload_n hx hb dX9_lent_4 rfl (lv_at hl 1 rfl) ?_
  refine va_iald hx hb hK hP 1 0 rfl rfl (ht) dX9_lent_5 ?_
  rw [hkd]
  refine lv_if_le (tgt := 17) hx hb dX9_lent_6 (by decide) (fun c6 => absurd c6 ((by decide))) (fun c6 => ?_)
  refine lv_aload_n hx hb dX9_lent_9 rfl (lv_at hl 0 rfl) ?_
  refine lv_iload_n hx hb dX9_lent_10 rfl (lv_at hl 1 rfl) ?_
  refine hs_calli0 (w1 := (mW o ad cd tn td cs hd kd rt vl hr hw cu si acc (bds [31] st))) (hs_runV (q0 := 0) SF cal_X9_deposit tw_610 (c_X9_deposit l D o ad cd tn td cs hd kd rt vl hr hw cu si acc st t ht 1 (by decide) hkd hok (by decide)) hK hP hD rfl rfl ⟨Nat.le_of_ble_eq_true rfl, Nat.le_of_ble_eq_true rfl⟩ rfl hl.1 rfl (Nat.le_of_ble_eq_true rfl) dX9_lent_11 ⟨Nat.le_of_ble_eq_true rfl, Nat.le_of_ble_eq_true rfl⟩) hD hS hA (fun H locs hP hD hS => ?_)
  refine lv_goto (tgt := 18) hx hb dX9_lent_14 (by decide) ?_
  exact hs_iret hx hb hrt hlocks hK hP hD hS dX9_lent_18 (rfl) (by first | (simp only [bds, dpN, List.foldl_cons, List.foldl_nil]; done) | rfl)

set_option maxHeartbeats 400000 in
set_option maxRecDepth 100000 in
theorem c_X9_lent_2 (l : Launch) (D : va_G) (o : Nat) (ad : Nat → Nat) (cd : Nat → ClassId) (tn td cs hd : Int32) (kd rt vl hr hw cu si : Nat → Int32) (acc : Nat → Int64) (st : TS) (t : Int32) (ht : vp_in t 24) (hkd : kd t.toNatClampNeg = nI 2) (hok : okM 2 st) : CM l D yX9_lent cX9_lent 2 (some .int) { frames := 2, cells := 0, slots := 0, locals := 42 } (tyM cd) [.ref o, .int t] (mW o ad cd tn td cs hd kd rt vl hr hw cu si acc st) (hs_QI D (tyM cd) (dpF 2 (vl t.toNatClampNeg)) (mW o ad cd tn td cs hd kd rt vl hr hw cu si acc (bds (dpN 2) st))) := by
  refine CM.of (by decide) (Nat.le_of_ble_eq_true rfl) ?_
  intro p e s m below meth c A ls hx hb hrt hml htg hown hlocks hnm hA hK hP hD hS hl
  have hown : s.vm.findClass RX9 = some m.cls := hown
  have hl : lv_has ls 2 [(0, .ref o), (1, .int t)] := hl
  have SF : CallFix p m c cX9_lent 2 s _ hs_gt RX9 := ⟨hx, hb, hml, hown, htg⟩
  have hkd : kd t.toNatClampNeg = 2 := hkd
  refine lv_aload_n hx hb dX9_lent_0 rfl (lv_at hl 0 rfl) ?_
  refine va_get (D := D) (ci := 9) (v := .ref (ad 1)) (C := RX9) (T := TX9) (N := 15) hx hb htg in_X9 hown hK hP 0 rfl rfl 1 (by decide) (htg _ tw_521) (fun _ h9 => h9) rfl dX9_lent_1 ?_
  refine lv_iload_n hx hb dX9_lent_4 rfl (lv_at hl 1 rfl) ?_
  refine va_iald hx hb hK hP 1 0 rfl rfl (ht) dX9_lent_5 ?_
  rw [hkd]
  refine lv_if_le (tgt := 17) hx hb dX9_lent_6 (by decide) (fun c6 => absurd c6 ((by decide))) (fun c6 => ?_)
  refine lv_aload_n hx hb dX9_lent_9 rfl (lv_at hl 0 rfl) ?_
  refine lv_iload_n hx hb dX9_lent_10 rfl (lv_at hl 1 rfl) ?_
  refine hs_calli0 (w1 := (mW o ad cd tn td cs hd kd rt vl hr hw cu si acc (bds [31] st))) (hs_runV (q0 := 0) SF cal_X9_deposit tw_610 (c_X9_deposit l D o ad cd tn td cs hd kd rt vl hr hw cu si acc st t ht 2 (by decide) hkd hok (by decide)) hK hP hD rfl rfl ⟨Nat.le_of_ble_eq_true rfl, Nat.le_of_ble_eq_true rfl⟩ rfl hl.1 rfl (Nat.le_of_ble_eq_true rfl) dX9_lent_11 ⟨Nat.le_of_ble_eq_true rfl, Nat.le_of_ble_eq_true rfl⟩) hD hS hA (fun H locs hP hD hS => ?_)
  refine lv_goto (tgt := 18) hx hb dX9_lent_14 (by decide) ?_
  exact hs_iret hx hb hrt hlocks hK hP hD hS dX9_lent_18 (rfl) (by first | (simp only [bds, dpN, List.foldl_cons, List.foldl_nil]; done) | rfl)

set_option maxHeartbeats 400000 in
set_option maxRecDepth 100000 in
theorem c_X9_lent_3 (l : Launch) (D : va_G) (o : Nat) (ad : Nat → Nat) (cd : Nat → ClassId) (tn td cs hd : Int32) (kd rt vl hr hw cu si : Nat → Int32) (acc : Nat → Int64) (st : TS) (t : Int32) (ht : vp_in t 24) (hkd : kd t.toNatClampNeg = nI 3) (hok : okM 2 st) : CM l D yX9_lent cX9_lent 2 (some .int) { frames := 2, cells := 0, slots := 0, locals := 42 } (tyM cd) [.ref o, .int t] (mW o ad cd tn td cs hd kd rt vl hr hw cu si acc st) (hs_QI D (tyM cd) (dpF 3 (vl t.toNatClampNeg)) (mW o ad cd tn td cs hd kd rt vl hr hw cu si acc (bds (dpN 3) st))) := by
  refine CM.of (by decide) (Nat.le_of_ble_eq_true rfl) ?_
  intro p e s m below meth c A ls hx hb hrt hml htg hown hlocks hnm hA hK hP hD hS hl
  have hown : s.vm.findClass RX9 = some m.cls := hown
  have hl : lv_has ls 2 [(0, .ref o), (1, .int t)] := hl
  have SF : CallFix p m c cX9_lent 2 s _ hs_gt RX9 := ⟨hx, hb, hml, hown, htg⟩
  have hkd : kd t.toNatClampNeg = 3 := hkd
  refine lv_aload_n hx hb dX9_lent_0 rfl (lv_at hl 0 rfl) ?_
  refine va_get (D := D) (ci := 9) (v := .ref (ad 1)) (C := RX9) (T := TX9) (N := 15) hx hb htg in_X9 hown hK hP 0 rfl rfl 1 (by decide) (htg _ tw_521) (fun _ h9 => h9) rfl dX9_lent_1 ?_
  refine lv_iload_n hx hb dX9_lent_4 rfl (lv_at hl 1 rfl) ?_
  refine va_iald hx hb hK hP 1 0 rfl rfl (ht) dX9_lent_5 ?_
  rw [hkd]
  refine lv_if_le (tgt := 17) hx hb dX9_lent_6 (by decide) (fun c6 => absurd c6 ((by decide))) (fun c6 => ?_)
  refine lv_aload_n hx hb dX9_lent_9 rfl (lv_at hl 0 rfl) ?_
  refine lv_iload_n hx hb dX9_lent_10 rfl (lv_at hl 1 rfl) ?_
  refine hs_calli0 (w1 := (mW o ad cd tn td cs hd kd rt vl hr hw cu si acc (bds [31] st))) (hs_runV (q0 := 0) SF cal_X9_deposit tw_610 (c_X9_deposit l D o ad cd tn td cs hd kd rt vl hr hw cu si acc st t ht 3 (by decide) hkd hok (by decide)) hK hP hD rfl rfl ⟨Nat.le_of_ble_eq_true rfl, Nat.le_of_ble_eq_true rfl⟩ rfl hl.1 rfl (Nat.le_of_ble_eq_true rfl) dX9_lent_11 ⟨Nat.le_of_ble_eq_true rfl, Nat.le_of_ble_eq_true rfl⟩) hD hS hA (fun H locs hP hD hS => ?_)
  refine lv_goto (tgt := 18) hx hb dX9_lent_14 (by decide) ?_
  exact hs_iret hx hb hrt hlocks hK hP hD hS dX9_lent_18 (rfl) (by first | (simp only [bds, dpN, List.foldl_cons, List.foldl_nil]; done) | rfl)

set_option maxHeartbeats 400000 in
set_option maxRecDepth 100000 in
theorem c_X9_lent_4 (l : Launch) (D : va_G) (o : Nat) (ad : Nat → Nat) (cd : Nat → ClassId) (tn td cs hd : Int32) (kd rt vl hr hw cu si : Nat → Int32) (acc : Nat → Int64) (st : TS) (t : Int32) (ht : vp_in t 24) (hkd : kd t.toNatClampNeg = nI 4) (hok : okM 2 st) : CM l D yX9_lent cX9_lent 2 (some .int) { frames := 2, cells := 0, slots := 0, locals := 42 } (tyM cd) [.ref o, .int t] (mW o ad cd tn td cs hd kd rt vl hr hw cu si acc st) (hs_QI D (tyM cd) (dpF 4 (vl t.toNatClampNeg)) (mW o ad cd tn td cs hd kd rt vl hr hw cu si acc (bds (dpN 4) st))) := by
  refine CM.of (by decide) (Nat.le_of_ble_eq_true rfl) ?_
  intro p e s m below meth c A ls hx hb hrt hml htg hown hlocks hnm hA hK hP hD hS hl
  have hown : s.vm.findClass RX9 = some m.cls := hown
  have hl : lv_has ls 2 [(0, .ref o), (1, .int t)] := hl
  have SF : CallFix p m c cX9_lent 2 s _ hs_gt RX9 := ⟨hx, hb, hml, hown, htg⟩
  have hkd : kd t.toNatClampNeg = 4 := hkd
  refine lv_aload_n hx hb dX9_lent_0 rfl (lv_at hl 0 rfl) ?_
  refine va_get (D := D) (ci := 9) (v := .ref (ad 1)) (C := RX9) (T := TX9) (N := 15) hx hb htg in_X9 hown hK hP 0 rfl rfl 1 (by decide) (htg _ tw_521) (fun _ h9 => h9) rfl dX9_lent_1 ?_
  refine lv_iload_n hx hb dX9_lent_4 rfl (lv_at hl 1 rfl) ?_
  refine va_iald hx hb hK hP 1 0 rfl rfl (ht) dX9_lent_5 ?_
  rw [hkd]
  refine lv_if_le (tgt := 17) hx hb dX9_lent_6 (by decide) (fun c6 => absurd c6 ((by decide))) (fun c6 => ?_)
  refine lv_aload_n hx hb dX9_lent_9 rfl (lv_at hl 0 rfl) ?_
  refine lv_iload_n hx hb dX9_lent_10 rfl (lv_at hl 1 rfl) ?_
  refine hs_calli0 (w1 := (mW o ad cd tn td cs hd kd rt vl hr hw cu si acc (bds [32, 31] st))) (hs_runV (q0 := 0) SF cal_X9_deposit tw_610 (c_X9_deposit l D o ad cd tn td cs hd kd rt vl hr hw cu si acc st t ht 4 (by decide) hkd hok (by decide)) hK hP hD rfl rfl ⟨Nat.le_of_ble_eq_true rfl, Nat.le_of_ble_eq_true rfl⟩ rfl hl.1 rfl (Nat.le_of_ble_eq_true rfl) dX9_lent_11 ⟨Nat.le_of_ble_eq_true rfl, Nat.le_of_ble_eq_true rfl⟩) hD hS hA (fun H locs hP hD hS => ?_)
  refine lv_goto (tgt := 18) hx hb dX9_lent_14 (by decide) ?_
  exact hs_iret hx hb hrt hlocks hK hP hD hS dX9_lent_18 (rfl) (by first | (simp only [bds, dpN, List.foldl_cons, List.foldl_nil]; done) | rfl)

set_option maxHeartbeats 400000 in
set_option maxRecDepth 100000 in
theorem c_X9_lent_5 (l : Launch) (D : va_G) (o : Nat) (ad : Nat → Nat) (cd : Nat → ClassId) (tn td cs hd : Int32) (kd rt vl hr hw cu si : Nat → Int32) (acc : Nat → Int64) (st : TS) (t : Int32) (ht : vp_in t 24) (hkd : kd t.toNatClampNeg = nI 5) (hok : okM 2 st) : CM l D yX9_lent cX9_lent 2 (some .int) { frames := 2, cells := 0, slots := 0, locals := 42 } (tyM cd) [.ref o, .int t] (mW o ad cd tn td cs hd kd rt vl hr hw cu si acc st) (hs_QI D (tyM cd) (dpF 5 (vl t.toNatClampNeg)) (mW o ad cd tn td cs hd kd rt vl hr hw cu si acc (bds (dpN 5) st))) := by
  refine CM.of (by decide) (Nat.le_of_ble_eq_true rfl) ?_
  intro p e s m below meth c A ls hx hb hrt hml htg hown hlocks hnm hA hK hP hD hS hl
  have hown : s.vm.findClass RX9 = some m.cls := hown
  have hl : lv_has ls 2 [(0, .ref o), (1, .int t)] := hl
  have SF : CallFix p m c cX9_lent 2 s _ hs_gt RX9 := ⟨hx, hb, hml, hown, htg⟩
  have hkd : kd t.toNatClampNeg = 5 := hkd
  refine lv_aload_n hx hb dX9_lent_0 rfl (lv_at hl 0 rfl) ?_
  refine va_get (D := D) (ci := 9) (v := .ref (ad 1)) (C := RX9) (T := TX9) (N := 15) hx hb htg in_X9 hown hK hP 0 rfl rfl 1 (by decide) (htg _ tw_521) (fun _ h9 => h9) rfl dX9_lent_1 ?_
  refine lv_iload_n hx hb dX9_lent_4 rfl (lv_at hl 1 rfl) ?_
  refine va_iald hx hb hK hP 1 0 rfl rfl (ht) dX9_lent_5 ?_
  rw [hkd]
  refine lv_if_le (tgt := 17) hx hb dX9_lent_6 (by decide) (fun c6 => absurd c6 ((by decide))) (fun c6 => ?_)
  refine lv_aload_n hx hb dX9_lent_9 rfl (lv_at hl 0 rfl) ?_
  refine lv_iload_n hx hb dX9_lent_10 rfl (lv_at hl 1 rfl) ?_
  refine hs_calli0 (w1 := (mW o ad cd tn td cs hd kd rt vl hr hw cu si acc (bds [31] st))) (hs_runV (q0 := 0) SF cal_X9_deposit tw_610 (c_X9_deposit l D o ad cd tn td cs hd kd rt vl hr hw cu si acc st t ht 5 (by decide) hkd hok (by decide)) hK hP hD rfl rfl ⟨Nat.le_of_ble_eq_true rfl, Nat.le_of_ble_eq_true rfl⟩ rfl hl.1 rfl (Nat.le_of_ble_eq_true rfl) dX9_lent_11 ⟨Nat.le_of_ble_eq_true rfl, Nat.le_of_ble_eq_true rfl⟩) hD hS hA (fun H locs hP hD hS => ?_)
  refine lv_goto (tgt := 18) hx hb dX9_lent_14 (by decide) ?_
  exact hs_iret hx hb hrt hlocks hK hP hD hS dX9_lent_18 (rfl) (by first | (simp only [bds, dpN, List.foldl_cons, List.foldl_nil]; done) | rfl)

set_option maxHeartbeats 400000 in
set_option maxRecDepth 100000 in
theorem c_X9_lent_6 (l : Launch) (D : va_G) (o : Nat) (ad : Nat → Nat) (cd : Nat → ClassId) (tn td cs hd : Int32) (kd rt vl hr hw cu si : Nat → Int32) (acc : Nat → Int64) (st : TS) (t : Int32) (ht : vp_in t 24) (hkd : kd t.toNatClampNeg = nI 6) (hok : okM 2 st) : CM l D yX9_lent cX9_lent 2 (some .int) { frames := 2, cells := 0, slots := 0, locals := 42 } (tyM cd) [.ref o, .int t] (mW o ad cd tn td cs hd kd rt vl hr hw cu si acc st) (hs_QI D (tyM cd) (dpF 6 (vl t.toNatClampNeg)) (mW o ad cd tn td cs hd kd rt vl hr hw cu si acc (bds (dpN 6) st))) := by
  refine CM.of (by decide) (Nat.le_of_ble_eq_true rfl) ?_
  intro p e s m below meth c A ls hx hb hrt hml htg hown hlocks hnm hA hK hP hD hS hl
  have hown : s.vm.findClass RX9 = some m.cls := hown
  have hl : lv_has ls 2 [(0, .ref o), (1, .int t)] := hl
  have SF : CallFix p m c cX9_lent 2 s _ hs_gt RX9 := ⟨hx, hb, hml, hown, htg⟩
  have hkd : kd t.toNatClampNeg = 6 := hkd
  refine lv_aload_n hx hb dX9_lent_0 rfl (lv_at hl 0 rfl) ?_
  refine va_get (D := D) (ci := 9) (v := .ref (ad 1)) (C := RX9) (T := TX9) (N := 15) hx hb htg in_X9 hown hK hP 0 rfl rfl 1 (by decide) (htg _ tw_521) (fun _ h9 => h9) rfl dX9_lent_1 ?_
  refine lv_iload_n hx hb dX9_lent_4 rfl (lv_at hl 1 rfl) ?_
  refine va_iald hx hb hK hP 1 0 rfl rfl (ht) dX9_lent_5 ?_
  rw [hkd]
  refine lv_if_le (tgt := 17) hx hb dX9_lent_6 (by decide) (fun c6 => absurd c6 ((by decide))) (fun c6 => ?_)
  refine lv_aload_n hx hb dX9_lent_9 rfl (lv_at hl 0 rfl) ?_
  refine lv_iload_n hx hb dX9_lent_10 rfl (lv_at hl 1 rfl) ?_
  refine hs_calli0 (w1 := (mW o ad cd tn td cs hd kd rt vl hr hw cu si acc (bds [31] st))) (hs_runV (q0 := 0) SF cal_X9_deposit tw_610 (c_X9_deposit l D o ad cd tn td cs hd kd rt vl hr hw cu si acc st t ht 6 (by decide) hkd hok (by decide)) hK hP hD rfl rfl ⟨Nat.le_of_ble_eq_true rfl, Nat.le_of_ble_eq_true rfl⟩ rfl hl.1 rfl (Nat.le_of_ble_eq_true rfl) dX9_lent_11 ⟨Nat.le_of_ble_eq_true rfl, Nat.le_of_ble_eq_true rfl⟩) hD hS hA (fun H locs hP hD hS => ?_)
  refine lv_goto (tgt := 18) hx hb dX9_lent_14 (by decide) ?_
  exact hs_iret hx hb hrt hlocks hK hP hD hS dX9_lent_18 (rfl) (by first | (simp only [bds, dpN, List.foldl_cons, List.foldl_nil]; done) | rfl)

theorem c_X9_lent (l : Launch) (D : va_G) (o : Nat) (ad : Nat → Nat) (cd : Nat → ClassId) (tn td cs hd : Int32) (kd rt vl hr hw cu si : Nat → Int32) (acc : Nat → Int64) (st : TS) (t : Int32) (ht : vp_in t 24) (k : Nat) (hk : k < 7) (hkd : kd t.toNatClampNeg = nI k) (hok : okM 2 st) : CM l D yX9_lent cX9_lent 2 (some .int) { frames := 2, cells := 0, slots := 0, locals := 42 } (tyM cd) [.ref o, .int t] (mW o ad cd tn td cs hd kd rt vl hr hw cu si acc st) (hs_QI D (tyM cd) (dpF k (vl t.toNatClampNeg)) (mW o ad cd tn td cs hd kd rt vl hr hw cu si acc (bds (dpN k) st))) := by
  match k, hk, hkd with
  | 0, _, hkd => exact c_X9_lent_0 l D o ad cd tn td cs hd kd rt vl hr hw cu si acc st t ht hkd hok 
  | 1, _, hkd => exact c_X9_lent_1 l D o ad cd tn td cs hd kd rt vl hr hw cu si acc st t ht hkd hok 
  | 2, _, hkd => exact c_X9_lent_2 l D o ad cd tn td cs hd kd rt vl hr hw cu si acc st t ht hkd hok 
  | 3, _, hkd => exact c_X9_lent_3 l D o ad cd tn td cs hd kd rt vl hr hw cu si acc st t ht hkd hok 
  | 4, _, hkd => exact c_X9_lent_4 l D o ad cd tn td cs hd kd rt vl hr hw cu si acc st t ht hkd hok 
  | 5, _, hkd => exact c_X9_lent_5 l D o ad cd tn td cs hd kd rt vl hr hw cu si acc st t ht hkd hok 
  | 6, _, hkd => exact c_X9_lent_6 l D o ad cd tn td cs hd kd rt vl hr hw cu si acc st t ht hkd hok 
  | k + 7, hk, _ => exact absurd hk (by omega)

theorem cal_X9_lent : hs_cV yX9_lent cX9_lent 2 (some .int) 1 := ⟨tw_633, tw_632, tw_15, tw_19, by decide +kernel⟩

set_option maxHeartbeats 400000 in
set_option maxRecDepth 100000 in
theorem c_X9_answers_0 (l : Launch) (D : va_G) (o : Nat) (ad : Nat → Nat) (cd : Nat → ClassId) (tn td cs hd : Int32) (kd rt vl hr hw cu si : Nat → Int32) (acc : Nat → Int64) (st : TS) (t : Int32) (ht : vp_in t 24) (hkd : kd t.toNatClampNeg = nI 0) (w : Int32) : CM l D yX9_answers cX9_answers 3 (some .boolean) { frames := 2, cells := 0, slots := 0, locals := 43 } (tyM cd) [.ref o, .int t, .int w] (mW o ad cd tn td cs hd kd rt vl hr hw cu si acc st) (hs_QI D (tyM cd) (hasA 0 w) (mW o ad cd tn td cs hd kd rt vl hr hw cu si acc st)) := by
  refine CM.of (by decide) (Nat.le_of_ble_eq_true rfl) ?_
  intro p e s m below meth c A ls hx hb hrt hml htg hown hlocks hnm hA hK hP hD hS hl
  have hown : s.vm.findClass RX9 = some m.cls := hown
  have hl : lv_has ls 3 [(0, .ref o), (1, .int t), (2, .int w)] := hl
  have SF : CallFix p m c cX9_answers 3 s _ hs_gt RX9 := ⟨hx, hb, hml, hown, htg⟩
  have hkd : kd t.toNatClampNeg = 0 := hkd
  refine lv_iload_n hx hb dX9_answers_0 rfl (lv_at hl 2 rfl) ?_
  refine lv_iconst (v := 3) hx hb dX9_answers_1 (by decide) ?_
  refine lv_icmp_ne (tgt := 22) hx hb dX9_answers_2 (by decide) (fun c2 => ?_) (fun c2 => ?_)
  · refine lv_iload_n hx hb dX9_answers_22 rfl (lv_at hl 2 rfl) ?_
    refine lv_iconst (v := 4) hx hb dX9_answers_23 (by decide) ?_
    refine lv_icmp_ne (tgt := 35) hx hb dX9_answers_24 (by decide) (fun c24 => ?_) (fun c24 => ?_)
    · refine lv_iload_n hx hb dX9_answers_35 rfl (lv_at hl 2 rfl) ?_
      refine lv_iconst (v := 5) hx hb dX9_answers_36 (by decide) ?_
      refine lv_icmp_ne (tgt := 48) hx hb dX9_answers_37 (by decide) (fun c37 => ?_) (fun c37 => ?_)
      · refine lv_iconst (v := 1) hx hb dX9_answers_48 (by decide) ?_
        exact hs_zret hx hb hrt hlocks hK hP hD hS dX9_answers_49 rfl (by unfold hasA; first | (rw [if_neg c2, if_neg c24, if_neg c37]; done) | (rw [if_neg c2, if_neg c24, if_pos c37]; done) | (rw [if_neg c2, if_pos c24]; done) | (rw [if_pos c2]; rfl)) (rfl)
      · refine lv_aload_n hx hb dX9_answers_40 rfl (lv_at hl 0 rfl) ?_
        refine lv_iload_n hx hb dX9_answers_41 rfl (lv_at hl 1 rfl) ?_
        refine hs_calli0 (w1 := (mW o ad cd tn td cs hd kd rt vl hr hw cu si acc st)) (hs_runV (q0 := 0) SF cal_X9_isServiced tw_590 (c_X9_isServiced l D o ad cd tn td cs hd kd rt vl hr hw cu si acc st t ht 0 (by decide) hkd ) hK hP hD rfl rfl ⟨Nat.le_of_ble_eq_true rfl, Nat.le_of_ble_eq_true rfl⟩ rfl hl.1 rfl (Nat.le_of_ble_eq_true rfl) dX9_answers_42 ⟨Nat.le_of_ble_eq_true rfl, Nat.le_of_ble_eq_true rfl⟩) hD hS hA (fun H locs hP hD hS => ?_)
        refine lv_goto (tgt := 49) hx hb dX9_answers_45 (by decide) ?_
        exact hs_zret hx hb hrt hlocks hK hP hD hS dX9_answers_49 (nz_isS _) (by unfold hasA; first | (rw [if_neg c2, if_neg c24, if_neg c37]; done) | (rw [if_neg c2, if_neg c24, if_pos c37]; done) | (rw [if_neg c2, if_pos c24]; done) | (rw [if_pos c2]; rfl)) (rfl)
    · refine lv_aload_n hx hb dX9_answers_27 rfl (lv_at hl 0 rfl) ?_
      refine lv_iload_n hx hb dX9_answers_28 rfl (lv_at hl 1 rfl) ?_
      refine hs_calli0 (w1 := (mW o ad cd tn td cs hd kd rt vl hr hw cu si acc st)) (hs_runV (q0 := 0) SF cal_X9_isInsured tw_586 (c_X9_isInsured l D o ad cd tn td cs hd kd rt vl hr hw cu si acc st t ht 0 (by decide) hkd ) hK hP hD rfl rfl ⟨Nat.le_of_ble_eq_true rfl, Nat.le_of_ble_eq_true rfl⟩ rfl hl.1 rfl (Nat.le_of_ble_eq_true rfl) dX9_answers_29 ⟨Nat.le_of_ble_eq_true rfl, Nat.le_of_ble_eq_true rfl⟩) hD hS hA (fun H locs hP hD hS => ?_)
      refine lv_goto (tgt := 49) hx hb dX9_answers_32 (by decide) ?_
      exact hs_zret hx hb hrt hlocks hK hP hD hS dX9_answers_49 (nz_isI _) (by unfold hasA; first | (rw [if_neg c2, if_neg c24, if_neg c37]; done) | (rw [if_neg c2, if_neg c24, if_pos c37]; done) | (rw [if_neg c2, if_pos c24]; done) | (rw [if_pos c2]; rfl)) (rfl)
  · refine lv_aload_n hx hb dX9_answers_5 rfl (lv_at hl 0 rfl) ?_
    refine va_get (D := D) (ci := 9) (v := .ref (ad 1)) (C := RX9) (T := TX9) (N := 15) hx hb htg in_X9 hown hK hP 0 rfl rfl 1 (by decide) (htg _ tw_521) (fun _ h9 => h9) rfl dX9_answers_6 ?_
    refine lv_iload_n hx hb dX9_answers_9 rfl (lv_at hl 1 rfl) ?_
    refine va_iald hx hb hK hP 1 0 rfl rfl (ht) dX9_answers_10 ?_
    rw [hkd]
    refine lv_if_le (tgt := 18) hx hb dX9_answers_11 (by decide) (fun c11 => ?_) (fun c11 => absurd c11 ((by decide)))
    refine lv_iconst (v := 0) hx hb dX9_answers_18 (by decide) ?_
    refine lv_goto (tgt := 49) hx hb dX9_answers_19 (by decide) ?_
    exact hs_zret hx hb hrt hlocks hK hP hD hS dX9_answers_49 rfl (by unfold hasA; first | (rw [if_neg c2, if_neg c24, if_neg c37]; done) | (rw [if_neg c2, if_neg c24, if_pos c37]; done) | (rw [if_neg c2, if_pos c24]; done) | (rw [if_pos c2]; rfl)) (rfl)

set_option maxHeartbeats 400000 in
set_option maxRecDepth 100000 in
theorem c_X9_answers_1 (l : Launch) (D : va_G) (o : Nat) (ad : Nat → Nat) (cd : Nat → ClassId) (tn td cs hd : Int32) (kd rt vl hr hw cu si : Nat → Int32) (acc : Nat → Int64) (st : TS) (t : Int32) (ht : vp_in t 24) (hkd : kd t.toNatClampNeg = nI 1) (w : Int32) : CM l D yX9_answers cX9_answers 3 (some .boolean) { frames := 2, cells := 0, slots := 0, locals := 43 } (tyM cd) [.ref o, .int t, .int w] (mW o ad cd tn td cs hd kd rt vl hr hw cu si acc st) (hs_QI D (tyM cd) (hasA 1 w) (mW o ad cd tn td cs hd kd rt vl hr hw cu si acc st)) := by
  refine CM.of (by decide) (Nat.le_of_ble_eq_true rfl) ?_
  intro p e s m below meth c A ls hx hb hrt hml htg hown hlocks hnm hA hK hP hD hS hl
  have hown : s.vm.findClass RX9 = some m.cls := hown
  have hl : lv_has ls 3 [(0, .ref o), (1, .int t), (2, .int w)] := hl
  have SF : CallFix p m c cX9_answers 3 s _ hs_gt RX9 := ⟨hx, hb, hml, hown, htg⟩
  have hkd : kd t.toNatClampNeg = 1 := hkd
  refine lv_iload_n hx hb dX9_answers_0 rfl (lv_at hl 2 rfl) ?_
  refine lv_iconst (v := 3) hx hb dX9_answers_1 (by decide) ?_
  refine lv_icmp_ne (tgt := 22) hx hb dX9_answers_2 (by decide) (fun c2 => ?_) (fun c2 => ?_)
  · refine lv_iload_n hx hb dX9_answers_22 rfl (lv_at hl 2 rfl) ?_
    refine lv_iconst (v := 4) hx hb dX9_answers_23 (by decide) ?_
    refine lv_icmp_ne (tgt := 35) hx hb dX9_answers_24 (by decide) (fun c24 => ?_) (fun c24 => ?_)
    · refine lv_iload_n hx hb dX9_answers_35 rfl (lv_at hl 2 rfl) ?_
      refine lv_iconst (v := 5) hx hb dX9_answers_36 (by decide) ?_
      refine lv_icmp_ne (tgt := 48) hx hb dX9_answers_37 (by decide) (fun c37 => ?_) (fun c37 => ?_)
      · refine lv_iconst (v := 1) hx hb dX9_answers_48 (by decide) ?_
        exact hs_zret hx hb hrt hlocks hK hP hD hS dX9_answers_49 rfl (by unfold hasA; first | (rw [if_neg c2, if_neg c24, if_neg c37]; done) | (rw [if_neg c2, if_neg c24, if_pos c37]; done) | (rw [if_neg c2, if_pos c24]; done) | (rw [if_pos c2]; rfl)) (rfl)
      · refine lv_aload_n hx hb dX9_answers_40 rfl (lv_at hl 0 rfl) ?_
        refine lv_iload_n hx hb dX9_answers_41 rfl (lv_at hl 1 rfl) ?_
        refine hs_calli0 (w1 := (mW o ad cd tn td cs hd kd rt vl hr hw cu si acc st)) (hs_runV (q0 := 0) SF cal_X9_isServiced tw_590 (c_X9_isServiced l D o ad cd tn td cs hd kd rt vl hr hw cu si acc st t ht 1 (by decide) hkd ) hK hP hD rfl rfl ⟨Nat.le_of_ble_eq_true rfl, Nat.le_of_ble_eq_true rfl⟩ rfl hl.1 rfl (Nat.le_of_ble_eq_true rfl) dX9_answers_42 ⟨Nat.le_of_ble_eq_true rfl, Nat.le_of_ble_eq_true rfl⟩) hD hS hA (fun H locs hP hD hS => ?_)
        refine lv_goto (tgt := 49) hx hb dX9_answers_45 (by decide) ?_
        exact hs_zret hx hb hrt hlocks hK hP hD hS dX9_answers_49 (nz_isS _) (by unfold hasA; first | (rw [if_neg c2, if_neg c24, if_neg c37]; done) | (rw [if_neg c2, if_neg c24, if_pos c37]; done) | (rw [if_neg c2, if_pos c24]; done) | (rw [if_pos c2]; rfl)) (rfl)
    · refine lv_aload_n hx hb dX9_answers_27 rfl (lv_at hl 0 rfl) ?_
      refine lv_iload_n hx hb dX9_answers_28 rfl (lv_at hl 1 rfl) ?_
      refine hs_calli0 (w1 := (mW o ad cd tn td cs hd kd rt vl hr hw cu si acc st)) (hs_runV (q0 := 0) SF cal_X9_isInsured tw_586 (c_X9_isInsured l D o ad cd tn td cs hd kd rt vl hr hw cu si acc st t ht 1 (by decide) hkd ) hK hP hD rfl rfl ⟨Nat.le_of_ble_eq_true rfl, Nat.le_of_ble_eq_true rfl⟩ rfl hl.1 rfl (Nat.le_of_ble_eq_true rfl) dX9_answers_29 ⟨Nat.le_of_ble_eq_true rfl, Nat.le_of_ble_eq_true rfl⟩) hD hS hA (fun H locs hP hD hS => ?_)
      refine lv_goto (tgt := 49) hx hb dX9_answers_32 (by decide) ?_
      exact hs_zret hx hb hrt hlocks hK hP hD hS dX9_answers_49 (nz_isI _) (by unfold hasA; first | (rw [if_neg c2, if_neg c24, if_neg c37]; done) | (rw [if_neg c2, if_neg c24, if_pos c37]; done) | (rw [if_neg c2, if_pos c24]; done) | (rw [if_pos c2]; rfl)) (rfl)
  · refine lv_aload_n hx hb dX9_answers_5 rfl (lv_at hl 0 rfl) ?_
    refine va_get (D := D) (ci := 9) (v := .ref (ad 1)) (C := RX9) (T := TX9) (N := 15) hx hb htg in_X9 hown hK hP 0 rfl rfl 1 (by decide) (htg _ tw_521) (fun _ h9 => h9) rfl dX9_answers_6 ?_
    refine lv_iload_n hx hb dX9_answers_9 rfl (lv_at hl 1 rfl) ?_
    refine va_iald hx hb hK hP 1 0 rfl rfl (ht) dX9_answers_10 ?_
    rw [hkd]
    refine lv_if_le (tgt := 18) hx hb dX9_answers_11 (by decide) (fun c11 => absurd c11 ((by decide))) (fun c11 => ?_)
    refine lv_iconst (v := 1) hx hb dX9_answers_14 (by decide) ?_
    refine lv_goto (tgt := 49) hx hb dX9_answers_15 (by decide) ?_
    exact hs_zret hx hb hrt hlocks hK hP hD hS dX9_answers_49 rfl (by unfold hasA; first | (rw [if_neg c2, if_neg c24, if_neg c37]; done) | (rw [if_neg c2, if_neg c24, if_pos c37]; done) | (rw [if_neg c2, if_pos c24]; done) | (rw [if_pos c2]; rfl)) (rfl)

set_option maxHeartbeats 400000 in
set_option maxRecDepth 100000 in
theorem c_X9_answers_2 (l : Launch) (D : va_G) (o : Nat) (ad : Nat → Nat) (cd : Nat → ClassId) (tn td cs hd : Int32) (kd rt vl hr hw cu si : Nat → Int32) (acc : Nat → Int64) (st : TS) (t : Int32) (ht : vp_in t 24) (hkd : kd t.toNatClampNeg = nI 2) (w : Int32) : CM l D yX9_answers cX9_answers 3 (some .boolean) { frames := 2, cells := 0, slots := 0, locals := 43 } (tyM cd) [.ref o, .int t, .int w] (mW o ad cd tn td cs hd kd rt vl hr hw cu si acc st) (hs_QI D (tyM cd) (hasA 2 w) (mW o ad cd tn td cs hd kd rt vl hr hw cu si acc st)) := by
  refine CM.of (by decide) (Nat.le_of_ble_eq_true rfl) ?_
  intro p e s m below meth c A ls hx hb hrt hml htg hown hlocks hnm hA hK hP hD hS hl
  have hown : s.vm.findClass RX9 = some m.cls := hown
  have hl : lv_has ls 3 [(0, .ref o), (1, .int t), (2, .int w)] := hl
  have SF : CallFix p m c cX9_answers 3 s _ hs_gt RX9 := ⟨hx, hb, hml, hown, htg⟩
  have hkd : kd t.toNatClampNeg = 2 := hkd
  refine lv_iload_n hx hb dX9_answers_0 rfl (lv_at hl 2 rfl) ?_
  refine lv_iconst (v := 3) hx hb dX9_answers_1 (by decide) ?_
  refine lv_icmp_ne (tgt := 22) hx hb dX9_answers_2 (by decide) (fun c2 => ?_) (fun c2 => ?_)
  · refine lv_iload_n hx hb dX9_answers_22 rfl (lv_at hl 2 rfl) ?_
    refine lv_iconst (v := 4) hx hb dX9_answers_23 (by decide) ?_
    refine lv_icmp_ne (tgt := 35) hx hb dX9_answers_24 (by decide) (fun c24 => ?_) (fun c24 => ?_)
    · refine lv_iload_n hx hb dX9_answers_35 rfl (lv_at hl 2 rfl) ?_
      refine lv_iconst (v := 5) hx hb dX9_answers_36 (by decide) ?_
      refine lv_icmp_ne (tgt := 48) hx hb dX9_answers_37 (by decide) (fun c37 => ?_) (fun c37 => ?_)
      · refine lv_iconst (v := 1) hx hb dX9_answers_48 (by decide) ?_
        exact hs_zret hx hb hrt hlocks hK hP hD hS dX9_answers_49 rfl (by unfold hasA; first | (rw [if_neg c2, if_neg c24, if_neg c37]; done) | (rw [if_neg c2, if_neg c24, if_pos c37]; done) | (rw [if_neg c2, if_pos c24]; done) | (rw [if_pos c2]; rfl)) (rfl)
      · refine lv_aload_n hx hb dX9_answers_40 rfl (lv_at hl 0 rfl) ?_
        refine lv_iload_n hx hb dX9_answers_41 rfl (lv_at hl 1 rfl) ?_
        refine hs_calli0 (w1 := (mW o ad cd tn td cs hd kd rt vl hr hw cu si acc st)) (hs_runV (q0 := 0) SF cal_X9_isServiced tw_590 (c_X9_isServiced l D o ad cd tn td cs hd kd rt vl hr hw cu si acc st t ht 2 (by decide) hkd ) hK hP hD rfl rfl ⟨Nat.le_of_ble_eq_true rfl, Nat.le_of_ble_eq_true rfl⟩ rfl hl.1 rfl (Nat.le_of_ble_eq_true rfl) dX9_answers_42 ⟨Nat.le_of_ble_eq_true rfl, Nat.le_of_ble_eq_true rfl⟩) hD hS hA (fun H locs hP hD hS => ?_)
        refine lv_goto (tgt := 49) hx hb dX9_answers_45 (by decide) ?_
        exact hs_zret hx hb hrt hlocks hK hP hD hS dX9_answers_49 (nz_isS _) (by unfold hasA; first | (rw [if_neg c2, if_neg c24, if_neg c37]; done) | (rw [if_neg c2, if_neg c24, if_pos c37]; done) | (rw [if_neg c2, if_pos c24]; done) | (rw [if_pos c2]; rfl)) (rfl)
    · refine lv_aload_n hx hb dX9_answers_27 rfl (lv_at hl 0 rfl) ?_
      refine lv_iload_n hx hb dX9_answers_28 rfl (lv_at hl 1 rfl) ?_
      refine hs_calli0 (w1 := (mW o ad cd tn td cs hd kd rt vl hr hw cu si acc st)) (hs_runV (q0 := 0) SF cal_X9_isInsured tw_586 (c_X9_isInsured l D o ad cd tn td cs hd kd rt vl hr hw cu si acc st t ht 2 (by decide) hkd ) hK hP hD rfl rfl ⟨Nat.le_of_ble_eq_true rfl, Nat.le_of_ble_eq_true rfl⟩ rfl hl.1 rfl (Nat.le_of_ble_eq_true rfl) dX9_answers_29 ⟨Nat.le_of_ble_eq_true rfl, Nat.le_of_ble_eq_true rfl⟩) hD hS hA (fun H locs hP hD hS => ?_)
      refine lv_goto (tgt := 49) hx hb dX9_answers_32 (by decide) ?_
      exact hs_zret hx hb hrt hlocks hK hP hD hS dX9_answers_49 (nz_isI _) (by unfold hasA; first | (rw [if_neg c2, if_neg c24, if_neg c37]; done) | (rw [if_neg c2, if_neg c24, if_pos c37]; done) | (rw [if_neg c2, if_pos c24]; done) | (rw [if_pos c2]; rfl)) (rfl)
  · refine lv_aload_n hx hb dX9_answers_5 rfl (lv_at hl 0 rfl) ?_
    refine va_get (D := D) (ci := 9) (v := .ref (ad 1)) (C := RX9) (T := TX9) (N := 15) hx hb htg in_X9 hown hK hP 0 rfl rfl 1 (by decide) (htg _ tw_521) (fun _ h9 => h9) rfl dX9_answers_6 ?_
    refine lv_iload_n hx hb dX9_answers_9 rfl (lv_at hl 1 rfl) ?_
    refine va_iald hx hb hK hP 1 0 rfl rfl (ht) dX9_answers_10 ?_
    rw [hkd]
    refine lv_if_le (tgt := 18) hx hb dX9_answers_11 (by decide) (fun c11 => absurd c11 ((by decide))) (fun c11 => ?_)
    refine lv_iconst (v := 1) hx hb dX9_answers_14 (by decide) ?_
    refine lv_goto (tgt := 49) hx hb dX9_answers_15 (by decide) ?_
    exact hs_zret hx hb hrt hlocks hK hP hD hS dX9_answers_49 rfl (by unfold hasA; first | (rw [if_neg c2, if_neg c24, if_neg c37]; done) | (rw [if_neg c2, if_neg c24, if_pos c37]; done) | (rw [if_neg c2, if_pos c24]; done) | (rw [if_pos c2]; rfl)) (rfl)

set_option maxHeartbeats 400000 in
set_option maxRecDepth 100000 in
theorem c_X9_answers_3 (l : Launch) (D : va_G) (o : Nat) (ad : Nat → Nat) (cd : Nat → ClassId) (tn td cs hd : Int32) (kd rt vl hr hw cu si : Nat → Int32) (acc : Nat → Int64) (st : TS) (t : Int32) (ht : vp_in t 24) (hkd : kd t.toNatClampNeg = nI 3) (w : Int32) : CM l D yX9_answers cX9_answers 3 (some .boolean) { frames := 2, cells := 0, slots := 0, locals := 43 } (tyM cd) [.ref o, .int t, .int w] (mW o ad cd tn td cs hd kd rt vl hr hw cu si acc st) (hs_QI D (tyM cd) (hasA 3 w) (mW o ad cd tn td cs hd kd rt vl hr hw cu si acc st)) := by
  refine CM.of (by decide) (Nat.le_of_ble_eq_true rfl) ?_
  intro p e s m below meth c A ls hx hb hrt hml htg hown hlocks hnm hA hK hP hD hS hl
  have hown : s.vm.findClass RX9 = some m.cls := hown
  have hl : lv_has ls 3 [(0, .ref o), (1, .int t), (2, .int w)] := hl
  have SF : CallFix p m c cX9_answers 3 s _ hs_gt RX9 := ⟨hx, hb, hml, hown, htg⟩
  have hkd : kd t.toNatClampNeg = 3 := hkd
  refine lv_iload_n hx hb dX9_answers_0 rfl (lv_at hl 2 rfl) ?_
  refine lv_iconst (v := 3) hx hb dX9_answers_1 (by decide) ?_
  refine lv_icmp_ne (tgt := 22) hx hb dX9_answers_2 (by decide) (fun c2 => ?_) (fun c2 => ?_)
  · refine lv_iload_n hx hb dX9_answers_22 rfl (lv_at hl 2 rfl) ?_
    refine lv_iconst (v := 4) hx hb dX9_answers_23 (by decide) ?_
    refine lv_icmp_ne (tgt := 35) hx hb dX9_answers_24 (by decide) (fun c24 => ?_) (fun c24 => ?_)
    · refine lv_iload_n hx hb dX9_answers_35 rfl (lv_at hl 2 rfl) ?_
      refine lv_iconst (v := 5) hx hb dX9_answers_36 (by decide) ?_
      refine lv_icmp_ne (tgt := 48) hx hb dX9_answers_37 (by decide) (fun c37 => ?_) (fun c37 => ?_)
      · refine lv_iconst (v := 1) hx hb dX9_answers_48 (by decide) ?_
        exact hs_zret hx hb hrt hlocks hK hP hD hS dX9_answers_49 rfl (by unfold hasA; first | (rw [if_neg c2, if_neg c24, if_neg c37]; done) | (rw [if_neg c2, if_neg c24, if_pos c37]; done) | (rw [if_neg c2, if_pos c24]; done) | (rw [if_pos c2]; rfl)) (rfl)
      · refine lv_aload_n hx hb dX9_answers_40 rfl (lv_at hl 0 rfl) ?_
        refine lv_iload_n hx hb dX9_answers_41 rfl (lv_at hl 1 rfl) ?_
        refine hs_calli0 (w1 := (mW o ad cd tn td cs hd kd rt vl hr hw cu si acc st)) (hs_runV (q0 := 0) SF cal_X9_isServiced tw_590 (c_X9_isServiced l D o ad cd tn td cs hd kd rt vl hr hw cu si acc st t ht 3 (by decide) hkd ) hK hP hD rfl rfl ⟨Nat.le_of_ble_eq_true rfl, Nat.le_of_ble_eq_true rfl⟩ rfl hl.1 rfl (Nat.le_of_ble_eq_true rfl) dX9_answers_42 ⟨Nat.le_of_ble_eq_true rfl, Nat.le_of_ble_eq_true rfl⟩) hD hS hA (fun H locs hP hD hS => ?_)
        refine lv_goto (tgt := 49) hx hb dX9_answers_45 (by decide) ?_
        exact hs_zret hx hb hrt hlocks hK hP hD hS dX9_answers_49 (nz_isS _) (by unfold hasA; first | (rw [if_neg c2, if_neg c24, if_neg c37]; done) | (rw [if_neg c2, if_neg c24, if_pos c37]; done) | (rw [if_neg c2, if_pos c24]; done) | (rw [if_pos c2]; rfl)) (rfl)
    · refine lv_aload_n hx hb dX9_answers_27 rfl (lv_at hl 0 rfl) ?_
      refine lv_iload_n hx hb dX9_answers_28 rfl (lv_at hl 1 rfl) ?_
      refine hs_calli0 (w1 := (mW o ad cd tn td cs hd kd rt vl hr hw cu si acc st)) (hs_runV (q0 := 0) SF cal_X9_isInsured tw_586 (c_X9_isInsured l D o ad cd tn td cs hd kd rt vl hr hw cu si acc st t ht 3 (by decide) hkd ) hK hP hD rfl rfl ⟨Nat.le_of_ble_eq_true rfl, Nat.le_of_ble_eq_true rfl⟩ rfl hl.1 rfl (Nat.le_of_ble_eq_true rfl) dX9_answers_29 ⟨Nat.le_of_ble_eq_true rfl, Nat.le_of_ble_eq_true rfl⟩) hD hS hA (fun H locs hP hD hS => ?_)
      refine lv_goto (tgt := 49) hx hb dX9_answers_32 (by decide) ?_
      exact hs_zret hx hb hrt hlocks hK hP hD hS dX9_answers_49 (nz_isI _) (by unfold hasA; first | (rw [if_neg c2, if_neg c24, if_neg c37]; done) | (rw [if_neg c2, if_neg c24, if_pos c37]; done) | (rw [if_neg c2, if_pos c24]; done) | (rw [if_pos c2]; rfl)) (rfl)
  · refine lv_aload_n hx hb dX9_answers_5 rfl (lv_at hl 0 rfl) ?_
    refine va_get (D := D) (ci := 9) (v := .ref (ad 1)) (C := RX9) (T := TX9) (N := 15) hx hb htg in_X9 hown hK hP 0 rfl rfl 1 (by decide) (htg _ tw_521) (fun _ h9 => h9) rfl dX9_answers_6 ?_
    refine lv_iload_n hx hb dX9_answers_9 rfl (lv_at hl 1 rfl) ?_
    refine va_iald hx hb hK hP 1 0 rfl rfl (ht) dX9_answers_10 ?_
    rw [hkd]
    refine lv_if_le (tgt := 18) hx hb dX9_answers_11 (by decide) (fun c11 => absurd c11 ((by decide))) (fun c11 => ?_)
    refine lv_iconst (v := 1) hx hb dX9_answers_14 (by decide) ?_
    refine lv_goto (tgt := 49) hx hb dX9_answers_15 (by decide) ?_
    exact hs_zret hx hb hrt hlocks hK hP hD hS dX9_answers_49 rfl (by unfold hasA; first | (rw [if_neg c2, if_neg c24, if_neg c37]; done) | (rw [if_neg c2, if_neg c24, if_pos c37]; done) | (rw [if_neg c2, if_pos c24]; done) | (rw [if_pos c2]; rfl)) (rfl)

set_option maxHeartbeats 400000 in
set_option maxRecDepth 100000 in
theorem c_X9_answers_4 (l : Launch) (D : va_G) (o : Nat) (ad : Nat → Nat) (cd : Nat → ClassId) (tn td cs hd : Int32) (kd rt vl hr hw cu si : Nat → Int32) (acc : Nat → Int64) (st : TS) (t : Int32) (ht : vp_in t 24) (hkd : kd t.toNatClampNeg = nI 4) (w : Int32) : CM l D yX9_answers cX9_answers 3 (some .boolean) { frames := 2, cells := 0, slots := 0, locals := 43 } (tyM cd) [.ref o, .int t, .int w] (mW o ad cd tn td cs hd kd rt vl hr hw cu si acc st) (hs_QI D (tyM cd) (hasA 4 w) (mW o ad cd tn td cs hd kd rt vl hr hw cu si acc st)) := by
  refine CM.of (by decide) (Nat.le_of_ble_eq_true rfl) ?_
  intro p e s m below meth c A ls hx hb hrt hml htg hown hlocks hnm hA hK hP hD hS hl
  have hown : s.vm.findClass RX9 = some m.cls := hown
  have hl : lv_has ls 3 [(0, .ref o), (1, .int t), (2, .int w)] := hl
  have SF : CallFix p m c cX9_answers 3 s _ hs_gt RX9 := ⟨hx, hb, hml, hown, htg⟩
  have hkd : kd t.toNatClampNeg = 4 := hkd
  refine lv_iload_n hx hb dX9_answers_0 rfl (lv_at hl 2 rfl) ?_
  refine lv_iconst (v := 3) hx hb dX9_answers_1 (by decide) ?_
  refine lv_icmp_ne (tgt := 22) hx hb dX9_answers_2 (by decide) (fun c2 => ?_) (fun c2 => ?_)
  · refine lv_iload_n hx hb dX9_answers_22 rfl (lv_at hl 2 rfl) ?_
    refine lv_iconst (v := 4) hx hb dX9_answers_23 (by decide) ?_
    refine lv_icmp_ne (tgt := 35) hx hb dX9_answers_24 (by decide) (fun c24 => ?_) (fun c24 => ?_)
    · refine lv_iload_n hx hb dX9_answers_35 rfl (lv_at hl 2 rfl) ?_
      refine lv_iconst (v := 5) hx hb dX9_answers_36 (by decide) ?_
      refine lv_icmp_ne (tgt := 48) hx hb dX9_answers_37 (by decide) (fun c37 => ?_) (fun c37 => ?_)
      · refine lv_iconst (v := 1) hx hb dX9_answers_48 (by decide) ?_
        exact hs_zret hx hb hrt hlocks hK hP hD hS dX9_answers_49 rfl (by unfold hasA; first | (rw [if_neg c2, if_neg c24, if_neg c37]; done) | (rw [if_neg c2, if_neg c24, if_pos c37]; done) | (rw [if_neg c2, if_pos c24]; done) | (rw [if_pos c2]; rfl)) (rfl)
      · refine lv_aload_n hx hb dX9_answers_40 rfl (lv_at hl 0 rfl) ?_
        refine lv_iload_n hx hb dX9_answers_41 rfl (lv_at hl 1 rfl) ?_
        refine hs_calli0 (w1 := (mW o ad cd tn td cs hd kd rt vl hr hw cu si acc st)) (hs_runV (q0 := 0) SF cal_X9_isServiced tw_590 (c_X9_isServiced l D o ad cd tn td cs hd kd rt vl hr hw cu si acc st t ht 4 (by decide) hkd ) hK hP hD rfl rfl ⟨Nat.le_of_ble_eq_true rfl, Nat.le_of_ble_eq_true rfl⟩ rfl hl.1 rfl (Nat.le_of_ble_eq_true rfl) dX9_answers_42 ⟨Nat.le_of_ble_eq_true rfl, Nat.le_of_ble_eq_true rfl⟩) hD hS hA (fun H locs hP hD hS => ?_)
        refine lv_goto (tgt := 49) hx hb dX9_answers_45 (by decide) ?_
        exact hs_zret hx hb hrt hlocks hK hP hD hS dX9_answers_49 (nz_isS _) (by unfold hasA; first | (rw [if_neg c2, if_neg c24, if_neg c37]; done) | (rw [if_neg c2, if_neg c24, if_pos c37]; done) | (rw [if_neg c2, if_pos c24]; done) | (rw [if_pos c2]; rfl)) (rfl)
    · refine lv_aload_n hx hb dX9_answers_27 rfl (lv_at hl 0 rfl) ?_
      refine lv_iload_n hx hb dX9_answers_28 rfl (lv_at hl 1 rfl) ?_
      refine hs_calli0 (w1 := (mW o ad cd tn td cs hd kd rt vl hr hw cu si acc st)) (hs_runV (q0 := 0) SF cal_X9_isInsured tw_586 (c_X9_isInsured l D o ad cd tn td cs hd kd rt vl hr hw cu si acc st t ht 4 (by decide) hkd ) hK hP hD rfl rfl ⟨Nat.le_of_ble_eq_true rfl, Nat.le_of_ble_eq_true rfl⟩ rfl hl.1 rfl (Nat.le_of_ble_eq_true rfl) dX9_answers_29 ⟨Nat.le_of_ble_eq_true rfl, Nat.le_of_ble_eq_true rfl⟩) hD hS hA (fun H locs hP hD hS => ?_)
      refine lv_goto (tgt := 49) hx hb dX9_answers_32 (by decide) ?_
      exact hs_zret hx hb hrt hlocks hK hP hD hS dX9_answers_49 (nz_isI _) (by unfold hasA; first | (rw [if_neg c2, if_neg c24, if_neg c37]; done) | (rw [if_neg c2, if_neg c24, if_pos c37]; done) | (rw [if_neg c2, if_pos c24]; done) | (rw [if_pos c2]; rfl)) (rfl)
  · refine lv_aload_n hx hb dX9_answers_5 rfl (lv_at hl 0 rfl) ?_
    refine va_get (D := D) (ci := 9) (v := .ref (ad 1)) (C := RX9) (T := TX9) (N := 15) hx hb htg in_X9 hown hK hP 0 rfl rfl 1 (by decide) (htg _ tw_521) (fun _ h9 => h9) rfl dX9_answers_6 ?_
    refine lv_iload_n hx hb dX9_answers_9 rfl (lv_at hl 1 rfl) ?_
    refine va_iald hx hb hK hP 1 0 rfl rfl (ht) dX9_answers_10 ?_
    rw [hkd]
    refine lv_if_le (tgt := 18) hx hb dX9_answers_11 (by decide) (fun c11 => absurd c11 ((by decide))) (fun c11 => ?_)
    refine lv_iconst (v := 1) hx hb dX9_answers_14 (by decide) ?_
    refine lv_goto (tgt := 49) hx hb dX9_answers_15 (by decide) ?_
    exact hs_zret hx hb hrt hlocks hK hP hD hS dX9_answers_49 rfl (by unfold hasA; first | (rw [if_neg c2, if_neg c24, if_neg c37]; done) | (rw [if_neg c2, if_neg c24, if_pos c37]; done) | (rw [if_neg c2, if_pos c24]; done) | (rw [if_pos c2]; rfl)) (rfl)

set_option maxHeartbeats 400000 in
set_option maxRecDepth 100000 in
theorem c_X9_answers_5 (l : Launch) (D : va_G) (o : Nat) (ad : Nat → Nat) (cd : Nat → ClassId) (tn td cs hd : Int32) (kd rt vl hr hw cu si : Nat → Int32) (acc : Nat → Int64) (st : TS) (t : Int32) (ht : vp_in t 24) (hkd : kd t.toNatClampNeg = nI 5) (w : Int32) : CM l D yX9_answers cX9_answers 3 (some .boolean) { frames := 2, cells := 0, slots := 0, locals := 43 } (tyM cd) [.ref o, .int t, .int w] (mW o ad cd tn td cs hd kd rt vl hr hw cu si acc st) (hs_QI D (tyM cd) (hasA 5 w) (mW o ad cd tn td cs hd kd rt vl hr hw cu si acc st)) := by
  refine CM.of (by decide) (Nat.le_of_ble_eq_true rfl) ?_
  intro p e s m below meth c A ls hx hb hrt hml htg hown hlocks hnm hA hK hP hD hS hl
  have hown : s.vm.findClass RX9 = some m.cls := hown
  have hl : lv_has ls 3 [(0, .ref o), (1, .int t), (2, .int w)] := hl
  have SF : CallFix p m c cX9_answers 3 s _ hs_gt RX9 := ⟨hx, hb, hml, hown, htg⟩
  have hkd : kd t.toNatClampNeg = 5 := hkd
  refine lv_iload_n hx hb dX9_answers_0 rfl (lv_at hl 2 rfl) ?_
  refine lv_iconst (v := 3) hx hb dX9_answers_1 (by decide) ?_
  refine lv_icmp_ne (tgt := 22) hx hb dX9_answers_2 (by decide) (fun c2 => ?_) (fun c2 => ?_)
  · refine lv_iload_n hx hb dX9_answers_22 rfl (lv_at hl 2 rfl) ?_
    refine lv_iconst (v := 4) hx hb dX9_answers_23 (by decide) ?_
    refine lv_icmp_ne (tgt := 35) hx hb dX9_answers_24 (by decide) (fun c24 => ?_) (fun c24 => ?_)
    · refine lv_iload_n hx hb dX9_answers_35 rfl (lv_at hl 2 rfl) ?_
      refine lv_iconst (v := 5) hx hb dX9_answers_36 (by decide) ?_
      refine lv_icmp_ne (tgt := 48) hx hb dX9_answers_37 (by decide) (fun c37 => ?_) (fun c37 => ?_)
      · refine lv_iconst (v := 1) hx hb dX9_answers_48 (by decide) ?_
        exact hs_zret hx hb hrt hlocks hK hP hD hS dX9_answers_49 rfl (by unfold hasA; first | (rw [if_neg c2, if_neg c24, if_neg c37]; done) | (rw [if_neg c2, if_neg c24, if_pos c37]; done) | (rw [if_neg c2, if_pos c24]; done) | (rw [if_pos c2]; rfl)) (rfl)
      · refine lv_aload_n hx hb dX9_answers_40 rfl (lv_at hl 0 rfl) ?_
        refine lv_iload_n hx hb dX9_answers_41 rfl (lv_at hl 1 rfl) ?_
        refine hs_calli0 (w1 := (mW o ad cd tn td cs hd kd rt vl hr hw cu si acc st)) (hs_runV (q0 := 0) SF cal_X9_isServiced tw_590 (c_X9_isServiced l D o ad cd tn td cs hd kd rt vl hr hw cu si acc st t ht 5 (by decide) hkd ) hK hP hD rfl rfl ⟨Nat.le_of_ble_eq_true rfl, Nat.le_of_ble_eq_true rfl⟩ rfl hl.1 rfl (Nat.le_of_ble_eq_true rfl) dX9_answers_42 ⟨Nat.le_of_ble_eq_true rfl, Nat.le_of_ble_eq_true rfl⟩) hD hS hA (fun H locs hP hD hS => ?_)
        refine lv_goto (tgt := 49) hx hb dX9_answers_45 (by decide) ?_
        exact hs_zret hx hb hrt hlocks hK hP hD hS dX9_answers_49 (nz_isS _) (by unfold hasA; first | (rw [if_neg c2, if_neg c24, if_neg c37]; done) | (rw [if_neg c2, if_neg c24, if_pos c37]; done) | (rw [if_neg c2, if_pos c24]; done) | (rw [if_pos c2]; rfl)) (rfl)
    · refine lv_aload_n hx hb dX9_answers_27 rfl (lv_at hl 0 rfl) ?_
      refine lv_iload_n hx hb dX9_answers_28 rfl (lv_at hl 1 rfl) ?_
      refine hs_calli0 (w1 := (mW o ad cd tn td cs hd kd rt vl hr hw cu si acc st)) (hs_runV (q0 := 0) SF cal_X9_isInsured tw_586 (c_X9_isInsured l D o ad cd tn td cs hd kd rt vl hr hw cu si acc st t ht 5 (by decide) hkd ) hK hP hD rfl rfl ⟨Nat.le_of_ble_eq_true rfl, Nat.le_of_ble_eq_true rfl⟩ rfl hl.1 rfl (Nat.le_of_ble_eq_true rfl) dX9_answers_29 ⟨Nat.le_of_ble_eq_true rfl, Nat.le_of_ble_eq_true rfl⟩) hD hS hA (fun H locs hP hD hS => ?_)
      refine lv_goto (tgt := 49) hx hb dX9_answers_32 (by decide) ?_
      exact hs_zret hx hb hrt hlocks hK hP hD hS dX9_answers_49 (nz_isI _) (by unfold hasA; first | (rw [if_neg c2, if_neg c24, if_neg c37]; done) | (rw [if_neg c2, if_neg c24, if_pos c37]; done) | (rw [if_neg c2, if_pos c24]; done) | (rw [if_pos c2]; rfl)) (rfl)
  · refine lv_aload_n hx hb dX9_answers_5 rfl (lv_at hl 0 rfl) ?_
    refine va_get (D := D) (ci := 9) (v := .ref (ad 1)) (C := RX9) (T := TX9) (N := 15) hx hb htg in_X9 hown hK hP 0 rfl rfl 1 (by decide) (htg _ tw_521) (fun _ h9 => h9) rfl dX9_answers_6 ?_
    refine lv_iload_n hx hb dX9_answers_9 rfl (lv_at hl 1 rfl) ?_
    refine va_iald hx hb hK hP 1 0 rfl rfl (ht) dX9_answers_10 ?_
    rw [hkd]
    refine lv_if_le (tgt := 18) hx hb dX9_answers_11 (by decide) (fun c11 => absurd c11 ((by decide))) (fun c11 => ?_)
    refine lv_iconst (v := 1) hx hb dX9_answers_14 (by decide) ?_
    refine lv_goto (tgt := 49) hx hb dX9_answers_15 (by decide) ?_
    exact hs_zret hx hb hrt hlocks hK hP hD hS dX9_answers_49 rfl (by unfold hasA; first | (rw [if_neg c2, if_neg c24, if_neg c37]; done) | (rw [if_neg c2, if_neg c24, if_pos c37]; done) | (rw [if_neg c2, if_pos c24]; done) | (rw [if_pos c2]; rfl)) (rfl)

set_option maxHeartbeats 400000 in
set_option maxRecDepth 100000 in
theorem c_X9_answers_6 (l : Launch) (D : va_G) (o : Nat) (ad : Nat → Nat) (cd : Nat → ClassId) (tn td cs hd : Int32) (kd rt vl hr hw cu si : Nat → Int32) (acc : Nat → Int64) (st : TS) (t : Int32) (ht : vp_in t 24) (hkd : kd t.toNatClampNeg = nI 6) (w : Int32) : CM l D yX9_answers cX9_answers 3 (some .boolean) { frames := 2, cells := 0, slots := 0, locals := 43 } (tyM cd) [.ref o, .int t, .int w] (mW o ad cd tn td cs hd kd rt vl hr hw cu si acc st) (hs_QI D (tyM cd) (hasA 6 w) (mW o ad cd tn td cs hd kd rt vl hr hw cu si acc st)) := by
  refine CM.of (by decide) (Nat.le_of_ble_eq_true rfl) ?_
  intro p e s m below meth c A ls hx hb hrt hml htg hown hlocks hnm hA hK hP hD hS hl
  have hown : s.vm.findClass RX9 = some m.cls := hown
  have hl : lv_has ls 3 [(0, .ref o), (1, .int t), (2, .int w)] := hl
  have SF : CallFix p m c cX9_answers 3 s _ hs_gt RX9 := ⟨hx, hb, hml, hown, htg⟩
  have hkd : kd t.toNatClampNeg = 6 := hkd
  refine lv_iload_n hx hb dX9_answers_0 rfl (lv_at hl 2 rfl) ?_
  refine lv_iconst (v := 3) hx hb dX9_answers_1 (by decide) ?_
  refine lv_icmp_ne (tgt := 22) hx hb dX9_answers_2 (by decide) (fun c2 => ?_) (fun c2 => ?_)
  · refine lv_iload_n hx hb dX9_answers_22 rfl (lv_at hl 2 rfl) ?_
    refine lv_iconst (v := 4) hx hb dX9_answers_23 (by decide) ?_
    refine lv_icmp_ne (tgt := 35) hx hb dX9_answers_24 (by decide) (fun c24 => ?_) (fun c24 => ?_)
    · refine lv_iload_n hx hb dX9_answers_35 rfl (lv_at hl 2 rfl) ?_
      refine lv_iconst (v := 5) hx hb dX9_answers_36 (by decide) ?_
      refine lv_icmp_ne (tgt := 48) hx hb dX9_answers_37 (by decide) (fun c37 => ?_) (fun c37 => ?_)
      · refine lv_iconst (v := 1) hx hb dX9_answers_48 (by decide) ?_
        exact hs_zret hx hb hrt hlocks hK hP hD hS dX9_answers_49 rfl (by unfold hasA; first | (rw [if_neg c2, if_neg c24, if_neg c37]; done) | (rw [if_neg c2, if_neg c24, if_pos c37]; done) | (rw [if_neg c2, if_pos c24]; done) | (rw [if_pos c2]; rfl)) (rfl)
      · refine lv_aload_n hx hb dX9_answers_40 rfl (lv_at hl 0 rfl) ?_
        refine lv_iload_n hx hb dX9_answers_41 rfl (lv_at hl 1 rfl) ?_
        refine hs_calli0 (w1 := (mW o ad cd tn td cs hd kd rt vl hr hw cu si acc st)) (hs_runV (q0 := 0) SF cal_X9_isServiced tw_590 (c_X9_isServiced l D o ad cd tn td cs hd kd rt vl hr hw cu si acc st t ht 6 (by decide) hkd ) hK hP hD rfl rfl ⟨Nat.le_of_ble_eq_true rfl, Nat.le_of_ble_eq_true rfl⟩ rfl hl.1 rfl (Nat.le_of_ble_eq_true rfl) dX9_answers_42 ⟨Nat.le_of_ble_eq_true rfl, Nat.le_of_ble_eq_true rfl⟩) hD hS hA (fun H locs hP hD hS => ?_)
        refine lv_goto (tgt := 49) hx hb dX9_answers_45 (by decide) ?_
        exact hs_zret hx hb hrt hlocks hK hP hD hS dX9_answers_49 (nz_isS _) (by unfold hasA; first | (rw [if_neg c2, if_neg c24, if_neg c37]; done) | (rw [if_neg c2, if_neg c24, if_pos c37]; done) | (rw [if_neg c2, if_pos c24]; done) | (rw [if_pos c2]; rfl)) (rfl)
    · refine lv_aload_n hx hb dX9_answers_27 rfl (lv_at hl 0 rfl) ?_
      refine lv_iload_n hx hb dX9_answers_28 rfl (lv_at hl 1 rfl) ?_
      refine hs_calli0 (w1 := (mW o ad cd tn td cs hd kd rt vl hr hw cu si acc st)) (hs_runV (q0 := 0) SF cal_X9_isInsured tw_586 (c_X9_isInsured l D o ad cd tn td cs hd kd rt vl hr hw cu si acc st t ht 6 (by decide) hkd ) hK hP hD rfl rfl ⟨Nat.le_of_ble_eq_true rfl, Nat.le_of_ble_eq_true rfl⟩ rfl hl.1 rfl (Nat.le_of_ble_eq_true rfl) dX9_answers_29 ⟨Nat.le_of_ble_eq_true rfl, Nat.le_of_ble_eq_true rfl⟩) hD hS hA (fun H locs hP hD hS => ?_)
      refine lv_goto (tgt := 49) hx hb dX9_answers_32 (by decide) ?_
      exact hs_zret hx hb hrt hlocks hK hP hD hS dX9_answers_49 (nz_isI _) (by unfold hasA; first | (rw [if_neg c2, if_neg c24, if_neg c37]; done) | (rw [if_neg c2, if_neg c24, if_pos c37]; done) | (rw [if_neg c2, if_pos c24]; done) | (rw [if_pos c2]; rfl)) (rfl)
  · refine lv_aload_n hx hb dX9_answers_5 rfl (lv_at hl 0 rfl) ?_
    refine va_get (D := D) (ci := 9) (v := .ref (ad 1)) (C := RX9) (T := TX9) (N := 15) hx hb htg in_X9 hown hK hP 0 rfl rfl 1 (by decide) (htg _ tw_521) (fun _ h9 => h9) rfl dX9_answers_6 ?_
    refine lv_iload_n hx hb dX9_answers_9 rfl (lv_at hl 1 rfl) ?_
    refine va_iald hx hb hK hP 1 0 rfl rfl (ht) dX9_answers_10 ?_
    rw [hkd]
    refine lv_if_le (tgt := 18) hx hb dX9_answers_11 (by decide) (fun c11 => absurd c11 ((by decide))) (fun c11 => ?_)
    refine lv_iconst (v := 1) hx hb dX9_answers_14 (by decide) ?_
    refine lv_goto (tgt := 49) hx hb dX9_answers_15 (by decide) ?_
    exact hs_zret hx hb hrt hlocks hK hP hD hS dX9_answers_49 rfl (by unfold hasA; first | (rw [if_neg c2, if_neg c24, if_neg c37]; done) | (rw [if_neg c2, if_neg c24, if_pos c37]; done) | (rw [if_neg c2, if_pos c24]; done) | (rw [if_pos c2]; rfl)) (rfl)

theorem c_X9_answers (l : Launch) (D : va_G) (o : Nat) (ad : Nat → Nat) (cd : Nat → ClassId) (tn td cs hd : Int32) (kd rt vl hr hw cu si : Nat → Int32) (acc : Nat → Int64) (st : TS) (t : Int32) (ht : vp_in t 24) (k : Nat) (hk : k < 7) (hkd : kd t.toNatClampNeg = nI k) (w : Int32) : CM l D yX9_answers cX9_answers 3 (some .boolean) { frames := 2, cells := 0, slots := 0, locals := 43 } (tyM cd) [.ref o, .int t, .int w] (mW o ad cd tn td cs hd kd rt vl hr hw cu si acc st) (hs_QI D (tyM cd) (hasA k w) (mW o ad cd tn td cs hd kd rt vl hr hw cu si acc st)) := by
  match k, hk, hkd with
  | 0, _, hkd => exact c_X9_answers_0 l D o ad cd tn td cs hd kd rt vl hr hw cu si acc st t ht hkd w
  | 1, _, hkd => exact c_X9_answers_1 l D o ad cd tn td cs hd kd rt vl hr hw cu si acc st t ht hkd w
  | 2, _, hkd => exact c_X9_answers_2 l D o ad cd tn td cs hd kd rt vl hr hw cu si acc st t ht hkd w
  | 3, _, hkd => exact c_X9_answers_3 l D o ad cd tn td cs hd kd rt vl hr hw cu si acc st t ht hkd w
  | 4, _, hkd => exact c_X9_answers_4 l D o ad cd tn td cs hd kd rt vl hr hw cu si acc st t ht hkd w
  | 5, _, hkd => exact c_X9_answers_5 l D o ad cd tn td cs hd kd rt vl hr hw cu si acc st t ht hkd w
  | 6, _, hkd => exact c_X9_answers_6 l D o ad cd tn td cs hd kd rt vl hr hw cu si acc st t ht hkd w
  | k + 7, hk, _ => exact absurd hk (by omega)

theorem cal_X9_answers : hs_cV yX9_answers cX9_answers 3 (some .boolean) 2 := ⟨tw_585, tw_584, tw_5, tw_19, by decide +kernel⟩
end
