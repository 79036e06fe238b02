section
-- ===== PART A: goes FIRST, ahead of the names: the tables' words, and 'selects' of the private methods out of them =====
/-- a private method of a class that the tables say can be made, by its rows of tables_1 -/
def lw_okq (q : MethodName × Nat) : Prop := (q.1.cls ≠ "java/lang/invoke/MethodHandle" ∧ q.1.cls ≠ "java/lang/invoke/VarHandle") ∧ Cond.instantiable q.1.cls q.2 ∈ tables_1 ∧ Cond.privateMethod q.1 ∈ tables_1 ∧ Cond.instanceMethod q.1 ∈ tables_1
theorem lw_p0 : lw_okq (⟨"ConstantKinds", "buildAt", "(II)LConstantKinds$Build;"⟩, 13) := ⟨⟨by decide +kernel, by decide +kernel⟩, List.mem_of_getElem? (i := 15) (by decide +kernel), List.mem_of_getElem? (i := 123) (by decide +kernel), List.mem_of_getElem? (i := 124) (by decide +kernel)⟩
theorem lw_p1 : lw_okq (⟨"ConstantKinds", "constantAt", "(I)LConstantKinds$Constant;"⟩, 13) := ⟨⟨by decide +kernel, by decide +kernel⟩, List.mem_of_getElem? (i := 15) (by decide +kernel), List.mem_of_getElem? (i := 225) (by decide +kernel), List.mem_of_getElem? (i := 226) (by decide +kernel)⟩
theorem lw_p2 : lw_okq (⟨"ConstantKinds", "use", "(LConstantKinds$Constant;)V"⟩, 13) := ⟨⟨by decide +kernel, by decide +kernel⟩, List.mem_of_getElem? (i := 15) (by decide +kernel), List.mem_of_getElem? (i := 288) (by decide +kernel), List.mem_of_getElem? (i := 289) (by decide +kernel)⟩
theorem lw_p3 : lw_okq (⟨"ConstantKinds", "thingAt", "(I)LConstantKinds$Thing;"⟩, 13) := ⟨⟨by decide +kernel, by decide +kernel⟩, List.mem_of_getElem? (i := 15) (by decide +kernel), List.mem_of_getElem? (i := 362) (by decide +kernel), List.mem_of_getElem? (i := 363) (by decide +kernel)⟩
theorem lw_p4 : lw_okq (⟨"ConstantKinds", "shapeAt", "(I)LConstantKinds$Shape;"⟩, 13) := ⟨⟨by decide +kernel, by decide +kernel⟩, List.mem_of_getElem? (i := 15) (by decide +kernel), List.mem_of_getElem? (i := 424) (by decide +kernel), List.mem_of_getElem? (i := 425) (by decide +kernel)⟩
theorem lw_p5 : lw_okq (⟨"ConstantKinds", "fillParts", "(LConstantKinds$Made;)I"⟩, 13) := ⟨⟨by decide +kernel, by decide +kernel⟩, List.mem_of_getElem? (i := 15) (by decide +kernel), List.mem_of_getElem? (i := 499) (by decide +kernel), List.mem_of_getElem? (i := 500) (by decide +kernel)⟩
theorem lw_p6 : lw_okq (⟨"ConstantKinds", "fillNumber", "(LConstantKinds$Made;I)I"⟩, 13) := ⟨⟨by decide +kernel, by decide +kernel⟩, List.mem_of_getElem? (i := 15) (by decide +kernel), List.mem_of_getElem? (i := 512) (by decide +kernel), List.mem_of_getElem? (i := 513) (by decide +kernel)⟩
theorem lw_p7 : lw_okq (⟨"ConstantKinds", "fillThing", "(LConstantKinds$Made;I)I"⟩, 13) := ⟨⟨by decide +kernel, by decide +kernel⟩, List.mem_of_getElem? (i := 15) (by decide +kernel), List.mem_of_getElem? (i := 516) (by decide +kernel), List.mem_of_getElem? (i := 517) (by decide +kernel)⟩
theorem lw_p8 : lw_okq (⟨"ConstantKinds", "runChecks", "(LConstantKinds$Made;)I"⟩, 13) := ⟨⟨by decide +kernel, by decide +kernel⟩, List.mem_of_getElem? (i := 15) (by decide +kernel), List.mem_of_getElem? (i := 526) (by decide +kernel), List.mem_of_getElem? (i := 527) (by decide +kernel)⟩
theorem lw_p9 : lw_okq (⟨"ConstantKinds", "placesInUse", "()I"⟩, 13) := ⟨⟨by decide +kernel, by decide +kernel⟩, List.mem_of_getElem? (i := 15) (by decide +kernel), List.mem_of_getElem? (i := 579) (by decide +kernel), List.mem_of_getElem? (i := 580) (by decide +kernel)⟩
theorem lw_p10 : lw_okq (⟨"ConstantKinds", "kindsStarted", "()I"⟩, 13) := ⟨⟨by decide +kernel, by decide +kernel⟩, List.mem_of_getElem? (i := 15) (by decide +kernel), List.mem_of_getElem? (i := 583) (by decide +kernel), List.mem_of_getElem? (i := 584) (by decide +kernel)⟩
theorem lw_p11 : lw_okq (⟨"ConstantKindsModel", "byName", "(IJ)I"⟩, 34) := ⟨⟨by decide +kernel, by decide +kernel⟩, List.mem_of_getElem? (i := 587) (by decide +kernel), List.mem_of_getElem? (i := 710) (by decide +kernel), List.mem_of_getElem? (i := 711) (by decide +kernel)⟩
theorem lw_p12 : lw_okq (⟨"ConstantKindsModel", "append", "(II)I"⟩, 34) := ⟨⟨by decide +kernel, by decide +kernel⟩, List.mem_of_getElem? (i := 587) (by decide +kernel), List.mem_of_getElem? (i := 714) (by decide +kernel), List.mem_of_getElem? (i := 715) (by decide +kernel)⟩
theorem lw_p13 : lw_okq (⟨"ConstantKindsModel", "isConstant", "(I)Z"⟩, 34) := ⟨⟨by decide +kernel, by decide +kernel⟩, List.mem_of_getElem? (i := 587) (by decide +kernel), List.mem_of_getElem? (i := 722) (by decide +kernel), List.mem_of_getElem? (i := 723) (by decide +kernel)⟩
theorem lw_p14 : lw_okq (⟨"ConstantKindsModel", "orderOf", "(II)I"⟩, 34) := ⟨⟨by decide +kernel, by decide +kernel⟩, List.mem_of_getElem? (i := 587) (by decide +kernel), List.mem_of_getElem? (i := 726) (by decide +kernel), List.mem_of_getElem? (i := 727) (by decide +kernel)⟩
theorem lw_p15 : lw_okq (⟨"ConstantKindsModel", "starts", "(I)V"⟩, 34) := ⟨⟨by decide +kernel, by decide +kernel⟩, List.mem_of_getElem? (i := 587) (by decide +kernel), List.mem_of_getElem? (i := 764) (by decide +kernel), List.mem_of_getElem? (i := 765) (by decide +kernel)⟩
def lw_privs_1 : List (MethodName × Nat) := [(⟨"ConstantKinds", "buildAt", "(II)LConstantKinds$Build;"⟩, 13), (⟨"ConstantKinds", "constantAt", "(I)LConstantKinds$Constant;"⟩, 13), (⟨"ConstantKinds", "use", "(LConstantKinds$Constant;)V"⟩, 13), (⟨"ConstantKinds", "thingAt", "(I)LConstantKinds$Thing;"⟩, 13), (⟨"ConstantKinds", "shapeAt", "(I)LConstantKinds$Shape;"⟩, 13), (⟨"ConstantKinds", "fillParts", "(LConstantKinds$Made;)I"⟩, 13), (⟨"ConstantKinds", "fillNumber", "(LConstantKinds$Made;I)I"⟩, 13), (⟨"ConstantKinds", "fillThing", "(LConstantKinds$Made;I)I"⟩, 13), (⟨"ConstantKinds", "runChecks", "(LConstantKinds$Made;)I"⟩, 13), (⟨"ConstantKinds", "placesInUse", "()I"⟩, 13), (⟨"ConstantKinds", "kindsStarted", "()I"⟩, 13), (⟨"ConstantKindsModel", "byName", "(IJ)I"⟩, 34), (⟨"ConstantKindsModel", "append", "(II)I"⟩, 34), (⟨"ConstantKindsModel", "isConstant", "(I)Z"⟩, 34), (⟨"ConstantKindsModel", "orderOf", "(II)I"⟩, 34), (⟨"ConstantKindsModel", "starts", "(I)V"⟩, 34)]
theorem lw_r1 : ∀ q ∈ lw_privs_1, lw_okq q := List.forall_mem_cons.mpr ⟨lw_p0, List.forall_mem_cons.mpr ⟨lw_p1, List.forall_mem_cons.mpr ⟨lw_p2, List.forall_mem_cons.mpr ⟨lw_p3, List.forall_mem_cons.mpr ⟨lw_p4, List.forall_mem_cons.mpr ⟨lw_p5, List.forall_mem_cons.mpr ⟨lw_p6, List.forall_mem_cons.mpr ⟨lw_p7, List.forall_mem_cons.mpr ⟨lw_p8, List.forall_mem_cons.mpr ⟨lw_p9, List.forall_mem_cons.mpr ⟨lw_p10, List.forall_mem_cons.mpr ⟨lw_p11, List.forall_mem_cons.mpr ⟨lw_p12, List.forall_mem_cons.mpr ⟨lw_p13, List.forall_mem_cons.mpr ⟨lw_p14, List.forall_mem_cons.mpr ⟨lw_p15, fun _ h => absurd h List.not_mem_nil⟩⟩⟩⟩⟩⟩⟩⟩⟩⟩⟩⟩⟩⟩⟩⟩
theorem lw_p16 : lw_okq (⟨"ConstantKindsModel", "lacks", "(I)I"⟩, 34) := ⟨⟨by decide +kernel, by decide +kernel⟩, List.mem_of_getElem? (i := 587) (by decide +kernel), List.mem_of_getElem? (i := 776) (by decide +kernel), List.mem_of_getElem? (i := 777) (by decide +kernel)⟩
theorem lw_p17 : lw_okq (⟨"ConstantKindsModel", "familyOf", "(I)I"⟩, 34) := ⟨⟨by decide +kernel, by decide +kernel⟩, List.mem_of_getElem? (i := 587) (by decide +kernel), List.mem_of_getElem? (i := 799) (by decide +kernel), List.mem_of_getElem? (i := 800) (by decide +kernel)⟩
theorem lw_p18 : lw_okq (⟨"ConstantKindsModel", "areLike", "(II)Z"⟩, 34) := ⟨⟨by decide +kernel, by decide +kernel⟩, List.mem_of_getElem? (i := 587) (by decide +kernel), List.mem_of_getElem? (i := 820) (by decide +kernel), List.mem_of_getElem? (i := 821) (by decide +kernel)⟩
theorem lw_p19 : lw_okq (⟨"ConstantKindsModel", "pair", "(III)V"⟩, 34) := ⟨⟨by decide +kernel, by decide +kernel⟩, List.mem_of_getElem? (i := 587) (by decide +kernel), List.mem_of_getElem? (i := 824) (by decide +kernel), List.mem_of_getElem? (i := 825) (by decide +kernel)⟩
theorem lw_p20 : lw_okq (⟨"ConstantKindsModel", "rowsLike", "(II)Z"⟩, 34) := ⟨⟨by decide +kernel, by decide +kernel⟩, List.mem_of_getElem? (i := 587) (by decide +kernel), List.mem_of_getElem? (i := 828) (by decide +kernel), List.mem_of_getElem? (i := 829) (by decide +kernel)⟩
theorem lw_p21 : lw_okq (⟨"ConstantKindsModel", "opens", "(III)Z"⟩, 34) := ⟨⟨by decide +kernel, by decide +kernel⟩, List.mem_of_getElem? (i := 587) (by decide +kernel), List.mem_of_getElem? (i := 832) (by decide +kernel), List.mem_of_getElem? (i := 833) (by decide +kernel)⟩
theorem lw_p22 : lw_okq (⟨"ConstantKindsModel", "taken", "(III)I"⟩, 34) := ⟨⟨by decide +kernel, by decide +kernel⟩, List.mem_of_getElem? (i := 587) (by decide +kernel), List.mem_of_getElem? (i := 855) (by decide +kernel), List.mem_of_getElem? (i := 856) (by decide +kernel)⟩
theorem lw_p23 : lw_okq (⟨"ConstantKindsModel", "checked", "(III)I"⟩, 34) := ⟨⟨by decide +kernel, by decide +kernel⟩, List.mem_of_getElem? (i := 587) (by decide +kernel), List.mem_of_getElem? (i := 859) (by decide +kernel), List.mem_of_getElem? (i := 860) (by decide +kernel)⟩
def lw_privs_2 : List (MethodName × Nat) := [(⟨"ConstantKindsModel", "lacks", "(I)I"⟩, 34), (⟨"ConstantKindsModel", "familyOf", "(I)I"⟩, 34), (⟨"ConstantKindsModel", "areLike", "(II)Z"⟩, 34), (⟨"ConstantKindsModel", "pair", "(III)V"⟩, 34), (⟨"ConstantKindsModel", "rowsLike", "(II)Z"⟩, 34), (⟨"ConstantKindsModel", "opens", "(III)Z"⟩, 34), (⟨"ConstantKindsModel", "taken", "(III)I"⟩, 34), (⟨"ConstantKindsModel", "checked", "(III)I"⟩, 34)]
theorem lw_r2 : ∀ q ∈ lw_privs_2, lw_okq q := List.forall_mem_cons.mpr ⟨lw_p16, List.forall_mem_cons.mpr ⟨lw_p17, List.forall_mem_cons.mpr ⟨lw_p18, List.forall_mem_cons.mpr ⟨lw_p19, List.forall_mem_cons.mpr ⟨lw_p20, List.forall_mem_cons.mpr ⟨lw_p21, List.forall_mem_cons.mpr ⟨lw_p22, List.forall_mem_cons.mpr ⟨lw_p23, fun _ h => absurd h List.not_mem_nil⟩⟩⟩⟩⟩⟩⟩⟩
def lw_privs : List (MethodName × Nat) := lw_privs_1 ++ (lw_privs_2)
def lw_tbl : List Cond := k2_sels lw_privs ++ tables_1
theorem lw_privs_ok : ∀ q ∈ lw_privs, lw_okq q := by
  show ∀ q ∈ lw_privs_1 ++ (lw_privs_2), lw_okq q
  exact List.forall_mem_append.mpr ⟨lw_r1, lw_r2⟩
-- ===== end of PART A; then your names; then what follows =====
end
section
def RX0 : String := "ConstantKinds$Build"
def TX0 : u_T := fun k => match k with
  | 0 => ("ConstantKinds$Build", "line", "[LConstantKinds$Constant;", true)
  | _ => ("ConstantKinds$Build", "size", "I", false)
def tyX0 : Nat → FieldType := fun k => match k with
  | 0 => .array (.object "ConstantKinds$Constant")
  | _ => .int
theorem nmX0 : ∀ a, a < 2 → ∀ b, b < 2 → a ≠ b → (TX0 a).2.1 ≠ (TX0 b).2.1 := by decide +kernel
theorem tyX0_ok : ∀ k, k < 2 → parseFieldDescriptor (TX0 k).2.2.1 = some (tyX0 k) := by decide +kernel
abbrev cX0_init : ByteArray := prog_2_method_1_code
def yX0_init : MethodName := ⟨RX0, "<init>", "()V"⟩
abbrev cX0_at : ByteArray := prog_2_method_2_code
def yX0_at : MethodName := ⟨RX0, "at", "(I)LConstantKinds$Constant;"⟩
abbrev cX0_orderOf : ByteArray := prog_2_method_3_code
def yX0_orderOf : MethodName := ⟨RX0, "orderOf", "(LConstantKinds$Constant;)I"⟩
abbrev cX0_bearing : ByteArray := prog_2_method_4_code
def yX0_bearing : MethodName := ⟨RX0, "bearing", "(J)LConstantKinds$Constant;"⟩
abbrev cX0_append : ByteArray := prog_2_method_5_code
def yX0_append : MethodName := ⟨RX0, "append", "(LConstantKinds$Constant;)I"⟩
abbrev cX0_swap : ByteArray := prog_2_method_6_code
def yX0_swap : MethodName := ⟨RX0, "swap", "(II)V"⟩
abbrev cX0_firstWithoutWeight : ByteArray := prog_2_method_7_code
def yX0_firstWithoutWeight : MethodName := ⟨RX0, "firstWithoutWeight", "()LConstantKinds$Constant;"⟩
abbrev cX0_isWhole : ByteArray := prog_2_method_8_code
def yX0_isWhole : MethodName := ⟨RX0, "isWhole", "()Z"⟩
abbrev cX0_weightSum : ByteArray := prog_2_method_9_code
def yX0_weightSum : MethodName := ⟨RX0, "weightSum", "()I"⟩
abbrev cX0_reaching : ByteArray := prog_2_method_10_code
def yX0_reaching : MethodName := ⟨RX0, "reaching", "(I)LConstantKinds$Constant;"⟩
def RX1 : String := "ConstantKinds$Check"
def TX1 : u_T := fun k => match k with
  | 0 => ("ConstantKinds$Check", "kind", "I", true)
  | 1 => ("ConstantKinds$Check", "a", "I", true)
  | _ => ("ConstantKinds$Check", "b", "I", true)
def tyX1 : Nat → FieldType := fun k => match k with
  | 0 => .int
  | 1 => .int
  | _ => .int
theorem nmX1 : ∀ a, a < 3 → ∀ b, b < 3 → a ≠ b → (TX1 a).2.1 ≠ (TX1 b).2.1 := by decide +kernel
theorem tyX1_ok : ∀ k, k < 3 → parseFieldDescriptor (TX1 k).2.2.1 = some (tyX1 k) := by decide +kernel
abbrev cX1_init : ByteArray := prog_3_method_1_code
def yX1_init : MethodName := ⟨RX1, "<init>", "(III)V"⟩
abbrev cX1_failureOf : ByteArray := prog_3_method_2_code
def yX1_failureOf : MethodName := ⟨RX1, "failureOf", "(LConstantKinds$Made;)I"⟩
abbrev cX1_ownUnless : ByteArray := prog_3_method_3_code
def yX1_ownUnless : MethodName := ⟨RX1, "ownUnless", "(Z)I"⟩
abbrev cX1_divisionFailure : ByteArray := prog_3_method_4_code
def yX1_divisionFailure : MethodName := ⟨RX1, "divisionFailure", "(II)I"⟩
abbrev cX1_itemFailure : ByteArray := prog_3_method_5_code
def yX1_itemFailure : MethodName := ⟨RX1, "itemFailure", "(LConstantKinds$Thing;I)I"⟩
abbrev cX1_lengthFailure : ByteArray := prog_3_method_6_code
def yX1_lengthFailure : MethodName := ⟨RX1, "lengthFailure", "(LConstantKinds$Thing;I)I"⟩
abbrev cX1_orderFailure : ByteArray := prog_3_method_7_code
def yX1_orderFailure : MethodName := ⟨RX1, "orderFailure", "(LConstantKinds$Thing;I)I"⟩
abbrev cX1_firstFailure : ByteArray := prog_3_method_8_code
def yX1_firstFailure : MethodName := ⟨RX1, "firstFailure", "(LConstantKinds$Thing;I)I"⟩
def RX2 : String := "ConstantKinds$Constant"
def TX2 : u_T := fun k => match k with
  | _ => ("", "", "", false)
def tyX2 : Nat → FieldType := fun k => match k with
  | _ => .int
theorem nmX2 : ∀ a, a < 0 → ∀ b, b < 0 → a ≠ b → (TX2 a).2.1 ≠ (TX2 b).2.1 := by decide +kernel
theorem tyX2_ok : ∀ k, k < 0 → parseFieldDescriptor (TX2 k).2.2.1 = some (tyX2 k) := by decide +kernel
abbrev cX2_init : ByteArray := prog_4_method_1_code
def yX2_init : MethodName := ⟨RX2, "<init>", "(LConstantKinds$Label;)V"⟩
def RX3 : String := "ConstantKinds$Label"
def TX3 : u_T := fun k => match k with
  | 0 => ("ConstantKinds$Label", "number", "I", true)
  | 1 => ("ConstantKinds$Label", "kind", "I", true)
  | 2 => ("ConstantKinds$Label", "name", "J", true)
  | _ => ("ConstantKinds$Label", "firstOrder", "I", true)
def tyX3 : Nat → FieldType := fun k => match k with
  | 0 => .int
  | 1 => .int
  | 2 => .long
  | _ => .int
theorem nmX3 : ∀ a, a < 4 → ∀ b, b < 4 → a ≠ b → (TX3 a).2.1 ≠ (TX3 b).2.1 := by decide +kernel
theorem tyX3_ok : ∀ k, k < 4 → parseFieldDescriptor (TX3 k).2.2.1 = some (tyX3 k) := by decide +kernel
abbrev cX3_init : ByteArray := prog_5_method_1_code
def yX3_init : MethodName := ⟨RX3, "<init>", "(IIJI)V"⟩
def RX4 : String := "ConstantKinds$Less"
def TX4 : u_T := fun k => match k with
  | 0 => ("ConstantKinds$Constant", "label", "LConstantKinds$Label;", true)
  | 1 => ("ConstantKinds$Constant", "weight", "I", false)
  | _ => ("ConstantKinds$Constant", "drawn", "I", false)
def tyX4 : Nat → FieldType := fun k => match k with
  | 0 => .object "ConstantKinds$Label"
  | 1 => .int
  | _ => .int
theorem nmX4 : ∀ a, a < 3 → ∀ b, b < 3 → a ≠ b → (TX4 a).2.1 ≠ (TX4 b).2.1 := by decide +kernel
theorem tyX4_ok : ∀ k, k < 3 → parseFieldDescriptor (TX4 k).2.2.1 = some (tyX4 k) := by decide +kernel
abbrev cX4_init : ByteArray := prog_6_method_1_code
def yX4_init : MethodName := ⟨RX4, "<init>", "(LConstantKinds$Label;)V"⟩
abbrev cX4_familyNumber : ByteArray := prog_6_method_2_code
def yX4_familyNumber : MethodName := ⟨RX4, "familyNumber", "()I"⟩
abbrev cX4_bodyNumber : ByteArray := prog_6_method_3_code
def yX4_bodyNumber : MethodName := ⟨RX4, "bodyNumber", "()I"⟩
abbrev cX4_worthFor : ByteArray := prog_6_method_4_code
def yX4_worthFor : MethodName := ⟨RX4, "worthFor", "(I)I"⟩
def RX5 : String := "ConstantKinds$Made"
def TX5 : u_T := fun k => match k with
  | 0 => ("ConstantKinds$Made", "shape", "LConstantKinds$Shape;", true)
  | 1 => ("ConstantKinds$Made", "size", "I", true)
  | 2 => ("ConstantKinds$Made", "numbers", "[I", true)
  | _ => ("ConstantKinds$Made", "things", "[LConstantKinds$Thing;", true)
def tyX5 : Nat → FieldType := fun k => match k with
  | 0 => .object "ConstantKinds$Shape"
  | 1 => .int
  | 2 => .array .int
  | _ => .array (.object "ConstantKinds$Thing")
theorem nmX5 : ∀ a, a < 4 → ∀ b, b < 4 → a ≠ b → (TX5 a).2.1 ≠ (TX5 b).2.1 := by decide +kernel
theorem tyX5_ok : ∀ k, k < 4 → parseFieldDescriptor (TX5 k).2.2.1 = some (tyX5 k) := by decide +kernel
abbrev cX5_init : ByteArray := prog_7_method_1_code
def yX5_init : MethodName := ⟨RX5, "<init>", "(LConstantKinds$Shape;)V"⟩
abbrev cX5_has : ByteArray := prog_7_method_2_code
def yX5_has : MethodName := ⟨RX5, "has", "(I)Z"⟩
abbrev cX5_isNumber : ByteArray := prog_7_method_3_code
def yX5_isNumber : MethodName := ⟨RX5, "isNumber", "(I)Z"⟩
abbrev cX5_familyNumber : ByteArray := prog_7_method_4_code
def yX5_familyNumber : MethodName := ⟨RX5, "familyNumber", "()I"⟩
def RX6 : String := "ConstantKinds$Plain"
def TX6 : u_T := fun k => match k with
  | 0 => ("ConstantKinds$Constant", "label", "LConstantKinds$Label;", true)
  | 1 => ("ConstantKinds$Constant", "weight", "I", false)
  | _ => ("ConstantKinds$Constant", "drawn", "I", false)
def tyX6 : Nat → FieldType := fun k => match k with
  | 0 => .object "ConstantKinds$Label"
  | 1 => .int
  | _ => .int
theorem nmX6 : ∀ a, a < 3 → ∀ b, b < 3 → a ≠ b → (TX6 a).2.1 ≠ (TX6 b).2.1 := by decide +kernel
theorem tyX6_ok : ∀ k, k < 3 → parseFieldDescriptor (TX6 k).2.2.1 = some (tyX6 k) := by decide +kernel
abbrev cX6_init : ByteArray := prog_8_method_1_code
def yX6_init : MethodName := ⟨RX6, "<init>", "(LConstantKinds$Label;)V"⟩
abbrev cX6_familyNumber : ByteArray := prog_8_method_2_code
def yX6_familyNumber : MethodName := ⟨RX6, "familyNumber", "()I"⟩
abbrev cX6_bodyNumber : ByteArray := prog_8_method_3_code
def yX6_bodyNumber : MethodName := ⟨RX6, "bodyNumber", "()I"⟩
abbrev cX6_worthFor : ByteArray := prog_8_method_4_code
def yX6_worthFor : MethodName := ⟨RX6, "worthFor", "(I)I"⟩
def RX7 : String := "ConstantKinds$Row"
def TX7 : u_T := fun k => match k with
  | _ => ("ConstantKinds$Row", "items", "[I", true)
def tyX7 : Nat → FieldType := fun k => match k with
  | _ => .array .int
theorem nmX7 : ∀ a, a < 1 → ∀ b, b < 1 → a ≠ b → (TX7 a).2.1 ≠ (TX7 b).2.1 := by decide +kernel
theorem tyX7_ok : ∀ k, k < 1 → parseFieldDescriptor (TX7 k).2.2.1 = some (tyX7 k) := by decide +kernel
abbrev cX7_init : ByteArray := prog_9_method_1_code
def yX7_init : MethodName := ⟨RX7, "<init>", "(I)V"⟩
abbrev cX7_has : ByteArray := prog_9_method_2_code
def yX7_has : MethodName := ⟨RX7, "has", "(I)Z"⟩
abbrev cX7_familyNumber : ByteArray := prog_9_method_3_code
def yX7_familyNumber : MethodName := ⟨RX7, "familyNumber", "()I"⟩
def RX8 : String := "ConstantKinds$Shape"
def TX8 : u_T := fun k => match k with
  | 0 => ("ConstantKinds$Shape", "number", "I", true)
  | 1 => ("ConstantKinds$Shape", "sorts", "[I", true)
  | 2 => ("ConstantKinds$Shape", "limits", "[I", true)
  | 3 => ("ConstantKinds$Shape", "partCount", "I", false)
  | 4 => ("ConstantKinds$Shape", "checks", "[LConstantKinds$Check;", true)
  | _ => ("ConstantKinds$Shape", "checkCount", "I", false)
def tyX8 : Nat → FieldType := fun k => match k with
  | 0 => .int
  | 1 => .array .int
  | 2 => .array .int
  | 3 => .int
  | 4 => .array (.object "ConstantKinds$Check")
  | _ => .int
theorem nmX8 : ∀ a, a < 6 → ∀ b, b < 6 → a ≠ b → (TX8 a).2.1 ≠ (TX8 b).2.1 := by decide +kernel
theorem tyX8_ok : ∀ k, k < 6 → parseFieldDescriptor (TX8 k).2.2.1 = some (tyX8 k) := by decide +kernel
abbrev cX8_init : ByteArray := prog_10_method_1_code
def yX8_init : MethodName := ⟨RX8, "<init>", "(I)V"⟩
abbrev cX8_hasPart : ByteArray := prog_10_method_2_code
def yX8_hasPart : MethodName := ⟨RX8, "hasPart", "(I)Z"⟩
abbrev cX8_addPart : ByteArray := prog_10_method_3_code
def yX8_addPart : MethodName := ⟨RX8, "addPart", "(II)I"⟩
abbrev cX8_addCheck : ByteArray := prog_10_method_4_code
def yX8_addCheck : MethodName := ⟨RX8, "addCheck", "(III)I"⟩
def RX9 : String := "ConstantKinds$Thing"
def TX9 : u_T := fun k => match k with
  | _ => ("", "", "", false)
def tyX9 : Nat → FieldType := fun k => match k with
  | _ => .int
theorem nmX9 : ∀ a, a < 0 → ∀ b, b < 0 → a ≠ b → (TX9 a).2.1 ≠ (TX9 b).2.1 := by decide +kernel
theorem tyX9_ok : ∀ k, k < 0 → parseFieldDescriptor (TX9 k).2.2.1 = some (tyX9 k) := by decide +kernel
abbrev cX9_init : ByteArray := prog_11_method_1_code
def yX9_init : MethodName := ⟨RX9, "<init>", "()V"⟩
def RX10 : String := "ConstantKinds$Twice"
def TX10 : u_T := fun k => match k with
  | 0 => ("ConstantKinds$Constant", "label", "LConstantKinds$Label;", true)
  | 1 => ("ConstantKinds$Constant", "weight", "I", false)
  | _ => ("ConstantKinds$Constant", "drawn", "I", false)
def tyX10 : Nat → FieldType := fun k => match k with
  | 0 => .object "ConstantKinds$Label"
  | 1 => .int
  | _ => .int
theorem nmX10 : ∀ a, a < 3 → ∀ b, b < 3 → a ≠ b → (TX10 a).2.1 ≠ (TX10 b).2.1 := by decide +kernel
theorem tyX10_ok : ∀ k, k < 3 → parseFieldDescriptor (TX10 k).2.2.1 = some (tyX10 k) := by decide +kernel
abbrev cX10_init : ByteArray := prog_12_method_1_code
def yX10_init : MethodName := ⟨RX10, "<init>", "(LConstantKinds$Label;)V"⟩
abbrev cX10_familyNumber : ByteArray := prog_12_method_2_code
def yX10_familyNumber : MethodName := ⟨RX10, "familyNumber", "()I"⟩
abbrev cX10_bodyNumber : ByteArray := prog_12_method_3_code
def yX10_bodyNumber : MethodName := ⟨RX10, "bodyNumber", "()I"⟩
abbrev cX10_worthFor : ByteArray := prog_12_method_4_code
def yX10_worthFor : MethodName := ⟨RX10, "worthFor", "(I)I"⟩
def RX11 : String := "ConstantKinds"
def TX11 : u_T := fun k => match k with
  | 0 => ("ConstantKinds", "constants", "[LConstantKinds$Constant;", true)
  | 1 => ("ConstantKinds", "constantCount", "I", false)
  | 2 => ("ConstantKinds", "builds", "[LConstantKinds$Build;", true)
  | 3 => ("ConstantKinds", "startedBy", "[I", true)
  | 4 => ("ConstantKinds", "acts", "I", false)
  | 5 => ("ConstantKinds", "draws", "I", false)
  | 6 => ("ConstantKinds", "places", "[LConstantKinds$Thing;", true)
  | 7 => ("ConstantKinds", "shapes", "[LConstantKinds$Shape;", true)
  | 8 => ("ConstantKinds", "givenNumbers", "[I", true)
  | 9 => ("ConstantKinds", "givenPlaces", "[I", true)
  | 10 => ("ConstantKinds", "recordCount", "I", false)
  | 11 => ("ConstantKinds", "failure", "I", false)
  | _ => ("ConstantKinds", "failedAt", "I", false)
def tyX11 : Nat → FieldType := fun k => match k with
  | 0 => .array (.object "ConstantKinds$Constant")
  | 1 => .int
  | 2 => .array (.object "ConstantKinds$Build")
  | 3 => .array .int
  | 4 => .int
  | 5 => .int
  | 6 => .array (.object "ConstantKinds$Thing")
  | 7 => .array (.object "ConstantKinds$Shape")
  | 8 => .array .int
  | 9 => .array .int
  | 10 => .int
  | 11 => .int
  | _ => .int
theorem nmX11 : ∀ a, a < 13 → ∀ b, b < 13 → a ≠ b → (TX11 a).2.1 ≠ (TX11 b).2.1 := by decide +kernel
theorem tyX11_ok : ∀ k, k < 13 → parseFieldDescriptor (TX11 k).2.2.1 = some (tyX11 k) := by decide +kernel
abbrev cX11_init : ByteArray := prog_1_method_1_code
def yX11_init : MethodName := ⟨RX11, "<init>", "()V"⟩
abbrev cX11_constant : ByteArray := prog_1_method_2_code
def yX11_constant : MethodName := ⟨RX11, "constant", "(IJI)I"⟩
abbrev cX11_arrange : ByteArray := prog_1_method_3_code
def yX11_arrange : MethodName := ⟨RX11, "arrange", "(II)I"⟩
abbrev cX11_shuffle : ByteArray := prog_1_method_4_code
def yX11_shuffle : MethodName := ⟨RX11, "shuffle", "(IIJ)I"⟩
abbrev cX11_kind : ByteArray := prog_1_method_5_code
def yX11_kind : MethodName := ⟨RX11, "kind", "(III)I"⟩
abbrev cX11_named : ByteArray := prog_1_method_6_code
def yX11_named : MethodName := ⟨RX11, "named", "(IJ)I"⟩
abbrev cX11_order : ByteArray := prog_1_method_7_code
def yX11_order : MethodName := ⟨RX11, "order", "(II)I"⟩
abbrev cX11_about : ByteArray := prog_1_method_8_code
def yX11_about : MethodName := ⟨RX11, "about", "(II)I"⟩
abbrev cX11_worth : ByteArray := prog_1_method_9_code
def yX11_worth : MethodName := ⟨RX11, "worth", "(II)I"⟩
abbrev cX11_weigh : ByteArray := prog_1_method_10_code
def yX11_weigh : MethodName := ⟨RX11, "weigh", "(II)I"⟩
abbrev cX11_table : ByteArray := prog_1_method_11_code
def yX11_table : MethodName := ⟨RX11, "table", "(II)I"⟩
abbrev cX11_draw : ByteArray := prog_1_method_12_code
def yX11_draw : MethodName := ⟨RX11, "draw", "(IIJI)I"⟩
abbrev cX11_hold : ByteArray := prog_1_method_13_code
def yX11_hold : MethodName := ⟨RX11, "hold", "(II)I"⟩
abbrev cX11_row : ByteArray := prog_1_method_14_code
def yX11_row : MethodName := ⟨RX11, "row", "(II)I"⟩
abbrev cX11_item : ByteArray := prog_1_method_15_code
def yX11_item : MethodName := ⟨RX11, "item", "(III)I"⟩
abbrev cX11_share : ByteArray := prog_1_method_16_code
def yX11_share : MethodName := ⟨RX11, "share", "(II)I"⟩
abbrev cX11_family : ByteArray := prog_1_method_17_code
def yX11_family : MethodName := ⟨RX11, "family", "(I)I"⟩
abbrev cX11_is : ByteArray := prog_1_method_18_code
def yX11_is : MethodName := ⟨RX11, "is", "(II)I"⟩
abbrev cX11_like : ByteArray := prog_1_method_19_code
def yX11_like : MethodName := ⟨RX11, "like", "(II)I"⟩
abbrev cX11_part : ByteArray := prog_1_method_20_code
def yX11_part : MethodName := ⟨RX11, "part", "(III)I"⟩
abbrev cX11_check : ByteArray := prog_1_method_21_code
def yX11_check : MethodName := ⟨RX11, "check", "(IIII)I"⟩
abbrev cX11_give : ByteArray := prog_1_method_22_code
def yX11_give : MethodName := ⟨RX11, "give", "(III)I"⟩
abbrev cX11_make : ByteArray := prog_1_method_23_code
def yX11_make : MethodName := ⟨RX11, "make", "(II)I"⟩
abbrev cX11_cause : ByteArray := prog_1_method_24_code
def yX11_cause : MethodName := ⟨RX11, "cause", "(I)I"⟩
abbrev cX11_told : ByteArray := prog_1_method_25_code
def yX11_told : MethodName := ⟨RX11, "told", "(II)I"⟩
abbrev cX11_take : ByteArray := prog_1_method_26_code
def yX11_take : MethodName := ⟨RX11, "take", "(III)I"⟩
abbrev cX11_started : ByteArray := prog_1_method_27_code
def yX11_started : MethodName := ⟨RX11, "started", "(I)I"⟩
abbrev cX11_count : ByteArray := prog_1_method_28_code
def yX11_count : MethodName := ⟨RX11, "count", "(I)I"⟩
abbrev cX11_constantAt : ByteArray := prog_1_method_29_code
def yX11_constantAt : MethodName := ⟨RX11, "constantAt", "(I)LConstantKinds$Constant;"⟩
abbrev cX11_buildAt : ByteArray := prog_1_method_30_code
def yX11_buildAt : MethodName := ⟨RX11, "buildAt", "(II)LConstantKinds$Build;"⟩
abbrev cX11_thingAt : ByteArray := prog_1_method_31_code
def yX11_thingAt : MethodName := ⟨RX11, "thingAt", "(I)LConstantKinds$Thing;"⟩
abbrev cX11_shapeAt : ByteArray := prog_1_method_32_code
def yX11_shapeAt : MethodName := ⟨RX11, "shapeAt", "(I)LConstantKinds$Shape;"⟩
abbrev cX11_isPlace : ByteArray := prog_1_method_33_code
def yX11_isPlace : MethodName := ⟨RX11, "isPlace", "(I)Z"⟩
abbrev cX11_isIn : ByteArray := prog_1_method_34_code
def yX11_isIn : MethodName := ⟨RX11, "isIn", "(III)Z"⟩
abbrev cX11_isName : ByteArray := prog_1_method_35_code
def yX11_isName : MethodName := ⟨RX11, "isName", "(J)Z"⟩
abbrev cX11_newConstant : ByteArray := prog_1_method_36_code
def yX11_newConstant : MethodName := ⟨RX11, "newConstant", "(ILConstantKinds$Label;)LConstantKinds$Constant;"⟩
abbrev cX11_scramble : ByteArray := prog_1_method_37_code
def yX11_scramble : MethodName := ⟨RX11, "scramble", "(JI)J"⟩
abbrev cX11_unsignedRemainder : ByteArray := prog_1_method_38_code
def yX11_unsignedRemainder : MethodName := ⟨RX11, "unsignedRemainder", "(JI)I"⟩
abbrev cX11_use : ByteArray := prog_1_method_39_code
def yX11_use : MethodName := ⟨RX11, "use", "(LConstantKinds$Constant;)V"⟩
abbrev cX11_placesInUse : ByteArray := prog_1_method_40_code
def yX11_placesInUse : MethodName := ⟨RX11, "placesInUse", "()I"⟩
abbrev cX11_kindsStarted : ByteArray := prog_1_method_41_code
def yX11_kindsStarted : MethodName := ⟨RX11, "kindsStarted", "()I"⟩
abbrev cX11_familyOf : ByteArray := prog_1_method_42_code
def yX11_familyOf : MethodName := ⟨RX11, "familyOf", "(LConstantKinds$Thing;)I"⟩
abbrev cX11_isOfFamily : ByteArray := prog_1_method_43_code
def yX11_isOfFamily : MethodName := ⟨RX11, "isOfFamily", "(LConstantKinds$Thing;I)Z"⟩
abbrev cX11_areAlike : ByteArray := prog_1_method_44_code
def yX11_areAlike : MethodName := ⟨RX11, "areAlike", "(LConstantKinds$Thing;LConstantKinds$Thing;I)Z"⟩
abbrev cX11_haveSameItems : ByteArray := prog_1_method_45_code
def yX11_haveSameItems : MethodName := ⟨RX11, "haveSameItems", "(LConstantKinds$Row;LConstantKinds$Row;)Z"⟩
abbrev cX11_haveLikeParts : ByteArray := prog_1_method_46_code
def yX11_haveLikeParts : MethodName := ⟨RX11, "haveLikeParts", "(LConstantKinds$Made;LConstantKinds$Made;I)Z"⟩
abbrev cX11_isPartAllowed : ByteArray := prog_1_method_47_code
def yX11_isPartAllowed : MethodName := ⟨RX11, "isPartAllowed", "(II)Z"⟩
abbrev cX11_isCheckOver : ByteArray := prog_1_method_48_code
def yX11_isCheckOver : MethodName := ⟨RX11, "isCheckOver", "(II)Z"⟩
abbrev cX11_fillParts : ByteArray := prog_1_method_49_code
def yX11_fillParts : MethodName := ⟨RX11, "fillParts", "(LConstantKinds$Made;)I"⟩
abbrev cX11_fillNumber : ByteArray := prog_1_method_50_code
def yX11_fillNumber : MethodName := ⟨RX11, "fillNumber", "(LConstantKinds$Made;I)I"⟩
abbrev cX11_fillThing : ByteArray := prog_1_method_51_code
def yX11_fillThing : MethodName := ⟨RX11, "fillThing", "(LConstantKinds$Made;I)I"⟩
abbrev cX11_isOfSort : ByteArray := prog_1_method_52_code
def yX11_isOfSort : MethodName := ⟨RX11, "isOfSort", "(LConstantKinds$Thing;I)Z"⟩
abbrev cX11_isForeign : ByteArray := prog_1_method_53_code
def yX11_isForeign : MethodName := ⟨RX11, "isForeign", "(LConstantKinds$Thing;II)Z"⟩
abbrev cX11_runChecks : ByteArray := prog_1_method_54_code
def yX11_runChecks : MethodName := ⟨RX11, "runChecks", "(LConstantKinds$Made;)I"⟩
def RX12 : String := "ConstantKindsModel"
def TX12 : u_T := fun k => match k with
  | 0 => ("ConstantKindsModel", "constants", "I", false)
  | 1 => ("ConstantKindsModel", "kindOf", "[I", true)
  | 2 => ("ConstantKindsModel", "names", "[J", true)
  | 3 => ("ConstantKindsModel", "bodies", "[I", true)
  | 4 => ("ConstantKindsModel", "weights", "[I", true)
  | 5 => ("ConstantKindsModel", "drawn", "[I", true)
  | 6 => ("ConstantKindsModel", "many", "[I", true)
  | 7 => ("ConstantKindsModel", "builds", "[I", true)
  | 8 => ("ConstantKindsModel", "rows", "I", false)
  | 9 => ("ConstantKindsModel", "sizes", "[I", true)
  | 10 => ("ConstantKindsModel", "items", "[I", true)
  | 11 => ("ConstantKindsModel", "records", "I", false)
  | 12 => ("ConstantKindsModel", "shapeOf", "[I", true)
  | 13 => ("ConstantKindsModel", "partsOf", "[I", true)
  | 14 => ("ConstantKindsModel", "values", "[I", true)
  | 15 => ("ConstantKindsModel", "places", "[I", true)
  | 16 => ("ConstantKindsModel", "partMany", "[I", true)
  | 17 => ("ConstantKindsModel", "sorts", "[I", true)
  | 18 => ("ConstantKindsModel", "ks", "[I", true)
  | 19 => ("ConstantKindsModel", "checkMany", "[I", true)
  | 20 => ("ConstantKindsModel", "checkKind", "[I", true)
  | 21 => ("ConstantKindsModel", "checkA", "[I", true)
  | 22 => ("ConstantKindsModel", "checkB", "[I", true)
  | 23 => ("ConstantKindsModel", "givenNumber", "[I", true)
  | 24 => ("ConstantKindsModel", "givenPlace", "[I", true)
  | 25 => ("ConstantKindsModel", "why", "I", false)
  | 26 => ("ConstantKindsModel", "at", "I", false)
  | 27 => ("ConstantKindsModel", "started", "[I", true)
  | 28 => ("ConstantKindsModel", "acts", "I", false)
  | 29 => ("ConstantKindsModel", "draws", "I", false)
  | 30 => ("ConstantKindsModel", "pairs", "I", false)
  | 31 => ("ConstantKindsModel", "pairA", "[I", true)
  | 32 => ("ConstantKindsModel", "pairB", "[I", true)
  | _ => ("ConstantKindsModel", "within", "[I", true)
def tyX12 : Nat → FieldType := fun k => match k with
  | 0 => .int
  | 1 => .array .int
  | 2 => .array .long
  | 3 => .array .int
  | 4 => .array .int
  | 5 => .array .int
  | 6 => .array .int
  | 7 => .array .int
  | 8 => .int
  | 9 => .array .int
  | 10 => .array .int
  | 11 => .int
  | 12 => .array .int
  | 13 => .array .int
  | 14 => .array .int
  | 15 => .array .int
  | 16 => .array .int
  | 17 => .array .int
  | 18 => .array .int
  | 19 => .array .int
  | 20 => .array .int
  | 21 => .array .int
  | 22 => .array .int
  | 23 => .array .int
  | 24 => .array .int
  | 25 => .int
  | 26 => .int
  | 27 => .array .int
  | 28 => .int
  | 29 => .int
  | 30 => .int
  | 31 => .array .int
  | 32 => .array .int
  | _ => .array .int
theorem nmX12 : ∀ a, a < 34 → ∀ b, b < 34 → a ≠ b → (TX12 a).2.1 ≠ (TX12 b).2.1 := by decide +kernel
theorem tyX12_ok : ∀ k, k < 34 → parseFieldDescriptor (TX12 k).2.2.1 = some (tyX12 k) := by decide +kernel
abbrev cX12_init : ByteArray := prog_14_method_1_code
def yX12_init : MethodName := ⟨RX12, "<init>", "()V"⟩
abbrev cX12_in : ByteArray := prog_14_method_2_code
def yX12_in : MethodName := ⟨RX12, "in", "(III)Z"⟩
abbrev cX12_isConstant : ByteArray := prog_14_method_3_code
def yX12_isConstant : MethodName := ⟨RX12, "isConstant", "(I)Z"⟩
abbrev cX12_isKind : ByteArray := prog_14_method_4_code
def yX12_isKind : MethodName := ⟨RX12, "isKind", "(I)Z"⟩
abbrev cX12_isPlace : ByteArray := prog_14_method_5_code
def yX12_isPlace : MethodName := ⟨RX12, "isPlace", "(I)Z"⟩
abbrev cX12_isName : ByteArray := prog_14_method_6_code
def yX12_isName : MethodName := ⟨RX12, "isName", "(J)Z"⟩
abbrev cX12_byName : ByteArray := prog_14_method_7_code
def yX12_byName : MethodName := ⟨RX12, "byName", "(IJ)I"⟩
abbrev cX12_constant : ByteArray := prog_14_method_8_code
def yX12_constant : MethodName := ⟨RX12, "constant", "(IJI)I"⟩
abbrev cX12_append : ByteArray := prog_14_method_9_code
def yX12_append : MethodName := ⟨RX12, "append", "(II)I"⟩
abbrev cX12_orderOf : ByteArray := prog_14_method_10_code
def yX12_orderOf : MethodName := ⟨RX12, "orderOf", "(II)I"⟩
abbrev cX12_arrange : ByteArray := prog_14_method_11_code
def yX12_arrange : MethodName := ⟨RX12, "arrange", "(II)I"⟩
abbrev cX12_drawOf : ByteArray := prog_14_method_12_code
def yX12_drawOf : MethodName := ⟨RX12, "drawOf", "(JI)J"⟩
abbrev cX12_modulo : ByteArray := prog_14_method_13_code
def yX12_modulo : MethodName := ⟨RX12, "modulo", "(JI)I"⟩
abbrev cX12_shuffle : ByteArray := prog_14_method_14_code
def yX12_shuffle : MethodName := ⟨RX12, "shuffle", "(IIJ)I"⟩
abbrev cX12_kind : ByteArray := prog_14_method_15_code
def yX12_kind : MethodName := ⟨RX12, "kind", "(III)I"⟩
abbrev cX12_named : ByteArray := prog_14_method_16_code
def yX12_named : MethodName := ⟨RX12, "named", "(IJ)I"⟩
abbrev cX12_order : ByteArray := prog_14_method_17_code
def yX12_order : MethodName := ⟨RX12, "order", "(II)I"⟩
abbrev cX12_about : ByteArray := prog_14_method_18_code
def yX12_about : MethodName := ⟨RX12, "about", "(II)I"⟩
abbrev cX12_starts : ByteArray := prog_14_method_19_code
def yX12_starts : MethodName := ⟨RX12, "starts", "(I)V"⟩
abbrev cX12_worth : ByteArray := prog_14_method_20_code
def yX12_worth : MethodName := ⟨RX12, "worth", "(II)I"⟩
abbrev cX12_weigh : ByteArray := prog_14_method_21_code
def yX12_weigh : MethodName := ⟨RX12, "weigh", "(II)I"⟩
abbrev cX12_lacks : ByteArray := prog_14_method_22_code
def yX12_lacks : MethodName := ⟨RX12, "lacks", "(I)I"⟩
abbrev cX12_table : ByteArray := prog_14_method_23_code
def yX12_table : MethodName := ⟨RX12, "table", "(II)I"⟩
abbrev cX12_draw : ByteArray := prog_14_method_24_code
def yX12_draw : MethodName := ⟨RX12, "draw", "(IIJI)I"⟩
abbrev cX12_familyOf : ByteArray := prog_14_method_25_code
def yX12_familyOf : MethodName := ⟨RX12, "familyOf", "(I)I"⟩
abbrev cX12_hold : ByteArray := prog_14_method_26_code
def yX12_hold : MethodName := ⟨RX12, "hold", "(II)I"⟩
abbrev cX12_row : ByteArray := prog_14_method_27_code
def yX12_row : MethodName := ⟨RX12, "row", "(II)I"⟩
abbrev cX12_item : ByteArray := prog_14_method_28_code
def yX12_item : MethodName := ⟨RX12, "item", "(III)I"⟩
abbrev cX12_share : ByteArray := prog_14_method_29_code
def yX12_share : MethodName := ⟨RX12, "share", "(II)I"⟩
abbrev cX12_family : ByteArray := prog_14_method_30_code
def yX12_family : MethodName := ⟨RX12, "family", "(I)I"⟩
abbrev cX12_is : ByteArray := prog_14_method_31_code
def yX12_is : MethodName := ⟨RX12, "is", "(II)I"⟩
abbrev cX12_rowsLike : ByteArray := prog_14_method_32_code
def yX12_rowsLike : MethodName := ⟨RX12, "rowsLike", "(II)Z"⟩
abbrev cX12_pair : ByteArray := prog_14_method_33_code
def yX12_pair : MethodName := ⟨RX12, "pair", "(III)V"⟩
abbrev cX12_areLike : ByteArray := prog_14_method_34_code
def yX12_areLike : MethodName := ⟨RX12, "areLike", "(II)Z"⟩
abbrev cX12_opens : ByteArray := prog_14_method_35_code
def yX12_opens : MethodName := ⟨RX12, "opens", "(III)Z"⟩
abbrev cX12_like : ByteArray := prog_14_method_36_code
def yX12_like : MethodName := ⟨RX12, "like", "(II)I"⟩
abbrev cX12_isShape : ByteArray := prog_14_method_37_code
def yX12_isShape : MethodName := ⟨RX12, "isShape", "(I)Z"⟩
abbrev cX12_part : ByteArray := prog_14_method_38_code
def yX12_part : MethodName := ⟨RX12, "part", "(III)I"⟩
abbrev cX12_check : ByteArray := prog_14_method_39_code
def yX12_check : MethodName := ⟨RX12, "check", "(IIII)I"⟩
abbrev cX12_give : ByteArray := prog_14_method_40_code
def yX12_give : MethodName := ⟨RX12, "give", "(III)I"⟩
abbrev cX12_taken : ByteArray := prog_14_method_41_code
def yX12_taken : MethodName := ⟨RX12, "taken", "(III)I"⟩
abbrev cX12_checked : ByteArray := prog_14_method_42_code
def yX12_checked : MethodName := ⟨RX12, "checked", "(III)I"⟩
abbrev cX12_make : ByteArray := prog_14_method_43_code
def yX12_make : MethodName := ⟨RX12, "make", "(II)I"⟩
abbrev cX12_cause : ByteArray := prog_14_method_44_code
def yX12_cause : MethodName := ⟨RX12, "cause", "(I)I"⟩
abbrev cX12_told : ByteArray := prog_14_method_45_code
def yX12_told : MethodName := ⟨RX12, "told", "(II)I"⟩
abbrev cX12_take : ByteArray := prog_14_method_46_code
def yX12_take : MethodName := ⟨RX12, "take", "(III)I"⟩
abbrev cX12_started : ByteArray := prog_14_method_47_code
def yX12_started : MethodName := ⟨RX12, "started", "(I)I"⟩
abbrev cX12_count : ByteArray := prog_14_method_48_code
def yX12_count : MethodName := ⟨RX12, "count", "(I)I"⟩
def RL : String := "ConstantKindsLaw"
abbrev cL_law : ByteArray := code
def yL_law : MethodName := ⟨RL, "law", "([I)Z"⟩
/-- the decode rows: at pc stands i of length len, the next row is n; a jump goes to t -/
def dc (cc : ByteArray) (pc : Nat) (i : Instr) (len n : Nat) : Prop := decode cc pc = .ok (i, len) ∧ n = pc + len
def dj (cc : ByteArray) (pc : Nat) (f : Int → Instr) (t n : Nat) : Prop := ∃ off : Int, decode cc pc = .ok (f off, 3) ∧ (pc : Int) + off = (t : Int) ∧ n = pc + 3
def dIl (cc : ByteArray) (pc i n : Nat) : Prop := (∃ k : Fin 4, (k : Nat) = i ∧ decode cc pc = .ok (.iload_n k, 1) ∧ n = pc + 1) ∨ (decode cc pc = .ok (.iload i, 2) ∧ n = pc + 2)
def dAl (cc : ByteArray) (pc i n : Nat) : Prop := (∃ k : Fin 4, (k : Nat) = i ∧ decode cc pc = .ok (.aload_n k, 1) ∧ n = pc + 1) ∨ (decode cc pc = .ok (.aload i, 2) ∧ n = pc + 2)
def dLl (cc : ByteArray) (pc i n : Nat) : Prop := ∃ k : Fin 4, (k : Nat) = i ∧ decode cc pc = .ok (.lload_n k, 1) ∧ n = pc + 1
def dIs (cc : ByteArray) (pc i n : Nat) : Prop := (∃ k : Fin 4, (k : Nat) = i ∧ decode cc pc = .ok (.istore_n k, 1) ∧ n = pc + 1) ∨ (decode cc pc = .ok (.istore i, 2) ∧ n = pc + 2)
def dAs (cc : ByteArray) (pc i n : Nat) : Prop := (∃ k : Fin 4, (k : Nat) = i ∧ decode cc pc = .ok (.astore_n k, 1) ∧ n = pc + 1) ∨ (decode cc pc = .ok (.astore i, 2) ∧ n = pc + 2)
def dLs (cc : ByteArray) (pc i n : Nat) : Prop := ∃ k : Fin 4, (k : Nat) = i ∧ decode cc pc = .ok (.lstore_n k, 1) ∧ n = pc + 1
def dKc (cc : ByteArray) (pc : Nat) (v : Int32) (n : Nat) : Prop := (∃ i : Int, Int32.ofInt i = v ∧ decode cc pc = .ok (.iconst i, 1) ∧ n = pc + 1) ∨ (∃ i : Int, (Int8.ofInt i).toInt32 = v ∧ decode cc pc = .ok (.bipush i, 2) ∧ n = pc + 2) ∨ (∃ i : Int, (Int16.ofInt i).toInt32 = v ∧ decode cc pc = .ok (.sipush i, 3) ∧ n = pc + 3)
theorem dX0_init_0 : dAl cX0_init 0 0 1 := Or.inl ⟨0, rfl, by decide +kernel, rfl⟩
theorem dX0_init_1 : dc cX0_init 1 (.invokespecial 3) 3 4 := ⟨by decide +kernel, rfl⟩
theorem dX0_init_4 : dAl cX0_init 4 0 5 := Or.inl ⟨0, rfl, by decide +kernel, rfl⟩
theorem dX0_init_5 : dKc cX0_init 5 60 7 := Or.inr (Or.inl ⟨60, by decide +kernel, by decide +kernel, rfl⟩)
theorem dX0_init_7 : dc cX0_init 7 (.anewarray 9) 3 10 := ⟨by decide +kernel, rfl⟩
theorem dX0_init_10 : dc cX0_init 10 (.putfield 11) 3 13 := ⟨by decide +kernel, rfl⟩
theorem dX0_init_13 : dAl cX0_init 13 0 14 := Or.inl ⟨0, rfl, by decide +kernel, rfl⟩
theorem dX0_init_14 : dKc cX0_init 14 0 15 := Or.inl ⟨0, by decide +kernel, by decide +kernel, rfl⟩
theorem dX0_init_15 : dc cX0_init 15 (.putfield 17) 3 18 := ⟨by decide +kernel, rfl⟩
theorem dX0_init_18 : dc cX0_init 18 .return_ 1 19 := ⟨by decide +kernel, rfl⟩
theorem dX0_at_0 : dIl cX0_at 0 1 1 := Or.inl ⟨1, rfl, by decide +kernel, rfl⟩
theorem dX0_at_1 : dKc cX0_at 1 0 2 := Or.inl ⟨0, by decide +kernel, by decide +kernel, rfl⟩
theorem dX0_at_2 : dAl cX0_at 2 0 3 := Or.inl ⟨0, rfl, by decide +kernel, rfl⟩
theorem dX0_at_3 : dc cX0_at 3 (.getfield 17) 3 6 := ⟨by decide +kernel, rfl⟩
theorem dX0_at_6 : dKc cX0_at 6 1 7 := Or.inl ⟨1, by decide +kernel, by decide +kernel, rfl⟩
theorem dX0_at_7 : dc cX0_at 7 .isub 1 8 := ⟨by decide +kernel, rfl⟩
theorem dX0_at_8 : dc cX0_at 8 (.invokestatic 21) 3 11 := ⟨by decide +kernel, rfl⟩
theorem dX0_at_11 : dj cX0_at 11 (.ifCond .eq) 23 14 := ⟨12, by decide +kernel, by decide, rfl⟩
theorem dX0_at_14 : dAl cX0_at 14 0 15 := Or.inl ⟨0, rfl, by decide +kernel, rfl⟩
theorem dX0_at_15 : dc cX0_at 15 (.getfield 11) 3 18 := ⟨by decide +kernel, rfl⟩
theorem dX0_at_18 : dIl cX0_at 18 1 19 := Or.inl ⟨1, rfl, by decide +kernel, rfl⟩
theorem dX0_at_19 : dc cX0_at 19 .aaload 1 20 := ⟨by decide +kernel, rfl⟩
theorem dX0_at_20 : dj cX0_at 20 .goto 24 23 := ⟨4, by decide +kernel, by decide, rfl⟩
theorem dX0_at_23 : dc cX0_at 23 .aconst_null 1 24 := ⟨by decide +kernel, rfl⟩
theorem dX0_at_24 : dc cX0_at 24 .areturn 1 25 := ⟨by decide +kernel, rfl⟩
theorem dX0_orderOf_0 : dKc cX0_orderOf 0 0 1 := Or.inl ⟨0, by decide +kernel, by decide +kernel, rfl⟩
theorem dX0_orderOf_1 : dIs cX0_orderOf 1 2 2 := Or.inl ⟨2, rfl, by decide +kernel, rfl⟩
theorem dX0_orderOf_2 : dIl cX0_orderOf 2 2 3 := Or.inl ⟨2, rfl, by decide +kernel, rfl⟩
theorem dX0_orderOf_3 : dAl cX0_orderOf 3 0 4 := Or.inl ⟨0, rfl, by decide +kernel, rfl⟩
theorem dX0_orderOf_4 : dc cX0_orderOf 4 (.getfield 17) 3 7 := ⟨by decide +kernel, rfl⟩
theorem dX0_orderOf_7 : dj cX0_orderOf 7 (.if_icmp .ge) 28 10 := ⟨21, by decide +kernel, by decide, rfl⟩
theorem dX0_orderOf_10 : dAl cX0_orderOf 10 0 11 := Or.inl ⟨0, rfl, by decide +kernel, rfl⟩
theorem dX0_orderOf_11 : dc cX0_orderOf 11 (.getfield 11) 3 14 := ⟨by decide +kernel, rfl⟩
theorem dX0_orderOf_14 : dIl cX0_orderOf 14 2 15 := Or.inl ⟨2, rfl, by decide +kernel, rfl⟩
theorem dX0_orderOf_15 : dc cX0_orderOf 15 .aaload 1 16 := ⟨by decide +kernel, rfl⟩
theorem dX0_orderOf_16 : dAl cX0_orderOf 16 1 17 := Or.inl ⟨1, rfl, by decide +kernel, rfl⟩
theorem dX0_orderOf_17 : dj cX0_orderOf 17 (.if_acmp .ne) 22 20 := ⟨5, by decide +kernel, by decide, rfl⟩
theorem dX0_orderOf_20 : dIl cX0_orderOf 20 2 21 := Or.inl ⟨2, rfl, by decide +kernel, rfl⟩
theorem dX0_orderOf_21 : dc cX0_orderOf 21 .ireturn 1 22 := ⟨by decide +kernel, rfl⟩
theorem dX0_orderOf_22 : dc cX0_orderOf 22 (.iinc 2 1) 3 25 := ⟨by decide +kernel, rfl⟩
theorem dX0_orderOf_25 : dj cX0_orderOf 25 .goto 2 28 := ⟨(-23), by decide +kernel, by decide, rfl⟩
theorem dX0_orderOf_28 : dKc cX0_orderOf 28 (-3) 30 := Or.inr (Or.inl ⟨(-3), by decide +kernel, by decide +kernel, rfl⟩)
theorem dX0_orderOf_30 : dc cX0_orderOf 30 .ireturn 1 31 := ⟨by decide +kernel, rfl⟩
theorem dX0_bearing_0 : dKc cX0_bearing 0 0 1 := Or.inl ⟨0, by decide +kernel, by decide +kernel, rfl⟩
theorem dX0_bearing_1 : dIs cX0_bearing 1 3 2 := Or.inl ⟨3, rfl, by decide +kernel, rfl⟩
theorem dX0_bearing_2 : dIl cX0_bearing 2 3 3 := Or.inl ⟨3, rfl, by decide +kernel, rfl⟩
theorem dX0_bearing_3 : dAl cX0_bearing 3 0 4 := Or.inl ⟨0, rfl, by decide +kernel, rfl⟩
theorem dX0_bearing_4 : dc cX0_bearing 4 (.getfield 17) 3 7 := ⟨by decide +kernel, rfl⟩
theorem dX0_bearing_7 : dj cX0_bearing 7 (.if_icmp .ge) 40 10 := ⟨33, by decide +kernel, by decide, rfl⟩
theorem dX0_bearing_10 : dAl cX0_bearing 10 0 11 := Or.inl ⟨0, rfl, by decide +kernel, rfl⟩
theorem dX0_bearing_11 : dc cX0_bearing 11 (.getfield 11) 3 14 := ⟨by decide +kernel, rfl⟩
theorem dX0_bearing_14 : dIl cX0_bearing 14 3 15 := Or.inl ⟨3, rfl, by decide +kernel, rfl⟩
theorem dX0_bearing_15 : dc cX0_bearing 15 .aaload 1 16 := ⟨by decide +kernel, rfl⟩
theorem dX0_bearing_16 : dc cX0_bearing 16 (.getfield 25) 3 19 := ⟨by decide +kernel, rfl⟩
theorem dX0_bearing_19 : dc cX0_bearing 19 (.getfield 29) 3 22 := ⟨by decide +kernel, rfl⟩
theorem dX0_bearing_22 : dLl cX0_bearing 22 1 23 := ⟨1, rfl, by decide +kernel, rfl⟩
theorem dX0_bearing_23 : dc cX0_bearing 23 .lcmp 1 24 := ⟨by decide +kernel, rfl⟩
theorem dX0_bearing_24 : dj cX0_bearing 24 (.ifCond .ne) 34 27 := ⟨10, by decide +kernel, by decide, rfl⟩
theorem dX0_bearing_27 : dAl cX0_bearing 27 0 28 := Or.inl ⟨0, rfl, by decide +kernel, rfl⟩
theorem dX0_bearing_28 : dc cX0_bearing 28 (.getfield 11) 3 31 := ⟨by decide +kernel, rfl⟩
theorem dX0_bearing_31 : dIl cX0_bearing 31 3 32 := Or.inl ⟨3, rfl, by decide +kernel, rfl⟩
theorem dX0_bearing_32 : dc cX0_bearing 32 .aaload 1 33 := ⟨by decide +kernel, rfl⟩
theorem dX0_bearing_33 : dc cX0_bearing 33 .areturn 1 34 := ⟨by decide +kernel, rfl⟩
theorem dX0_bearing_34 : dc cX0_bearing 34 (.iinc 3 1) 3 37 := ⟨by decide +kernel, rfl⟩
theorem dX0_bearing_37 : dj cX0_bearing 37 .goto 2 40 := ⟨(-35), by decide +kernel, by decide, rfl⟩
theorem dX0_bearing_40 : dc cX0_bearing 40 .aconst_null 1 41 := ⟨by decide +kernel, rfl⟩
theorem dX0_bearing_41 : dc cX0_bearing 41 .areturn 1 42 := ⟨by decide +kernel, rfl⟩
theorem dX0_append_0 : dAl cX0_append 0 0 1 := Or.inl ⟨0, rfl, by decide +kernel, rfl⟩
theorem dX0_append_1 : dc cX0_append 1 (.getfield 17) 3 4 := ⟨by decide +kernel, rfl⟩
theorem dX0_append_4 : dKc cX0_append 4 60 6 := Or.inr (Or.inl ⟨60, by decide +kernel, by decide +kernel, rfl⟩)
theorem dX0_append_6 : dj cX0_append 6 (.if_icmp .lt) 12 9 := ⟨6, by decide +kernel, by decide, rfl⟩
theorem dX0_append_9 : dKc cX0_append 9 (-2) 11 := Or.inr (Or.inl ⟨(-2), by decide +kernel, by decide +kernel, rfl⟩)
theorem dX0_append_11 : dc cX0_append 11 .ireturn 1 12 := ⟨by decide +kernel, rfl⟩
theorem dX0_append_12 : dAl cX0_append 12 0 13 := Or.inl ⟨0, rfl, by decide +kernel, rfl⟩
theorem dX0_append_13 : dc cX0_append 13 (.getfield 11) 3 16 := ⟨by decide +kernel, rfl⟩
theorem dX0_append_16 : dAl cX0_append 16 0 17 := Or.inl ⟨0, rfl, by decide +kernel, rfl⟩
theorem dX0_append_17 : dc cX0_append 17 (.getfield 17) 3 20 := ⟨by decide +kernel, rfl⟩
theorem dX0_append_20 : dAl cX0_append 20 1 21 := Or.inl ⟨1, rfl, by decide +kernel, rfl⟩
theorem dX0_append_21 : dc cX0_append 21 .aastore 1 22 := ⟨by decide +kernel, rfl⟩
theorem dX0_append_22 : dAl cX0_append 22 0 23 := Or.inl ⟨0, rfl, by decide +kernel, rfl⟩
theorem dX0_append_23 : dc cX0_append 23 .dup 1 24 := ⟨by decide +kernel, rfl⟩
theorem dX0_append_24 : dc cX0_append 24 (.getfield 17) 3 27 := ⟨by decide +kernel, rfl⟩
theorem dX0_append_27 : dKc cX0_append 27 1 28 := Or.inl ⟨1, by decide +kernel, by decide +kernel, rfl⟩
theorem dX0_append_28 : dc cX0_append 28 .iadd 1 29 := ⟨by decide +kernel, rfl⟩
theorem dX0_append_29 : dc cX0_append 29 (.putfield 17) 3 32 := ⟨by decide +kernel, rfl⟩
theorem dX0_append_32 : dAl cX0_append 32 0 33 := Or.inl ⟨0, rfl, by decide +kernel, rfl⟩
theorem dX0_append_33 : dc cX0_append 33 (.getfield 17) 3 36 := ⟨by decide +kernel, rfl⟩
theorem dX0_append_36 : dKc cX0_append 36 1 37 := Or.inl ⟨1, by decide +kernel, by decide +kernel, rfl⟩
theorem dX0_append_37 : dc cX0_append 37 .isub 1 38 := ⟨by decide +kernel, rfl⟩
theorem dX0_append_38 : dc cX0_append 38 .ireturn 1 39 := ⟨by decide +kernel, rfl⟩
theorem dX0_swap_0 : dIl cX0_swap 0 1 1 := Or.inl ⟨1, rfl, by decide +kernel, rfl⟩
theorem dX0_swap_1 : dKc cX0_swap 1 0 2 := Or.inl ⟨0, by decide +kernel, by decide +kernel, rfl⟩
theorem dX0_swap_2 : dAl cX0_swap 2 0 3 := Or.inl ⟨0, rfl, by decide +kernel, rfl⟩
theorem dX0_swap_3 : dc cX0_swap 3 (.getfield 17) 3 6 := ⟨by decide +kernel, rfl⟩
theorem dX0_swap_6 : dKc cX0_swap 6 1 7 := Or.inl ⟨1, by decide +kernel, by decide +kernel, rfl⟩
theorem dX0_swap_7 : dc cX0_swap 7 .isub 1 8 := ⟨by decide +kernel, rfl⟩
theorem dX0_swap_8 : dc cX0_swap 8 (.invokestatic 21) 3 11 := ⟨by decide +kernel, rfl⟩
theorem dX0_swap_11 : dj cX0_swap 11 (.ifCond .eq) 54 14 := ⟨43, by decide +kernel, by decide, rfl⟩
theorem dX0_swap_14 : dIl cX0_swap 14 2 15 := Or.inl ⟨2, rfl, by decide +kernel, rfl⟩
theorem dX0_swap_15 : dKc cX0_swap 15 0 16 := Or.inl ⟨0, by decide +kernel, by decide +kernel, rfl⟩
theorem dX0_swap_16 : dAl cX0_swap 16 0 17 := Or.inl ⟨0, rfl, by decide +kernel, rfl⟩
theorem dX0_swap_17 : dc cX0_swap 17 (.getfield 17) 3 20 := ⟨by decide +kernel, rfl⟩
theorem dX0_swap_20 : dKc cX0_swap 20 1 21 := Or.inl ⟨1, by decide +kernel, by decide +kernel, rfl⟩
theorem dX0_swap_21 : dc cX0_swap 21 .isub 1 22 := ⟨by decide +kernel, rfl⟩
theorem dX0_swap_22 : dc cX0_swap 22 (.invokestatic 21) 3 25 := ⟨by decide +kernel, rfl⟩
theorem dX0_swap_25 : dj cX0_swap 25 (.ifCond .eq) 54 28 := ⟨29, by decide +kernel, by decide, rfl⟩
theorem dX0_swap_28 : dAl cX0_swap 28 0 29 := Or.inl ⟨0, rfl, by decide +kernel, rfl⟩
theorem dX0_swap_29 : dc cX0_swap 29 (.getfield 11) 3 32 := ⟨by decide +kernel, rfl⟩
theorem dX0_swap_32 : dIl cX0_swap 32 1 33 := Or.inl ⟨1, rfl, by decide +kernel, rfl⟩
theorem dX0_swap_33 : dc cX0_swap 33 .aaload 1 34 := ⟨by decide +kernel, rfl⟩
theorem dX0_swap_34 : dAs cX0_swap 34 3 35 := Or.inl ⟨3, rfl, by decide +kernel, rfl⟩
theorem dX0_swap_35 : dAl cX0_swap 35 0 36 := Or.inl ⟨0, rfl, by decide +kernel, rfl⟩
theorem dX0_swap_36 : dc cX0_swap 36 (.getfield 11) 3 39 := ⟨by decide +kernel, rfl⟩
theorem dX0_swap_39 : dIl cX0_swap 39 1 40 := Or.inl ⟨1, rfl, by decide +kernel, rfl⟩
theorem dX0_swap_40 : dAl cX0_swap 40 0 41 := Or.inl ⟨0, rfl, by decide +kernel, rfl⟩
theorem dX0_swap_41 : dc cX0_swap 41 (.getfield 11) 3 44 := ⟨by decide +kernel, rfl⟩
theorem dX0_swap_44 : dIl cX0_swap 44 2 45 := Or.inl ⟨2, rfl, by decide +kernel, rfl⟩
theorem dX0_swap_45 : dc cX0_swap 45 .aaload 1 46 := ⟨by decide +kernel, rfl⟩
theorem dX0_swap_46 : dc cX0_swap 46 .aastore 1 47 := ⟨by decide +kernel, rfl⟩
theorem dX0_swap_47 : dAl cX0_swap 47 0 48 := Or.inl ⟨0, rfl, by decide +kernel, rfl⟩
theorem dX0_swap_48 : dc cX0_swap 48 (.getfield 11) 3 51 := ⟨by decide +kernel, rfl⟩
theorem dX0_swap_51 : dIl cX0_swap 51 2 52 := Or.inl ⟨2, rfl, by decide +kernel, rfl⟩
theorem dX0_swap_52 : dAl cX0_swap 52 3 53 := Or.inl ⟨3, rfl, by decide +kernel, rfl⟩
theorem dX0_swap_53 : dc cX0_swap 53 .aastore 1 54 := ⟨by decide +kernel, rfl⟩
theorem dX0_swap_54 : dc cX0_swap 54 .return_ 1 55 := ⟨by decide +kernel, rfl⟩
theorem dX0_firstWithoutWeight_0 : dKc cX0_firstWithoutWeight 0 0 1 := Or.inl ⟨0, by decide +kernel, by decide +kernel, rfl⟩
theorem dX0_firstWithoutWeight_1 : dIs cX0_firstWithoutWeight 1 1 2 := Or.inl ⟨1, rfl, by decide +kernel, rfl⟩
theorem dX0_firstWithoutWeight_2 : dIl cX0_firstWithoutWeight 2 1 3 := Or.inl ⟨1, rfl, by decide +kernel, rfl⟩
theorem dX0_firstWithoutWeight_3 : dAl cX0_firstWithoutWeight 3 0 4 := Or.inl ⟨0, rfl, by decide +kernel, rfl⟩
theorem dX0_firstWithoutWeight_4 : dc cX0_firstWithoutWeight 4 (.getfield 17) 3 7 := ⟨by decide +kernel, rfl⟩
theorem dX0_firstWithoutWeight_7 : dj cX0_firstWithoutWeight 7 (.if_icmp .ge) 35 10 := ⟨28, by decide +kernel, by decide, rfl⟩
theorem dX0_firstWithoutWeight_10 : dAl cX0_firstWithoutWeight 10 0 11 := Or.inl ⟨0, rfl, by decide +kernel, rfl⟩
theorem dX0_firstWithoutWeight_11 : dc cX0_firstWithoutWeight 11 (.getfield 11) 3 14 := ⟨by decide +kernel, rfl⟩
theorem dX0_firstWithoutWeight_14 : dIl cX0_firstWithoutWeight 14 1 15 := Or.inl ⟨1, rfl, by decide +kernel, rfl⟩
theorem dX0_firstWithoutWeight_15 : dc cX0_firstWithoutWeight 15 .aaload 1 16 := ⟨by decide +kernel, rfl⟩
theorem dX0_firstWithoutWeight_16 : dc cX0_firstWithoutWeight 16 (.getfield 35) 3 19 := ⟨by decide +kernel, rfl⟩
theorem dX0_firstWithoutWeight_19 : dj cX0_firstWithoutWeight 19 (.ifCond .gt) 29 22 := ⟨10, by decide +kernel, by decide, rfl⟩
theorem dX0_firstWithoutWeight_22 : dAl cX0_firstWithoutWeight 22 0 23 := Or.inl ⟨0, rfl, by decide +kernel, rfl⟩
theorem dX0_firstWithoutWeight_23 : dc cX0_firstWithoutWeight 23 (.getfield 11) 3 26 := ⟨by decide +kernel, rfl⟩
theorem dX0_firstWithoutWeight_26 : dIl cX0_firstWithoutWeight 26 1 27 := Or.inl ⟨1, rfl, by decide +kernel, rfl⟩
theorem dX0_firstWithoutWeight_27 : dc cX0_firstWithoutWeight 27 .aaload 1 28 := ⟨by decide +kernel, rfl⟩
theorem dX0_firstWithoutWeight_28 : dc cX0_firstWithoutWeight 28 .areturn 1 29 := ⟨by decide +kernel, rfl⟩
theorem dX0_firstWithoutWeight_29 : dc cX0_firstWithoutWeight 29 (.iinc 1 1) 3 32 := ⟨by decide +kernel, rfl⟩
theorem dX0_firstWithoutWeight_32 : dj cX0_firstWithoutWeight 32 .goto 2 35 := ⟨(-30), by decide +kernel, by decide, rfl⟩
theorem dX0_firstWithoutWeight_35 : dc cX0_firstWithoutWeight 35 .aconst_null 1 36 := ⟨by decide +kernel, rfl⟩
theorem dX0_firstWithoutWeight_36 : dc cX0_firstWithoutWeight 36 .areturn 1 37 := ⟨by decide +kernel, rfl⟩
theorem dX0_isWhole_0 : dAl cX0_isWhole 0 0 1 := Or.inl ⟨0, rfl, by decide +kernel, rfl⟩
theorem dX0_isWhole_1 : dc cX0_isWhole 1 (.getfield 17) 3 4 := ⟨by decide +kernel, rfl⟩
theorem dX0_isWhole_4 : dj cX0_isWhole 4 (.ifCond .le) 18 7 := ⟨14, by decide +kernel, by decide, rfl⟩
theorem dX0_isWhole_7 : dAl cX0_isWhole 7 0 8 := Or.inl ⟨0, rfl, by decide +kernel, rfl⟩
theorem dX0_isWhole_8 : dc cX0_isWhole 8 (.invokevirtual 38) 3 11 := ⟨by decide +kernel, rfl⟩
theorem dX0_isWhole_11 : dj cX0_isWhole 11 .ifnonnull 18 14 := ⟨7, by decide +kernel, by decide, rfl⟩
theorem dX0_isWhole_14 : dKc cX0_isWhole 14 1 15 := Or.inl ⟨1, by decide +kernel, by decide +kernel, rfl⟩
theorem dX0_isWhole_15 : dj cX0_isWhole 15 .goto 19 18 := ⟨4, by decide +kernel, by decide, rfl⟩
theorem dX0_isWhole_18 : dKc cX0_isWhole 18 0 19 := Or.inl ⟨0, by decide +kernel, by decide +kernel, rfl⟩
theorem dX0_isWhole_19 : dc cX0_isWhole 19 .ireturn 1 20 := ⟨by decide +kernel, rfl⟩
theorem dX0_weightSum_0 : dKc cX0_weightSum 0 0 1 := Or.inl ⟨0, by decide +kernel, by decide +kernel, rfl⟩
theorem dX0_weightSum_1 : dIs cX0_weightSum 1 1 2 := Or.inl ⟨1, rfl, by decide +kernel, rfl⟩
theorem dX0_weightSum_2 : dKc cX0_weightSum 2 0 3 := Or.inl ⟨0, by decide +kernel, by decide +kernel, rfl⟩
theorem dX0_weightSum_3 : dIs cX0_weightSum 3 2 4 := Or.inl ⟨2, rfl, by decide +kernel, rfl⟩
theorem dX0_weightSum_4 : dIl cX0_weightSum 4 2 5 := Or.inl ⟨2, rfl, by decide +kernel, rfl⟩
theorem dX0_weightSum_5 : dAl cX0_weightSum 5 0 6 := Or.inl ⟨0, rfl, by decide +kernel, rfl⟩
theorem dX0_weightSum_6 : dc cX0_weightSum 6 (.getfield 17) 3 9 := ⟨by decide +kernel, rfl⟩
theorem dX0_weightSum_9 : dj cX0_weightSum 9 (.if_icmp .ge) 30 12 := ⟨21, by decide +kernel, by decide, rfl⟩
theorem dX0_weightSum_12 : dIl cX0_weightSum 12 1 13 := Or.inl ⟨1, rfl, by decide +kernel, rfl⟩
theorem dX0_weightSum_13 : dAl cX0_weightSum 13 0 14 := Or.inl ⟨0, rfl, by decide +kernel, rfl⟩
theorem dX0_weightSum_14 : dc cX0_weightSum 14 (.getfield 11) 3 17 := ⟨by decide +kernel, rfl⟩
theorem dX0_weightSum_17 : dIl cX0_weightSum 17 2 18 := Or.inl ⟨2, rfl, by decide +kernel, rfl⟩
theorem dX0_weightSum_18 : dc cX0_weightSum 18 .aaload 1 19 := ⟨by decide +kernel, rfl⟩
theorem dX0_weightSum_19 : dc cX0_weightSum 19 (.getfield 35) 3 22 := ⟨by decide +kernel, rfl⟩
theorem dX0_weightSum_22 : dc cX0_weightSum 22 .iadd 1 23 := ⟨by decide +kernel, rfl⟩
theorem dX0_weightSum_23 : dIs cX0_weightSum 23 1 24 := Or.inl ⟨1, rfl, by decide +kernel, rfl⟩
theorem dX0_weightSum_24 : dc cX0_weightSum 24 (.iinc 2 1) 3 27 := ⟨by decide +kernel, rfl⟩
theorem dX0_weightSum_27 : dj cX0_weightSum 27 .goto 4 30 := ⟨(-23), by decide +kernel, by decide, rfl⟩
theorem dX0_weightSum_30 : dIl cX0_weightSum 30 1 31 := Or.inl ⟨1, rfl, by decide +kernel, rfl⟩
theorem dX0_weightSum_31 : dc cX0_weightSum 31 .ireturn 1 32 := ⟨by decide +kernel, rfl⟩
theorem dX0_reaching_0 : dKc cX0_reaching 0 0 1 := Or.inl ⟨0, by decide +kernel, by decide +kernel, rfl⟩
theorem dX0_reaching_1 : dIs cX0_reaching 1 2 2 := Or.inl ⟨2, rfl, by decide +kernel, rfl⟩
theorem dX0_reaching_2 : dKc cX0_reaching 2 0 3 := Or.inl ⟨0, by decide +kernel, by decide +kernel, rfl⟩
theorem dX0_reaching_3 : dIs cX0_reaching 3 3 4 := Or.inl ⟨3, rfl, by decide +kernel, rfl⟩
theorem dX0_reaching_4 : dIl cX0_reaching 4 3 5 := Or.inl ⟨3, rfl, by decide +kernel, rfl⟩
theorem dX0_reaching_5 : dAl cX0_reaching 5 0 6 := Or.inl ⟨0, rfl, by decide +kernel, rfl⟩
theorem dX0_reaching_6 : dc cX0_reaching 6 (.getfield 17) 3 9 := ⟨by decide +kernel, rfl⟩
theorem dX0_reaching_9 : dj cX0_reaching 9 (.if_icmp .ge) 42 12 := ⟨33, by decide +kernel, by decide, rfl⟩
theorem dX0_reaching_12 : dIl cX0_reaching 12 2 13 := Or.inl ⟨2, rfl, by decide +kernel, rfl⟩
theorem dX0_reaching_13 : dAl cX0_reaching 13 0 14 := Or.inl ⟨0, rfl, by decide +kernel, rfl⟩
theorem dX0_reaching_14 : dc cX0_reaching 14 (.getfield 11) 3 17 := ⟨by decide +kernel, rfl⟩
theorem dX0_reaching_17 : dIl cX0_reaching 17 3 18 := Or.inl ⟨3, rfl, by decide +kernel, rfl⟩
theorem dX0_reaching_18 : dc cX0_reaching 18 .aaload 1 19 := ⟨by decide +kernel, rfl⟩
theorem dX0_reaching_19 : dc cX0_reaching 19 (.getfield 35) 3 22 := ⟨by decide +kernel, rfl⟩
theorem dX0_reaching_22 : dc cX0_reaching 22 .iadd 1 23 := ⟨by decide +kernel, rfl⟩
theorem dX0_reaching_23 : dIs cX0_reaching 23 2 24 := Or.inl ⟨2, rfl, by decide +kernel, rfl⟩
theorem dX0_reaching_24 : dIl cX0_reaching 24 2 25 := Or.inl ⟨2, rfl, by decide +kernel, rfl⟩
theorem dX0_reaching_25 : dIl cX0_reaching 25 1 26 := Or.inl ⟨1, rfl, by decide +kernel, rfl⟩
theorem dX0_reaching_26 : dj cX0_reaching 26 (.if_icmp .le) 36 29 := ⟨10, by decide +kernel, by decide, rfl⟩
theorem dX0_reaching_29 : dAl cX0_reaching 29 0 30 := Or.inl ⟨0, rfl, by decide +kernel, rfl⟩
theorem dX0_reaching_30 : dc cX0_reaching 30 (.getfield 11) 3 33 := ⟨by decide +kernel, rfl⟩
theorem dX0_reaching_33 : dIl cX0_reaching 33 3 34 := Or.inl ⟨3, rfl, by decide +kernel, rfl⟩
theorem dX0_reaching_34 : dc cX0_reaching 34 .aaload 1 35 := ⟨by decide +kernel, rfl⟩
theorem dX0_reaching_35 : dc cX0_reaching 35 .areturn 1 36 := ⟨by decide +kernel, rfl⟩
theorem dX0_reaching_36 : dc cX0_reaching 36 (.iinc 3 1) 3 39 := ⟨by decide +kernel, rfl⟩
theorem dX0_reaching_39 : dj cX0_reaching 39 .goto 4 42 := ⟨(-35), by decide +kernel, by decide, rfl⟩
theorem dX0_reaching_42 : dc cX0_reaching 42 .aconst_null 1 43 := ⟨by decide +kernel, rfl⟩
theorem dX0_reaching_43 : dc cX0_reaching 43 .areturn 1 44 := ⟨by decide +kernel, rfl⟩
theorem dX1_init_0 : dAl cX1_init 0 0 1 := Or.inl ⟨0, rfl, by decide +kernel, rfl⟩
theorem dX1_init_1 : dc cX1_init 1 (.invokespecial 3) 3 4 := ⟨by decide +kernel, rfl⟩
theorem dX1_init_4 : dAl cX1_init 4 0 5 := Or.inl ⟨0, rfl, by decide +kernel, rfl⟩
theorem dX1_init_5 : dIl cX1_init 5 1 6 := Or.inl ⟨1, rfl, by decide +kernel, rfl⟩
theorem dX1_init_6 : dc cX1_init 6 (.putfield 9) 3 9 := ⟨by decide +kernel, rfl⟩
theorem dX1_init_9 : dAl cX1_init 9 0 10 := Or.inl ⟨0, rfl, by decide +kernel, rfl⟩
theorem dX1_init_10 : dIl cX1_init 10 2 11 := Or.inl ⟨2, rfl, by decide +kernel, rfl⟩
theorem dX1_init_11 : dc cX1_init 11 (.putfield 15) 3 14 := ⟨by decide +kernel, rfl⟩
theorem dX1_init_14 : dAl cX1_init 14 0 15 := Or.inl ⟨0, rfl, by decide +kernel, rfl⟩
theorem dX1_init_15 : dIl cX1_init 15 3 16 := Or.inl ⟨3, rfl, by decide +kernel, rfl⟩
theorem dX1_init_16 : dc cX1_init 16 (.putfield 18) 3 19 := ⟨by decide +kernel, rfl⟩
theorem dX1_init_19 : dc cX1_init 19 .return_ 1 20 := ⟨by decide +kernel, rfl⟩
theorem dX1_failureOf_0 : dAl cX1_failureOf 0 1 1 := Or.inl ⟨1, rfl, by decide +kernel, rfl⟩
theorem dX1_failureOf_1 : dAl cX1_failureOf 1 0 2 := Or.inl ⟨0, rfl, by decide +kernel, rfl⟩
theorem dX1_failureOf_2 : dc cX1_failureOf 2 (.getfield 15) 3 5 := ⟨by decide +kernel, rfl⟩
theorem dX1_failureOf_5 : dc cX1_failureOf 5 (.invokevirtual 21) 3 8 := ⟨by decide +kernel, rfl⟩
theorem dX1_failureOf_8 : dj cX1_failureOf 8 (.ifCond .eq) 22 11 := ⟨14, by decide +kernel, by decide, rfl⟩
theorem dX1_failureOf_11 : dAl cX1_failureOf 11 1 12 := Or.inl ⟨1, rfl, by decide +kernel, rfl⟩
theorem dX1_failureOf_12 : dAl cX1_failureOf 12 0 13 := Or.inl ⟨0, rfl, by decide +kernel, rfl⟩
theorem dX1_failureOf_13 : dc cX1_failureOf 13 (.getfield 18) 3 16 := ⟨by decide +kernel, rfl⟩
theorem dX1_failureOf_16 : dc cX1_failureOf 16 (.invokevirtual 21) 3 19 := ⟨by decide +kernel, rfl⟩
theorem dX1_failureOf_19 : dj cX1_failureOf 19 (.ifCond .ne) 24 22 := ⟨5, by decide +kernel, by decide, rfl⟩
theorem dX1_failureOf_22 : dKc cX1_failureOf 22 4 23 := Or.inl ⟨4, by decide +kernel, by decide +kernel, rfl⟩
theorem dX1_failureOf_23 : dc cX1_failureOf 23 .ireturn 1 24 := ⟨by decide +kernel, rfl⟩
theorem dX1_failureOf_24 : dAl cX1_failureOf 24 1 25 := Or.inl ⟨1, rfl, by decide +kernel, rfl⟩
theorem dX1_failureOf_25 : dc cX1_failureOf 25 (.getfield 27) 3 28 := ⟨by decide +kernel, rfl⟩
theorem dX1_failureOf_28 : dAl cX1_failureOf 28 0 29 := Or.inl ⟨0, rfl, by decide +kernel, rfl⟩
theorem dX1_failureOf_29 : dc cX1_failureOf 29 (.getfield 18) 3 32 := ⟨by decide +kernel, rfl⟩
theorem dX1_failureOf_32 : dc cX1_failureOf 32 .iaload 1 33 := ⟨by decide +kernel, rfl⟩
theorem dX1_failureOf_33 : dIs cX1_failureOf 33 2 34 := Or.inl ⟨2, rfl, by decide +kernel, rfl⟩
theorem dX1_failureOf_34 : dAl cX1_failureOf 34 0 35 := Or.inl ⟨0, rfl, by decide +kernel, rfl⟩
theorem dX1_failureOf_35 : dc cX1_failureOf 35 (.getfield 9) 3 38 := ⟨by decide +kernel, rfl⟩
theorem dX1_failureOf_38 : dc cX1_failureOf 38 (.tableswitch 112 0 4 #[34, 56, 70, 84, 98]) 34 72 := ⟨by decide +kernel, rfl⟩
theorem dX1_failureOf_72 : dAl cX1_failureOf 72 1 73 := Or.inl ⟨1, rfl, by decide +kernel, rfl⟩
theorem dX1_failureOf_73 : dc cX1_failureOf 73 (.getfield 27) 3 76 := ⟨by decide +kernel, rfl⟩
theorem dX1_failureOf_76 : dAl cX1_failureOf 76 0 77 := Or.inl ⟨0, rfl, by decide +kernel, rfl⟩
theorem dX1_failureOf_77 : dc cX1_failureOf 77 (.getfield 15) 3 80 := ⟨by decide +kernel, rfl⟩
theorem dX1_failureOf_80 : dc cX1_failureOf 80 .iaload 1 81 := ⟨by decide +kernel, rfl⟩
theorem dX1_failureOf_81 : dIl cX1_failureOf 81 2 82 := Or.inl ⟨2, rfl, by decide +kernel, rfl⟩
theorem dX1_failureOf_82 : dj cX1_failureOf 82 (.if_icmp .gt) 89 85 := ⟨7, by decide +kernel, by decide, rfl⟩
theorem dX1_failureOf_85 : dKc cX1_failureOf 85 1 86 := Or.inl ⟨1, by decide +kernel, by decide +kernel, rfl⟩
theorem dX1_failureOf_86 : dj cX1_failureOf 86 .goto 90 89 := ⟨4, by decide +kernel, by decide, rfl⟩
theorem dX1_failureOf_89 : dKc cX1_failureOf 89 0 90 := Or.inl ⟨0, by decide +kernel, by decide +kernel, rfl⟩
theorem dX1_failureOf_90 : dc cX1_failureOf 90 (.invokestatic 31) 3 93 := ⟨by decide +kernel, rfl⟩
theorem dX1_failureOf_93 : dc cX1_failureOf 93 .ireturn 1 94 := ⟨by decide +kernel, rfl⟩
theorem dX1_failureOf_94 : dAl cX1_failureOf 94 1 95 := Or.inl ⟨1, rfl, by decide +kernel, rfl⟩
theorem dX1_failureOf_95 : dc cX1_failureOf 95 (.getfield 27) 3 98 := ⟨by decide +kernel, rfl⟩
theorem dX1_failureOf_98 : dAl cX1_failureOf 98 0 99 := Or.inl ⟨0, rfl, by decide +kernel, rfl⟩
theorem dX1_failureOf_99 : dc cX1_failureOf 99 (.getfield 15) 3 102 := ⟨by decide +kernel, rfl⟩
theorem dX1_failureOf_102 : dc cX1_failureOf 102 .iaload 1 103 := ⟨by decide +kernel, rfl⟩
theorem dX1_failureOf_103 : dIl cX1_failureOf 103 2 104 := Or.inl ⟨2, rfl, by decide +kernel, rfl⟩
theorem dX1_failureOf_104 : dc cX1_failureOf 104 (.invokestatic 35) 3 107 := ⟨by decide +kernel, rfl⟩
theorem dX1_failureOf_107 : dc cX1_failureOf 107 .ireturn 1 108 := ⟨by decide +kernel, rfl⟩
theorem dX1_failureOf_108 : dAl cX1_failureOf 108 1 109 := Or.inl ⟨1, rfl, by decide +kernel, rfl⟩
theorem dX1_failureOf_109 : dc cX1_failureOf 109 (.getfield 39) 3 112 := ⟨by decide +kernel, rfl⟩
theorem dX1_failureOf_112 : dAl cX1_failureOf 112 0 113 := Or.inl ⟨0, rfl, by decide +kernel, rfl⟩
theorem dX1_failureOf_113 : dc cX1_failureOf 113 (.getfield 15) 3 116 := ⟨by decide +kernel, rfl⟩
theorem dX1_failureOf_116 : dc cX1_failureOf 116 .aaload 1 117 := ⟨by decide +kernel, rfl⟩
theorem dX1_failureOf_117 : dIl cX1_failureOf 117 2 118 := Or.inl ⟨2, rfl, by decide +kernel, rfl⟩
theorem dX1_failureOf_118 : dc cX1_failureOf 118 (.invokestatic 43) 3 121 := ⟨by decide +kernel, rfl⟩
theorem dX1_failureOf_121 : dc cX1_failureOf 121 .ireturn 1 122 := ⟨by decide +kernel, rfl⟩
theorem dX1_failureOf_122 : dAl cX1_failureOf 122 1 123 := Or.inl ⟨1, rfl, by decide +kernel, rfl⟩
theorem dX1_failureOf_123 : dc cX1_failureOf 123 (.getfield 39) 3 126 := ⟨by decide +kernel, rfl⟩
theorem dX1_failureOf_126 : dAl cX1_failureOf 126 0 127 := Or.inl ⟨0, rfl, by decide +kernel, rfl⟩
theorem dX1_failureOf_127 : dc cX1_failureOf 127 (.getfield 15) 3 130 := ⟨by decide +kernel, rfl⟩
theorem dX1_failureOf_130 : dc cX1_failureOf 130 .aaload 1 131 := ⟨by decide +kernel, rfl⟩
theorem dX1_failureOf_131 : dIl cX1_failureOf 131 2 132 := Or.inl ⟨2, rfl, by decide +kernel, rfl⟩
theorem dX1_failureOf_132 : dc cX1_failureOf 132 (.invokestatic 47) 3 135 := ⟨by decide +kernel, rfl⟩
theorem dX1_failureOf_135 : dc cX1_failureOf 135 .ireturn 1 136 := ⟨by decide +kernel, rfl⟩
theorem dX1_failureOf_136 : dAl cX1_failureOf 136 1 137 := Or.inl ⟨1, rfl, by decide +kernel, rfl⟩
theorem dX1_failureOf_137 : dc cX1_failureOf 137 (.getfield 39) 3 140 := ⟨by decide +kernel, rfl⟩
theorem dX1_failureOf_140 : dAl cX1_failureOf 140 0 141 := Or.inl ⟨0, rfl, by decide +kernel, rfl⟩
theorem dX1_failureOf_141 : dc cX1_failureOf 141 (.getfield 15) 3 144 := ⟨by decide +kernel, rfl⟩
theorem dX1_failureOf_144 : dc cX1_failureOf 144 .aaload 1 145 := ⟨by decide +kernel, rfl⟩
theorem dX1_failureOf_145 : dIl cX1_failureOf 145 2 146 := Or.inl ⟨2, rfl, by decide +kernel, rfl⟩
theorem dX1_failureOf_146 : dc cX1_failureOf 146 (.invokestatic 50) 3 149 := ⟨by decide +kernel, rfl⟩
theorem dX1_failureOf_149 : dc cX1_failureOf 149 .ireturn 1 150 := ⟨by decide +kernel, rfl⟩
theorem dX1_failureOf_150 : dAl cX1_failureOf 150 1 151 := Or.inl ⟨1, rfl, by decide +kernel, rfl⟩
theorem dX1_failureOf_151 : dc cX1_failureOf 151 (.getfield 39) 3 154 := ⟨by decide +kernel, rfl⟩
theorem dX1_failureOf_154 : dAl cX1_failureOf 154 0 155 := Or.inl ⟨0, rfl, by decide +kernel, rfl⟩
theorem dX1_failureOf_155 : dc cX1_failureOf 155 (.getfield 15) 3 158 := ⟨by decide +kernel, rfl⟩
theorem dX1_failureOf_158 : dc cX1_failureOf 158 .aaload 1 159 := ⟨by decide +kernel, rfl⟩
theorem dX1_failureOf_159 : dIl cX1_failureOf 159 2 160 := Or.inl ⟨2, rfl, by decide +kernel, rfl⟩
theorem dX1_failureOf_160 : dc cX1_failureOf 160 (.invokestatic 53) 3 163 := ⟨by decide +kernel, rfl⟩
theorem dX1_failureOf_163 : dc cX1_failureOf 163 .ireturn 1 164 := ⟨by decide +kernel, rfl⟩
theorem dX1_ownUnless_0 : dIl cX1_ownUnless 0 0 1 := Or.inl ⟨0, rfl, by decide +kernel, rfl⟩
theorem dX1_ownUnless_1 : dj cX1_ownUnless 1 (.ifCond .eq) 8 4 := ⟨7, by decide +kernel, by decide, rfl⟩
theorem dX1_ownUnless_4 : dKc cX1_ownUnless 4 0 5 := Or.inl ⟨0, by decide +kernel, by decide +kernel, rfl⟩
theorem dX1_ownUnless_5 : dj cX1_ownUnless 5 .goto 9 8 := ⟨4, by decide +kernel, by decide, rfl⟩
theorem dX1_ownUnless_8 : dKc cX1_ownUnless 8 2 9 := Or.inl ⟨2, by decide +kernel, by decide +kernel, rfl⟩
theorem dX1_ownUnless_9 : dc cX1_ownUnless 9 .ireturn 1 10 := ⟨by decide +kernel, rfl⟩
theorem dX1_divisionFailure_0 : dIl cX1_divisionFailure 0 1 1 := Or.inl ⟨1, rfl, by decide +kernel, rfl⟩
theorem dX1_divisionFailure_1 : dj cX1_divisionFailure 1 (.ifCond .ne) 8 4 := ⟨7, by decide +kernel, by decide, rfl⟩
theorem dX1_divisionFailure_4 : dKc cX1_divisionFailure 4 5 5 := Or.inl ⟨5, by decide +kernel, by decide +kernel, rfl⟩
theorem dX1_divisionFailure_5 : dj cX1_divisionFailure 5 .goto 22 8 := ⟨17, by decide +kernel, by decide, rfl⟩
theorem dX1_divisionFailure_8 : dIl cX1_divisionFailure 8 0 9 := Or.inl ⟨0, rfl, by decide +kernel, rfl⟩
theorem dX1_divisionFailure_9 : dIl cX1_divisionFailure 9 1 10 := Or.inl ⟨1, rfl, by decide +kernel, rfl⟩
theorem dX1_divisionFailure_10 : dc cX1_divisionFailure 10 .irem 1 11 := ⟨by decide +kernel, rfl⟩
theorem dX1_divisionFailure_11 : dj cX1_divisionFailure 11 (.ifCond .ne) 18 14 := ⟨7, by decide +kernel, by decide, rfl⟩
theorem dX1_divisionFailure_14 : dKc cX1_divisionFailure 14 1 15 := Or.inl ⟨1, by decide +kernel, by decide +kernel, rfl⟩
theorem dX1_divisionFailure_15 : dj cX1_divisionFailure 15 .goto 19 18 := ⟨4, by decide +kernel, by decide, rfl⟩
theorem dX1_divisionFailure_18 : dKc cX1_divisionFailure 18 0 19 := Or.inl ⟨0, by decide +kernel, by decide +kernel, rfl⟩
theorem dX1_divisionFailure_19 : dc cX1_divisionFailure 19 (.invokestatic 31) 3 22 := ⟨by decide +kernel, rfl⟩
theorem dX1_divisionFailure_22 : dc cX1_divisionFailure 22 .ireturn 1 23 := ⟨by decide +kernel, rfl⟩
theorem dX1_itemFailure_0 : dAl cX1_itemFailure 0 0 1 := Or.inl ⟨0, rfl, by decide +kernel, rfl⟩
theorem dX1_itemFailure_1 : dc cX1_itemFailure 1 (.instanceof 56) 3 4 := ⟨by decide +kernel, rfl⟩
theorem dX1_itemFailure_4 : dj cX1_itemFailure 4 (.ifCond .eq) 42 7 := ⟨38, by decide +kernel, by decide, rfl⟩
theorem dX1_itemFailure_7 : dAl cX1_itemFailure 7 0 8 := Or.inl ⟨0, rfl, by decide +kernel, rfl⟩
theorem dX1_itemFailure_8 : dc cX1_itemFailure 8 (.checkcast 56) 3 11 := ⟨by decide +kernel, rfl⟩
theorem dX1_itemFailure_11 : dAs cX1_itemFailure 11 2 12 := Or.inl ⟨2, rfl, by decide +kernel, rfl⟩
theorem dX1_itemFailure_12 : dAl cX1_itemFailure 12 2 13 := Or.inl ⟨2, rfl, by decide +kernel, rfl⟩
theorem dX1_itemFailure_13 : dIl cX1_itemFailure 13 1 14 := Or.inl ⟨1, rfl, by decide +kernel, rfl⟩
theorem dX1_itemFailure_14 : dc cX1_itemFailure 14 (.invokevirtual 58) 3 17 := ⟨by decide +kernel, rfl⟩
theorem dX1_itemFailure_17 : dj cX1_itemFailure 17 (.ifCond .eq) 40 20 := ⟨23, by decide +kernel, by decide, rfl⟩
theorem dX1_itemFailure_20 : dAl cX1_itemFailure 20 2 21 := Or.inl ⟨2, rfl, by decide +kernel, rfl⟩
theorem dX1_itemFailure_21 : dc cX1_itemFailure 21 (.getfield 59) 3 24 := ⟨by decide +kernel, rfl⟩
theorem dX1_itemFailure_24 : dIl cX1_itemFailure 24 1 25 := Or.inl ⟨1, rfl, by decide +kernel, rfl⟩
theorem dX1_itemFailure_25 : dc cX1_itemFailure 25 .iaload 1 26 := ⟨by decide +kernel, rfl⟩
theorem dX1_itemFailure_26 : dj cX1_itemFailure 26 (.ifCond .le) 33 29 := ⟨7, by decide +kernel, by decide, rfl⟩
theorem dX1_itemFailure_29 : dKc cX1_itemFailure 29 1 30 := Or.inl ⟨1, by decide +kernel, by decide +kernel, rfl⟩
theorem dX1_itemFailure_30 : dj cX1_itemFailure 30 .goto 34 33 := ⟨4, by decide +kernel, by decide, rfl⟩
theorem dX1_itemFailure_33 : dKc cX1_itemFailure 33 0 34 := Or.inl ⟨0, by decide +kernel, by decide +kernel, rfl⟩
theorem dX1_itemFailure_34 : dc cX1_itemFailure 34 (.invokestatic 31) 3 37 := ⟨by decide +kernel, rfl⟩
theorem dX1_itemFailure_37 : dj cX1_itemFailure 37 .goto 41 40 := ⟨4, by decide +kernel, by decide, rfl⟩
theorem dX1_itemFailure_40 : dKc cX1_itemFailure 40 4 41 := Or.inl ⟨4, by decide +kernel, by decide +kernel, rfl⟩
theorem dX1_itemFailure_41 : dc cX1_itemFailure 41 .ireturn 1 42 := ⟨by decide +kernel, rfl⟩
theorem dX1_itemFailure_42 : dKc cX1_itemFailure 42 3 43 := Or.inl ⟨3, by decide +kernel, by decide +kernel, rfl⟩
theorem dX1_itemFailure_43 : dc cX1_itemFailure 43 .ireturn 1 44 := ⟨by decide +kernel, rfl⟩
theorem dX1_lengthFailure_0 : dAl cX1_lengthFailure 0 0 1 := Or.inl ⟨0, rfl, by decide +kernel, rfl⟩
theorem dX1_lengthFailure_1 : dc cX1_lengthFailure 1 (.instanceof 56) 3 4 := ⟨by decide +kernel, rfl⟩
theorem dX1_lengthFailure_4 : dj cX1_lengthFailure 4 (.ifCond .eq) 32 7 := ⟨28, by decide +kernel, by decide, rfl⟩
theorem dX1_lengthFailure_7 : dAl cX1_lengthFailure 7 0 8 := Or.inl ⟨0, rfl, by decide +kernel, rfl⟩
theorem dX1_lengthFailure_8 : dc cX1_lengthFailure 8 (.checkcast 56) 3 11 := ⟨by decide +kernel, rfl⟩
theorem dX1_lengthFailure_11 : dAs cX1_lengthFailure 11 2 12 := Or.inl ⟨2, rfl, by decide +kernel, rfl⟩
theorem dX1_lengthFailure_12 : dAl cX1_lengthFailure 12 2 13 := Or.inl ⟨2, rfl, by decide +kernel, rfl⟩
theorem dX1_lengthFailure_13 : dc cX1_lengthFailure 13 (.getfield 59) 3 16 := ⟨by decide +kernel, rfl⟩
theorem dX1_lengthFailure_16 : dc cX1_lengthFailure 16 .arraylength 1 17 := ⟨by decide +kernel, rfl⟩
theorem dX1_lengthFailure_17 : dIl cX1_lengthFailure 17 1 18 := Or.inl ⟨1, rfl, by decide +kernel, rfl⟩
theorem dX1_lengthFailure_18 : dj cX1_lengthFailure 18 (.if_icmp .lt) 25 21 := ⟨7, by decide +kernel, by decide, rfl⟩
theorem dX1_lengthFailure_21 : dKc cX1_lengthFailure 21 1 22 := Or.inl ⟨1, by decide +kernel, by decide +kernel, rfl⟩
theorem dX1_lengthFailure_22 : dj cX1_lengthFailure 22 .goto 26 25 := ⟨4, by decide +kernel, by decide, rfl⟩
theorem dX1_lengthFailure_25 : dKc cX1_lengthFailure 25 0 26 := Or.inl ⟨0, by decide +kernel, by decide +kernel, rfl⟩
theorem dX1_lengthFailure_26 : dc cX1_lengthFailure 26 (.invokestatic 31) 3 29 := ⟨by decide +kernel, rfl⟩
theorem dX1_lengthFailure_29 : dj cX1_lengthFailure 29 .goto 33 32 := ⟨4, by decide +kernel, by decide, rfl⟩
theorem dX1_lengthFailure_32 : dKc cX1_lengthFailure 32 3 33 := Or.inl ⟨3, by decide +kernel, by decide +kernel, rfl⟩
theorem dX1_lengthFailure_33 : dc cX1_lengthFailure 33 .ireturn 1 34 := ⟨by decide +kernel, rfl⟩
theorem dX1_orderFailure_0 : dAl cX1_orderFailure 0 0 1 := Or.inl ⟨0, rfl, by decide +kernel, rfl⟩
theorem dX1_orderFailure_1 : dc cX1_orderFailure 1 (.instanceof 62) 3 4 := ⟨by decide +kernel, rfl⟩
theorem dX1_orderFailure_4 : dj cX1_orderFailure 4 (.ifCond .eq) 34 7 := ⟨30, by decide +kernel, by decide, rfl⟩
theorem dX1_orderFailure_7 : dAl cX1_orderFailure 7 0 8 := Or.inl ⟨0, rfl, by decide +kernel, rfl⟩
theorem dX1_orderFailure_8 : dc cX1_orderFailure 8 (.checkcast 62) 3 11 := ⟨by decide +kernel, rfl⟩
theorem dX1_orderFailure_11 : dAs cX1_orderFailure 11 2 12 := Or.inl ⟨2, rfl, by decide +kernel, rfl⟩
theorem dX1_orderFailure_12 : dAl cX1_orderFailure 12 2 13 := Or.inl ⟨2, rfl, by decide +kernel, rfl⟩
theorem dX1_orderFailure_13 : dc cX1_orderFailure 13 (.getfield 64) 3 16 := ⟨by decide +kernel, rfl⟩
theorem dX1_orderFailure_16 : dc cX1_orderFailure 16 (.getfield 68) 3 19 := ⟨by decide +kernel, rfl⟩
theorem dX1_orderFailure_19 : dIl cX1_orderFailure 19 1 20 := Or.inl ⟨1, rfl, by decide +kernel, rfl⟩
theorem dX1_orderFailure_20 : dj cX1_orderFailure 20 (.if_icmp .ge) 27 23 := ⟨7, by decide +kernel, by decide, rfl⟩
theorem dX1_orderFailure_23 : dKc cX1_orderFailure 23 1 24 := Or.inl ⟨1, by decide +kernel, by decide +kernel, rfl⟩
theorem dX1_orderFailure_24 : dj cX1_orderFailure 24 .goto 28 27 := ⟨4, by decide +kernel, by decide, rfl⟩
theorem dX1_orderFailure_27 : dKc cX1_orderFailure 27 0 28 := Or.inl ⟨0, by decide +kernel, by decide +kernel, rfl⟩
theorem dX1_orderFailure_28 : dc cX1_orderFailure 28 (.invokestatic 31) 3 31 := ⟨by decide +kernel, rfl⟩
theorem dX1_orderFailure_31 : dj cX1_orderFailure 31 .goto 35 34 := ⟨4, by decide +kernel, by decide, rfl⟩
theorem dX1_orderFailure_34 : dKc cX1_orderFailure 34 3 35 := Or.inl ⟨3, by decide +kernel, by decide +kernel, rfl⟩
theorem dX1_orderFailure_35 : dc cX1_orderFailure 35 .ireturn 1 36 := ⟨by decide +kernel, rfl⟩
theorem dX1_firstFailure_0 : dAl cX1_firstFailure 0 0 1 := Or.inl ⟨0, rfl, by decide +kernel, rfl⟩
theorem dX1_firstFailure_1 : dc cX1_firstFailure 1 (.instanceof 22) 3 4 := ⟨by decide +kernel, rfl⟩
theorem dX1_firstFailure_4 : dj cX1_firstFailure 4 (.ifCond .eq) 53 7 := ⟨49, by decide +kernel, by decide, rfl⟩
theorem dX1_firstFailure_7 : dAl cX1_firstFailure 7 0 8 := Or.inl ⟨0, rfl, by decide +kernel, rfl⟩
theorem dX1_firstFailure_8 : dc cX1_firstFailure 8 (.checkcast 22) 3 11 := ⟨by decide +kernel, rfl⟩
theorem dX1_firstFailure_11 : dAs cX1_firstFailure 11 2 12 := Or.inl ⟨2, rfl, by decide +kernel, rfl⟩
theorem dX1_firstFailure_12 : dAl cX1_firstFailure 12 2 13 := Or.inl ⟨2, rfl, by decide +kernel, rfl⟩
theorem dX1_firstFailure_13 : dKc cX1_firstFailure 13 0 14 := Or.inl ⟨0, by decide +kernel, by decide +kernel, rfl⟩
theorem dX1_firstFailure_14 : dc cX1_firstFailure 14 (.invokevirtual 21) 3 17 := ⟨by decide +kernel, rfl⟩
theorem dX1_firstFailure_17 : dj cX1_firstFailure 17 (.ifCond .ne) 22 20 := ⟨5, by decide +kernel, by decide, rfl⟩
theorem dX1_firstFailure_20 : dKc cX1_firstFailure 20 4 21 := Or.inl ⟨4, by decide +kernel, by decide +kernel, rfl⟩
theorem dX1_firstFailure_21 : dc cX1_firstFailure 21 .ireturn 1 22 := ⟨by decide +kernel, rfl⟩
theorem dX1_firstFailure_22 : dAl cX1_firstFailure 22 2 23 := Or.inl ⟨2, rfl, by decide +kernel, rfl⟩
theorem dX1_firstFailure_23 : dKc cX1_firstFailure 23 0 24 := Or.inl ⟨0, by decide +kernel, by decide +kernel, rfl⟩
theorem dX1_firstFailure_24 : dc cX1_firstFailure 24 (.invokevirtual 73) 3 27 := ⟨by decide +kernel, rfl⟩
theorem dX1_firstFailure_27 : dj cX1_firstFailure 27 (.ifCond .eq) 51 30 := ⟨24, by decide +kernel, by decide, rfl⟩
theorem dX1_firstFailure_30 : dAl cX1_firstFailure 30 2 31 := Or.inl ⟨2, rfl, by decide +kernel, rfl⟩
theorem dX1_firstFailure_31 : dc cX1_firstFailure 31 (.getfield 27) 3 34 := ⟨by decide +kernel, rfl⟩
theorem dX1_firstFailure_34 : dKc cX1_firstFailure 34 0 35 := Or.inl ⟨0, by decide +kernel, by decide +kernel, rfl⟩
theorem dX1_firstFailure_35 : dc cX1_firstFailure 35 .iaload 1 36 := ⟨by decide +kernel, rfl⟩
theorem dX1_firstFailure_36 : dIl cX1_firstFailure 36 1 37 := Or.inl ⟨1, rfl, by decide +kernel, rfl⟩
theorem dX1_firstFailure_37 : dj cX1_firstFailure 37 (.if_icmp .ne) 44 40 := ⟨7, by decide +kernel, by decide, rfl⟩
theorem dX1_firstFailure_40 : dKc cX1_firstFailure 40 1 41 := Or.inl ⟨1, by decide +kernel, by decide +kernel, rfl⟩
theorem dX1_firstFailure_41 : dj cX1_firstFailure 41 .goto 45 44 := ⟨4, by decide +kernel, by decide, rfl⟩
theorem dX1_firstFailure_44 : dKc cX1_firstFailure 44 0 45 := Or.inl ⟨0, by decide +kernel, by decide +kernel, rfl⟩
theorem dX1_firstFailure_45 : dc cX1_firstFailure 45 (.invokestatic 31) 3 48 := ⟨by decide +kernel, rfl⟩
theorem dX1_firstFailure_48 : dj cX1_firstFailure 48 .goto 52 51 := ⟨4, by decide +kernel, by decide, rfl⟩
theorem dX1_firstFailure_51 : dKc cX1_firstFailure 51 1 52 := Or.inl ⟨1, by decide +kernel, by decide +kernel, rfl⟩
theorem dX1_firstFailure_52 : dc cX1_firstFailure 52 .ireturn 1 53 := ⟨by decide +kernel, rfl⟩
theorem dX1_firstFailure_53 : dKc cX1_firstFailure 53 3 54 := Or.inl ⟨3, by decide +kernel, by decide +kernel, rfl⟩
theorem dX1_firstFailure_54 : dc cX1_firstFailure 54 .ireturn 1 55 := ⟨by decide +kernel, rfl⟩
theorem dX2_init_0 : dAl cX2_init 0 0 1 := Or.inl ⟨0, rfl, by decide +kernel, rfl⟩
theorem dX2_init_1 : dc cX2_init 1 (.invokespecial 1) 3 4 := ⟨by decide +kernel, rfl⟩
theorem dX2_init_4 : dAl cX2_init 4 0 5 := Or.inl ⟨0, rfl, by decide +kernel, rfl⟩
theorem dX2_init_5 : dKc cX2_init 5 0 6 := Or.inl ⟨0, by decide +kernel, by decide +kernel, rfl⟩
theorem dX2_init_6 : dc cX2_init 6 (.putfield 7) 3 9 := ⟨by decide +kernel, rfl⟩
theorem dX2_init_9 : dAl cX2_init 9 0 10 := Or.inl ⟨0, rfl, by decide +kernel, rfl⟩
theorem dX2_init_10 : dKc cX2_init 10 0 11 := Or.inl ⟨0, by decide +kernel, by decide +kernel, rfl⟩
theorem dX2_init_11 : dc cX2_init 11 (.putfield 13) 3 14 := ⟨by decide +kernel, rfl⟩
theorem dX2_init_14 : dAl cX2_init 14 0 15 := Or.inl ⟨0, rfl, by decide +kernel, rfl⟩
theorem dX2_init_15 : dAl cX2_init 15 1 16 := Or.inl ⟨1, rfl, by decide +kernel, rfl⟩
theorem dX2_init_16 : dc cX2_init 16 (.putfield 16) 3 19 := ⟨by decide +kernel, rfl⟩
theorem dX2_init_19 : dc cX2_init 19 .return_ 1 20 := ⟨by decide +kernel, rfl⟩
theorem dX3_init_0 : dAl cX3_init 0 0 1 := Or.inl ⟨0, rfl, by decide +kernel, rfl⟩
theorem dX3_init_1 : dc cX3_init 1 (.invokespecial 1) 3 4 := ⟨by decide +kernel, rfl⟩
theorem dX3_init_4 : dAl cX3_init 4 0 5 := Or.inl ⟨0, rfl, by decide +kernel, rfl⟩
theorem dX3_init_5 : dIl cX3_init 5 1 6 := Or.inl ⟨1, rfl, by decide +kernel, rfl⟩
theorem dX3_init_6 : dc cX3_init 6 (.putfield 7) 3 9 := ⟨by decide +kernel, rfl⟩
theorem dX3_init_9 : dAl cX3_init 9 0 10 := Or.inl ⟨0, rfl, by decide +kernel, rfl⟩
theorem dX3_init_10 : dIl cX3_init 10 2 11 := Or.inl ⟨2, rfl, by decide +kernel, rfl⟩
theorem dX3_init_11 : dc cX3_init 11 (.putfield 13) 3 14 := ⟨by decide +kernel, rfl⟩
theorem dX3_init_14 : dAl cX3_init 14 0 15 := Or.inl ⟨0, rfl, by decide +kernel, rfl⟩
theorem dX3_init_15 : dLl cX3_init 15 3 16 := ⟨3, rfl, by decide +kernel, rfl⟩
theorem dX3_init_16 : dc cX3_init 16 (.putfield 16) 3 19 := ⟨by decide +kernel, rfl⟩
theorem dX3_init_19 : dAl cX3_init 19 0 20 := Or.inl ⟨0, rfl, by decide +kernel, rfl⟩
theorem dX3_init_20 : dIl cX3_init 20 5 22 := Or.inr ⟨by decide +kernel, rfl⟩
theorem dX3_init_22 : dc cX3_init 22 (.putfield 20) 3 25 := ⟨by decide +kernel, rfl⟩
theorem dX3_init_25 : dc cX3_init 25 .return_ 1 26 := ⟨by decide +kernel, rfl⟩
theorem dX4_init_0 : dAl cX4_init 0 0 1 := Or.inl ⟨0, rfl, by decide +kernel, rfl⟩
theorem dX4_init_1 : dAl cX4_init 1 1 2 := Or.inl ⟨1, rfl, by decide +kernel, rfl⟩
theorem dX4_init_2 : dc cX4_init 2 (.invokespecial 3) 3 5 := ⟨by decide +kernel, rfl⟩
theorem dX4_init_5 : dc cX4_init 5 .return_ 1 6 := ⟨by decide +kernel, rfl⟩
theorem dX4_familyNumber_0 : dKc cX4_familyNumber 0 3 1 := Or.inl ⟨3, by decide +kernel, by decide +kernel, rfl⟩
theorem dX4_familyNumber_1 : dc cX4_familyNumber 1 .ireturn 1 2 := ⟨by decide +kernel, rfl⟩
theorem dX4_bodyNumber_0 : dKc cX4_bodyNumber 0 2 1 := Or.inl ⟨2, by decide +kernel, by decide +kernel, rfl⟩
theorem dX4_bodyNumber_1 : dc cX4_bodyNumber 1 .ireturn 1 2 := ⟨by decide +kernel, rfl⟩
theorem dX4_worthFor_0 : dAl cX4_worthFor 0 0 1 := Or.inl ⟨0, rfl, by decide +kernel, rfl⟩
theorem dX4_worthFor_1 : dIl cX4_worthFor 1 1 2 := Or.inl ⟨1, rfl, by decide +kernel, rfl⟩
theorem dX4_worthFor_2 : dc cX4_worthFor 2 (.invokespecial 9) 3 5 := ⟨by decide +kernel, rfl⟩
theorem dX4_worthFor_5 : dKc cX4_worthFor 5 3 6 := Or.inl ⟨3, by decide +kernel, by decide +kernel, rfl⟩
theorem dX4_worthFor_6 : dc cX4_worthFor 6 .isub 1 7 := ⟨by decide +kernel, rfl⟩
theorem dX4_worthFor_7 : dc cX4_worthFor 7 .ireturn 1 8 := ⟨by decide +kernel, rfl⟩
theorem dX5_init_0 : dAl cX5_init 0 0 1 := Or.inl ⟨0, rfl, by decide +kernel, rfl⟩
theorem dX5_init_1 : dc cX5_init 1 (.invokespecial 3) 3 4 := ⟨by decide +kernel, rfl⟩
theorem dX5_init_4 : dAl cX5_init 4 0 5 := Or.inl ⟨0, rfl, by decide +kernel, rfl⟩
theorem dX5_init_5 : dAl cX5_init 5 1 6 := Or.inl ⟨1, rfl, by decide +kernel, rfl⟩
theorem dX5_init_6 : dc cX5_init 6 (.putfield 9) 3 9 := ⟨by decide +kernel, rfl⟩
theorem dX5_init_9 : dAl cX5_init 9 0 10 := Or.inl ⟨0, rfl, by decide +kernel, rfl⟩
theorem dX5_init_10 : dAl cX5_init 10 1 11 := Or.inl ⟨1, rfl, by decide +kernel, rfl⟩
theorem dX5_init_11 : dc cX5_init 11 (.getfield 15) 3 14 := ⟨by decide +kernel, rfl⟩
theorem dX5_init_14 : dc cX5_init 14 (.putfield 21) 3 17 := ⟨by decide +kernel, rfl⟩
theorem dX5_init_17 : dAl cX5_init 17 0 18 := Or.inl ⟨0, rfl, by decide +kernel, rfl⟩
theorem dX5_init_18 : dAl cX5_init 18 0 19 := Or.inl ⟨0, rfl, by decide +kernel, rfl⟩
theorem dX5_init_19 : dc cX5_init 19 (.getfield 21) 3 22 := ⟨by decide +kernel, rfl⟩
theorem dX5_init_22 : dc cX5_init 22 (.newarray .int) 2 24 := ⟨by decide +kernel, rfl⟩
theorem dX5_init_24 : dc cX5_init 24 (.putfield 24) 3 27 := ⟨by decide +kernel, rfl⟩
theorem dX5_init_27 : dAl cX5_init 27 0 28 := Or.inl ⟨0, rfl, by decide +kernel, rfl⟩
theorem dX5_init_28 : dAl cX5_init 28 0 29 := Or.inl ⟨0, rfl, by decide +kernel, rfl⟩
theorem dX5_init_29 : dc cX5_init 29 (.getfield 21) 3 32 := ⟨by decide +kernel, rfl⟩
theorem dX5_init_32 : dc cX5_init 32 (.anewarray 4) 3 35 := ⟨by decide +kernel, rfl⟩
theorem dX5_init_35 : dc cX5_init 35 (.putfield 28) 3 38 := ⟨by decide +kernel, rfl⟩
theorem dX5_init_38 : dc cX5_init 38 .return_ 1 39 := ⟨by decide +kernel, rfl⟩
theorem dX5_has_0 : dIl cX5_has 0 1 1 := Or.inl ⟨1, rfl, by decide +kernel, rfl⟩
theorem dX5_has_1 : dKc cX5_has 1 0 2 := Or.inl ⟨0, by decide +kernel, by decide +kernel, rfl⟩
theorem dX5_has_2 : dAl cX5_has 2 0 3 := Or.inl ⟨0, rfl, by decide +kernel, rfl⟩
theorem dX5_has_3 : dc cX5_has 3 (.getfield 21) 3 6 := ⟨by decide +kernel, rfl⟩
theorem dX5_has_6 : dKc cX5_has 6 1 7 := Or.inl ⟨1, by decide +kernel, by decide +kernel, rfl⟩
theorem dX5_has_7 : dc cX5_has 7 .isub 1 8 := ⟨by decide +kernel, rfl⟩
theorem dX5_has_8 : dc cX5_has 8 (.invokestatic 32) 3 11 := ⟨by decide +kernel, rfl⟩
theorem dX5_has_11 : dc cX5_has 11 .ireturn 1 12 := ⟨by decide +kernel, rfl⟩
theorem dX5_isNumber_0 : dAl cX5_isNumber 0 0 1 := Or.inl ⟨0, rfl, by decide +kernel, rfl⟩
theorem dX5_isNumber_1 : dIl cX5_isNumber 1 1 2 := Or.inl ⟨1, rfl, by decide +kernel, rfl⟩
theorem dX5_isNumber_2 : dc cX5_isNumber 2 (.invokevirtual 36) 3 5 := ⟨by decide +kernel, rfl⟩
theorem dX5_isNumber_5 : dj cX5_isNumber 5 (.ifCond .eq) 24 8 := ⟨19, by decide +kernel, by decide, rfl⟩
theorem dX5_isNumber_8 : dAl cX5_isNumber 8 0 9 := Or.inl ⟨0, rfl, by decide +kernel, rfl⟩
theorem dX5_isNumber_9 : dc cX5_isNumber 9 (.getfield 9) 3 12 := ⟨by decide +kernel, rfl⟩
theorem dX5_isNumber_12 : dc cX5_isNumber 12 (.getfield 40) 3 15 := ⟨by decide +kernel, rfl⟩
theorem dX5_isNumber_15 : dIl cX5_isNumber 15 1 16 := Or.inl ⟨1, rfl, by decide +kernel, rfl⟩
theorem dX5_isNumber_16 : dc cX5_isNumber 16 .iaload 1 17 := ⟨by decide +kernel, rfl⟩
theorem dX5_isNumber_17 : dj cX5_isNumber 17 (.ifCond .ne) 24 20 := ⟨7, by decide +kernel, by decide, rfl⟩
theorem dX5_isNumber_20 : dKc cX5_isNumber 20 1 21 := Or.inl ⟨1, by decide +kernel, by decide +kernel, rfl⟩
theorem dX5_isNumber_21 : dj cX5_isNumber 21 .goto 25 24 := ⟨4, by decide +kernel, by decide, rfl⟩
theorem dX5_isNumber_24 : dKc cX5_isNumber 24 0 25 := Or.inl ⟨0, by decide +kernel, by decide +kernel, rfl⟩
theorem dX5_isNumber_25 : dc cX5_isNumber 25 .ireturn 1 26 := ⟨by decide +kernel, rfl⟩
theorem dX5_familyNumber_0 : dKc cX5_familyNumber 0 5 1 := Or.inl ⟨5, by decide +kernel, by decide +kernel, rfl⟩
theorem dX5_familyNumber_1 : dc cX5_familyNumber 1 .ireturn 1 2 := ⟨by decide +kernel, rfl⟩
theorem dX6_init_0 : dAl cX6_init 0 0 1 := Or.inl ⟨0, rfl, by decide +kernel, rfl⟩
theorem dX6_init_1 : dAl cX6_init 1 1 2 := Or.inl ⟨1, rfl, by decide +kernel, rfl⟩
theorem dX6_init_2 : dc cX6_init 2 (.invokespecial 3) 3 5 := ⟨by decide +kernel, rfl⟩
theorem dX6_init_5 : dc cX6_init 5 .return_ 1 6 := ⟨by decide +kernel, rfl⟩
theorem dX6_familyNumber_0 : dKc cX6_familyNumber 0 1 1 := Or.inl ⟨1, by decide +kernel, by decide +kernel, rfl⟩
theorem dX6_familyNumber_1 : dc cX6_familyNumber 1 .ireturn 1 2 := ⟨by decide +kernel, rfl⟩
theorem dX6_bodyNumber_0 : dKc cX6_bodyNumber 0 0 1 := Or.inl ⟨0, by decide +kernel, by decide +kernel, rfl⟩
theorem dX6_bodyNumber_1 : dc cX6_bodyNumber 1 .ireturn 1 2 := ⟨by decide +kernel, rfl⟩
theorem dX6_worthFor_0 : dIl cX6_worthFor 0 1 1 := Or.inl ⟨1, rfl, by decide +kernel, rfl⟩
theorem dX6_worthFor_1 : dAl cX6_worthFor 1 0 2 := Or.inl ⟨0, rfl, by decide +kernel, rfl⟩
theorem dX6_worthFor_2 : dc cX6_worthFor 2 (.getfield 9) 3 5 := ⟨by decide +kernel, rfl⟩
theorem dX6_worthFor_5 : dc cX6_worthFor 5 (.getfield 15) 3 8 := ⟨by decide +kernel, rfl⟩
theorem dX6_worthFor_8 : dc cX6_worthFor 8 .iadd 1 9 := ⟨by decide +kernel, rfl⟩
theorem dX6_worthFor_9 : dc cX6_worthFor 9 .ireturn 1 10 := ⟨by decide +kernel, rfl⟩
theorem dX7_init_0 : dAl cX7_init 0 0 1 := Or.inl ⟨0, rfl, by decide +kernel, rfl⟩
theorem dX7_init_1 : dc cX7_init 1 (.invokespecial 3) 3 4 := ⟨by decide +kernel, rfl⟩
theorem dX7_init_4 : dAl cX7_init 4 0 5 := Or.inl ⟨0, rfl, by decide +kernel, rfl⟩
theorem dX7_init_5 : dIl cX7_init 5 1 6 := Or.inl ⟨1, rfl, by decide +kernel, rfl⟩
theorem dX7_init_6 : dKc cX7_init 6 0 7 := Or.inl ⟨0, by decide +kernel, by decide +kernel, rfl⟩
theorem dX7_init_7 : dKc cX7_init 7 12 9 := Or.inr (Or.inl ⟨12, by decide +kernel, by decide +kernel, rfl⟩)
theorem dX7_init_9 : dc cX7_init 9 (.invokestatic 9) 3 12 := ⟨by decide +kernel, rfl⟩
theorem dX7_init_12 : dj cX7_init 12 (.ifCond .eq) 19 15 := ⟨7, by decide +kernel, by decide, rfl⟩
theorem dX7_init_15 : dIl cX7_init 15 1 16 := Or.inl ⟨1, rfl, by decide +kernel, rfl⟩
theorem dX7_init_16 : dj cX7_init 16 .goto 20 19 := ⟨4, by decide +kernel, by decide, rfl⟩
theorem dX7_init_19 : dKc cX7_init 19 0 20 := Or.inl ⟨0, by decide +kernel, by decide +kernel, rfl⟩
theorem dX7_init_20 : dc cX7_init 20 (.newarray .int) 2 22 := ⟨by decide +kernel, rfl⟩
theorem dX7_init_22 : dc cX7_init 22 (.putfield 13) 3 25 := ⟨by decide +kernel, rfl⟩
theorem dX7_init_25 : dc cX7_init 25 .return_ 1 26 := ⟨by decide +kernel, rfl⟩
theorem dX7_has_0 : dIl cX7_has 0 1 1 := Or.inl ⟨1, rfl, by decide +kernel, rfl⟩
theorem dX7_has_1 : dKc cX7_has 1 0 2 := Or.inl ⟨0, by decide +kernel, by decide +kernel, rfl⟩
theorem dX7_has_2 : dAl cX7_has 2 0 3 := Or.inl ⟨0, rfl, by decide +kernel, rfl⟩
theorem dX7_has_3 : dc cX7_has 3 (.getfield 13) 3 6 := ⟨by decide +kernel, rfl⟩
theorem dX7_has_6 : dc cX7_has 6 .arraylength 1 7 := ⟨by decide +kernel, rfl⟩
theorem dX7_has_7 : dKc cX7_has 7 1 8 := Or.inl ⟨1, by decide +kernel, by decide +kernel, rfl⟩
theorem dX7_has_8 : dc cX7_has 8 .isub 1 9 := ⟨by decide +kernel, rfl⟩
theorem dX7_has_9 : dc cX7_has 9 (.invokestatic 9) 3 12 := ⟨by decide +kernel, rfl⟩
theorem dX7_has_12 : dc cX7_has 12 .ireturn 1 13 := ⟨by decide +kernel, rfl⟩
theorem dX7_familyNumber_0 : dKc cX7_familyNumber 0 4 1 := Or.inl ⟨4, by decide +kernel, by decide +kernel, rfl⟩
theorem dX7_familyNumber_1 : dc cX7_familyNumber 1 .ireturn 1 2 := ⟨by decide +kernel, rfl⟩
theorem dX8_init_0 : dAl cX8_init 0 0 1 := Or.inl ⟨0, rfl, by decide +kernel, rfl⟩
theorem dX8_init_1 : dc cX8_init 1 (.invokespecial 3) 3 4 := ⟨by decide +kernel, rfl⟩
theorem dX8_init_4 : dAl cX8_init 4 0 5 := Or.inl ⟨0, rfl, by decide +kernel, rfl⟩
theorem dX8_init_5 : dKc cX8_init 5 5 6 := Or.inl ⟨5, by decide +kernel, by decide +kernel, rfl⟩
theorem dX8_init_6 : dc cX8_init 6 (.newarray .int) 2 8 := ⟨by decide +kernel, rfl⟩
theorem dX8_init_8 : dc cX8_init 8 (.putfield 9) 3 11 := ⟨by decide +kernel, rfl⟩
theorem dX8_init_11 : dAl cX8_init 11 0 12 := Or.inl ⟨0, rfl, by decide +kernel, rfl⟩
theorem dX8_init_12 : dKc cX8_init 12 5 13 := Or.inl ⟨5, by decide +kernel, by decide +kernel, rfl⟩
theorem dX8_init_13 : dc cX8_init 13 (.newarray .int) 2 15 := ⟨by decide +kernel, rfl⟩
theorem dX8_init_15 : dc cX8_init 15 (.putfield 15) 3 18 := ⟨by decide +kernel, rfl⟩
theorem dX8_init_18 : dAl cX8_init 18 0 19 := Or.inl ⟨0, rfl, by decide +kernel, rfl⟩
theorem dX8_init_19 : dKc cX8_init 19 0 20 := Or.inl ⟨0, by decide +kernel, by decide +kernel, rfl⟩
theorem dX8_init_20 : dc cX8_init 20 (.putfield 18) 3 23 := ⟨by decide +kernel, rfl⟩
theorem dX8_init_23 : dAl cX8_init 23 0 24 := Or.inl ⟨0, rfl, by decide +kernel, rfl⟩
theorem dX8_init_24 : dKc cX8_init 24 4 25 := Or.inl ⟨4, by decide +kernel, by decide +kernel, rfl⟩
theorem dX8_init_25 : dc cX8_init 25 (.anewarray 22) 3 28 := ⟨by decide +kernel, rfl⟩
theorem dX8_init_28 : dc cX8_init 28 (.putfield 24) 3 31 := ⟨by decide +kernel, rfl⟩
theorem dX8_init_31 : dAl cX8_init 31 0 32 := Or.inl ⟨0, rfl, by decide +kernel, rfl⟩
theorem dX8_init_32 : dKc cX8_init 32 0 33 := Or.inl ⟨0, by decide +kernel, by decide +kernel, rfl⟩
theorem dX8_init_33 : dc cX8_init 33 (.putfield 28) 3 36 := ⟨by decide +kernel, rfl⟩
theorem dX8_init_36 : dAl cX8_init 36 0 37 := Or.inl ⟨0, rfl, by decide +kernel, rfl⟩
theorem dX8_init_37 : dIl cX8_init 37 1 38 := Or.inl ⟨1, rfl, by decide +kernel, rfl⟩
theorem dX8_init_38 : dc cX8_init 38 (.putfield 31) 3 41 := ⟨by decide +kernel, rfl⟩
theorem dX8_init_41 : dc cX8_init 41 .return_ 1 42 := ⟨by decide +kernel, rfl⟩
theorem dX8_hasPart_0 : dIl cX8_hasPart 0 1 1 := Or.inl ⟨1, rfl, by decide +kernel, rfl⟩
theorem dX8_hasPart_1 : dKc cX8_hasPart 1 0 2 := Or.inl ⟨0, by decide +kernel, by decide +kernel, rfl⟩
theorem dX8_hasPart_2 : dAl cX8_hasPart 2 0 3 := Or.inl ⟨0, rfl, by decide +kernel, rfl⟩
theorem dX8_hasPart_3 : dc cX8_hasPart 3 (.getfield 18) 3 6 := ⟨by decide +kernel, rfl⟩
theorem dX8_hasPart_6 : dKc cX8_hasPart 6 1 7 := Or.inl ⟨1, by decide +kernel, by decide +kernel, rfl⟩
theorem dX8_hasPart_7 : dc cX8_hasPart 7 .isub 1 8 := ⟨by decide +kernel, rfl⟩
theorem dX8_hasPart_8 : dc cX8_hasPart 8 (.invokestatic 34) 3 11 := ⟨by decide +kernel, rfl⟩
theorem dX8_hasPart_11 : dc cX8_hasPart 11 .ireturn 1 12 := ⟨by decide +kernel, rfl⟩
theorem dX8_addPart_0 : dAl cX8_addPart 0 0 1 := Or.inl ⟨0, rfl, by decide +kernel, rfl⟩
theorem dX8_addPart_1 : dc cX8_addPart 1 (.getfield 18) 3 4 := ⟨by decide +kernel, rfl⟩
theorem dX8_addPart_4 : dKc cX8_addPart 4 5 5 := Or.inl ⟨5, by decide +kernel, by decide +kernel, rfl⟩
theorem dX8_addPart_5 : dj cX8_addPart 5 (.if_icmp .lt) 11 8 := ⟨6, by decide +kernel, by decide, rfl⟩
theorem dX8_addPart_8 : dKc cX8_addPart 8 (-2) 10 := Or.inr (Or.inl ⟨(-2), by decide +kernel, by decide +kernel, rfl⟩)
theorem dX8_addPart_10 : dc cX8_addPart 10 .ireturn 1 11 := ⟨by decide +kernel, rfl⟩
theorem dX8_addPart_11 : dAl cX8_addPart 11 0 12 := Or.inl ⟨0, rfl, by decide +kernel, rfl⟩
theorem dX8_addPart_12 : dc cX8_addPart 12 (.getfield 9) 3 15 := ⟨by decide +kernel, rfl⟩
theorem dX8_addPart_15 : dAl cX8_addPart 15 0 16 := Or.inl ⟨0, rfl, by decide +kernel, rfl⟩
theorem dX8_addPart_16 : dc cX8_addPart 16 (.getfield 18) 3 19 := ⟨by decide +kernel, rfl⟩
theorem dX8_addPart_19 : dIl cX8_addPart 19 1 20 := Or.inl ⟨1, rfl, by decide +kernel, rfl⟩
theorem dX8_addPart_20 : dc cX8_addPart 20 .iastore 1 21 := ⟨by decide +kernel, rfl⟩
theorem dX8_addPart_21 : dAl cX8_addPart 21 0 22 := Or.inl ⟨0, rfl, by decide +kernel, rfl⟩
theorem dX8_addPart_22 : dc cX8_addPart 22 (.getfield 15) 3 25 := ⟨by decide +kernel, rfl⟩
theorem dX8_addPart_25 : dAl cX8_addPart 25 0 26 := Or.inl ⟨0, rfl, by decide +kernel, rfl⟩
theorem dX8_addPart_26 : dc cX8_addPart 26 (.getfield 18) 3 29 := ⟨by decide +kernel, rfl⟩
theorem dX8_addPart_29 : dIl cX8_addPart 29 2 30 := Or.inl ⟨2, rfl, by decide +kernel, rfl⟩
theorem dX8_addPart_30 : dc cX8_addPart 30 .iastore 1 31 := ⟨by decide +kernel, rfl⟩
theorem dX8_addPart_31 : dAl cX8_addPart 31 0 32 := Or.inl ⟨0, rfl, by decide +kernel, rfl⟩
theorem dX8_addPart_32 : dc cX8_addPart 32 .dup 1 33 := ⟨by decide +kernel, rfl⟩
theorem dX8_addPart_33 : dc cX8_addPart 33 (.getfield 18) 3 36 := ⟨by decide +kernel, rfl⟩
theorem dX8_addPart_36 : dKc cX8_addPart 36 1 37 := Or.inl ⟨1, by decide +kernel, by decide +kernel, rfl⟩
theorem dX8_addPart_37 : dc cX8_addPart 37 .iadd 1 38 := ⟨by decide +kernel, rfl⟩
theorem dX8_addPart_38 : dc cX8_addPart 38 (.putfield 18) 3 41 := ⟨by decide +kernel, rfl⟩
theorem dX8_addPart_41 : dAl cX8_addPart 41 0 42 := Or.inl ⟨0, rfl, by decide +kernel, rfl⟩
theorem dX8_addPart_42 : dc cX8_addPart 42 (.getfield 18) 3 45 := ⟨by decide +kernel, rfl⟩
theorem dX8_addPart_45 : dKc cX8_addPart 45 1 46 := Or.inl ⟨1, by decide +kernel, by decide +kernel, rfl⟩
theorem dX8_addPart_46 : dc cX8_addPart 46 .isub 1 47 := ⟨by decide +kernel, rfl⟩
theorem dX8_addPart_47 : dc cX8_addPart 47 .ireturn 1 48 := ⟨by decide +kernel, rfl⟩
theorem dX8_addCheck_0 : dAl cX8_addCheck 0 0 1 := Or.inl ⟨0, rfl, by decide +kernel, rfl⟩
theorem dX8_addCheck_1 : dc cX8_addCheck 1 (.getfield 28) 3 4 := ⟨by decide +kernel, rfl⟩
theorem dX8_addCheck_4 : dKc cX8_addCheck 4 4 5 := Or.inl ⟨4, by decide +kernel, by decide +kernel, rfl⟩
theorem dX8_addCheck_5 : dj cX8_addCheck 5 (.if_icmp .lt) 11 8 := ⟨6, by decide +kernel, by decide, rfl⟩
theorem dX8_addCheck_8 : dKc cX8_addCheck 8 (-2) 10 := Or.inr (Or.inl ⟨(-2), by decide +kernel, by decide +kernel, rfl⟩)
theorem dX8_addCheck_10 : dc cX8_addCheck 10 .ireturn 1 11 := ⟨by decide +kernel, rfl⟩
theorem dX8_addCheck_11 : dAl cX8_addCheck 11 0 12 := Or.inl ⟨0, rfl, by decide +kernel, rfl⟩
theorem dX8_addCheck_12 : dc cX8_addCheck 12 (.getfield 24) 3 15 := ⟨by decide +kernel, rfl⟩
theorem dX8_addCheck_15 : dAl cX8_addCheck 15 0 16 := Or.inl ⟨0, rfl, by decide +kernel, rfl⟩
theorem dX8_addCheck_16 : dc cX8_addCheck 16 (.getfield 28) 3 19 := ⟨by decide +kernel, rfl⟩
theorem dX8_addCheck_19 : dc cX8_addCheck 19 (.new 22) 3 22 := ⟨by decide +kernel, rfl⟩
theorem dX8_addCheck_22 : dc cX8_addCheck 22 .dup 1 23 := ⟨by decide +kernel, rfl⟩
theorem dX8_addCheck_23 : dIl cX8_addCheck 23 1 24 := Or.inl ⟨1, rfl, by decide +kernel, rfl⟩
theorem dX8_addCheck_24 : dIl cX8_addCheck 24 2 25 := Or.inl ⟨2, rfl, by decide +kernel, rfl⟩
theorem dX8_addCheck_25 : dIl cX8_addCheck 25 3 26 := Or.inl ⟨3, rfl, by decide +kernel, rfl⟩
theorem dX8_addCheck_26 : dc cX8_addCheck 26 (.invokespecial 38) 3 29 := ⟨by decide +kernel, rfl⟩
theorem dX8_addCheck_29 : dc cX8_addCheck 29 .aastore 1 30 := ⟨by decide +kernel, rfl⟩
theorem dX8_addCheck_30 : dAl cX8_addCheck 30 0 31 := Or.inl ⟨0, rfl, by decide +kernel, rfl⟩
theorem dX8_addCheck_31 : dc cX8_addCheck 31 .dup 1 32 := ⟨by decide +kernel, rfl⟩
theorem dX8_addCheck_32 : dc cX8_addCheck 32 (.getfield 28) 3 35 := ⟨by decide +kernel, rfl⟩
theorem dX8_addCheck_35 : dKc cX8_addCheck 35 1 36 := Or.inl ⟨1, by decide +kernel, by decide +kernel, rfl⟩
theorem dX8_addCheck_36 : dc cX8_addCheck 36 .iadd 1 37 := ⟨by decide +kernel, rfl⟩
theorem dX8_addCheck_37 : dc cX8_addCheck 37 (.putfield 28) 3 40 := ⟨by decide +kernel, rfl⟩
theorem dX8_addCheck_40 : dAl cX8_addCheck 40 0 41 := Or.inl ⟨0, rfl, by decide +kernel, rfl⟩
theorem dX8_addCheck_41 : dc cX8_addCheck 41 (.getfield 28) 3 44 := ⟨by decide +kernel, rfl⟩
theorem dX8_addCheck_44 : dKc cX8_addCheck 44 1 45 := Or.inl ⟨1, by decide +kernel, by decide +kernel, rfl⟩
theorem dX8_addCheck_45 : dc cX8_addCheck 45 .isub 1 46 := ⟨by decide +kernel, rfl⟩
theorem dX8_addCheck_46 : dc cX8_addCheck 46 .ireturn 1 47 := ⟨by decide +kernel, rfl⟩
theorem dX9_init_0 : dAl cX9_init 0 0 1 := Or.inl ⟨0, rfl, by decide +kernel, rfl⟩
theorem dX9_init_1 : dc cX9_init 1 (.invokespecial 1) 3 4 := ⟨by decide +kernel, rfl⟩
theorem dX9_init_4 : dc cX9_init 4 .return_ 1 5 := ⟨by decide +kernel, rfl⟩
theorem dX10_init_0 : dAl cX10_init 0 0 1 := Or.inl ⟨0, rfl, by decide +kernel, rfl⟩
theorem dX10_init_1 : dAl cX10_init 1 1 2 := Or.inl ⟨1, rfl, by decide +kernel, rfl⟩
theorem dX10_init_2 : dc cX10_init 2 (.invokespecial 3) 3 5 := ⟨by decide +kernel, rfl⟩
theorem dX10_init_5 : dc cX10_init 5 .return_ 1 6 := ⟨by decide +kernel, rfl⟩
theorem dX10_familyNumber_0 : dKc cX10_familyNumber 0 2 1 := Or.inl ⟨2, by decide +kernel, by decide +kernel, rfl⟩
theorem dX10_familyNumber_1 : dc cX10_familyNumber 1 .ireturn 1 2 := ⟨by decide +kernel, rfl⟩
theorem dX10_bodyNumber_0 : dKc cX10_bodyNumber 0 1 1 := Or.inl ⟨1, by decide +kernel, by decide +kernel, rfl⟩
theorem dX10_bodyNumber_1 : dc cX10_bodyNumber 1 .ireturn 1 2 := ⟨by decide +kernel, rfl⟩
theorem dX10_worthFor_0 : dKc cX10_worthFor 0 2 1 := Or.inl ⟨2, by decide +kernel, by decide +kernel, rfl⟩
theorem dX10_worthFor_1 : dIl cX10_worthFor 1 1 2 := Or.inl ⟨1, rfl, by decide +kernel, rfl⟩
theorem dX10_worthFor_2 : dAl cX10_worthFor 2 0 3 := Or.inl ⟨0, rfl, by decide +kernel, rfl⟩
theorem dX10_worthFor_3 : dc cX10_worthFor 3 (.getfield 9) 3 6 := ⟨by decide +kernel, rfl⟩
theorem dX10_worthFor_6 : dc cX10_worthFor 6 (.getfield 15) 3 9 := ⟨by decide +kernel, rfl⟩
theorem dX10_worthFor_9 : dc cX10_worthFor 9 .iadd 1 10 := ⟨by decide +kernel, rfl⟩
theorem dX10_worthFor_10 : dc cX10_worthFor 10 .imul 1 11 := ⟨by decide +kernel, rfl⟩
theorem dX10_worthFor_11 : dc cX10_worthFor 11 .ireturn 1 12 := ⟨by decide +kernel, rfl⟩
theorem dX11_init_0 : dAl cX11_init 0 0 1 := Or.inl ⟨0, rfl, by decide +kernel, rfl⟩
theorem dX11_init_1 : dc cX11_init 1 (.invokespecial 1) 3 4 := ⟨by decide +kernel, rfl⟩
theorem dX11_init_4 : dAl cX11_init 4 0 5 := Or.inl ⟨0, rfl, by decide +kernel, rfl⟩
theorem dX11_init_5 : dKc cX11_init 5 60 7 := Or.inr (Or.inl ⟨60, by decide +kernel, by decide +kernel, rfl⟩)
theorem dX11_init_7 : dc cX11_init 7 (.anewarray 9) 3 10 := ⟨by decide +kernel, rfl⟩
theorem dX11_init_10 : dc cX11_init 10 (.putfield 11) 3 13 := ⟨by decide +kernel, rfl⟩
theorem dX11_init_13 : dAl cX11_init 13 0 14 := Or.inl ⟨0, rfl, by decide +kernel, rfl⟩
theorem dX11_init_14 : dKc cX11_init 14 0 15 := Or.inl ⟨0, by decide +kernel, by decide +kernel, rfl⟩
theorem dX11_init_15 : dc cX11_init 15 (.putfield 15) 3 18 := ⟨by decide +kernel, rfl⟩
theorem dX11_init_18 : dAl cX11_init 18 0 19 := Or.inl ⟨0, rfl, by decide +kernel, rfl⟩
theorem dX11_init_19 : dKc cX11_init 19 18 21 := Or.inr (Or.inl ⟨18, by decide +kernel, by decide +kernel, rfl⟩)
theorem dX11_init_21 : dc cX11_init 21 (.anewarray 19) 3 24 := ⟨by decide +kernel, rfl⟩
theorem dX11_init_24 : dc cX11_init 24 (.putfield 21) 3 27 := ⟨by decide +kernel, rfl⟩
theorem dX11_init_27 : dAl cX11_init 27 0 28 := Or.inl ⟨0, rfl, by decide +kernel, rfl⟩
theorem dX11_init_28 : dKc cX11_init 28 6 30 := Or.inr (Or.inl ⟨6, by decide +kernel, by decide +kernel, rfl⟩)
theorem dX11_init_30 : dc cX11_init 30 (.newarray .int) 2 32 := ⟨by decide +kernel, rfl⟩
theorem dX11_init_32 : dc cX11_init 32 (.putfield 25) 3 35 := ⟨by decide +kernel, rfl⟩
theorem dX11_init_35 : dAl cX11_init 35 0 36 := Or.inl ⟨0, rfl, by decide +kernel, rfl⟩
theorem dX11_init_36 : dKc cX11_init 36 0 37 := Or.inl ⟨0, by decide +kernel, by decide +kernel, rfl⟩
theorem dX11_init_37 : dc cX11_init 37 (.putfield 29) 3 40 := ⟨by decide +kernel, rfl⟩
theorem dX11_init_40 : dAl cX11_init 40 0 41 := Or.inl ⟨0, rfl, by decide +kernel, rfl⟩
theorem dX11_init_41 : dKc cX11_init 41 0 42 := Or.inl ⟨0, by decide +kernel, by decide +kernel, rfl⟩
theorem dX11_init_42 : dc cX11_init 42 (.putfield 32) 3 45 := ⟨by decide +kernel, rfl⟩
theorem dX11_init_45 : dAl cX11_init 45 0 46 := Or.inl ⟨0, rfl, by decide +kernel, rfl⟩
theorem dX11_init_46 : dKc cX11_init 46 10 48 := Or.inr (Or.inl ⟨10, by decide +kernel, by decide +kernel, rfl⟩)
theorem dX11_init_48 : dc cX11_init 48 (.anewarray 35) 3 51 := ⟨by decide +kernel, rfl⟩
theorem dX11_init_51 : dc cX11_init 51 (.putfield 37) 3 54 := ⟨by decide +kernel, rfl⟩
theorem dX11_init_54 : dAl cX11_init 54 0 55 := Or.inl ⟨0, rfl, by decide +kernel, rfl⟩
theorem dX11_init_55 : dKc cX11_init 55 6 57 := Or.inr (Or.inl ⟨6, by decide +kernel, by decide +kernel, rfl⟩)
theorem dX11_init_57 : dc cX11_init 57 (.anewarray 41) 3 60 := ⟨by decide +kernel, rfl⟩
theorem dX11_init_60 : dc cX11_init 60 (.putfield 43) 3 63 := ⟨by decide +kernel, rfl⟩
theorem dX11_init_63 : dAl cX11_init 63 0 64 := Or.inl ⟨0, rfl, by decide +kernel, rfl⟩
theorem dX11_init_64 : dKc cX11_init 64 5 65 := Or.inl ⟨5, by decide +kernel, by decide +kernel, rfl⟩
theorem dX11_init_65 : dc cX11_init 65 (.newarray .int) 2 67 := ⟨by decide +kernel, rfl⟩
theorem dX11_init_67 : dc cX11_init 67 (.putfield 47) 3 70 := ⟨by decide +kernel, rfl⟩
theorem dX11_init_70 : dAl cX11_init 70 0 71 := Or.inl ⟨0, rfl, by decide +kernel, rfl⟩
theorem dX11_init_71 : dKc cX11_init 71 5 72 := Or.inl ⟨5, by decide +kernel, by decide +kernel, rfl⟩
theorem dX11_init_72 : dc cX11_init 72 (.newarray .int) 2 74 := ⟨by decide +kernel, rfl⟩
theorem dX11_init_74 : dc cX11_init 74 (.putfield 50) 3 77 := ⟨by decide +kernel, rfl⟩
theorem dX11_init_77 : dAl cX11_init 77 0 78 := Or.inl ⟨0, rfl, by decide +kernel, rfl⟩
theorem dX11_init_78 : dKc cX11_init 78 0 79 := Or.inl ⟨0, by decide +kernel, by decide +kernel, rfl⟩
theorem dX11_init_79 : dc cX11_init 79 (.putfield 53) 3 82 := ⟨by decide +kernel, rfl⟩
theorem dX11_init_82 : dAl cX11_init 82 0 83 := Or.inl ⟨0, rfl, by decide +kernel, rfl⟩
theorem dX11_init_83 : dKc cX11_init 83 0 84 := Or.inl ⟨0, by decide +kernel, by decide +kernel, rfl⟩
theorem dX11_init_84 : dc cX11_init 84 (.putfield 56) 3 87 := ⟨by decide +kernel, rfl⟩
theorem dX11_init_87 : dAl cX11_init 87 0 88 := Or.inl ⟨0, rfl, by decide +kernel, rfl⟩
theorem dX11_init_88 : dKc cX11_init 88 (-3) 90 := Or.inr (Or.inl ⟨(-3), by decide +kernel, by decide +kernel, rfl⟩)
theorem dX11_init_90 : dc cX11_init 90 (.putfield 59) 3 93 := ⟨by decide +kernel, rfl⟩
theorem dX11_init_93 : dKc cX11_init 93 0 94 := Or.inl ⟨0, by decide +kernel, by decide +kernel, rfl⟩
theorem dX11_init_94 : dIs cX11_init 94 1 95 := Or.inl ⟨1, rfl, by decide +kernel, rfl⟩
theorem dX11_init_95 : dIl cX11_init 95 1 96 := Or.inl ⟨1, rfl, by decide +kernel, rfl⟩
theorem dX11_init_96 : dKc cX11_init 96 18 98 := Or.inr (Or.inl ⟨18, by decide +kernel, by decide +kernel, rfl⟩)
theorem dX11_init_98 : dj cX11_init 98 (.if_icmp .ge) 120 101 := ⟨22, by decide +kernel, by decide, rfl⟩
theorem dX11_init_101 : dAl cX11_init 101 0 102 := Or.inl ⟨0, rfl, by decide +kernel, rfl⟩
theorem dX11_init_102 : dc cX11_init 102 (.getfield 21) 3 105 := ⟨by decide +kernel, rfl⟩
theorem dX11_init_105 : dIl cX11_init 105 1 106 := Or.inl ⟨1, rfl, by decide +kernel, rfl⟩
theorem dX11_init_106 : dc cX11_init 106 (.new 19) 3 109 := ⟨by decide +kernel, rfl⟩
theorem dX11_init_109 : dc cX11_init 109 .dup 1 110 := ⟨by decide +kernel, rfl⟩
theorem dX11_init_110 : dc cX11_init 110 (.invokespecial 62) 3 113 := ⟨by decide +kernel, rfl⟩
theorem dX11_init_113 : dc cX11_init 113 .aastore 1 114 := ⟨by decide +kernel, rfl⟩
theorem dX11_init_114 : dc cX11_init 114 (.iinc 1 1) 3 117 := ⟨by decide +kernel, rfl⟩
theorem dX11_init_117 : dj cX11_init 117 .goto 95 120 := ⟨(-22), by decide +kernel, by decide, rfl⟩
theorem dX11_init_120 : dKc cX11_init 120 0 121 := Or.inl ⟨0, by decide +kernel, by decide +kernel, rfl⟩
theorem dX11_init_121 : dIs cX11_init 121 1 122 := Or.inl ⟨1, rfl, by decide +kernel, rfl⟩
theorem dX11_init_122 : dIl cX11_init 122 1 123 := Or.inl ⟨1, rfl, by decide +kernel, rfl⟩
theorem dX11_init_123 : dKc cX11_init 123 6 125 := Or.inr (Or.inl ⟨6, by decide +kernel, by decide +kernel, rfl⟩)
theorem dX11_init_125 : dj cX11_init 125 (.if_icmp .ge) 142 128 := ⟨17, by decide +kernel, by decide, rfl⟩
theorem dX11_init_128 : dAl cX11_init 128 0 129 := Or.inl ⟨0, rfl, by decide +kernel, rfl⟩
theorem dX11_init_129 : dc cX11_init 129 (.getfield 25) 3 132 := ⟨by decide +kernel, rfl⟩
theorem dX11_init_132 : dIl cX11_init 132 1 133 := Or.inl ⟨1, rfl, by decide +kernel, rfl⟩
theorem dX11_init_133 : dKc cX11_init 133 (-3) 135 := Or.inr (Or.inl ⟨(-3), by decide +kernel, by decide +kernel, rfl⟩)
theorem dX11_init_135 : dc cX11_init 135 .iastore 1 136 := ⟨by decide +kernel, rfl⟩
theorem dX11_init_136 : dc cX11_init 136 (.iinc 1 1) 3 139 := ⟨by decide +kernel, rfl⟩
theorem dX11_init_139 : dj cX11_init 139 .goto 122 142 := ⟨(-17), by decide +kernel, by decide, rfl⟩
theorem dX11_init_142 : dKc cX11_init 142 0 143 := Or.inl ⟨0, by decide +kernel, by decide +kernel, rfl⟩
theorem dX11_init_143 : dIs cX11_init 143 1 144 := Or.inl ⟨1, rfl, by decide +kernel, rfl⟩
theorem dX11_init_144 : dIl cX11_init 144 1 145 := Or.inl ⟨1, rfl, by decide +kernel, rfl⟩
theorem dX11_init_145 : dKc cX11_init 145 6 147 := Or.inr (Or.inl ⟨6, by decide +kernel, by decide +kernel, rfl⟩)
theorem dX11_init_147 : dj cX11_init 147 (.if_icmp .ge) 170 150 := ⟨23, by decide +kernel, by decide, rfl⟩
theorem dX11_init_150 : dAl cX11_init 150 0 151 := Or.inl ⟨0, rfl, by decide +kernel, rfl⟩
theorem dX11_init_151 : dc cX11_init 151 (.getfield 43) 3 154 := ⟨by decide +kernel, rfl⟩
theorem dX11_init_154 : dIl cX11_init 154 1 155 := Or.inl ⟨1, rfl, by decide +kernel, rfl⟩
theorem dX11_init_155 : dc cX11_init 155 (.new 41) 3 158 := ⟨by decide +kernel, rfl⟩
theorem dX11_init_158 : dc cX11_init 158 .dup 1 159 := ⟨by decide +kernel, rfl⟩
theorem dX11_init_159 : dIl cX11_init 159 1 160 := Or.inl ⟨1, rfl, by decide +kernel, rfl⟩
theorem dX11_init_160 : dc cX11_init 160 (.invokespecial 63) 3 163 := ⟨by decide +kernel, rfl⟩
theorem dX11_init_163 : dc cX11_init 163 .aastore 1 164 := ⟨by decide +kernel, rfl⟩
theorem dX11_init_164 : dc cX11_init 164 (.iinc 1 1) 3 167 := ⟨by decide +kernel, rfl⟩
theorem dX11_init_167 : dj cX11_init 167 .goto 144 170 := ⟨(-23), by decide +kernel, by decide, rfl⟩
theorem dX11_init_170 : dc cX11_init 170 .return_ 1 171 := ⟨by decide +kernel, rfl⟩
theorem dX11_constant_0 : dAl cX11_constant 0 0 1 := Or.inl ⟨0, rfl, by decide +kernel, rfl⟩
theorem dX11_constant_1 : dIl cX11_constant 1 1 2 := Or.inl ⟨1, rfl, by decide +kernel, rfl⟩
theorem dX11_constant_2 : dKc cX11_constant 2 0 3 := Or.inl ⟨0, by decide +kernel, by decide +kernel, rfl⟩
theorem dX11_constant_3 : dc cX11_constant 3 (.invokevirtual 66) 3 6 := ⟨by decide +kernel, rfl⟩
theorem dX11_constant_6 : dAs cX11_constant 6 5 8 := Or.inr ⟨by decide +kernel, rfl⟩
theorem dX11_constant_8 : dAl cX11_constant 8 5 10 := Or.inr ⟨by decide +kernel, rfl⟩
theorem dX11_constant_10 : dj cX11_constant 10 .ifnull 39 13 := ⟨29, by decide +kernel, by decide, rfl⟩
theorem dX11_constant_13 : dLl cX11_constant 13 2 14 := ⟨2, rfl, by decide +kernel, rfl⟩
theorem dX11_constant_14 : dc cX11_constant 14 (.invokestatic 70) 3 17 := ⟨by decide +kernel, rfl⟩
theorem dX11_constant_17 : dj cX11_constant 17 (.ifCond .eq) 39 20 := ⟨22, by decide +kernel, by decide, rfl⟩
theorem dX11_constant_20 : dAl cX11_constant 20 5 22 := Or.inr ⟨by decide +kernel, rfl⟩
theorem dX11_constant_22 : dLl cX11_constant 22 2 23 := ⟨2, rfl, by decide +kernel, rfl⟩
theorem dX11_constant_23 : dc cX11_constant 23 (.invokevirtual 74) 3 26 := ⟨by decide +kernel, rfl⟩
theorem dX11_constant_26 : dj cX11_constant 26 .ifnonnull 39 29 := ⟨13, by decide +kernel, by decide, rfl⟩
theorem dX11_constant_29 : dIl cX11_constant 29 4 31 := Or.inr ⟨by decide +kernel, rfl⟩
theorem dX11_constant_31 : dKc cX11_constant 31 0 32 := Or.inl ⟨0, by decide +kernel, by decide +kernel, rfl⟩
theorem dX11_constant_32 : dKc cX11_constant 32 2 33 := Or.inl ⟨2, by decide +kernel, by decide +kernel, rfl⟩
theorem dX11_constant_33 : dc cX11_constant 33 (.invokestatic 78) 3 36 := ⟨by decide +kernel, rfl⟩
theorem dX11_constant_36 : dj cX11_constant 36 (.ifCond .ne) 41 39 := ⟨5, by decide +kernel, by decide, rfl⟩
theorem dX11_constant_39 : dKc cX11_constant 39 (-1) 40 := Or.inl ⟨(-1), by decide +kernel, by decide +kernel, rfl⟩
theorem dX11_constant_40 : dc cX11_constant 40 .ireturn 1 41 := ⟨by decide +kernel, rfl⟩
theorem dX11_constant_41 : dAl cX11_constant 41 0 42 := Or.inl ⟨0, rfl, by decide +kernel, rfl⟩
theorem dX11_constant_42 : dc cX11_constant 42 (.getfield 15) 3 45 := ⟨by decide +kernel, rfl⟩
theorem dX11_constant_45 : dKc cX11_constant 45 60 47 := Or.inr (Or.inl ⟨60, by decide +kernel, by decide +kernel, rfl⟩)
theorem dX11_constant_47 : dj cX11_constant 47 (.if_icmp .lt) 53 50 := ⟨6, by decide +kernel, by decide, rfl⟩
theorem dX11_constant_50 : dKc cX11_constant 50 (-2) 52 := Or.inr (Or.inl ⟨(-2), by decide +kernel, by decide +kernel, rfl⟩)
theorem dX11_constant_52 : dc cX11_constant 52 .ireturn 1 53 := ⟨by decide +kernel, rfl⟩
theorem dX11_constant_53 : dIl cX11_constant 53 4 55 := Or.inr ⟨by decide +kernel, rfl⟩
theorem dX11_constant_55 : dc cX11_constant 55 (.new 82) 3 58 := ⟨by decide +kernel, rfl⟩
theorem dX11_constant_58 : dc cX11_constant 58 .dup 1 59 := ⟨by decide +kernel, rfl⟩
theorem dX11_constant_59 : dAl cX11_constant 59 0 60 := Or.inl ⟨0, rfl, by decide +kernel, rfl⟩
theorem dX11_constant_60 : dc cX11_constant 60 (.getfield 15) 3 63 := ⟨by decide +kernel, rfl⟩
theorem dX11_constant_63 : dIl cX11_constant 63 1 64 := Or.inl ⟨1, rfl, by decide +kernel, rfl⟩
theorem dX11_constant_64 : dLl cX11_constant 64 2 65 := ⟨2, rfl, by decide +kernel, rfl⟩
theorem dX11_constant_65 : dAl cX11_constant 65 5 67 := Or.inr ⟨by decide +kernel, rfl⟩
theorem dX11_constant_67 : dc cX11_constant 67 (.getfield 84) 3 70 := ⟨by decide +kernel, rfl⟩
theorem dX11_constant_70 : dc cX11_constant 70 (.invokespecial 87) 3 73 := ⟨by decide +kernel, rfl⟩
theorem dX11_constant_73 : dc cX11_constant 73 (.invokestatic 90) 3 76 := ⟨by decide +kernel, rfl⟩
theorem dX11_constant_76 : dAs cX11_constant 76 6 78 := Or.inr ⟨by decide +kernel, rfl⟩
theorem dX11_constant_78 : dAl cX11_constant 78 5 80 := Or.inr ⟨by decide +kernel, rfl⟩
theorem dX11_constant_80 : dAl cX11_constant 80 6 82 := Or.inr ⟨by decide +kernel, rfl⟩
theorem dX11_constant_82 : dc cX11_constant 82 (.invokevirtual 94) 3 85 := ⟨by decide +kernel, rfl⟩
theorem dX11_constant_85 : dc cX11_constant 85 .pop 1 86 := ⟨by decide +kernel, rfl⟩
theorem dX11_constant_86 : dAl cX11_constant 86 0 87 := Or.inl ⟨0, rfl, by decide +kernel, rfl⟩
theorem dX11_constant_87 : dc cX11_constant 87 (.getfield 11) 3 90 := ⟨by decide +kernel, rfl⟩
theorem dX11_constant_90 : dAl cX11_constant 90 0 91 := Or.inl ⟨0, rfl, by decide +kernel, rfl⟩
theorem dX11_constant_91 : dc cX11_constant 91 (.getfield 15) 3 94 := ⟨by decide +kernel, rfl⟩
theorem dX11_constant_94 : dAl cX11_constant 94 6 96 := Or.inr ⟨by decide +kernel, rfl⟩
theorem dX11_constant_96 : dc cX11_constant 96 .aastore 1 97 := ⟨by decide +kernel, rfl⟩
theorem dX11_constant_97 : dAl cX11_constant 97 0 98 := Or.inl ⟨0, rfl, by decide +kernel, rfl⟩
theorem dX11_constant_98 : dc cX11_constant 98 .dup 1 99 := ⟨by decide +kernel, rfl⟩
theorem dX11_constant_99 : dc cX11_constant 99 (.getfield 15) 3 102 := ⟨by decide +kernel, rfl⟩
theorem dX11_constant_102 : dKc cX11_constant 102 1 103 := Or.inl ⟨1, by decide +kernel, by decide +kernel, rfl⟩
theorem dX11_constant_103 : dc cX11_constant 103 .iadd 1 104 := ⟨by decide +kernel, rfl⟩
theorem dX11_constant_104 : dc cX11_constant 104 (.putfield 15) 3 107 := ⟨by decide +kernel, rfl⟩
theorem dX11_constant_107 : dAl cX11_constant 107 6 109 := Or.inr ⟨by decide +kernel, rfl⟩
theorem dX11_constant_109 : dc cX11_constant 109 (.getfield 98) 3 112 := ⟨by decide +kernel, rfl⟩
theorem dX11_constant_112 : dc cX11_constant 112 (.getfield 102) 3 115 := ⟨by decide +kernel, rfl⟩
theorem dX11_constant_115 : dc cX11_constant 115 .ireturn 1 116 := ⟨by decide +kernel, rfl⟩
theorem dX11_arrange_0 : dAl cX11_arrange 0 0 1 := Or.inl ⟨0, rfl, by decide +kernel, rfl⟩
theorem dX11_arrange_1 : dIl cX11_arrange 1 1 2 := Or.inl ⟨1, rfl, by decide +kernel, rfl⟩
theorem dX11_arrange_2 : dc cX11_arrange 2 (.invokevirtual 105) 3 5 := ⟨by decide +kernel, rfl⟩
theorem dX11_arrange_5 : dAs cX11_arrange 5 3 6 := Or.inl ⟨3, rfl, by decide +kernel, rfl⟩
theorem dX11_arrange_6 : dAl cX11_arrange 6 3 7 := Or.inl ⟨3, rfl, by decide +kernel, rfl⟩
theorem dX11_arrange_7 : dj cX11_arrange 7 .ifnull 14 10 := ⟨7, by decide +kernel, by decide, rfl⟩
theorem dX11_arrange_10 : dIl cX11_arrange 10 2 11 := Or.inl ⟨2, rfl, by decide +kernel, rfl⟩
theorem dX11_arrange_11 : dj cX11_arrange 11 (.ifCond .ne) 16 14 := ⟨5, by decide +kernel, by decide, rfl⟩
theorem dX11_arrange_14 : dKc cX11_arrange 14 (-1) 15 := Or.inl ⟨(-1), by decide +kernel, by decide +kernel, rfl⟩
theorem dX11_arrange_15 : dc cX11_arrange 15 .ireturn 1 16 := ⟨by decide +kernel, rfl⟩
theorem dX11_arrange_16 : dAl cX11_arrange 16 0 17 := Or.inl ⟨0, rfl, by decide +kernel, rfl⟩
theorem dX11_arrange_17 : dAl cX11_arrange 17 3 18 := Or.inl ⟨3, rfl, by decide +kernel, rfl⟩
theorem dX11_arrange_18 : dc cX11_arrange 18 (.getfield 98) 3 21 := ⟨by decide +kernel, rfl⟩
theorem dX11_arrange_21 : dc cX11_arrange 21 (.getfield 109) 3 24 := ⟨by decide +kernel, rfl⟩
theorem dX11_arrange_24 : dIl cX11_arrange 24 2 25 := Or.inl ⟨2, rfl, by decide +kernel, rfl⟩
theorem dX11_arrange_25 : dc cX11_arrange 25 (.invokevirtual 66) 3 28 := ⟨by decide +kernel, rfl⟩
theorem dX11_arrange_28 : dAs cX11_arrange 28 4 30 := Or.inr ⟨by decide +kernel, rfl⟩
theorem dX11_arrange_30 : dAl cX11_arrange 30 4 32 := Or.inr ⟨by decide +kernel, rfl⟩
theorem dX11_arrange_32 : dj cX11_arrange 32 .ifnull 46 35 := ⟨14, by decide +kernel, by decide, rfl⟩
theorem dX11_arrange_35 : dAl cX11_arrange 35 4 37 := Or.inr ⟨by decide +kernel, rfl⟩
theorem dX11_arrange_37 : dAl cX11_arrange 37 3 38 := Or.inl ⟨3, rfl, by decide +kernel, rfl⟩
theorem dX11_arrange_38 : dc cX11_arrange 38 (.invokevirtual 112) 3 41 := ⟨by decide +kernel, rfl⟩
theorem dX11_arrange_41 : dKc cX11_arrange 41 (-3) 43 := Or.inr (Or.inl ⟨(-3), by decide +kernel, by decide +kernel, rfl⟩)
theorem dX11_arrange_43 : dj cX11_arrange 43 (.if_icmp .eq) 48 46 := ⟨5, by decide +kernel, by decide, rfl⟩
theorem dX11_arrange_46 : dKc cX11_arrange 46 (-1) 47 := Or.inl ⟨(-1), by decide +kernel, by decide +kernel, rfl⟩
theorem dX11_arrange_47 : dc cX11_arrange 47 .ireturn 1 48 := ⟨by decide +kernel, rfl⟩
theorem dX11_arrange_48 : dAl cX11_arrange 48 4 50 := Or.inr ⟨by decide +kernel, rfl⟩
theorem dX11_arrange_50 : dAl cX11_arrange 50 3 51 := Or.inl ⟨3, rfl, by decide +kernel, rfl⟩
theorem dX11_arrange_51 : dc cX11_arrange 51 (.invokevirtual 94) 3 54 := ⟨by decide +kernel, rfl⟩
theorem dX11_arrange_54 : dc cX11_arrange 54 .ireturn 1 55 := ⟨by decide +kernel, rfl⟩
theorem dX11_shuffle_0 : dAl cX11_shuffle 0 0 1 := Or.inl ⟨0, rfl, by decide +kernel, rfl⟩
theorem dX11_shuffle_1 : dIl cX11_shuffle 1 1 2 := Or.inl ⟨1, rfl, by decide +kernel, rfl⟩
theorem dX11_shuffle_2 : dIl cX11_shuffle 2 2 3 := Or.inl ⟨2, rfl, by decide +kernel, rfl⟩
theorem dX11_shuffle_3 : dc cX11_shuffle 3 (.invokevirtual 66) 3 6 := ⟨by decide +kernel, rfl⟩
theorem dX11_shuffle_6 : dAs cX11_shuffle 6 5 8 := Or.inr ⟨by decide +kernel, rfl⟩
theorem dX11_shuffle_8 : dAl cX11_shuffle 8 5 10 := Or.inr ⟨by decide +kernel, rfl⟩
theorem dX11_shuffle_10 : dj cX11_shuffle 10 .ifnull 17 13 := ⟨7, by decide +kernel, by decide, rfl⟩
theorem dX11_shuffle_13 : dIl cX11_shuffle 13 2 14 := Or.inl ⟨2, rfl, by decide +kernel, rfl⟩
theorem dX11_shuffle_14 : dj cX11_shuffle 14 (.ifCond .ne) 19 17 := ⟨5, by decide +kernel, by decide, rfl⟩
theorem dX11_shuffle_17 : dKc cX11_shuffle 17 (-1) 18 := Or.inl ⟨(-1), by decide +kernel, by decide +kernel, rfl⟩
theorem dX11_shuffle_18 : dc cX11_shuffle 18 .ireturn 1 19 := ⟨by decide +kernel, rfl⟩
theorem dX11_shuffle_19 : dAl cX11_shuffle 19 5 21 := Or.inr ⟨by decide +kernel, rfl⟩
theorem dX11_shuffle_21 : dc cX11_shuffle 21 (.getfield 84) 3 24 := ⟨by decide +kernel, rfl⟩
theorem dX11_shuffle_24 : dKc cX11_shuffle 24 1 25 := Or.inl ⟨1, by decide +kernel, by decide +kernel, rfl⟩
theorem dX11_shuffle_25 : dc cX11_shuffle 25 .isub 1 26 := ⟨by decide +kernel, rfl⟩
theorem dX11_shuffle_26 : dIs cX11_shuffle 26 6 28 := Or.inr ⟨by decide +kernel, rfl⟩
theorem dX11_shuffle_28 : dIl cX11_shuffle 28 6 30 := Or.inr ⟨by decide +kernel, rfl⟩
theorem dX11_shuffle_30 : dKc cX11_shuffle 30 1 31 := Or.inl ⟨1, by decide +kernel, by decide +kernel, rfl⟩
theorem dX11_shuffle_31 : dj cX11_shuffle 31 (.if_icmp .lt) 60 34 := ⟨29, by decide +kernel, by decide, rfl⟩
theorem dX11_shuffle_34 : dAl cX11_shuffle 34 5 36 := Or.inr ⟨by decide +kernel, rfl⟩
theorem dX11_shuffle_36 : dIl cX11_shuffle 36 6 38 := Or.inr ⟨by decide +kernel, rfl⟩
theorem dX11_shuffle_38 : dLl cX11_shuffle 38 3 39 := ⟨3, rfl, by decide +kernel, rfl⟩
theorem dX11_shuffle_39 : dIl cX11_shuffle 39 6 41 := Or.inr ⟨by decide +kernel, rfl⟩
theorem dX11_shuffle_41 : dc cX11_shuffle 41 (.invokestatic 115) 3 44 := ⟨by decide +kernel, rfl⟩
theorem dX11_shuffle_44 : dIl cX11_shuffle 44 6 46 := Or.inr ⟨by decide +kernel, rfl⟩
theorem dX11_shuffle_46 : dKc cX11_shuffle 46 1 47 := Or.inl ⟨1, by decide +kernel, by decide +kernel, rfl⟩
theorem dX11_shuffle_47 : dc cX11_shuffle 47 .iadd 1 48 := ⟨by decide +kernel, rfl⟩
theorem dX11_shuffle_48 : dc cX11_shuffle 48 (.invokestatic 119) 3 51 := ⟨by decide +kernel, rfl⟩
theorem dX11_shuffle_51 : dc cX11_shuffle 51 (.invokevirtual 123) 3 54 := ⟨by decide +kernel, rfl⟩
theorem dX11_shuffle_54 : dc cX11_shuffle 54 (.iinc 6 (-1)) 3 57 := ⟨by decide +kernel, rfl⟩
theorem dX11_shuffle_57 : dj cX11_shuffle 57 .goto 28 60 := ⟨(-29), by decide +kernel, by decide, rfl⟩
theorem dX11_shuffle_60 : dAl cX11_shuffle 60 5 62 := Or.inr ⟨by decide +kernel, rfl⟩
theorem dX11_shuffle_62 : dc cX11_shuffle 62 (.getfield 84) 3 65 := ⟨by decide +kernel, rfl⟩
theorem dX11_shuffle_65 : dc cX11_shuffle 65 .ireturn 1 66 := ⟨by decide +kernel, rfl⟩
theorem dX11_kind_0 : dAl cX11_kind 0 0 1 := Or.inl ⟨0, rfl, by decide +kernel, rfl⟩
theorem dX11_kind_1 : dIl cX11_kind 1 1 2 := Or.inl ⟨1, rfl, by decide +kernel, rfl⟩
theorem dX11_kind_2 : dIl cX11_kind 2 2 3 := Or.inl ⟨2, rfl, by decide +kernel, rfl⟩
theorem dX11_kind_3 : dc cX11_kind 3 (.invokevirtual 66) 3 6 := ⟨by decide +kernel, rfl⟩
theorem dX11_kind_6 : dAs cX11_kind 6 4 8 := Or.inr ⟨by decide +kernel, rfl⟩
theorem dX11_kind_8 : dAl cX11_kind 8 4 10 := Or.inr ⟨by decide +kernel, rfl⟩
theorem dX11_kind_10 : dj cX11_kind 10 .ifnonnull 15 13 := ⟨5, by decide +kernel, by decide, rfl⟩
theorem dX11_kind_13 : dKc cX11_kind 13 (-1) 14 := Or.inl ⟨(-1), by decide +kernel, by decide +kernel, rfl⟩
theorem dX11_kind_14 : dc cX11_kind 14 .ireturn 1 15 := ⟨by decide +kernel, rfl⟩
theorem dX11_kind_15 : dIl cX11_kind 15 3 16 := Or.inl ⟨3, rfl, by decide +kernel, rfl⟩
theorem dX11_kind_16 : dKc cX11_kind 16 (-3) 18 := Or.inr (Or.inl ⟨(-3), by decide +kernel, by decide +kernel, rfl⟩)
theorem dX11_kind_18 : dj cX11_kind 18 (.if_icmp .ne) 27 21 := ⟨9, by decide +kernel, by decide, rfl⟩
theorem dX11_kind_21 : dAl cX11_kind 21 4 23 := Or.inr ⟨by decide +kernel, rfl⟩
theorem dX11_kind_23 : dc cX11_kind 23 (.getfield 84) 3 26 := ⟨by decide +kernel, rfl⟩
theorem dX11_kind_26 : dc cX11_kind 26 .ireturn 1 27 := ⟨by decide +kernel, rfl⟩
theorem dX11_kind_27 : dAl cX11_kind 27 4 29 := Or.inr ⟨by decide +kernel, rfl⟩
theorem dX11_kind_29 : dIl cX11_kind 29 3 30 := Or.inl ⟨3, rfl, by decide +kernel, rfl⟩
theorem dX11_kind_30 : dc cX11_kind 30 (.invokevirtual 127) 3 33 := ⟨by decide +kernel, rfl⟩
theorem dX11_kind_33 : dAs cX11_kind 33 5 35 := Or.inr ⟨by decide +kernel, rfl⟩
theorem dX11_kind_35 : dAl cX11_kind 35 5 37 := Or.inr ⟨by decide +kernel, rfl⟩
theorem dX11_kind_37 : dj cX11_kind 37 .ifnonnull 44 40 := ⟨7, by decide +kernel, by decide, rfl⟩
theorem dX11_kind_40 : dKc cX11_kind 40 (-1) 41 := Or.inl ⟨(-1), by decide +kernel, by decide +kernel, rfl⟩
theorem dX11_kind_41 : dj cX11_kind 41 .goto 52 44 := ⟨11, by decide +kernel, by decide, rfl⟩
theorem dX11_kind_44 : dAl cX11_kind 44 5 46 := Or.inr ⟨by decide +kernel, rfl⟩
theorem dX11_kind_46 : dc cX11_kind 46 (.getfield 98) 3 49 := ⟨by decide +kernel, rfl⟩
theorem dX11_kind_49 : dc cX11_kind 49 (.getfield 102) 3 52 := ⟨by decide +kernel, rfl⟩
theorem dX11_kind_52 : dc cX11_kind 52 .ireturn 1 53 := ⟨by decide +kernel, rfl⟩
theorem dX11_named_0 : dAl cX11_named 0 0 1 := Or.inl ⟨0, rfl, by decide +kernel, rfl⟩
theorem dX11_named_1 : dIl cX11_named 1 1 2 := Or.inl ⟨1, rfl, by decide +kernel, rfl⟩
theorem dX11_named_2 : dKc cX11_named 2 0 3 := Or.inl ⟨0, by decide +kernel, by decide +kernel, rfl⟩
theorem dX11_named_3 : dc cX11_named 3 (.invokevirtual 66) 3 6 := ⟨by decide +kernel, rfl⟩
theorem dX11_named_6 : dAs cX11_named 6 4 8 := Or.inr ⟨by decide +kernel, rfl⟩
theorem dX11_named_8 : dAl cX11_named 8 4 10 := Or.inr ⟨by decide +kernel, rfl⟩
theorem dX11_named_10 : dj cX11_named 10 .ifnonnull 15 13 := ⟨5, by decide +kernel, by decide, rfl⟩
theorem dX11_named_13 : dKc cX11_named 13 (-1) 14 := Or.inl ⟨(-1), by decide +kernel, by decide +kernel, rfl⟩
theorem dX11_named_14 : dc cX11_named 14 .ireturn 1 15 := ⟨by decide +kernel, rfl⟩
theorem dX11_named_15 : dAl cX11_named 15 4 17 := Or.inr ⟨by decide +kernel, rfl⟩
theorem dX11_named_17 : dLl cX11_named 17 2 18 := ⟨2, rfl, by decide +kernel, rfl⟩
theorem dX11_named_18 : dc cX11_named 18 (.invokevirtual 74) 3 21 := ⟨by decide +kernel, rfl⟩
theorem dX11_named_21 : dAs cX11_named 21 5 23 := Or.inr ⟨by decide +kernel, rfl⟩
theorem dX11_named_23 : dAl cX11_named 23 5 25 := Or.inr ⟨by decide +kernel, rfl⟩
theorem dX11_named_25 : dj cX11_named 25 .ifnonnull 33 28 := ⟨8, by decide +kernel, by decide, rfl⟩
theorem dX11_named_28 : dKc cX11_named 28 (-3) 30 := Or.inr (Or.inl ⟨(-3), by decide +kernel, by decide +kernel, rfl⟩)
theorem dX11_named_30 : dj cX11_named 30 .goto 41 33 := ⟨11, by decide +kernel, by decide, rfl⟩
theorem dX11_named_33 : dAl cX11_named 33 5 35 := Or.inr ⟨by decide +kernel, rfl⟩
theorem dX11_named_35 : dc cX11_named 35 (.getfield 98) 3 38 := ⟨by decide +kernel, rfl⟩
theorem dX11_named_38 : dc cX11_named 38 (.getfield 102) 3 41 := ⟨by decide +kernel, rfl⟩
theorem dX11_named_41 : dc cX11_named 41 .ireturn 1 42 := ⟨by decide +kernel, rfl⟩
theorem dX11_order_0 : dAl cX11_order 0 0 1 := Or.inl ⟨0, rfl, by decide +kernel, rfl⟩
theorem dX11_order_1 : dIl cX11_order 1 1 2 := Or.inl ⟨1, rfl, by decide +kernel, rfl⟩
theorem dX11_order_2 : dc cX11_order 2 (.invokevirtual 105) 3 5 := ⟨by decide +kernel, rfl⟩
theorem dX11_order_5 : dAs cX11_order 5 3 6 := Or.inl ⟨3, rfl, by decide +kernel, rfl⟩
theorem dX11_order_6 : dAl cX11_order 6 3 7 := Or.inl ⟨3, rfl, by decide +kernel, rfl⟩
theorem dX11_order_7 : dj cX11_order 7 .ifnonnull 12 10 := ⟨5, by decide +kernel, by decide, rfl⟩
theorem dX11_order_10 : dKc cX11_order 10 (-1) 11 := Or.inl ⟨(-1), by decide +kernel, by decide +kernel, rfl⟩
theorem dX11_order_11 : dc cX11_order 11 .ireturn 1 12 := ⟨by decide +kernel, rfl⟩
theorem dX11_order_12 : dAl cX11_order 12 0 13 := Or.inl ⟨0, rfl, by decide +kernel, rfl⟩
theorem dX11_order_13 : dAl cX11_order 13 3 14 := Or.inl ⟨3, rfl, by decide +kernel, rfl⟩
theorem dX11_order_14 : dc cX11_order 14 (.getfield 98) 3 17 := ⟨by decide +kernel, rfl⟩
theorem dX11_order_17 : dc cX11_order 17 (.getfield 109) 3 20 := ⟨by decide +kernel, rfl⟩
theorem dX11_order_20 : dIl cX11_order 20 2 21 := Or.inl ⟨2, rfl, by decide +kernel, rfl⟩
theorem dX11_order_21 : dc cX11_order 21 (.invokevirtual 66) 3 24 := ⟨by decide +kernel, rfl⟩
theorem dX11_order_24 : dAs cX11_order 24 4 26 := Or.inr ⟨by decide +kernel, rfl⟩
theorem dX11_order_26 : dAl cX11_order 26 4 28 := Or.inr ⟨by decide +kernel, rfl⟩
theorem dX11_order_28 : dj cX11_order 28 .ifnonnull 35 31 := ⟨7, by decide +kernel, by decide, rfl⟩
theorem dX11_order_31 : dKc cX11_order 31 (-1) 32 := Or.inl ⟨(-1), by decide +kernel, by decide +kernel, rfl⟩
theorem dX11_order_32 : dj cX11_order 32 .goto 41 35 := ⟨9, by decide +kernel, by decide, rfl⟩
theorem dX11_order_35 : dAl cX11_order 35 4 37 := Or.inr ⟨by decide +kernel, rfl⟩
theorem dX11_order_37 : dAl cX11_order 37 3 38 := Or.inl ⟨3, rfl, by decide +kernel, rfl⟩
theorem dX11_order_38 : dc cX11_order 38 (.invokevirtual 112) 3 41 := ⟨by decide +kernel, rfl⟩
theorem dX11_order_41 : dc cX11_order 41 .ireturn 1 42 := ⟨by decide +kernel, rfl⟩
theorem dX11_about_0 : dAl cX11_about 0 0 1 := Or.inl ⟨0, rfl, by decide +kernel, rfl⟩
theorem dX11_about_1 : dIl cX11_about 1 1 2 := Or.inl ⟨1, rfl, by decide +kernel, rfl⟩
theorem dX11_about_2 : dc cX11_about 2 (.invokevirtual 105) 3 5 := ⟨by decide +kernel, rfl⟩
theorem dX11_about_5 : dAs cX11_about 5 3 6 := Or.inl ⟨3, rfl, by decide +kernel, rfl⟩
theorem dX11_about_6 : dAl cX11_about 6 3 7 := Or.inl ⟨3, rfl, by decide +kernel, rfl⟩
theorem dX11_about_7 : dj cX11_about 7 .ifnonnull 12 10 := ⟨5, by decide +kernel, by decide, rfl⟩
theorem dX11_about_10 : dKc cX11_about 10 (-1) 11 := Or.inl ⟨(-1), by decide +kernel, by decide +kernel, rfl⟩
theorem dX11_about_11 : dc cX11_about 11 .ireturn 1 12 := ⟨by decide +kernel, rfl⟩
theorem dX11_about_12 : dIl cX11_about 12 2 13 := Or.inl ⟨2, rfl, by decide +kernel, rfl⟩
theorem dX11_about_13 : dc cX11_about 13 (.tableswitch 54 0 3 #[31, 39, 44, 49]) 31 44 := ⟨by decide +kernel, rfl⟩
theorem dX11_about_44 : dAl cX11_about 44 3 45 := Or.inl ⟨3, rfl, by decide +kernel, rfl⟩
theorem dX11_about_45 : dc cX11_about 45 (.getfield 98) 3 48 := ⟨by decide +kernel, rfl⟩
theorem dX11_about_48 : dc cX11_about 48 (.getfield 109) 3 51 := ⟨by decide +kernel, rfl⟩
theorem dX11_about_51 : dc cX11_about 51 .ireturn 1 52 := ⟨by decide +kernel, rfl⟩
theorem dX11_about_52 : dAl cX11_about 52 3 53 := Or.inl ⟨3, rfl, by decide +kernel, rfl⟩
theorem dX11_about_53 : dc cX11_about 53 (.invokevirtual 130) 3 56 := ⟨by decide +kernel, rfl⟩
theorem dX11_about_56 : dc cX11_about 56 .ireturn 1 57 := ⟨by decide +kernel, rfl⟩
theorem dX11_about_57 : dAl cX11_about 57 3 58 := Or.inl ⟨3, rfl, by decide +kernel, rfl⟩
theorem dX11_about_58 : dc cX11_about 58 (.getfield 134) 3 61 := ⟨by decide +kernel, rfl⟩
theorem dX11_about_61 : dc cX11_about 61 .ireturn 1 62 := ⟨by decide +kernel, rfl⟩
theorem dX11_about_62 : dAl cX11_about 62 3 63 := Or.inl ⟨3, rfl, by decide +kernel, rfl⟩
theorem dX11_about_63 : dc cX11_about 63 (.getfield 137) 3 66 := ⟨by decide +kernel, rfl⟩
theorem dX11_about_66 : dc cX11_about 66 .ireturn 1 67 := ⟨by decide +kernel, rfl⟩
theorem dX11_about_67 : dKc cX11_about 67 (-1) 68 := Or.inl ⟨(-1), by decide +kernel, by decide +kernel, rfl⟩
theorem dX11_about_68 : dc cX11_about 68 .ireturn 1 69 := ⟨by decide +kernel, rfl⟩
theorem dX11_worth_0 : dAl cX11_worth 0 0 1 := Or.inl ⟨0, rfl, by decide +kernel, rfl⟩
theorem dX11_worth_1 : dIl cX11_worth 1 1 2 := Or.inl ⟨1, rfl, by decide +kernel, rfl⟩
theorem dX11_worth_2 : dc cX11_worth 2 (.invokevirtual 105) 3 5 := ⟨by decide +kernel, rfl⟩
theorem dX11_worth_5 : dAs cX11_worth 5 3 6 := Or.inl ⟨3, rfl, by decide +kernel, rfl⟩
theorem dX11_worth_6 : dAl cX11_worth 6 3 7 := Or.inl ⟨3, rfl, by decide +kernel, rfl⟩
theorem dX11_worth_7 : dj cX11_worth 7 .ifnonnull 12 10 := ⟨5, by decide +kernel, by decide, rfl⟩
theorem dX11_worth_10 : dKc cX11_worth 10 (-1) 11 := Or.inl ⟨(-1), by decide +kernel, by decide +kernel, rfl⟩
theorem dX11_worth_11 : dc cX11_worth 11 .ireturn 1 12 := ⟨by decide +kernel, rfl⟩
theorem dX11_worth_12 : dAl cX11_worth 12 0 13 := Or.inl ⟨0, rfl, by decide +kernel, rfl⟩
theorem dX11_worth_13 : dAl cX11_worth 13 3 14 := Or.inl ⟨3, rfl, by decide +kernel, rfl⟩
theorem dX11_worth_14 : dc cX11_worth 14 (.invokevirtual 140) 3 17 := ⟨by decide +kernel, rfl⟩
theorem dX11_worth_17 : dAl cX11_worth 17 0 18 := Or.inl ⟨0, rfl, by decide +kernel, rfl⟩
theorem dX11_worth_18 : dc cX11_worth 18 .dup 1 19 := ⟨by decide +kernel, rfl⟩
theorem dX11_worth_19 : dc cX11_worth 19 (.getfield 29) 3 22 := ⟨by decide +kernel, rfl⟩
theorem dX11_worth_22 : dKc cX11_worth 22 1 23 := Or.inl ⟨1, by decide +kernel, by decide +kernel, rfl⟩
theorem dX11_worth_23 : dc cX11_worth 23 .iadd 1 24 := ⟨by decide +kernel, rfl⟩
theorem dX11_worth_24 : dc cX11_worth 24 (.putfield 29) 3 27 := ⟨by decide +kernel, rfl⟩
theorem dX11_worth_27 : dAl cX11_worth 27 3 28 := Or.inl ⟨3, rfl, by decide +kernel, rfl⟩
theorem dX11_worth_28 : dIl cX11_worth 28 2 29 := Or.inl ⟨2, rfl, by decide +kernel, rfl⟩
theorem dX11_worth_29 : dc cX11_worth 29 (.invokevirtual 144) 3 32 := ⟨by decide +kernel, rfl⟩
theorem dX11_worth_32 : dc cX11_worth 32 .ireturn 1 33 := ⟨by decide +kernel, rfl⟩
theorem dX11_weigh_0 : dAl cX11_weigh 0 0 1 := Or.inl ⟨0, rfl, by decide +kernel, rfl⟩
theorem dX11_weigh_1 : dIl cX11_weigh 1 1 2 := Or.inl ⟨1, rfl, by decide +kernel, rfl⟩
theorem dX11_weigh_2 : dc cX11_weigh 2 (.invokevirtual 105) 3 5 := ⟨by decide +kernel, rfl⟩
theorem dX11_weigh_5 : dAs cX11_weigh 5 3 6 := Or.inl ⟨3, rfl, by decide +kernel, rfl⟩
theorem dX11_weigh_6 : dAl cX11_weigh 6 3 7 := Or.inl ⟨3, rfl, by decide +kernel, rfl⟩
theorem dX11_weigh_7 : dj cX11_weigh 7 .ifnull 21 10 := ⟨14, by decide +kernel, by decide, rfl⟩
theorem dX11_weigh_10 : dIl cX11_weigh 10 2 11 := Or.inl ⟨2, rfl, by decide +kernel, rfl⟩
theorem dX11_weigh_11 : dKc cX11_weigh 11 0 12 := Or.inl ⟨0, by decide +kernel, by decide +kernel, rfl⟩
theorem dX11_weigh_12 : dKc cX11_weigh 12 1000 15 := Or.inr (Or.inr ⟨1000, by decide +kernel, by decide +kernel, rfl⟩)
theorem dX11_weigh_15 : dc cX11_weigh 15 (.invokestatic 78) 3 18 := ⟨by decide +kernel, rfl⟩
theorem dX11_weigh_18 : dj cX11_weigh 18 (.ifCond .ne) 23 21 := ⟨5, by decide +kernel, by decide, rfl⟩
theorem dX11_weigh_21 : dKc cX11_weigh 21 (-1) 22 := Or.inl ⟨(-1), by decide +kernel, by decide +kernel, rfl⟩
theorem dX11_weigh_22 : dc cX11_weigh 22 .ireturn 1 23 := ⟨by decide +kernel, rfl⟩
theorem dX11_weigh_23 : dAl cX11_weigh 23 3 24 := Or.inl ⟨3, rfl, by decide +kernel, rfl⟩
theorem dX11_weigh_24 : dc cX11_weigh 24 (.getfield 134) 3 27 := ⟨by decide +kernel, rfl⟩
theorem dX11_weigh_27 : dIs cX11_weigh 27 4 29 := Or.inr ⟨by decide +kernel, rfl⟩
theorem dX11_weigh_29 : dAl cX11_weigh 29 3 30 := Or.inl ⟨3, rfl, by decide +kernel, rfl⟩
theorem dX11_weigh_30 : dIl cX11_weigh 30 2 31 := Or.inl ⟨2, rfl, by decide +kernel, rfl⟩
theorem dX11_weigh_31 : dc cX11_weigh 31 (.putfield 134) 3 34 := ⟨by decide +kernel, rfl⟩
theorem dX11_weigh_34 : dIl cX11_weigh 34 4 36 := Or.inr ⟨by decide +kernel, rfl⟩
theorem dX11_weigh_36 : dc cX11_weigh 36 .ireturn 1 37 := ⟨by decide +kernel, rfl⟩
theorem dX11_table_0 : dAl cX11_table 0 0 1 := Or.inl ⟨0, rfl, by decide +kernel, rfl⟩
theorem dX11_table_1 : dIl cX11_table 1 1 2 := Or.inl ⟨1, rfl, by decide +kernel, rfl⟩
theorem dX11_table_2 : dIl cX11_table 2 2 3 := Or.inl ⟨2, rfl, by decide +kernel, rfl⟩
theorem dX11_table_3 : dc cX11_table 3 (.invokevirtual 66) 3 6 := ⟨by decide +kernel, rfl⟩
theorem dX11_table_6 : dAs cX11_table 6 3 7 := Or.inl ⟨3, rfl, by decide +kernel, rfl⟩
theorem dX11_table_7 : dAl cX11_table 7 3 8 := Or.inl ⟨3, rfl, by decide +kernel, rfl⟩
theorem dX11_table_8 : dj cX11_table 8 .ifnonnull 13 11 := ⟨5, by decide +kernel, by decide, rfl⟩
theorem dX11_table_11 : dKc cX11_table 11 (-1) 12 := Or.inl ⟨(-1), by decide +kernel, by decide +kernel, rfl⟩
theorem dX11_table_12 : dc cX11_table 12 .ireturn 1 13 := ⟨by decide +kernel, rfl⟩
theorem dX11_table_13 : dAl cX11_table 13 3 14 := Or.inl ⟨3, rfl, by decide +kernel, rfl⟩
theorem dX11_table_14 : dc cX11_table 14 (.getfield 84) 3 17 := ⟨by decide +kernel, rfl⟩
theorem dX11_table_17 : dj cX11_table 17 (.ifCond .ne) 22 20 := ⟨5, by decide +kernel, by decide, rfl⟩
theorem dX11_table_20 : dKc cX11_table 20 1 21 := Or.inl ⟨1, by decide +kernel, by decide +kernel, rfl⟩
theorem dX11_table_21 : dc cX11_table 21 .ireturn 1 22 := ⟨by decide +kernel, rfl⟩
theorem dX11_table_22 : dAl cX11_table 22 3 23 := Or.inl ⟨3, rfl, by decide +kernel, rfl⟩
theorem dX11_table_23 : dc cX11_table 23 (.invokevirtual 148) 3 26 := ⟨by decide +kernel, rfl⟩
theorem dX11_table_26 : dAs cX11_table 26 4 28 := Or.inr ⟨by decide +kernel, rfl⟩
theorem dX11_table_28 : dAl cX11_table 28 4 30 := Or.inr ⟨by decide +kernel, rfl⟩
theorem dX11_table_30 : dj cX11_table 30 .ifnonnull 37 33 := ⟨7, by decide +kernel, by decide, rfl⟩
theorem dX11_table_33 : dKc cX11_table 33 0 34 := Or.inl ⟨0, by decide +kernel, by decide +kernel, rfl⟩
theorem dX11_table_34 : dj cX11_table 34 .goto 48 37 := ⟨14, by decide +kernel, by decide, rfl⟩
theorem dX11_table_37 : dKc cX11_table 37 (-10) 39 := Or.inr (Or.inl ⟨(-10), by decide +kernel, by decide +kernel, rfl⟩)
theorem dX11_table_39 : dAl cX11_table 39 4 41 := Or.inr ⟨by decide +kernel, rfl⟩
theorem dX11_table_41 : dc cX11_table 41 (.getfield 98) 3 44 := ⟨by decide +kernel, rfl⟩
theorem dX11_table_44 : dc cX11_table 44 (.getfield 102) 3 47 := ⟨by decide +kernel, rfl⟩
theorem dX11_table_47 : dc cX11_table 47 .isub 1 48 := ⟨by decide +kernel, rfl⟩
theorem dX11_table_48 : dc cX11_table 48 .ireturn 1 49 := ⟨by decide +kernel, rfl⟩
theorem dX11_draw_0 : dAl cX11_draw 0 0 1 := Or.inl ⟨0, rfl, by decide +kernel, rfl⟩
theorem dX11_draw_1 : dIl cX11_draw 1 1 2 := Or.inl ⟨1, rfl, by decide +kernel, rfl⟩
theorem dX11_draw_2 : dIl cX11_draw 2 2 3 := Or.inl ⟨2, rfl, by decide +kernel, rfl⟩
theorem dX11_draw_3 : dc cX11_draw 3 (.invokevirtual 66) 3 6 := ⟨by decide +kernel, rfl⟩
theorem dX11_draw_6 : dAs cX11_draw 6 6 8 := Or.inr ⟨by decide +kernel, rfl⟩
theorem dX11_draw_8 : dAl cX11_draw 8 6 10 := Or.inr ⟨by decide +kernel, rfl⟩
theorem dX11_draw_10 : dj cX11_draw 10 .ifnull 18 13 := ⟨8, by decide +kernel, by decide, rfl⟩
theorem dX11_draw_13 : dIl cX11_draw 13 5 15 := Or.inr ⟨by decide +kernel, rfl⟩
theorem dX11_draw_15 : dj cX11_draw 15 (.ifCond .ge) 20 18 := ⟨5, by decide +kernel, by decide, rfl⟩
theorem dX11_draw_18 : dKc cX11_draw 18 (-1) 19 := Or.inl ⟨(-1), by decide +kernel, by decide +kernel, rfl⟩
theorem dX11_draw_19 : dc cX11_draw 19 .ireturn 1 20 := ⟨by decide +kernel, rfl⟩
theorem dX11_draw_20 : dAl cX11_draw 20 6 22 := Or.inr ⟨by decide +kernel, rfl⟩
theorem dX11_draw_22 : dc cX11_draw 22 (.invokevirtual 152) 3 25 := ⟨by decide +kernel, rfl⟩
theorem dX11_draw_25 : dj cX11_draw 25 (.ifCond .ne) 31 28 := ⟨6, by decide +kernel, by decide, rfl⟩
theorem dX11_draw_28 : dKc cX11_draw 28 (-3) 30 := Or.inr (Or.inl ⟨(-3), by decide +kernel, by decide +kernel, rfl⟩)
theorem dX11_draw_30 : dc cX11_draw 30 .ireturn 1 31 := ⟨by decide +kernel, rfl⟩
theorem dX11_draw_31 : dAl cX11_draw 31 6 33 := Or.inr ⟨by decide +kernel, rfl⟩
theorem dX11_draw_33 : dLl cX11_draw 33 3 34 := ⟨3, rfl, by decide +kernel, rfl⟩
theorem dX11_draw_34 : dIl cX11_draw 34 5 36 := Or.inr ⟨by decide +kernel, rfl⟩
theorem dX11_draw_36 : dc cX11_draw 36 (.invokestatic 115) 3 39 := ⟨by decide +kernel, rfl⟩
theorem dX11_draw_39 : dAl cX11_draw 39 6 41 := Or.inr ⟨by decide +kernel, rfl⟩
theorem dX11_draw_41 : dc cX11_draw 41 (.invokevirtual 156) 3 44 := ⟨by decide +kernel, rfl⟩
theorem dX11_draw_44 : dc cX11_draw 44 (.invokestatic 119) 3 47 := ⟨by decide +kernel, rfl⟩
theorem dX11_draw_47 : dc cX11_draw 47 (.invokevirtual 159) 3 50 := ⟨by decide +kernel, rfl⟩
theorem dX11_draw_50 : dAs cX11_draw 50 7 52 := Or.inr ⟨by decide +kernel, rfl⟩
theorem dX11_draw_52 : dAl cX11_draw 52 7 54 := Or.inr ⟨by decide +kernel, rfl⟩
theorem dX11_draw_54 : dj cX11_draw 54 .ifnonnull 60 57 := ⟨6, by decide +kernel, by decide, rfl⟩
theorem dX11_draw_57 : dKc cX11_draw 57 (-3) 59 := Or.inr (Or.inl ⟨(-3), by decide +kernel, by decide +kernel, rfl⟩)
theorem dX11_draw_59 : dc cX11_draw 59 .ireturn 1 60 := ⟨by decide +kernel, rfl⟩
theorem dX11_draw_60 : dAl cX11_draw 60 0 61 := Or.inl ⟨0, rfl, by decide +kernel, rfl⟩
theorem dX11_draw_61 : dAl cX11_draw 61 7 63 := Or.inr ⟨by decide +kernel, rfl⟩
theorem dX11_draw_63 : dc cX11_draw 63 (.invokevirtual 140) 3 66 := ⟨by decide +kernel, rfl⟩
theorem dX11_draw_66 : dAl cX11_draw 66 0 67 := Or.inl ⟨0, rfl, by decide +kernel, rfl⟩
theorem dX11_draw_67 : dc cX11_draw 67 .dup 1 68 := ⟨by decide +kernel, rfl⟩
theorem dX11_draw_68 : dc cX11_draw 68 (.getfield 29) 3 71 := ⟨by decide +kernel, rfl⟩
theorem dX11_draw_71 : dKc cX11_draw 71 1 72 := Or.inl ⟨1, by decide +kernel, by decide +kernel, rfl⟩
theorem dX11_draw_72 : dc cX11_draw 72 .iadd 1 73 := ⟨by decide +kernel, rfl⟩
theorem dX11_draw_73 : dc cX11_draw 73 (.putfield 29) 3 76 := ⟨by decide +kernel, rfl⟩
theorem dX11_draw_76 : dAl cX11_draw 76 0 77 := Or.inl ⟨0, rfl, by decide +kernel, rfl⟩
theorem dX11_draw_77 : dc cX11_draw 77 .dup 1 78 := ⟨by decide +kernel, rfl⟩
theorem dX11_draw_78 : dc cX11_draw 78 (.getfield 32) 3 81 := ⟨by decide +kernel, rfl⟩
theorem dX11_draw_81 : dKc cX11_draw 81 1 82 := Or.inl ⟨1, by decide +kernel, by decide +kernel, rfl⟩
theorem dX11_draw_82 : dc cX11_draw 82 .iadd 1 83 := ⟨by decide +kernel, rfl⟩
theorem dX11_draw_83 : dc cX11_draw 83 (.putfield 32) 3 86 := ⟨by decide +kernel, rfl⟩
theorem dX11_draw_86 : dAl cX11_draw 86 7 88 := Or.inr ⟨by decide +kernel, rfl⟩
theorem dX11_draw_88 : dc cX11_draw 88 .dup 1 89 := ⟨by decide +kernel, rfl⟩
theorem dX11_draw_89 : dc cX11_draw 89 (.getfield 137) 3 92 := ⟨by decide +kernel, rfl⟩
theorem dX11_draw_92 : dKc cX11_draw 92 1 93 := Or.inl ⟨1, by decide +kernel, by decide +kernel, rfl⟩
theorem dX11_draw_93 : dc cX11_draw 93 .iadd 1 94 := ⟨by decide +kernel, rfl⟩
theorem dX11_draw_94 : dc cX11_draw 94 (.putfield 137) 3 97 := ⟨by decide +kernel, rfl⟩
theorem dX11_draw_97 : dAl cX11_draw 97 7 99 := Or.inr ⟨by decide +kernel, rfl⟩
theorem dX11_draw_99 : dc cX11_draw 99 (.getfield 98) 3 102 := ⟨by decide +kernel, rfl⟩
theorem dX11_draw_102 : dc cX11_draw 102 (.getfield 102) 3 105 := ⟨by decide +kernel, rfl⟩
theorem dX11_draw_105 : dc cX11_draw 105 .ireturn 1 106 := ⟨by decide +kernel, rfl⟩
theorem dX11_hold_0 : dAl cX11_hold 0 0 1 := Or.inl ⟨0, rfl, by decide +kernel, rfl⟩
theorem dX11_hold_1 : dIl cX11_hold 1 2 2 := Or.inl ⟨2, rfl, by decide +kernel, rfl⟩
theorem dX11_hold_2 : dc cX11_hold 2 (.invokevirtual 105) 3 5 := ⟨by decide +kernel, rfl⟩
theorem dX11_hold_5 : dAs cX11_hold 5 3 6 := Or.inl ⟨3, rfl, by decide +kernel, rfl⟩
theorem dX11_hold_6 : dIl cX11_hold 6 1 7 := Or.inl ⟨1, rfl, by decide +kernel, rfl⟩
theorem dX11_hold_7 : dc cX11_hold 7 (.invokestatic 162) 3 10 := ⟨by decide +kernel, rfl⟩
theorem dX11_hold_10 : dj cX11_hold 10 (.ifCond .eq) 17 13 := ⟨7, by decide +kernel, by decide, rfl⟩
theorem dX11_hold_13 : dAl cX11_hold 13 3 14 := Or.inl ⟨3, rfl, by decide +kernel, rfl⟩
theorem dX11_hold_14 : dj cX11_hold 14 .ifnonnull 19 17 := ⟨5, by decide +kernel, by decide, rfl⟩
theorem dX11_hold_17 : dKc cX11_hold 17 (-1) 18 := Or.inl ⟨(-1), by decide +kernel, by decide +kernel, rfl⟩
theorem dX11_hold_18 : dc cX11_hold 18 .ireturn 1 19 := ⟨by decide +kernel, rfl⟩
theorem dX11_hold_19 : dAl cX11_hold 19 0 20 := Or.inl ⟨0, rfl, by decide +kernel, rfl⟩
theorem dX11_hold_20 : dAl cX11_hold 20 3 21 := Or.inl ⟨3, rfl, by decide +kernel, rfl⟩
theorem dX11_hold_21 : dc cX11_hold 21 (.invokevirtual 140) 3 24 := ⟨by decide +kernel, rfl⟩
theorem dX11_hold_24 : dAl cX11_hold 24 0 25 := Or.inl ⟨0, rfl, by decide +kernel, rfl⟩
theorem dX11_hold_25 : dc cX11_hold 25 .dup 1 26 := ⟨by decide +kernel, rfl⟩
theorem dX11_hold_26 : dc cX11_hold 26 (.getfield 29) 3 29 := ⟨by decide +kernel, rfl⟩
theorem dX11_hold_29 : dKc cX11_hold 29 1 30 := Or.inl ⟨1, by decide +kernel, by decide +kernel, rfl⟩
theorem dX11_hold_30 : dc cX11_hold 30 .iadd 1 31 := ⟨by decide +kernel, rfl⟩
theorem dX11_hold_31 : dc cX11_hold 31 (.putfield 29) 3 34 := ⟨by decide +kernel, rfl⟩
theorem dX11_hold_34 : dAl cX11_hold 34 0 35 := Or.inl ⟨0, rfl, by decide +kernel, rfl⟩
theorem dX11_hold_35 : dc cX11_hold 35 (.getfield 37) 3 38 := ⟨by decide +kernel, rfl⟩
theorem dX11_hold_38 : dIl cX11_hold 38 1 39 := Or.inl ⟨1, rfl, by decide +kernel, rfl⟩
theorem dX11_hold_39 : dAl cX11_hold 39 3 40 := Or.inl ⟨3, rfl, by decide +kernel, rfl⟩
theorem dX11_hold_40 : dc cX11_hold 40 .aastore 1 41 := ⟨by decide +kernel, rfl⟩
theorem dX11_hold_41 : dAl cX11_hold 41 3 42 := Or.inl ⟨3, rfl, by decide +kernel, rfl⟩
theorem dX11_hold_42 : dc cX11_hold 42 (.getfield 98) 3 45 := ⟨by decide +kernel, rfl⟩
theorem dX11_hold_45 : dc cX11_hold 45 (.getfield 109) 3 48 := ⟨by decide +kernel, rfl⟩
theorem dX11_hold_48 : dc cX11_hold 48 .ireturn 1 49 := ⟨by decide +kernel, rfl⟩
theorem dX11_row_0 : dIl cX11_row 0 1 1 := Or.inl ⟨1, rfl, by decide +kernel, rfl⟩
theorem dX11_row_1 : dc cX11_row 1 (.invokestatic 162) 3 4 := ⟨by decide +kernel, rfl⟩
theorem dX11_row_4 : dj cX11_row 4 (.ifCond .eq) 23 7 := ⟨19, by decide +kernel, by decide, rfl⟩
theorem dX11_row_7 : dIl cX11_row 7 2 8 := Or.inl ⟨2, rfl, by decide +kernel, rfl⟩
theorem dX11_row_8 : dKc cX11_row 8 (-3) 10 := Or.inr (Or.inl ⟨(-3), by decide +kernel, by decide +kernel, rfl⟩)
theorem dX11_row_10 : dj cX11_row 10 (.if_icmp .eq) 25 13 := ⟨15, by decide +kernel, by decide, rfl⟩
theorem dX11_row_13 : dIl cX11_row 13 2 14 := Or.inl ⟨2, rfl, by decide +kernel, rfl⟩
theorem dX11_row_14 : dKc cX11_row 14 0 15 := Or.inl ⟨0, by decide +kernel, by decide +kernel, rfl⟩
theorem dX11_row_15 : dKc cX11_row 15 12 17 := Or.inr (Or.inl ⟨12, by decide +kernel, by decide +kernel, rfl⟩)
theorem dX11_row_17 : dc cX11_row 17 (.invokestatic 78) 3 20 := ⟨by decide +kernel, rfl⟩
theorem dX11_row_20 : dj cX11_row 20 (.ifCond .ne) 25 23 := ⟨5, by decide +kernel, by decide, rfl⟩
theorem dX11_row_23 : dKc cX11_row 23 (-1) 24 := Or.inl ⟨(-1), by decide +kernel, by decide +kernel, rfl⟩
theorem dX11_row_24 : dc cX11_row 24 .ireturn 1 25 := ⟨by decide +kernel, rfl⟩
theorem dX11_row_25 : dAl cX11_row 25 0 26 := Or.inl ⟨0, rfl, by decide +kernel, rfl⟩
theorem dX11_row_26 : dc cX11_row 26 (.getfield 37) 3 29 := ⟨by decide +kernel, rfl⟩
theorem dX11_row_29 : dIl cX11_row 29 1 30 := Or.inl ⟨1, rfl, by decide +kernel, rfl⟩
theorem dX11_row_30 : dIl cX11_row 30 2 31 := Or.inl ⟨2, rfl, by decide +kernel, rfl⟩
theorem dX11_row_31 : dKc cX11_row 31 (-3) 33 := Or.inr (Or.inl ⟨(-3), by decide +kernel, by decide +kernel, rfl⟩)
theorem dX11_row_33 : dj cX11_row 33 (.if_icmp .ne) 40 36 := ⟨7, by decide +kernel, by decide, rfl⟩
theorem dX11_row_36 : dc cX11_row 36 .aconst_null 1 37 := ⟨by decide +kernel, rfl⟩
theorem dX11_row_37 : dj cX11_row 37 .goto 48 40 := ⟨11, by decide +kernel, by decide, rfl⟩
theorem dX11_row_40 : dc cX11_row 40 (.new 166) 3 43 := ⟨by decide +kernel, rfl⟩
theorem dX11_row_43 : dc cX11_row 43 .dup 1 44 := ⟨by decide +kernel, rfl⟩
theorem dX11_row_44 : dIl cX11_row 44 2 45 := Or.inl ⟨2, rfl, by decide +kernel, rfl⟩
theorem dX11_row_45 : dc cX11_row 45 (.invokespecial 168) 3 48 := ⟨by decide +kernel, rfl⟩
theorem dX11_row_48 : dc cX11_row 48 .aastore 1 49 := ⟨by decide +kernel, rfl⟩
theorem dX11_row_49 : dKc cX11_row 49 1 50 := Or.inl ⟨1, by decide +kernel, by decide +kernel, rfl⟩
theorem dX11_row_50 : dc cX11_row 50 .ireturn 1 51 := ⟨by decide +kernel, rfl⟩
theorem dX11_item_0 : dAl cX11_item 0 0 1 := Or.inl ⟨0, rfl, by decide +kernel, rfl⟩
theorem dX11_item_1 : dIl cX11_item 1 1 2 := Or.inl ⟨1, rfl, by decide +kernel, rfl⟩
theorem dX11_item_2 : dc cX11_item 2 (.invokevirtual 169) 3 5 := ⟨by decide +kernel, rfl⟩
theorem dX11_item_5 : dAs cX11_item 5 5 7 := Or.inr ⟨by decide +kernel, rfl⟩
theorem dX11_item_7 : dAl cX11_item 7 5 9 := Or.inr ⟨by decide +kernel, rfl⟩
theorem dX11_item_9 : dc cX11_item 9 (.instanceof 166) 3 12 := ⟨by decide +kernel, rfl⟩
theorem dX11_item_12 : dj cX11_item 12 (.ifCond .eq) 51 15 := ⟨39, by decide +kernel, by decide, rfl⟩
theorem dX11_item_15 : dAl cX11_item 15 5 17 := Or.inr ⟨by decide +kernel, rfl⟩
theorem dX11_item_17 : dc cX11_item 17 (.checkcast 166) 3 20 := ⟨by decide +kernel, rfl⟩
theorem dX11_item_20 : dAs cX11_item 20 4 22 := Or.inr ⟨by decide +kernel, rfl⟩
theorem dX11_item_22 : dAl cX11_item 22 4 24 := Or.inr ⟨by decide +kernel, rfl⟩
theorem dX11_item_24 : dIl cX11_item 24 2 25 := Or.inl ⟨2, rfl, by decide +kernel, rfl⟩
theorem dX11_item_25 : dc cX11_item 25 (.invokevirtual 173) 3 28 := ⟨by decide +kernel, rfl⟩
theorem dX11_item_28 : dj cX11_item 28 (.ifCond .eq) 51 31 := ⟨23, by decide +kernel, by decide, rfl⟩
theorem dX11_item_31 : dAl cX11_item 31 4 33 := Or.inr ⟨by decide +kernel, rfl⟩
theorem dX11_item_33 : dc cX11_item 33 (.getfield 176) 3 36 := ⟨by decide +kernel, rfl⟩
theorem dX11_item_36 : dIl cX11_item 36 2 37 := Or.inl ⟨2, rfl, by decide +kernel, rfl⟩
theorem dX11_item_37 : dc cX11_item 37 .iaload 1 38 := ⟨by decide +kernel, rfl⟩
theorem dX11_item_38 : dIs cX11_item 38 5 40 := Or.inr ⟨by decide +kernel, rfl⟩
theorem dX11_item_40 : dAl cX11_item 40 4 42 := Or.inr ⟨by decide +kernel, rfl⟩
theorem dX11_item_42 : dc cX11_item 42 (.getfield 176) 3 45 := ⟨by decide +kernel, rfl⟩
theorem dX11_item_45 : dIl cX11_item 45 2 46 := Or.inl ⟨2, rfl, by decide +kernel, rfl⟩
theorem dX11_item_46 : dIl cX11_item 46 3 47 := Or.inl ⟨3, rfl, by decide +kernel, rfl⟩
theorem dX11_item_47 : dc cX11_item 47 .iastore 1 48 := ⟨by decide +kernel, rfl⟩
theorem dX11_item_48 : dIl cX11_item 48 5 50 := Or.inr ⟨by decide +kernel, rfl⟩
theorem dX11_item_50 : dc cX11_item 50 .ireturn 1 51 := ⟨by decide +kernel, rfl⟩
theorem dX11_item_51 : dKc cX11_item 51 (-1) 52 := Or.inl ⟨(-1), by decide +kernel, by decide +kernel, rfl⟩
theorem dX11_item_52 : dc cX11_item 52 .ireturn 1 53 := ⟨by decide +kernel, rfl⟩
theorem dX11_share_0 : dIl cX11_share 0 1 1 := Or.inl ⟨1, rfl, by decide +kernel, rfl⟩
theorem dX11_share_1 : dc cX11_share 1 (.invokestatic 162) 3 4 := ⟨by decide +kernel, rfl⟩
theorem dX11_share_4 : dj cX11_share 4 (.ifCond .eq) 14 7 := ⟨10, by decide +kernel, by decide, rfl⟩
theorem dX11_share_7 : dIl cX11_share 7 2 8 := Or.inl ⟨2, rfl, by decide +kernel, rfl⟩
theorem dX11_share_8 : dc cX11_share 8 (.invokestatic 162) 3 11 := ⟨by decide +kernel, rfl⟩
theorem dX11_share_11 : dj cX11_share 11 (.ifCond .ne) 16 14 := ⟨5, by decide +kernel, by decide, rfl⟩
theorem dX11_share_14 : dKc cX11_share 14 (-1) 15 := Or.inl ⟨(-1), by decide +kernel, by decide +kernel, rfl⟩
theorem dX11_share_15 : dc cX11_share 15 .ireturn 1 16 := ⟨by decide +kernel, rfl⟩
theorem dX11_share_16 : dAl cX11_share 16 0 17 := Or.inl ⟨0, rfl, by decide +kernel, rfl⟩
theorem dX11_share_17 : dc cX11_share 17 (.getfield 37) 3 20 := ⟨by decide +kernel, rfl⟩
theorem dX11_share_20 : dIl cX11_share 20 1 21 := Or.inl ⟨1, rfl, by decide +kernel, rfl⟩
theorem dX11_share_21 : dAl cX11_share 21 0 22 := Or.inl ⟨0, rfl, by decide +kernel, rfl⟩
theorem dX11_share_22 : dc cX11_share 22 (.getfield 37) 3 25 := ⟨by decide +kernel, rfl⟩
theorem dX11_share_25 : dIl cX11_share 25 2 26 := Or.inl ⟨2, rfl, by decide +kernel, rfl⟩
theorem dX11_share_26 : dc cX11_share 26 .aaload 1 27 := ⟨by decide +kernel, rfl⟩
theorem dX11_share_27 : dc cX11_share 27 .aastore 1 28 := ⟨by decide +kernel, rfl⟩
theorem dX11_share_28 : dAl cX11_share 28 0 29 := Or.inl ⟨0, rfl, by decide +kernel, rfl⟩
theorem dX11_share_29 : dc cX11_share 29 (.getfield 37) 3 32 := ⟨by decide +kernel, rfl⟩
theorem dX11_share_32 : dIl cX11_share 32 1 33 := Or.inl ⟨1, rfl, by decide +kernel, rfl⟩
theorem dX11_share_33 : dc cX11_share 33 .aaload 1 34 := ⟨by decide +kernel, rfl⟩
theorem dX11_share_34 : dc cX11_share 34 (.invokestatic 179) 3 37 := ⟨by decide +kernel, rfl⟩
theorem dX11_share_37 : dc cX11_share 37 .ireturn 1 38 := ⟨by decide +kernel, rfl⟩
theorem dX11_family_0 : dIl cX11_family 0 1 1 := Or.inl ⟨1, rfl, by decide +kernel, rfl⟩
theorem dX11_family_1 : dc cX11_family 1 (.invokestatic 162) 3 4 := ⟨by decide +kernel, rfl⟩
theorem dX11_family_4 : dj cX11_family 4 (.ifCond .eq) 19 7 := ⟨15, by decide +kernel, by decide, rfl⟩
theorem dX11_family_7 : dAl cX11_family 7 0 8 := Or.inl ⟨0, rfl, by decide +kernel, rfl⟩
theorem dX11_family_8 : dc cX11_family 8 (.getfield 37) 3 11 := ⟨by decide +kernel, rfl⟩
theorem dX11_family_11 : dIl cX11_family 11 1 12 := Or.inl ⟨1, rfl, by decide +kernel, rfl⟩
theorem dX11_family_12 : dc cX11_family 12 .aaload 1 13 := ⟨by decide +kernel, rfl⟩
theorem dX11_family_13 : dc cX11_family 13 (.invokestatic 179) 3 16 := ⟨by decide +kernel, rfl⟩
theorem dX11_family_16 : dj cX11_family 16 .goto 20 19 := ⟨4, by decide +kernel, by decide, rfl⟩
theorem dX11_family_19 : dKc cX11_family 19 (-1) 20 := Or.inl ⟨(-1), by decide +kernel, by decide +kernel, rfl⟩
theorem dX11_family_20 : dc cX11_family 20 .ireturn 1 21 := ⟨by decide +kernel, rfl⟩
theorem dX11_is_0 : dIl cX11_is 0 1 1 := Or.inl ⟨1, rfl, by decide +kernel, rfl⟩
theorem dX11_is_1 : dc cX11_is 1 (.invokestatic 162) 3 4 := ⟨by decide +kernel, rfl⟩
theorem dX11_is_4 : dj cX11_is 4 (.ifCond .eq) 16 7 := ⟨12, by decide +kernel, by decide, rfl⟩
theorem dX11_is_7 : dIl cX11_is 7 2 8 := Or.inl ⟨2, rfl, by decide +kernel, rfl⟩
theorem dX11_is_8 : dKc cX11_is 8 1 9 := Or.inl ⟨1, by decide +kernel, by decide +kernel, rfl⟩
theorem dX11_is_9 : dKc cX11_is 9 5 10 := Or.inl ⟨5, by decide +kernel, by decide +kernel, rfl⟩
theorem dX11_is_10 : dc cX11_is 10 (.invokestatic 78) 3 13 := ⟨by decide +kernel, rfl⟩
theorem dX11_is_13 : dj cX11_is 13 (.ifCond .ne) 18 16 := ⟨5, by decide +kernel, by decide, rfl⟩
theorem dX11_is_16 : dKc cX11_is 16 (-1) 17 := Or.inl ⟨(-1), by decide +kernel, by decide +kernel, rfl⟩
theorem dX11_is_17 : dc cX11_is 17 .ireturn 1 18 := ⟨by decide +kernel, rfl⟩
theorem dX11_is_18 : dAl cX11_is 18 0 19 := Or.inl ⟨0, rfl, by decide +kernel, rfl⟩
theorem dX11_is_19 : dc cX11_is 19 (.getfield 37) 3 22 := ⟨by decide +kernel, rfl⟩
theorem dX11_is_22 : dIl cX11_is 22 1 23 := Or.inl ⟨1, rfl, by decide +kernel, rfl⟩
theorem dX11_is_23 : dc cX11_is 23 .aaload 1 24 := ⟨by decide +kernel, rfl⟩
theorem dX11_is_24 : dIl cX11_is 24 2 25 := Or.inl ⟨2, rfl, by decide +kernel, rfl⟩
theorem dX11_is_25 : dc cX11_is 25 (.invokestatic 183) 3 28 := ⟨by decide +kernel, rfl⟩
theorem dX11_is_28 : dj cX11_is 28 (.ifCond .eq) 35 31 := ⟨7, by decide +kernel, by decide, rfl⟩
theorem dX11_is_31 : dKc cX11_is 31 1 32 := Or.inl ⟨1, by decide +kernel, by decide +kernel, rfl⟩
theorem dX11_is_32 : dj cX11_is 32 .goto 36 35 := ⟨4, by decide +kernel, by decide, rfl⟩
theorem dX11_is_35 : dKc cX11_is 35 0 36 := Or.inl ⟨0, by decide +kernel, by decide +kernel, rfl⟩
theorem dX11_is_36 : dc cX11_is 36 .ireturn 1 37 := ⟨by decide +kernel, rfl⟩
theorem dX11_like_0 : dIl cX11_like 0 1 1 := Or.inl ⟨1, rfl, by decide +kernel, rfl⟩
theorem dX11_like_1 : dc cX11_like 1 (.invokestatic 162) 3 4 := ⟨by decide +kernel, rfl⟩
theorem dX11_like_4 : dj cX11_like 4 (.ifCond .eq) 14 7 := ⟨10, by decide +kernel, by decide, rfl⟩
theorem dX11_like_7 : dIl cX11_like 7 2 8 := Or.inl ⟨2, rfl, by decide +kernel, rfl⟩
theorem dX11_like_8 : dc cX11_like 8 (.invokestatic 162) 3 11 := ⟨by decide +kernel, rfl⟩
theorem dX11_like_11 : dj cX11_like 11 (.ifCond .ne) 16 14 := ⟨5, by decide +kernel, by decide, rfl⟩
theorem dX11_like_14 : dKc cX11_like 14 (-1) 15 := Or.inl ⟨(-1), by decide +kernel, by decide +kernel, rfl⟩
theorem dX11_like_15 : dc cX11_like 15 .ireturn 1 16 := ⟨by decide +kernel, rfl⟩
theorem dX11_like_16 : dAl cX11_like 16 0 17 := Or.inl ⟨0, rfl, by decide +kernel, rfl⟩
theorem dX11_like_17 : dc cX11_like 17 (.getfield 37) 3 20 := ⟨by decide +kernel, rfl⟩
theorem dX11_like_20 : dIl cX11_like 20 1 21 := Or.inl ⟨1, rfl, by decide +kernel, rfl⟩
theorem dX11_like_21 : dc cX11_like 21 .aaload 1 22 := ⟨by decide +kernel, rfl⟩
theorem dX11_like_22 : dAl cX11_like 22 0 23 := Or.inl ⟨0, rfl, by decide +kernel, rfl⟩
theorem dX11_like_23 : dc cX11_like 23 (.getfield 37) 3 26 := ⟨by decide +kernel, rfl⟩
theorem dX11_like_26 : dIl cX11_like 26 2 27 := Or.inl ⟨2, rfl, by decide +kernel, rfl⟩
theorem dX11_like_27 : dc cX11_like 27 .aaload 1 28 := ⟨by decide +kernel, rfl⟩
theorem dX11_like_28 : dKc cX11_like 28 0 29 := Or.inl ⟨0, by decide +kernel, by decide +kernel, rfl⟩
theorem dX11_like_29 : dc cX11_like 29 (.invokestatic 187) 3 32 := ⟨by decide +kernel, rfl⟩
theorem dX11_like_32 : dj cX11_like 32 (.ifCond .eq) 39 35 := ⟨7, by decide +kernel, by decide, rfl⟩
theorem dX11_like_35 : dKc cX11_like 35 1 36 := Or.inl ⟨1, by decide +kernel, by decide +kernel, rfl⟩
theorem dX11_like_36 : dj cX11_like 36 .goto 40 39 := ⟨4, by decide +kernel, by decide, rfl⟩
theorem dX11_like_39 : dKc cX11_like 39 0 40 := Or.inl ⟨0, by decide +kernel, by decide +kernel, rfl⟩
theorem dX11_like_40 : dc cX11_like 40 .ireturn 1 41 := ⟨by decide +kernel, rfl⟩
theorem dX11_part_0 : dAl cX11_part 0 0 1 := Or.inl ⟨0, rfl, by decide +kernel, rfl⟩
theorem dX11_part_1 : dIl cX11_part 1 1 2 := Or.inl ⟨1, rfl, by decide +kernel, rfl⟩
theorem dX11_part_2 : dc cX11_part 2 (.invokevirtual 191) 3 5 := ⟨by decide +kernel, rfl⟩
theorem dX11_part_5 : dAs cX11_part 5 4 7 := Or.inr ⟨by decide +kernel, rfl⟩
theorem dX11_part_7 : dAl cX11_part 7 4 9 := Or.inr ⟨by decide +kernel, rfl⟩
theorem dX11_part_9 : dj cX11_part 9 .ifnull 20 12 := ⟨11, by decide +kernel, by decide, rfl⟩
theorem dX11_part_12 : dIl cX11_part 12 2 13 := Or.inl ⟨2, rfl, by decide +kernel, rfl⟩
theorem dX11_part_13 : dIl cX11_part 13 3 14 := Or.inl ⟨3, rfl, by decide +kernel, rfl⟩
theorem dX11_part_14 : dc cX11_part 14 (.invokestatic 195) 3 17 := ⟨by decide +kernel, rfl⟩
theorem dX11_part_17 : dj cX11_part 17 (.ifCond .ne) 22 20 := ⟨5, by decide +kernel, by decide, rfl⟩
theorem dX11_part_20 : dKc cX11_part 20 (-1) 21 := Or.inl ⟨(-1), by decide +kernel, by decide +kernel, rfl⟩
theorem dX11_part_21 : dc cX11_part 21 .ireturn 1 22 := ⟨by decide +kernel, rfl⟩
theorem dX11_part_22 : dAl cX11_part 22 4 24 := Or.inr ⟨by decide +kernel, rfl⟩
theorem dX11_part_24 : dIl cX11_part 24 2 25 := Or.inl ⟨2, rfl, by decide +kernel, rfl⟩
theorem dX11_part_25 : dIl cX11_part 25 3 26 := Or.inl ⟨3, rfl, by decide +kernel, rfl⟩
theorem dX11_part_26 : dc cX11_part 26 (.invokevirtual 199) 3 29 := ⟨by decide +kernel, rfl⟩
theorem dX11_part_29 : dc cX11_part 29 .ireturn 1 30 := ⟨by decide +kernel, rfl⟩
theorem dX11_check_0 : dAl cX11_check 0 0 1 := Or.inl ⟨0, rfl, by decide +kernel, rfl⟩
theorem dX11_check_1 : dIl cX11_check 1 1 2 := Or.inl ⟨1, rfl, by decide +kernel, rfl⟩
theorem dX11_check_2 : dc cX11_check 2 (.invokevirtual 191) 3 5 := ⟨by decide +kernel, rfl⟩
theorem dX11_check_5 : dAs cX11_check 5 5 7 := Or.inr ⟨by decide +kernel, rfl⟩
theorem dX11_check_7 : dAl cX11_check 7 5 9 := Or.inr ⟨by decide +kernel, rfl⟩
theorem dX11_check_9 : dj cX11_check 9 .ifnull 31 12 := ⟨22, by decide +kernel, by decide, rfl⟩
theorem dX11_check_12 : dAl cX11_check 12 5 14 := Or.inr ⟨by decide +kernel, rfl⟩
theorem dX11_check_14 : dIl cX11_check 14 3 15 := Or.inl ⟨3, rfl, by decide +kernel, rfl⟩
theorem dX11_check_15 : dc cX11_check 15 (.invokevirtual 203) 3 18 := ⟨by decide +kernel, rfl⟩
theorem dX11_check_18 : dj cX11_check 18 (.ifCond .eq) 31 21 := ⟨13, by decide +kernel, by decide, rfl⟩
theorem dX11_check_21 : dAl cX11_check 21 5 23 := Or.inr ⟨by decide +kernel, rfl⟩
theorem dX11_check_23 : dIl cX11_check 23 4 25 := Or.inr ⟨by decide +kernel, rfl⟩
theorem dX11_check_25 : dc cX11_check 25 (.invokevirtual 203) 3 28 := ⟨by decide +kernel, rfl⟩
theorem dX11_check_28 : dj cX11_check 28 (.ifCond .ne) 33 31 := ⟨5, by decide +kernel, by decide, rfl⟩
theorem dX11_check_31 : dKc cX11_check 31 (-1) 32 := Or.inl ⟨(-1), by decide +kernel, by decide +kernel, rfl⟩
theorem dX11_check_32 : dc cX11_check 32 .ireturn 1 33 := ⟨by decide +kernel, rfl⟩
theorem dX11_check_33 : dAl cX11_check 33 5 35 := Or.inr ⟨by decide +kernel, rfl⟩
theorem dX11_check_35 : dc cX11_check 35 (.getfield 206) 3 38 := ⟨by decide +kernel, rfl⟩
theorem dX11_check_38 : dIl cX11_check 38 4 40 := Or.inr ⟨by decide +kernel, rfl⟩
theorem dX11_check_40 : dc cX11_check 40 .iaload 1 41 := ⟨by decide +kernel, rfl⟩
theorem dX11_check_41 : dj cX11_check 41 (.ifCond .ne) 58 44 := ⟨17, by decide +kernel, by decide, rfl⟩
theorem dX11_check_44 : dIl cX11_check 44 2 45 := Or.inl ⟨2, rfl, by decide +kernel, rfl⟩
theorem dX11_check_45 : dAl cX11_check 45 5 47 := Or.inr ⟨by decide +kernel, rfl⟩
theorem dX11_check_47 : dc cX11_check 47 (.getfield 206) 3 50 := ⟨by decide +kernel, rfl⟩
theorem dX11_check_50 : dIl cX11_check 50 3 51 := Or.inl ⟨3, rfl, by decide +kernel, rfl⟩
theorem dX11_check_51 : dc cX11_check 51 .iaload 1 52 := ⟨by decide +kernel, rfl⟩
theorem dX11_check_52 : dc cX11_check 52 (.invokestatic 209) 3 55 := ⟨by decide +kernel, rfl⟩
theorem dX11_check_55 : dj cX11_check 55 (.ifCond .ne) 60 58 := ⟨5, by decide +kernel, by decide, rfl⟩
theorem dX11_check_58 : dKc cX11_check 58 (-1) 59 := Or.inl ⟨(-1), by decide +kernel, by decide +kernel, rfl⟩
theorem dX11_check_59 : dc cX11_check 59 .ireturn 1 60 := ⟨by decide +kernel, rfl⟩
theorem dX11_check_60 : dAl cX11_check 60 5 62 := Or.inr ⟨by decide +kernel, rfl⟩
theorem dX11_check_62 : dIl cX11_check 62 2 63 := Or.inl ⟨2, rfl, by decide +kernel, rfl⟩
theorem dX11_check_63 : dIl cX11_check 63 3 64 := Or.inl ⟨3, rfl, by decide +kernel, rfl⟩
theorem dX11_check_64 : dIl cX11_check 64 4 66 := Or.inr ⟨by decide +kernel, rfl⟩
theorem dX11_check_66 : dc cX11_check 66 (.invokevirtual 212) 3 69 := ⟨by decide +kernel, rfl⟩
theorem dX11_check_69 : dc cX11_check 69 .ireturn 1 70 := ⟨by decide +kernel, rfl⟩
theorem dX11_give_0 : dIl cX11_give 0 1 1 := Or.inl ⟨1, rfl, by decide +kernel, rfl⟩
theorem dX11_give_1 : dKc cX11_give 1 0 2 := Or.inl ⟨0, by decide +kernel, by decide +kernel, rfl⟩
theorem dX11_give_2 : dKc cX11_give 2 4 3 := Or.inl ⟨4, by decide +kernel, by decide +kernel, rfl⟩
theorem dX11_give_3 : dc cX11_give 3 (.invokestatic 78) 3 6 := ⟨by decide +kernel, rfl⟩
theorem dX11_give_6 : dj cX11_give 6 (.ifCond .eq) 16 9 := ⟨10, by decide +kernel, by decide, rfl⟩
theorem dX11_give_9 : dIl cX11_give 9 3 10 := Or.inl ⟨3, rfl, by decide +kernel, rfl⟩
theorem dX11_give_10 : dc cX11_give 10 (.invokestatic 162) 3 13 := ⟨by decide +kernel, rfl⟩
theorem dX11_give_13 : dj cX11_give 13 (.ifCond .ne) 18 16 := ⟨5, by decide +kernel, by decide, rfl⟩
theorem dX11_give_16 : dKc cX11_give 16 (-1) 17 := Or.inl ⟨(-1), by decide +kernel, by decide +kernel, rfl⟩
theorem dX11_give_17 : dc cX11_give 17 .ireturn 1 18 := ⟨by decide +kernel, rfl⟩
theorem dX11_give_18 : dAl cX11_give 18 0 19 := Or.inl ⟨0, rfl, by decide +kernel, rfl⟩
theorem dX11_give_19 : dc cX11_give 19 (.getfield 47) 3 22 := ⟨by decide +kernel, rfl⟩
theorem dX11_give_22 : dIl cX11_give 22 1 23 := Or.inl ⟨1, rfl, by decide +kernel, rfl⟩
theorem dX11_give_23 : dIl cX11_give 23 2 24 := Or.inl ⟨2, rfl, by decide +kernel, rfl⟩
theorem dX11_give_24 : dc cX11_give 24 .iastore 1 25 := ⟨by decide +kernel, rfl⟩
theorem dX11_give_25 : dAl cX11_give 25 0 26 := Or.inl ⟨0, rfl, by decide +kernel, rfl⟩
theorem dX11_give_26 : dc cX11_give 26 (.getfield 50) 3 29 := ⟨by decide +kernel, rfl⟩
theorem dX11_give_29 : dIl cX11_give 29 1 30 := Or.inl ⟨1, rfl, by decide +kernel, rfl⟩
theorem dX11_give_30 : dIl cX11_give 30 3 31 := Or.inl ⟨3, rfl, by decide +kernel, rfl⟩
theorem dX11_give_31 : dc cX11_give 31 .iastore 1 32 := ⟨by decide +kernel, rfl⟩
theorem dX11_give_32 : dKc cX11_give 32 1 33 := Or.inl ⟨1, by decide +kernel, by decide +kernel, rfl⟩
theorem dX11_give_33 : dc cX11_give 33 .ireturn 1 34 := ⟨by decide +kernel, rfl⟩
theorem dX11_make_0 : dAl cX11_make 0 0 1 := Or.inl ⟨0, rfl, by decide +kernel, rfl⟩
theorem dX11_make_1 : dIl cX11_make 1 1 2 := Or.inl ⟨1, rfl, by decide +kernel, rfl⟩
theorem dX11_make_2 : dc cX11_make 2 (.invokevirtual 191) 3 5 := ⟨by decide +kernel, rfl⟩
theorem dX11_make_5 : dAs cX11_make 5 3 6 := Or.inl ⟨3, rfl, by decide +kernel, rfl⟩
theorem dX11_make_6 : dAl cX11_make 6 3 7 := Or.inl ⟨3, rfl, by decide +kernel, rfl⟩
theorem dX11_make_7 : dj cX11_make 7 .ifnull 17 10 := ⟨10, by decide +kernel, by decide, rfl⟩
theorem dX11_make_10 : dIl cX11_make 10 2 11 := Or.inl ⟨2, rfl, by decide +kernel, rfl⟩
theorem dX11_make_11 : dc cX11_make 11 (.invokestatic 162) 3 14 := ⟨by decide +kernel, rfl⟩
theorem dX11_make_14 : dj cX11_make 14 (.ifCond .ne) 19 17 := ⟨5, by decide +kernel, by decide, rfl⟩
theorem dX11_make_17 : dKc cX11_make 17 (-1) 18 := Or.inl ⟨(-1), by decide +kernel, by decide +kernel, rfl⟩
theorem dX11_make_18 : dc cX11_make 18 .ireturn 1 19 := ⟨by decide +kernel, rfl⟩
theorem dX11_make_19 : dc cX11_make 19 (.new 216) 3 22 := ⟨by decide +kernel, rfl⟩
theorem dX11_make_22 : dc cX11_make 22 .dup 1 23 := ⟨by decide +kernel, rfl⟩
theorem dX11_make_23 : dAl cX11_make 23 3 24 := Or.inl ⟨3, rfl, by decide +kernel, rfl⟩
theorem dX11_make_24 : dc cX11_make 24 (.invokespecial 218) 3 27 := ⟨by decide +kernel, rfl⟩
theorem dX11_make_27 : dAs cX11_make 27 4 29 := Or.inr ⟨by decide +kernel, rfl⟩
theorem dX11_make_29 : dAl cX11_make 29 0 30 := Or.inl ⟨0, rfl, by decide +kernel, rfl⟩
theorem dX11_make_30 : dKc cX11_make 30 (-3) 32 := Or.inr (Or.inl ⟨(-3), by decide +kernel, by decide +kernel, rfl⟩)
theorem dX11_make_32 : dc cX11_make 32 (.putfield 59) 3 35 := ⟨by decide +kernel, rfl⟩
theorem dX11_make_35 : dAl cX11_make 35 0 36 := Or.inl ⟨0, rfl, by decide +kernel, rfl⟩
theorem dX11_make_36 : dAl cX11_make 36 0 37 := Or.inl ⟨0, rfl, by decide +kernel, rfl⟩
theorem dX11_make_37 : dAl cX11_make 37 4 39 := Or.inr ⟨by decide +kernel, rfl⟩
theorem dX11_make_39 : dc cX11_make 39 (.invokevirtual 221) 3 42 := ⟨by decide +kernel, rfl⟩
theorem dX11_make_42 : dc cX11_make 42 (.putfield 56) 3 45 := ⟨by decide +kernel, rfl⟩
theorem dX11_make_45 : dAl cX11_make 45 0 46 := Or.inl ⟨0, rfl, by decide +kernel, rfl⟩
theorem dX11_make_46 : dc cX11_make 46 (.getfield 56) 3 49 := ⟨by decide +kernel, rfl⟩
theorem dX11_make_49 : dj cX11_make 49 (.ifCond .ne) 62 52 := ⟨13, by decide +kernel, by decide, rfl⟩
theorem dX11_make_52 : dAl cX11_make 52 0 53 := Or.inl ⟨0, rfl, by decide +kernel, rfl⟩
theorem dX11_make_53 : dAl cX11_make 53 0 54 := Or.inl ⟨0, rfl, by decide +kernel, rfl⟩
theorem dX11_make_54 : dAl cX11_make 54 4 56 := Or.inr ⟨by decide +kernel, rfl⟩
theorem dX11_make_56 : dc cX11_make 56 (.invokevirtual 225) 3 59 := ⟨by decide +kernel, rfl⟩
theorem dX11_make_59 : dc cX11_make 59 (.putfield 56) 3 62 := ⟨by decide +kernel, rfl⟩
theorem dX11_make_62 : dAl cX11_make 62 0 63 := Or.inl ⟨0, rfl, by decide +kernel, rfl⟩
theorem dX11_make_63 : dc cX11_make 63 (.getfield 56) 3 66 := ⟨by decide +kernel, rfl⟩
theorem dX11_make_66 : dj cX11_make 66 (.ifCond .ne) 87 69 := ⟨21, by decide +kernel, by decide, rfl⟩
theorem dX11_make_69 : dAl cX11_make 69 0 70 := Or.inl ⟨0, rfl, by decide +kernel, rfl⟩
theorem dX11_make_70 : dc cX11_make 70 (.getfield 37) 3 73 := ⟨by decide +kernel, rfl⟩
theorem dX11_make_73 : dIl cX11_make 73 2 74 := Or.inl ⟨2, rfl, by decide +kernel, rfl⟩
theorem dX11_make_74 : dAl cX11_make 74 4 76 := Or.inr ⟨by decide +kernel, rfl⟩
theorem dX11_make_76 : dc cX11_make 76 .aastore 1 77 := ⟨by decide +kernel, rfl⟩
theorem dX11_make_77 : dAl cX11_make 77 0 78 := Or.inl ⟨0, rfl, by decide +kernel, rfl⟩
theorem dX11_make_78 : dc cX11_make 78 .dup 1 79 := ⟨by decide +kernel, rfl⟩
theorem dX11_make_79 : dc cX11_make 79 (.getfield 53) 3 82 := ⟨by decide +kernel, rfl⟩
theorem dX11_make_82 : dKc cX11_make 82 1 83 := Or.inl ⟨1, by decide +kernel, by decide +kernel, rfl⟩
theorem dX11_make_83 : dc cX11_make 83 .iadd 1 84 := ⟨by decide +kernel, rfl⟩
theorem dX11_make_84 : dc cX11_make 84 (.putfield 53) 3 87 := ⟨by decide +kernel, rfl⟩
theorem dX11_make_87 : dAl cX11_make 87 0 88 := Or.inl ⟨0, rfl, by decide +kernel, rfl⟩
theorem dX11_make_88 : dc cX11_make 88 .dup 1 89 := ⟨by decide +kernel, rfl⟩
theorem dX11_make_89 : dc cX11_make 89 (.getfield 29) 3 92 := ⟨by decide +kernel, rfl⟩
theorem dX11_make_92 : dKc cX11_make 92 1 93 := Or.inl ⟨1, by decide +kernel, by decide +kernel, rfl⟩
theorem dX11_make_93 : dc cX11_make 93 .iadd 1 94 := ⟨by decide +kernel, rfl⟩
theorem dX11_make_94 : dc cX11_make 94 (.putfield 29) 3 97 := ⟨by decide +kernel, rfl⟩
theorem dX11_make_97 : dAl cX11_make 97 0 98 := Or.inl ⟨0, rfl, by decide +kernel, rfl⟩
theorem dX11_make_98 : dc cX11_make 98 (.getfield 56) 3 101 := ⟨by decide +kernel, rfl⟩
theorem dX11_make_101 : dc cX11_make 101 .ireturn 1 102 := ⟨by decide +kernel, rfl⟩
theorem dX11_cause_0 : dIl cX11_cause 0 1 1 := Or.inl ⟨1, rfl, by decide +kernel, rfl⟩
theorem dX11_cause_1 : dc cX11_cause 1 (.lookupswitch 37 #[(0, 27), (1, 32)]) 27 28 := ⟨by decide +kernel, rfl⟩
theorem dX11_cause_28 : dAl cX11_cause 28 0 29 := Or.inl ⟨0, rfl, by decide +kernel, rfl⟩
theorem dX11_cause_29 : dc cX11_cause 29 (.getfield 56) 3 32 := ⟨by decide +kernel, rfl⟩
theorem dX11_cause_32 : dc cX11_cause 32 .ireturn 1 33 := ⟨by decide +kernel, rfl⟩
theorem dX11_cause_33 : dAl cX11_cause 33 0 34 := Or.inl ⟨0, rfl, by decide +kernel, rfl⟩
theorem dX11_cause_34 : dc cX11_cause 34 (.getfield 59) 3 37 := ⟨by decide +kernel, rfl⟩
theorem dX11_cause_37 : dc cX11_cause 37 .ireturn 1 38 := ⟨by decide +kernel, rfl⟩
theorem dX11_cause_38 : dKc cX11_cause 38 (-1) 39 := Or.inl ⟨(-1), by decide +kernel, by decide +kernel, rfl⟩
theorem dX11_cause_39 : dc cX11_cause 39 .ireturn 1 40 := ⟨by decide +kernel, rfl⟩
theorem dX11_told_0 : dAl cX11_told 0 0 1 := Or.inl ⟨0, rfl, by decide +kernel, rfl⟩
theorem dX11_told_1 : dIl cX11_told 1 1 2 := Or.inl ⟨1, rfl, by decide +kernel, rfl⟩
theorem dX11_told_2 : dc cX11_told 2 (.invokevirtual 169) 3 5 := ⟨by decide +kernel, rfl⟩
theorem dX11_told_5 : dAs cX11_told 5 4 7 := Or.inr ⟨by decide +kernel, rfl⟩
theorem dX11_told_7 : dAl cX11_told 7 4 9 := Or.inr ⟨by decide +kernel, rfl⟩
theorem dX11_told_9 : dc cX11_told 9 (.instanceof 216) 3 12 := ⟨by decide +kernel, rfl⟩
theorem dX11_told_12 : dj cX11_told 12 (.ifCond .eq) 73 15 := ⟨61, by decide +kernel, by decide, rfl⟩
theorem dX11_told_15 : dAl cX11_told 15 4 17 := Or.inr ⟨by decide +kernel, rfl⟩
theorem dX11_told_17 : dc cX11_told 17 (.checkcast 216) 3 20 := ⟨by decide +kernel, rfl⟩
theorem dX11_told_20 : dAs cX11_told 20 3 21 := Or.inl ⟨3, rfl, by decide +kernel, rfl⟩
theorem dX11_told_21 : dIl cX11_told 21 2 22 := Or.inl ⟨2, rfl, by decide +kernel, rfl⟩
theorem dX11_told_22 : dKc cX11_told 22 (-3) 24 := Or.inr (Or.inl ⟨(-3), by decide +kernel, by decide +kernel, rfl⟩)
theorem dX11_told_24 : dj cX11_told 24 (.if_icmp .ne) 35 27 := ⟨11, by decide +kernel, by decide, rfl⟩
theorem dX11_told_27 : dAl cX11_told 27 3 28 := Or.inl ⟨3, rfl, by decide +kernel, rfl⟩
theorem dX11_told_28 : dc cX11_told 28 (.getfield 228) 3 31 := ⟨by decide +kernel, rfl⟩
theorem dX11_told_31 : dc cX11_told 31 (.getfield 232) 3 34 := ⟨by decide +kernel, rfl⟩
theorem dX11_told_34 : dc cX11_told 34 .ireturn 1 35 := ⟨by decide +kernel, rfl⟩
theorem dX11_told_35 : dAl cX11_told 35 3 36 := Or.inl ⟨3, rfl, by decide +kernel, rfl⟩
theorem dX11_told_36 : dIl cX11_told 36 2 37 := Or.inl ⟨2, rfl, by decide +kernel, rfl⟩
theorem dX11_told_37 : dc cX11_told 37 (.invokevirtual 233) 3 40 := ⟨by decide +kernel, rfl⟩
theorem dX11_told_40 : dj cX11_told 40 (.ifCond .eq) 73 43 := ⟨33, by decide +kernel, by decide, rfl⟩
theorem dX11_told_43 : dAl cX11_told 43 3 44 := Or.inl ⟨3, rfl, by decide +kernel, rfl⟩
theorem dX11_told_44 : dIl cX11_told 44 2 45 := Or.inl ⟨2, rfl, by decide +kernel, rfl⟩
theorem dX11_told_45 : dc cX11_told 45 (.invokevirtual 234) 3 48 := ⟨by decide +kernel, rfl⟩
theorem dX11_told_48 : dj cX11_told 48 (.ifCond .eq) 60 51 := ⟨12, by decide +kernel, by decide, rfl⟩
theorem dX11_told_51 : dAl cX11_told 51 3 52 := Or.inl ⟨3, rfl, by decide +kernel, rfl⟩
theorem dX11_told_52 : dc cX11_told 52 (.getfield 237) 3 55 := ⟨by decide +kernel, rfl⟩
theorem dX11_told_55 : dIl cX11_told 55 2 56 := Or.inl ⟨2, rfl, by decide +kernel, rfl⟩
theorem dX11_told_56 : dc cX11_told 56 .iaload 1 57 := ⟨by decide +kernel, rfl⟩
theorem dX11_told_57 : dj cX11_told 57 .goto 72 60 := ⟨15, by decide +kernel, by decide, rfl⟩
theorem dX11_told_60 : dKc cX11_told 60 (-10) 62 := Or.inr (Or.inl ⟨(-10), by decide +kernel, by decide +kernel, rfl⟩)
theorem dX11_told_62 : dAl cX11_told 62 3 63 := Or.inl ⟨3, rfl, by decide +kernel, rfl⟩
theorem dX11_told_63 : dc cX11_told 63 (.getfield 240) 3 66 := ⟨by decide +kernel, rfl⟩
theorem dX11_told_66 : dIl cX11_told 66 2 67 := Or.inl ⟨2, rfl, by decide +kernel, rfl⟩
theorem dX11_told_67 : dc cX11_told 67 .aaload 1 68 := ⟨by decide +kernel, rfl⟩
theorem dX11_told_68 : dc cX11_told 68 (.invokestatic 179) 3 71 := ⟨by decide +kernel, rfl⟩
theorem dX11_told_71 : dc cX11_told 71 .iadd 1 72 := ⟨by decide +kernel, rfl⟩
theorem dX11_told_72 : dc cX11_told 72 .ireturn 1 73 := ⟨by decide +kernel, rfl⟩
theorem dX11_told_73 : dKc cX11_told 73 (-1) 74 := Or.inl ⟨(-1), by decide +kernel, by decide +kernel, rfl⟩
theorem dX11_told_74 : dc cX11_told 74 .ireturn 1 75 := ⟨by decide +kernel, rfl⟩
theorem dX11_take_0 : dIl cX11_take 0 3 1 := Or.inl ⟨3, rfl, by decide +kernel, rfl⟩
theorem dX11_take_1 : dc cX11_take 1 (.invokestatic 162) 3 4 := ⟨by decide +kernel, rfl⟩
theorem dX11_take_4 : dj cX11_take 4 (.ifCond .eq) 70 7 := ⟨66, by decide +kernel, by decide, rfl⟩
theorem dX11_take_7 : dAl cX11_take 7 0 8 := Or.inl ⟨0, rfl, by decide +kernel, rfl⟩
theorem dX11_take_8 : dIl cX11_take 8 1 9 := Or.inl ⟨1, rfl, by decide +kernel, rfl⟩
theorem dX11_take_9 : dc cX11_take 9 (.invokevirtual 169) 3 12 := ⟨by decide +kernel, rfl⟩
theorem dX11_take_12 : dAs cX11_take 12 5 14 := Or.inr ⟨by decide +kernel, rfl⟩
theorem dX11_take_14 : dAl cX11_take 14 5 16 := Or.inr ⟨by decide +kernel, rfl⟩
theorem dX11_take_16 : dc cX11_take 16 (.instanceof 216) 3 19 := ⟨by decide +kernel, rfl⟩
theorem dX11_take_19 : dj cX11_take 19 (.ifCond .eq) 70 22 := ⟨51, by decide +kernel, by decide, rfl⟩
theorem dX11_take_22 : dAl cX11_take 22 5 24 := Or.inr ⟨by decide +kernel, rfl⟩
theorem dX11_take_24 : dc cX11_take 24 (.checkcast 216) 3 27 := ⟨by decide +kernel, rfl⟩
theorem dX11_take_27 : dAs cX11_take 27 4 29 := Or.inr ⟨by decide +kernel, rfl⟩
theorem dX11_take_29 : dAl cX11_take 29 4 31 := Or.inr ⟨by decide +kernel, rfl⟩
theorem dX11_take_31 : dIl cX11_take 31 2 32 := Or.inl ⟨2, rfl, by decide +kernel, rfl⟩
theorem dX11_take_32 : dc cX11_take 32 (.invokevirtual 233) 3 35 := ⟨by decide +kernel, rfl⟩
theorem dX11_take_35 : dj cX11_take 35 (.ifCond .eq) 70 38 := ⟨35, by decide +kernel, by decide, rfl⟩
theorem dX11_take_38 : dAl cX11_take 38 4 40 := Or.inr ⟨by decide +kernel, rfl⟩
theorem dX11_take_40 : dIl cX11_take 40 2 41 := Or.inl ⟨2, rfl, by decide +kernel, rfl⟩
theorem dX11_take_41 : dc cX11_take 41 (.invokevirtual 234) 3 44 := ⟨by decide +kernel, rfl⟩
theorem dX11_take_44 : dj cX11_take 44 (.ifCond .ne) 70 47 := ⟨26, by decide +kernel, by decide, rfl⟩
theorem dX11_take_47 : dAl cX11_take 47 0 48 := Or.inl ⟨0, rfl, by decide +kernel, rfl⟩
theorem dX11_take_48 : dc cX11_take 48 (.getfield 37) 3 51 := ⟨by decide +kernel, rfl⟩
theorem dX11_take_51 : dIl cX11_take 51 3 52 := Or.inl ⟨3, rfl, by decide +kernel, rfl⟩
theorem dX11_take_52 : dAl cX11_take 52 4 54 := Or.inr ⟨by decide +kernel, rfl⟩
theorem dX11_take_54 : dc cX11_take 54 (.getfield 240) 3 57 := ⟨by decide +kernel, rfl⟩
theorem dX11_take_57 : dIl cX11_take 57 2 58 := Or.inl ⟨2, rfl, by decide +kernel, rfl⟩
theorem dX11_take_58 : dc cX11_take 58 .aaload 1 59 := ⟨by decide +kernel, rfl⟩
theorem dX11_take_59 : dc cX11_take 59 .aastore 1 60 := ⟨by decide +kernel, rfl⟩
theorem dX11_take_60 : dAl cX11_take 60 0 61 := Or.inl ⟨0, rfl, by decide +kernel, rfl⟩
theorem dX11_take_61 : dc cX11_take 61 (.getfield 37) 3 64 := ⟨by decide +kernel, rfl⟩
theorem dX11_take_64 : dIl cX11_take 64 3 65 := Or.inl ⟨3, rfl, by decide +kernel, rfl⟩
theorem dX11_take_65 : dc cX11_take 65 .aaload 1 66 := ⟨by decide +kernel, rfl⟩
theorem dX11_take_66 : dc cX11_take 66 (.invokestatic 179) 3 69 := ⟨by decide +kernel, rfl⟩
theorem dX11_take_69 : dc cX11_take 69 .ireturn 1 70 := ⟨by decide +kernel, rfl⟩
theorem dX11_take_70 : dKc cX11_take 70 (-1) 71 := Or.inl ⟨(-1), by decide +kernel, by decide +kernel, rfl⟩
theorem dX11_take_71 : dc cX11_take 71 .ireturn 1 72 := ⟨by decide +kernel, rfl⟩
theorem dX11_started_0 : dIl cX11_started 0 1 1 := Or.inl ⟨1, rfl, by decide +kernel, rfl⟩
theorem dX11_started_1 : dKc cX11_started 1 0 2 := Or.inl ⟨0, by decide +kernel, by decide +kernel, rfl⟩
theorem dX11_started_2 : dKc cX11_started 2 5 3 := Or.inl ⟨5, by decide +kernel, by decide +kernel, rfl⟩
theorem dX11_started_3 : dc cX11_started 3 (.invokestatic 78) 3 6 := ⟨by decide +kernel, rfl⟩
theorem dX11_started_6 : dj cX11_started 6 (.ifCond .eq) 18 9 := ⟨12, by decide +kernel, by decide, rfl⟩
theorem dX11_started_9 : dAl cX11_started 9 0 10 := Or.inl ⟨0, rfl, by decide +kernel, rfl⟩
theorem dX11_started_10 : dc cX11_started 10 (.getfield 25) 3 13 := ⟨by decide +kernel, rfl⟩
theorem dX11_started_13 : dIl cX11_started 13 1 14 := Or.inl ⟨1, rfl, by decide +kernel, rfl⟩
theorem dX11_started_14 : dc cX11_started 14 .iaload 1 15 := ⟨by decide +kernel, rfl⟩
theorem dX11_started_15 : dj cX11_started 15 .goto 19 18 := ⟨4, by decide +kernel, by decide, rfl⟩
theorem dX11_started_18 : dKc cX11_started 18 (-1) 19 := Or.inl ⟨(-1), by decide +kernel, by decide +kernel, rfl⟩
theorem dX11_started_19 : dc cX11_started 19 .ireturn 1 20 := ⟨by decide +kernel, rfl⟩
theorem dX11_count_0 : dIl cX11_count 0 1 1 := Or.inl ⟨1, rfl, by decide +kernel, rfl⟩
theorem dX11_count_1 : dc cX11_count 1 (.tableswitch 69 0 5 #[39, 44, 49, 54, 59, 64]) 39 40 := ⟨by decide +kernel, rfl⟩
theorem dX11_count_40 : dAl cX11_count 40 0 41 := Or.inl ⟨0, rfl, by decide +kernel, rfl⟩
theorem dX11_count_41 : dc cX11_count 41 (.getfield 15) 3 44 := ⟨by decide +kernel, rfl⟩
theorem dX11_count_44 : dc cX11_count 44 .ireturn 1 45 := ⟨by decide +kernel, rfl⟩
theorem dX11_count_45 : dAl cX11_count 45 0 46 := Or.inl ⟨0, rfl, by decide +kernel, rfl⟩
theorem dX11_count_46 : dc cX11_count 46 (.getfield 29) 3 49 := ⟨by decide +kernel, rfl⟩
theorem dX11_count_49 : dc cX11_count 49 .ireturn 1 50 := ⟨by decide +kernel, rfl⟩
theorem dX11_count_50 : dAl cX11_count 50 0 51 := Or.inl ⟨0, rfl, by decide +kernel, rfl⟩
theorem dX11_count_51 : dc cX11_count 51 (.getfield 32) 3 54 := ⟨by decide +kernel, rfl⟩
theorem dX11_count_54 : dc cX11_count 54 .ireturn 1 55 := ⟨by decide +kernel, rfl⟩
theorem dX11_count_55 : dAl cX11_count 55 0 56 := Or.inl ⟨0, rfl, by decide +kernel, rfl⟩
theorem dX11_count_56 : dc cX11_count 56 (.getfield 53) 3 59 := ⟨by decide +kernel, rfl⟩
theorem dX11_count_59 : dc cX11_count 59 .ireturn 1 60 := ⟨by decide +kernel, rfl⟩
theorem dX11_count_60 : dAl cX11_count 60 0 61 := Or.inl ⟨0, rfl, by decide +kernel, rfl⟩
theorem dX11_count_61 : dc cX11_count 61 (.invokevirtual 243) 3 64 := ⟨by decide +kernel, rfl⟩
theorem dX11_count_64 : dc cX11_count 64 .ireturn 1 65 := ⟨by decide +kernel, rfl⟩
theorem dX11_count_65 : dAl cX11_count 65 0 66 := Or.inl ⟨0, rfl, by decide +kernel, rfl⟩
theorem dX11_count_66 : dc cX11_count 66 (.invokevirtual 246) 3 69 := ⟨by decide +kernel, rfl⟩
theorem dX11_count_69 : dc cX11_count 69 .ireturn 1 70 := ⟨by decide +kernel, rfl⟩
theorem dX11_count_70 : dKc cX11_count 70 (-1) 71 := Or.inl ⟨(-1), by decide +kernel, by decide +kernel, rfl⟩
theorem dX11_count_71 : dc cX11_count 71 .ireturn 1 72 := ⟨by decide +kernel, rfl⟩
theorem dX11_constantAt_0 : dIl cX11_constantAt 0 1 1 := Or.inl ⟨1, rfl, by decide +kernel, rfl⟩
theorem dX11_constantAt_1 : dKc cX11_constantAt 1 0 2 := Or.inl ⟨0, by decide +kernel, by decide +kernel, rfl⟩
theorem dX11_constantAt_2 : dAl cX11_constantAt 2 0 3 := Or.inl ⟨0, rfl, by decide +kernel, rfl⟩
theorem dX11_constantAt_3 : dc cX11_constantAt 3 (.getfield 15) 3 6 := ⟨by decide +kernel, rfl⟩
theorem dX11_constantAt_6 : dKc cX11_constantAt 6 1 7 := Or.inl ⟨1, by decide +kernel, by decide +kernel, rfl⟩
theorem dX11_constantAt_7 : dc cX11_constantAt 7 .isub 1 8 := ⟨by decide +kernel, rfl⟩
theorem dX11_constantAt_8 : dc cX11_constantAt 8 (.invokestatic 78) 3 11 := ⟨by decide +kernel, rfl⟩
theorem dX11_constantAt_11 : dj cX11_constantAt 11 (.ifCond .eq) 23 14 := ⟨12, by decide +kernel, by decide, rfl⟩
theorem dX11_constantAt_14 : dAl cX11_constantAt 14 0 15 := Or.inl ⟨0, rfl, by decide +kernel, rfl⟩
theorem dX11_constantAt_15 : dc cX11_constantAt 15 (.getfield 11) 3 18 := ⟨by decide +kernel, rfl⟩
theorem dX11_constantAt_18 : dIl cX11_constantAt 18 1 19 := Or.inl ⟨1, rfl, by decide +kernel, rfl⟩
theorem dX11_constantAt_19 : dc cX11_constantAt 19 .aaload 1 20 := ⟨by decide +kernel, rfl⟩
theorem dX11_constantAt_20 : dj cX11_constantAt 20 .goto 24 23 := ⟨4, by decide +kernel, by decide, rfl⟩
theorem dX11_constantAt_23 : dc cX11_constantAt 23 .aconst_null 1 24 := ⟨by decide +kernel, rfl⟩
theorem dX11_constantAt_24 : dc cX11_constantAt 24 .areturn 1 25 := ⟨by decide +kernel, rfl⟩
theorem dX11_buildAt_0 : dIl cX11_buildAt 0 1 1 := Or.inl ⟨1, rfl, by decide +kernel, rfl⟩
theorem dX11_buildAt_1 : dKc cX11_buildAt 1 0 2 := Or.inl ⟨0, by decide +kernel, by decide +kernel, rfl⟩
theorem dX11_buildAt_2 : dKc cX11_buildAt 2 5 3 := Or.inl ⟨5, by decide +kernel, by decide +kernel, rfl⟩
theorem dX11_buildAt_3 : dc cX11_buildAt 3 (.invokestatic 78) 3 6 := ⟨by decide +kernel, rfl⟩
theorem dX11_buildAt_6 : dj cX11_buildAt 6 (.ifCond .eq) 18 9 := ⟨12, by decide +kernel, by decide, rfl⟩
theorem dX11_buildAt_9 : dIl cX11_buildAt 9 2 10 := Or.inl ⟨2, rfl, by decide +kernel, rfl⟩
theorem dX11_buildAt_10 : dKc cX11_buildAt 10 0 11 := Or.inl ⟨0, by decide +kernel, by decide +kernel, rfl⟩
theorem dX11_buildAt_11 : dKc cX11_buildAt 11 2 12 := Or.inl ⟨2, by decide +kernel, by decide +kernel, rfl⟩
theorem dX11_buildAt_12 : dc cX11_buildAt 12 (.invokestatic 78) 3 15 := ⟨by decide +kernel, rfl⟩
theorem dX11_buildAt_15 : dj cX11_buildAt 15 (.ifCond .ne) 20 18 := ⟨5, by decide +kernel, by decide, rfl⟩
theorem dX11_buildAt_18 : dc cX11_buildAt 18 .aconst_null 1 19 := ⟨by decide +kernel, rfl⟩
theorem dX11_buildAt_19 : dc cX11_buildAt 19 .areturn 1 20 := ⟨by decide +kernel, rfl⟩
theorem dX11_buildAt_20 : dAl cX11_buildAt 20 0 21 := Or.inl ⟨0, rfl, by decide +kernel, rfl⟩
theorem dX11_buildAt_21 : dc cX11_buildAt 21 (.getfield 21) 3 24 := ⟨by decide +kernel, rfl⟩
theorem dX11_buildAt_24 : dIl cX11_buildAt 24 1 25 := Or.inl ⟨1, rfl, by decide +kernel, rfl⟩
theorem dX11_buildAt_25 : dKc cX11_buildAt 25 3 26 := Or.inl ⟨3, by decide +kernel, by decide +kernel, rfl⟩
theorem dX11_buildAt_26 : dc cX11_buildAt 26 .imul 1 27 := ⟨by decide +kernel, rfl⟩
theorem dX11_buildAt_27 : dIl cX11_buildAt 27 2 28 := Or.inl ⟨2, rfl, by decide +kernel, rfl⟩
theorem dX11_buildAt_28 : dc cX11_buildAt 28 .iadd 1 29 := ⟨by decide +kernel, rfl⟩
theorem dX11_buildAt_29 : dc cX11_buildAt 29 .aaload 1 30 := ⟨by decide +kernel, rfl⟩
theorem dX11_buildAt_30 : dc cX11_buildAt 30 .areturn 1 31 := ⟨by decide +kernel, rfl⟩
theorem dX11_thingAt_0 : dIl cX11_thingAt 0 1 1 := Or.inl ⟨1, rfl, by decide +kernel, rfl⟩
theorem dX11_thingAt_1 : dc cX11_thingAt 1 (.invokestatic 162) 3 4 := ⟨by decide +kernel, rfl⟩
theorem dX11_thingAt_4 : dj cX11_thingAt 4 (.ifCond .eq) 16 7 := ⟨12, by decide +kernel, by decide, rfl⟩
theorem dX11_thingAt_7 : dAl cX11_thingAt 7 0 8 := Or.inl ⟨0, rfl, by decide +kernel, rfl⟩
theorem dX11_thingAt_8 : dc cX11_thingAt 8 (.getfield 37) 3 11 := ⟨by decide +kernel, rfl⟩
theorem dX11_thingAt_11 : dIl cX11_thingAt 11 1 12 := Or.inl ⟨1, rfl, by decide +kernel, rfl⟩
theorem dX11_thingAt_12 : dc cX11_thingAt 12 .aaload 1 13 := ⟨by decide +kernel, rfl⟩
theorem dX11_thingAt_13 : dj cX11_thingAt 13 .goto 17 16 := ⟨4, by decide +kernel, by decide, rfl⟩
theorem dX11_thingAt_16 : dc cX11_thingAt 16 .aconst_null 1 17 := ⟨by decide +kernel, rfl⟩
theorem dX11_thingAt_17 : dc cX11_thingAt 17 .areturn 1 18 := ⟨by decide +kernel, rfl⟩
theorem dX11_shapeAt_0 : dIl cX11_shapeAt 0 1 1 := Or.inl ⟨1, rfl, by decide +kernel, rfl⟩
theorem dX11_shapeAt_1 : dKc cX11_shapeAt 1 0 2 := Or.inl ⟨0, by decide +kernel, by decide +kernel, rfl⟩
theorem dX11_shapeAt_2 : dKc cX11_shapeAt 2 5 3 := Or.inl ⟨5, by decide +kernel, by decide +kernel, rfl⟩
theorem dX11_shapeAt_3 : dc cX11_shapeAt 3 (.invokestatic 78) 3 6 := ⟨by decide +kernel, rfl⟩
theorem dX11_shapeAt_6 : dj cX11_shapeAt 6 (.ifCond .eq) 18 9 := ⟨12, by decide +kernel, by decide, rfl⟩
theorem dX11_shapeAt_9 : dAl cX11_shapeAt 9 0 10 := Or.inl ⟨0, rfl, by decide +kernel, rfl⟩
theorem dX11_shapeAt_10 : dc cX11_shapeAt 10 (.getfield 43) 3 13 := ⟨by decide +kernel, rfl⟩
theorem dX11_shapeAt_13 : dIl cX11_shapeAt 13 1 14 := Or.inl ⟨1, rfl, by decide +kernel, rfl⟩
theorem dX11_shapeAt_14 : dc cX11_shapeAt 14 .aaload 1 15 := ⟨by decide +kernel, rfl⟩
theorem dX11_shapeAt_15 : dj cX11_shapeAt 15 .goto 19 18 := ⟨4, by decide +kernel, by decide, rfl⟩
theorem dX11_shapeAt_18 : dc cX11_shapeAt 18 .aconst_null 1 19 := ⟨by decide +kernel, rfl⟩
theorem dX11_shapeAt_19 : dc cX11_shapeAt 19 .areturn 1 20 := ⟨by decide +kernel, rfl⟩
theorem dX11_isPlace_0 : dIl cX11_isPlace 0 0 1 := Or.inl ⟨0, rfl, by decide +kernel, rfl⟩
theorem dX11_isPlace_1 : dKc cX11_isPlace 1 0 2 := Or.inl ⟨0, by decide +kernel, by decide +kernel, rfl⟩
theorem dX11_isPlace_2 : dKc cX11_isPlace 2 9 4 := Or.inr (Or.inl ⟨9, by decide +kernel, by decide +kernel, rfl⟩)
theorem dX11_isPlace_4 : dc cX11_isPlace 4 (.invokestatic 78) 3 7 := ⟨by decide +kernel, rfl⟩
theorem dX11_isPlace_7 : dc cX11_isPlace 7 .ireturn 1 8 := ⟨by decide +kernel, rfl⟩
theorem dX11_isIn_0 : dIl cX11_isIn 0 0 1 := Or.inl ⟨0, rfl, by decide +kernel, rfl⟩
theorem dX11_isIn_1 : dIl cX11_isIn 1 1 2 := Or.inl ⟨1, rfl, by decide +kernel, rfl⟩
theorem dX11_isIn_2 : dj cX11_isIn 2 (.if_icmp .lt) 14 5 := ⟨12, by decide +kernel, by decide, rfl⟩
theorem dX11_isIn_5 : dIl cX11_isIn 5 0 6 := Or.inl ⟨0, rfl, by decide +kernel, rfl⟩
theorem dX11_isIn_6 : dIl cX11_isIn 6 2 7 := Or.inl ⟨2, rfl, by decide +kernel, rfl⟩
theorem dX11_isIn_7 : dj cX11_isIn 7 (.if_icmp .gt) 14 10 := ⟨7, by decide +kernel, by decide, rfl⟩
theorem dX11_isIn_10 : dKc cX11_isIn 10 1 11 := Or.inl ⟨1, by decide +kernel, by decide +kernel, rfl⟩
theorem dX11_isIn_11 : dj cX11_isIn 11 .goto 15 14 := ⟨4, by decide +kernel, by decide, rfl⟩
theorem dX11_isIn_14 : dKc cX11_isIn 14 0 15 := Or.inl ⟨0, by decide +kernel, by decide +kernel, rfl⟩
theorem dX11_isIn_15 : dc cX11_isIn 15 .ireturn 1 16 := ⟨by decide +kernel, rfl⟩
theorem dX11_isName_0 : dKc cX11_isName 0 0 1 := Or.inl ⟨0, by decide +kernel, by decide +kernel, rfl⟩
theorem dX11_isName_1 : dIs cX11_isName 1 2 2 := Or.inl ⟨2, rfl, by decide +kernel, rfl⟩
theorem dX11_isName_2 : dKc cX11_isName 2 0 3 := Or.inl ⟨0, by decide +kernel, by decide +kernel, rfl⟩
theorem dX11_isName_3 : dIs cX11_isName 3 3 4 := Or.inl ⟨3, rfl, by decide +kernel, rfl⟩
theorem dX11_isName_4 : dIl cX11_isName 4 3 5 := Or.inl ⟨3, rfl, by decide +kernel, rfl⟩
theorem dX11_isName_5 : dKc cX11_isName 5 8 7 := Or.inr (Or.inl ⟨8, by decide +kernel, by decide +kernel, rfl⟩)
theorem dX11_isName_7 : dj cX11_isName 7 (.if_icmp .ge) 57 10 := ⟨50, by decide +kernel, by decide, rfl⟩
theorem dX11_isName_10 : dLl cX11_isName 10 0 11 := ⟨0, rfl, by decide +kernel, rfl⟩
theorem dX11_isName_11 : dKc cX11_isName 11 8 13 := Or.inr (Or.inl ⟨8, by decide +kernel, by decide +kernel, rfl⟩)
theorem dX11_isName_13 : dIl cX11_isName 13 3 14 := Or.inl ⟨3, rfl, by decide +kernel, rfl⟩
theorem dX11_isName_14 : dc cX11_isName 14 .imul 1 15 := ⟨by decide +kernel, rfl⟩
theorem dX11_isName_15 : dc cX11_isName 15 .lushr 1 16 := ⟨by decide +kernel, rfl⟩
theorem dX11_isName_16 : dc cX11_isName 16 .l2i 1 17 := ⟨by decide +kernel, rfl⟩
theorem dX11_isName_17 : dKc cX11_isName 17 255 20 := Or.inr (Or.inr ⟨255, by decide +kernel, by decide +kernel, rfl⟩)
theorem dX11_isName_20 : dc cX11_isName 20 .iand 1 21 := ⟨by decide +kernel, rfl⟩
theorem dX11_isName_21 : dIs cX11_isName 21 4 23 := Or.inr ⟨by decide +kernel, rfl⟩
theorem dX11_isName_23 : dIl cX11_isName 23 4 25 := Or.inr ⟨by decide +kernel, rfl⟩
theorem dX11_isName_25 : dj cX11_isName 25 (.ifCond .ne) 33 28 := ⟨8, by decide +kernel, by decide, rfl⟩
theorem dX11_isName_28 : dKc cX11_isName 28 1 29 := Or.inl ⟨1, by decide +kernel, by decide +kernel, rfl⟩
theorem dX11_isName_29 : dIs cX11_isName 29 2 30 := Or.inl ⟨2, rfl, by decide +kernel, rfl⟩
theorem dX11_isName_30 : dj cX11_isName 30 .goto 51 33 := ⟨21, by decide +kernel, by decide, rfl⟩
theorem dX11_isName_33 : dIl cX11_isName 33 2 34 := Or.inl ⟨2, rfl, by decide +kernel, rfl⟩
theorem dX11_isName_34 : dj cX11_isName 34 (.ifCond .ne) 49 37 := ⟨15, by decide +kernel, by decide, rfl⟩
theorem dX11_isName_37 : dIl cX11_isName 37 4 39 := Or.inr ⟨by decide +kernel, rfl⟩
theorem dX11_isName_39 : dKc cX11_isName 39 97 41 := Or.inr (Or.inl ⟨97, by decide +kernel, by decide +kernel, rfl⟩)
theorem dX11_isName_41 : dKc cX11_isName 41 122 43 := Or.inr (Or.inl ⟨122, by decide +kernel, by decide +kernel, rfl⟩)
theorem dX11_isName_43 : dc cX11_isName 43 (.invokestatic 78) 3 46 := ⟨by decide +kernel, rfl⟩
theorem dX11_isName_46 : dj cX11_isName 46 (.ifCond .ne) 51 49 := ⟨5, by decide +kernel, by decide, rfl⟩
theorem dX11_isName_49 : dKc cX11_isName 49 0 50 := Or.inl ⟨0, by decide +kernel, by decide +kernel, rfl⟩
theorem dX11_isName_50 : dc cX11_isName 50 .ireturn 1 51 := ⟨by decide +kernel, rfl⟩
theorem dX11_isName_51 : dc cX11_isName 51 (.iinc 3 1) 3 54 := ⟨by decide +kernel, rfl⟩
theorem dX11_isName_54 : dj cX11_isName 54 .goto 4 57 := ⟨(-50), by decide +kernel, by decide, rfl⟩
theorem dX11_isName_57 : dLl cX11_isName 57 0 58 := ⟨0, rfl, by decide +kernel, rfl⟩
theorem dX11_isName_58 : dc cX11_isName 58 (.lconst 0) 1 59 := ⟨by decide +kernel, rfl⟩
theorem dX11_isName_59 : dc cX11_isName 59 .lcmp 1 60 := ⟨by decide +kernel, rfl⟩
theorem dX11_isName_60 : dj cX11_isName 60 (.ifCond .eq) 67 63 := ⟨7, by decide +kernel, by decide, rfl⟩
theorem dX11_isName_63 : dKc cX11_isName 63 1 64 := Or.inl ⟨1, by decide +kernel, by decide +kernel, rfl⟩
theorem dX11_isName_64 : dj cX11_isName 64 .goto 68 67 := ⟨4, by decide +kernel, by decide, rfl⟩
theorem dX11_isName_67 : dKc cX11_isName 67 0 68 := Or.inl ⟨0, by decide +kernel, by decide +kernel, rfl⟩
theorem dX11_isName_68 : dc cX11_isName 68 .ireturn 1 69 := ⟨by decide +kernel, rfl⟩
theorem dX11_newConstant_0 : dIl cX11_newConstant 0 0 1 := Or.inl ⟨0, rfl, by decide +kernel, rfl⟩
theorem dX11_newConstant_1 : dc cX11_newConstant 1 (.lookupswitch 45 #[(1, 27), (2, 36)]) 27 28 := ⟨by decide +kernel, rfl⟩
theorem dX11_newConstant_28 : dc cX11_newConstant 28 (.new 249) 3 31 := ⟨by decide +kernel, rfl⟩
theorem dX11_newConstant_31 : dc cX11_newConstant 31 .dup 1 32 := ⟨by decide +kernel, rfl⟩
theorem dX11_newConstant_32 : dAl cX11_newConstant 32 1 33 := Or.inl ⟨1, rfl, by decide +kernel, rfl⟩
theorem dX11_newConstant_33 : dc cX11_newConstant 33 (.invokespecial 251) 3 36 := ⟨by decide +kernel, rfl⟩
theorem dX11_newConstant_36 : dc cX11_newConstant 36 .areturn 1 37 := ⟨by decide +kernel, rfl⟩
theorem dX11_newConstant_37 : dc cX11_newConstant 37 (.new 254) 3 40 := ⟨by decide +kernel, rfl⟩
theorem dX11_newConstant_40 : dc cX11_newConstant 40 .dup 1 41 := ⟨by decide +kernel, rfl⟩
theorem dX11_newConstant_41 : dAl cX11_newConstant 41 1 42 := Or.inl ⟨1, rfl, by decide +kernel, rfl⟩
theorem dX11_newConstant_42 : dc cX11_newConstant 42 (.invokespecial 256) 3 45 := ⟨by decide +kernel, rfl⟩
theorem dX11_newConstant_45 : dc cX11_newConstant 45 .areturn 1 46 := ⟨by decide +kernel, rfl⟩
theorem dX11_newConstant_46 : dc cX11_newConstant 46 (.new 257) 3 49 := ⟨by decide +kernel, rfl⟩
theorem dX11_newConstant_49 : dc cX11_newConstant 49 .dup 1 50 := ⟨by decide +kernel, rfl⟩
theorem dX11_newConstant_50 : dAl cX11_newConstant 50 1 51 := Or.inl ⟨1, rfl, by decide +kernel, rfl⟩
theorem dX11_newConstant_51 : dc cX11_newConstant 51 (.invokespecial 259) 3 54 := ⟨by decide +kernel, rfl⟩
theorem dX11_newConstant_54 : dc cX11_newConstant 54 .areturn 1 55 := ⟨by decide +kernel, rfl⟩
theorem dX11_scramble_0 : dLl cX11_scramble 0 0 1 := ⟨0, rfl, by decide +kernel, rfl⟩
theorem dX11_scramble_1 : dIl cX11_scramble 1 2 2 := Or.inl ⟨2, rfl, by decide +kernel, rfl⟩
theorem dX11_scramble_2 : dc cX11_scramble 2 .i2l 1 3 := ⟨by decide +kernel, rfl⟩
theorem dX11_scramble_3 : dc cX11_scramble 3 (.lconst 1) 1 4 := ⟨by decide +kernel, rfl⟩
theorem dX11_scramble_4 : dc cX11_scramble 4 .ladd 1 5 := ⟨by decide +kernel, rfl⟩
theorem dX11_scramble_5 : dc cX11_scramble 5 (.ldc2_w 260) 3 8 := ⟨by decide +kernel, rfl⟩
theorem dX11_scramble_8 : dc cX11_scramble 8 .lmul 1 9 := ⟨by decide +kernel, rfl⟩
theorem dX11_scramble_9 : dc cX11_scramble 9 .ladd 1 10 := ⟨by decide +kernel, rfl⟩
theorem dX11_scramble_10 : dLs cX11_scramble 10 3 11 := ⟨3, rfl, by decide +kernel, rfl⟩
theorem dX11_scramble_11 : dLl cX11_scramble 11 3 12 := ⟨3, rfl, by decide +kernel, rfl⟩
theorem dX11_scramble_12 : dLl cX11_scramble 12 3 13 := ⟨3, rfl, by decide +kernel, rfl⟩
theorem dX11_scramble_13 : dKc cX11_scramble 13 30 15 := Or.inr (Or.inl ⟨30, by decide +kernel, by decide +kernel, rfl⟩)
theorem dX11_scramble_15 : dc cX11_scramble 15 .lushr 1 16 := ⟨by decide +kernel, rfl⟩
theorem dX11_scramble_16 : dc cX11_scramble 16 .lxor 1 17 := ⟨by decide +kernel, rfl⟩
theorem dX11_scramble_17 : dc cX11_scramble 17 (.ldc2_w 262) 3 20 := ⟨by decide +kernel, rfl⟩
theorem dX11_scramble_20 : dc cX11_scramble 20 .lmul 1 21 := ⟨by decide +kernel, rfl⟩
theorem dX11_scramble_21 : dLs cX11_scramble 21 3 22 := ⟨3, rfl, by decide +kernel, rfl⟩
theorem dX11_scramble_22 : dLl cX11_scramble 22 3 23 := ⟨3, rfl, by decide +kernel, rfl⟩
theorem dX11_scramble_23 : dLl cX11_scramble 23 3 24 := ⟨3, rfl, by decide +kernel, rfl⟩
theorem dX11_scramble_24 : dKc cX11_scramble 24 27 26 := Or.inr (Or.inl ⟨27, by decide +kernel, by decide +kernel, rfl⟩)
theorem dX11_scramble_26 : dc cX11_scramble 26 .lushr 1 27 := ⟨by decide +kernel, rfl⟩
theorem dX11_scramble_27 : dc cX11_scramble 27 .lxor 1 28 := ⟨by decide +kernel, rfl⟩
theorem dX11_scramble_28 : dc cX11_scramble 28 (.ldc2_w 264) 3 31 := ⟨by decide +kernel, rfl⟩
theorem dX11_scramble_31 : dc cX11_scramble 31 .lmul 1 32 := ⟨by decide +kernel, rfl⟩
theorem dX11_scramble_32 : dLs cX11_scramble 32 3 33 := ⟨3, rfl, by decide +kernel, rfl⟩
theorem dX11_scramble_33 : dLl cX11_scramble 33 3 34 := ⟨3, rfl, by decide +kernel, rfl⟩
theorem dX11_scramble_34 : dLl cX11_scramble 34 3 35 := ⟨3, rfl, by decide +kernel, rfl⟩
theorem dX11_scramble_35 : dKc cX11_scramble 35 31 37 := Or.inr (Or.inl ⟨31, by decide +kernel, by decide +kernel, rfl⟩)
theorem dX11_scramble_37 : dc cX11_scramble 37 .lushr 1 38 := ⟨by decide +kernel, rfl⟩
theorem dX11_scramble_38 : dc cX11_scramble 38 .lxor 1 39 := ⟨by decide +kernel, rfl⟩
theorem dX11_scramble_39 : dc cX11_scramble 39 .lreturn 1 40 := ⟨by decide +kernel, rfl⟩
theorem dX11_unsignedRemainder_0 : dIl cX11_unsignedRemainder 0 2 1 := Or.inl ⟨2, rfl, by decide +kernel, rfl⟩
theorem dX11_unsignedRemainder_1 : dj cX11_unsignedRemainder 1 (.ifCond .gt) 6 4 := ⟨5, by decide +kernel, by decide, rfl⟩
theorem dX11_unsignedRemainder_4 : dKc cX11_unsignedRemainder 4 0 5 := Or.inl ⟨0, by decide +kernel, by decide +kernel, rfl⟩
theorem dX11_unsignedRemainder_5 : dc cX11_unsignedRemainder 5 .ireturn 1 6 := ⟨by decide +kernel, rfl⟩
theorem dX11_unsignedRemainder_6 : dLl cX11_unsignedRemainder 6 0 7 := ⟨0, rfl, by decide +kernel, rfl⟩
theorem dX11_unsignedRemainder_7 : dKc cX11_unsignedRemainder 7 1 8 := Or.inl ⟨1, by decide +kernel, by decide +kernel, rfl⟩
theorem dX11_unsignedRemainder_8 : dc cX11_unsignedRemainder 8 .lushr 1 9 := ⟨by decide +kernel, rfl⟩
theorem dX11_unsignedRemainder_9 : dIl cX11_unsignedRemainder 9 2 10 := Or.inl ⟨2, rfl, by decide +kernel, rfl⟩
theorem dX11_unsignedRemainder_10 : dc cX11_unsignedRemainder 10 .i2l 1 11 := ⟨by decide +kernel, rfl⟩
theorem dX11_unsignedRemainder_11 : dc cX11_unsignedRemainder 11 .lrem 1 12 := ⟨by decide +kernel, rfl⟩
theorem dX11_unsignedRemainder_12 : dLs cX11_unsignedRemainder 12 3 13 := ⟨3, rfl, by decide +kernel, rfl⟩
theorem dX11_unsignedRemainder_13 : dc cX11_unsignedRemainder 13 (.ldc2_w 266) 3 16 := ⟨by decide +kernel, rfl⟩
theorem dX11_unsignedRemainder_16 : dLl cX11_unsignedRemainder 16 3 17 := ⟨3, rfl, by decide +kernel, rfl⟩
theorem dX11_unsignedRemainder_17 : dc cX11_unsignedRemainder 17 .lmul 1 18 := ⟨by decide +kernel, rfl⟩
theorem dX11_unsignedRemainder_18 : dLl cX11_unsignedRemainder 18 0 19 := ⟨0, rfl, by decide +kernel, rfl⟩
theorem dX11_unsignedRemainder_19 : dc cX11_unsignedRemainder 19 (.lconst 1) 1 20 := ⟨by decide +kernel, rfl⟩
theorem dX11_unsignedRemainder_20 : dc cX11_unsignedRemainder 20 .land 1 21 := ⟨by decide +kernel, rfl⟩
theorem dX11_unsignedRemainder_21 : dc cX11_unsignedRemainder 21 .ladd 1 22 := ⟨by decide +kernel, rfl⟩
theorem dX11_unsignedRemainder_22 : dIl cX11_unsignedRemainder 22 2 23 := Or.inl ⟨2, rfl, by decide +kernel, rfl⟩
theorem dX11_unsignedRemainder_23 : dc cX11_unsignedRemainder 23 .i2l 1 24 := ⟨by decide +kernel, rfl⟩
theorem dX11_unsignedRemainder_24 : dc cX11_unsignedRemainder 24 .lrem 1 25 := ⟨by decide +kernel, rfl⟩
theorem dX11_unsignedRemainder_25 : dc cX11_unsignedRemainder 25 .l2i 1 26 := ⟨by decide +kernel, rfl⟩
theorem dX11_unsignedRemainder_26 : dc cX11_unsignedRemainder 26 .ireturn 1 27 := ⟨by decide +kernel, rfl⟩
theorem dX11_use_0 : dAl cX11_use 0 0 1 := Or.inl ⟨0, rfl, by decide +kernel, rfl⟩
theorem dX11_use_1 : dc cX11_use 1 (.getfield 25) 3 4 := ⟨by decide +kernel, rfl⟩
theorem dX11_use_4 : dAl cX11_use 4 1 5 := Or.inl ⟨1, rfl, by decide +kernel, rfl⟩
theorem dX11_use_5 : dc cX11_use 5 (.getfield 98) 3 8 := ⟨by decide +kernel, rfl⟩
theorem dX11_use_8 : dc cX11_use 8 (.getfield 109) 3 11 := ⟨by decide +kernel, rfl⟩
theorem dX11_use_11 : dc cX11_use 11 .iaload 1 12 := ⟨by decide +kernel, rfl⟩
theorem dX11_use_12 : dKc cX11_use 12 (-3) 14 := Or.inr (Or.inl ⟨(-3), by decide +kernel, by decide +kernel, rfl⟩)
theorem dX11_use_14 : dj cX11_use 14 (.if_icmp .ne) 33 17 := ⟨19, by decide +kernel, by decide, rfl⟩
theorem dX11_use_17 : dAl cX11_use 17 0 18 := Or.inl ⟨0, rfl, by decide +kernel, rfl⟩
theorem dX11_use_18 : dc cX11_use 18 (.getfield 25) 3 21 := ⟨by decide +kernel, rfl⟩
theorem dX11_use_21 : dAl cX11_use 21 1 22 := Or.inl ⟨1, rfl, by decide +kernel, rfl⟩
theorem dX11_use_22 : dc cX11_use 22 (.getfield 98) 3 25 := ⟨by decide +kernel, rfl⟩
theorem dX11_use_25 : dc cX11_use 25 (.getfield 109) 3 28 := ⟨by decide +kernel, rfl⟩
theorem dX11_use_28 : dAl cX11_use 28 0 29 := Or.inl ⟨0, rfl, by decide +kernel, rfl⟩
theorem dX11_use_29 : dc cX11_use 29 (.getfield 29) 3 32 := ⟨by decide +kernel, rfl⟩
theorem dX11_use_32 : dc cX11_use 32 .iastore 1 33 := ⟨by decide +kernel, rfl⟩
theorem dX11_use_33 : dc cX11_use 33 .return_ 1 34 := ⟨by decide +kernel, rfl⟩
theorem dX11_placesInUse_0 : dKc cX11_placesInUse 0 0 1 := Or.inl ⟨0, by decide +kernel, by decide +kernel, rfl⟩
theorem dX11_placesInUse_1 : dIs cX11_placesInUse 1 1 2 := Or.inl ⟨1, rfl, by decide +kernel, rfl⟩
theorem dX11_placesInUse_2 : dKc cX11_placesInUse 2 0 3 := Or.inl ⟨0, by decide +kernel, by decide +kernel, rfl⟩
theorem dX11_placesInUse_3 : dIs cX11_placesInUse 3 2 4 := Or.inl ⟨2, rfl, by decide +kernel, rfl⟩
theorem dX11_placesInUse_4 : dIl cX11_placesInUse 4 2 5 := Or.inl ⟨2, rfl, by decide +kernel, rfl⟩
theorem dX11_placesInUse_5 : dKc cX11_placesInUse 5 10 7 := Or.inr (Or.inl ⟨10, by decide +kernel, by decide +kernel, rfl⟩)
theorem dX11_placesInUse_7 : dj cX11_placesInUse 7 (.if_icmp .ge) 28 10 := ⟨21, by decide +kernel, by decide, rfl⟩
theorem dX11_placesInUse_10 : dAl cX11_placesInUse 10 0 11 := Or.inl ⟨0, rfl, by decide +kernel, rfl⟩
theorem dX11_placesInUse_11 : dc cX11_placesInUse 11 (.getfield 37) 3 14 := ⟨by decide +kernel, rfl⟩
theorem dX11_placesInUse_14 : dIl cX11_placesInUse 14 2 15 := Or.inl ⟨2, rfl, by decide +kernel, rfl⟩
theorem dX11_placesInUse_15 : dc cX11_placesInUse 15 .aaload 1 16 := ⟨by decide +kernel, rfl⟩
theorem dX11_placesInUse_16 : dj cX11_placesInUse 16 .ifnull 22 19 := ⟨6, by decide +kernel, by decide, rfl⟩
theorem dX11_placesInUse_19 : dc cX11_placesInUse 19 (.iinc 1 1) 3 22 := ⟨by decide +kernel, rfl⟩
theorem dX11_placesInUse_22 : dc cX11_placesInUse 22 (.iinc 2 1) 3 25 := ⟨by decide +kernel, rfl⟩
theorem dX11_placesInUse_25 : dj cX11_placesInUse 25 .goto 4 28 := ⟨(-21), by decide +kernel, by decide, rfl⟩
theorem dX11_placesInUse_28 : dIl cX11_placesInUse 28 1 29 := Or.inl ⟨1, rfl, by decide +kernel, rfl⟩
theorem dX11_placesInUse_29 : dc cX11_placesInUse 29 .ireturn 1 30 := ⟨by decide +kernel, rfl⟩
theorem dX11_kindsStarted_0 : dKc cX11_kindsStarted 0 0 1 := Or.inl ⟨0, by decide +kernel, by decide +kernel, rfl⟩
theorem dX11_kindsStarted_1 : dIs cX11_kindsStarted 1 1 2 := Or.inl ⟨1, rfl, by decide +kernel, rfl⟩
theorem dX11_kindsStarted_2 : dKc cX11_kindsStarted 2 0 3 := Or.inl ⟨0, by decide +kernel, by decide +kernel, rfl⟩
theorem dX11_kindsStarted_3 : dIs cX11_kindsStarted 3 2 4 := Or.inl ⟨2, rfl, by decide +kernel, rfl⟩
theorem dX11_kindsStarted_4 : dIl cX11_kindsStarted 4 2 5 := Or.inl ⟨2, rfl, by decide +kernel, rfl⟩
theorem dX11_kindsStarted_5 : dKc cX11_kindsStarted 5 6 7 := Or.inr (Or.inl ⟨6, by decide +kernel, by decide +kernel, rfl⟩)
theorem dX11_kindsStarted_7 : dj cX11_kindsStarted 7 (.if_icmp .ge) 30 10 := ⟨23, by decide +kernel, by decide, rfl⟩
theorem dX11_kindsStarted_10 : dAl cX11_kindsStarted 10 0 11 := Or.inl ⟨0, rfl, by decide +kernel, rfl⟩
theorem dX11_kindsStarted_11 : dc cX11_kindsStarted 11 (.getfield 25) 3 14 := ⟨by decide +kernel, rfl⟩
theorem dX11_kindsStarted_14 : dIl cX11_kindsStarted 14 2 15 := Or.inl ⟨2, rfl, by decide +kernel, rfl⟩
theorem dX11_kindsStarted_15 : dc cX11_kindsStarted 15 .iaload 1 16 := ⟨by decide +kernel, rfl⟩
theorem dX11_kindsStarted_16 : dKc cX11_kindsStarted 16 (-3) 18 := Or.inr (Or.inl ⟨(-3), by decide +kernel, by decide +kernel, rfl⟩)
theorem dX11_kindsStarted_18 : dj cX11_kindsStarted 18 (.if_icmp .eq) 24 21 := ⟨6, by decide +kernel, by decide, rfl⟩
theorem dX11_kindsStarted_21 : dc cX11_kindsStarted 21 (.iinc 1 1) 3 24 := ⟨by decide +kernel, rfl⟩
theorem dX11_kindsStarted_24 : dc cX11_kindsStarted 24 (.iinc 2 1) 3 27 := ⟨by decide +kernel, rfl⟩
theorem dX11_kindsStarted_27 : dj cX11_kindsStarted 27 .goto 4 30 := ⟨(-23), by decide +kernel, by decide, rfl⟩
theorem dX11_kindsStarted_30 : dIl cX11_kindsStarted 30 1 31 := Or.inl ⟨1, rfl, by decide +kernel, rfl⟩
theorem dX11_kindsStarted_31 : dc cX11_kindsStarted 31 .ireturn 1 32 := ⟨by decide +kernel, rfl⟩
theorem dX11_familyOf_0 : dAl cX11_familyOf 0 0 1 := Or.inl ⟨0, rfl, by decide +kernel, rfl⟩
theorem dX11_familyOf_1 : dj cX11_familyOf 1 .ifnonnull 8 4 := ⟨7, by decide +kernel, by decide, rfl⟩
theorem dX11_familyOf_4 : dKc cX11_familyOf 4 0 5 := Or.inl ⟨0, by decide +kernel, by decide +kernel, rfl⟩
theorem dX11_familyOf_5 : dj cX11_familyOf 5 .goto 12 8 := ⟨7, by decide +kernel, by decide, rfl⟩
theorem dX11_familyOf_8 : dAl cX11_familyOf 8 0 9 := Or.inl ⟨0, rfl, by decide +kernel, rfl⟩
theorem dX11_familyOf_9 : dc cX11_familyOf 9 (.invokevirtual 268) 3 12 := ⟨by decide +kernel, rfl⟩
theorem dX11_familyOf_12 : dc cX11_familyOf 12 .ireturn 1 13 := ⟨by decide +kernel, rfl⟩
theorem dX11_isOfFamily_0 : dIl cX11_isOfFamily 0 1 1 := Or.inl ⟨1, rfl, by decide +kernel, rfl⟩
theorem dX11_isOfFamily_1 : dc cX11_isOfFamily 1 (.tableswitch 51 1 4 #[31, 36, 41, 46]) 31 32 := ⟨by decide +kernel, rfl⟩
theorem dX11_isOfFamily_32 : dAl cX11_isOfFamily 32 0 33 := Or.inl ⟨0, rfl, by decide +kernel, rfl⟩
theorem dX11_isOfFamily_33 : dc cX11_isOfFamily 33 (.instanceof 257) 3 36 := ⟨by decide +kernel, rfl⟩
theorem dX11_isOfFamily_36 : dc cX11_isOfFamily 36 .ireturn 1 37 := ⟨by decide +kernel, rfl⟩
theorem dX11_isOfFamily_37 : dAl cX11_isOfFamily 37 0 38 := Or.inl ⟨0, rfl, by decide +kernel, rfl⟩
theorem dX11_isOfFamily_38 : dc cX11_isOfFamily 38 (.instanceof 249) 3 41 := ⟨by decide +kernel, rfl⟩
theorem dX11_isOfFamily_41 : dc cX11_isOfFamily 41 .ireturn 1 42 := ⟨by decide +kernel, rfl⟩
theorem dX11_isOfFamily_42 : dAl cX11_isOfFamily 42 0 43 := Or.inl ⟨0, rfl, by decide +kernel, rfl⟩
theorem dX11_isOfFamily_43 : dc cX11_isOfFamily 43 (.instanceof 254) 3 46 := ⟨by decide +kernel, rfl⟩
theorem dX11_isOfFamily_46 : dc cX11_isOfFamily 46 .ireturn 1 47 := ⟨by decide +kernel, rfl⟩
theorem dX11_isOfFamily_47 : dAl cX11_isOfFamily 47 0 48 := Or.inl ⟨0, rfl, by decide +kernel, rfl⟩
theorem dX11_isOfFamily_48 : dc cX11_isOfFamily 48 (.instanceof 166) 3 51 := ⟨by decide +kernel, rfl⟩
theorem dX11_isOfFamily_51 : dc cX11_isOfFamily 51 .ireturn 1 52 := ⟨by decide +kernel, rfl⟩
theorem dX11_isOfFamily_52 : dAl cX11_isOfFamily 52 0 53 := Or.inl ⟨0, rfl, by decide +kernel, rfl⟩
theorem dX11_isOfFamily_53 : dc cX11_isOfFamily 53 (.instanceof 216) 3 56 := ⟨by decide +kernel, rfl⟩
theorem dX11_isOfFamily_56 : dc cX11_isOfFamily 56 .ireturn 1 57 := ⟨by decide +kernel, rfl⟩
theorem dX11_areAlike_0 : dAl cX11_areAlike 0 0 1 := Or.inl ⟨0, rfl, by decide +kernel, rfl⟩
theorem dX11_areAlike_1 : dAl cX11_areAlike 1 1 2 := Or.inl ⟨1, rfl, by decide +kernel, rfl⟩
theorem dX11_areAlike_2 : dj cX11_areAlike 2 (.if_acmp .ne) 7 5 := ⟨5, by decide +kernel, by decide, rfl⟩
theorem dX11_areAlike_5 : dKc cX11_areAlike 5 1 6 := Or.inl ⟨1, by decide +kernel, by decide +kernel, rfl⟩
theorem dX11_areAlike_6 : dc cX11_areAlike 6 .ireturn 1 7 := ⟨by decide +kernel, rfl⟩
theorem dX11_areAlike_7 : dAl cX11_areAlike 7 0 8 := Or.inl ⟨0, rfl, by decide +kernel, rfl⟩
theorem dX11_areAlike_8 : dc cX11_areAlike 8 (.instanceof 166) 3 11 := ⟨by decide +kernel, rfl⟩
theorem dX11_areAlike_11 : dj cX11_areAlike 11 (.ifCond .eq) 39 14 := ⟨28, by decide +kernel, by decide, rfl⟩
theorem dX11_areAlike_14 : dAl cX11_areAlike 14 0 15 := Or.inl ⟨0, rfl, by decide +kernel, rfl⟩
theorem dX11_areAlike_15 : dc cX11_areAlike 15 (.checkcast 166) 3 18 := ⟨by decide +kernel, rfl⟩
theorem dX11_areAlike_18 : dAs cX11_areAlike 18 3 19 := Or.inl ⟨3, rfl, by decide +kernel, rfl⟩
theorem dX11_areAlike_19 : dAl cX11_areAlike 19 1 20 := Or.inl ⟨1, rfl, by decide +kernel, rfl⟩
theorem dX11_areAlike_20 : dc cX11_areAlike 20 (.instanceof 166) 3 23 := ⟨by decide +kernel, rfl⟩
theorem dX11_areAlike_23 : dj cX11_areAlike 23 (.ifCond .eq) 39 26 := ⟨16, by decide +kernel, by decide, rfl⟩
theorem dX11_areAlike_26 : dAl cX11_areAlike 26 1 27 := Or.inl ⟨1, rfl, by decide +kernel, rfl⟩
theorem dX11_areAlike_27 : dc cX11_areAlike 27 (.checkcast 166) 3 30 := ⟨by decide +kernel, rfl⟩
theorem dX11_areAlike_30 : dAs cX11_areAlike 30 4 32 := Or.inr ⟨by decide +kernel, rfl⟩
theorem dX11_areAlike_32 : dAl cX11_areAlike 32 3 33 := Or.inl ⟨3, rfl, by decide +kernel, rfl⟩
theorem dX11_areAlike_33 : dAl cX11_areAlike 33 4 35 := Or.inr ⟨by decide +kernel, rfl⟩
theorem dX11_areAlike_35 : dc cX11_areAlike 35 (.invokestatic 271) 3 38 := ⟨by decide +kernel, rfl⟩
theorem dX11_areAlike_38 : dc cX11_areAlike 38 .ireturn 1 39 := ⟨by decide +kernel, rfl⟩
theorem dX11_areAlike_39 : dAl cX11_areAlike 39 0 40 := Or.inl ⟨0, rfl, by decide +kernel, rfl⟩
theorem dX11_areAlike_40 : dc cX11_areAlike 40 (.instanceof 216) 3 43 := ⟨by decide +kernel, rfl⟩
theorem dX11_areAlike_43 : dj cX11_areAlike 43 (.ifCond .eq) 85 46 := ⟨42, by decide +kernel, by decide, rfl⟩
theorem dX11_areAlike_46 : dAl cX11_areAlike 46 0 47 := Or.inl ⟨0, rfl, by decide +kernel, rfl⟩
theorem dX11_areAlike_47 : dc cX11_areAlike 47 (.checkcast 216) 3 50 := ⟨by decide +kernel, rfl⟩
theorem dX11_areAlike_50 : dAs cX11_areAlike 50 3 51 := Or.inl ⟨3, rfl, by decide +kernel, rfl⟩
theorem dX11_areAlike_51 : dAl cX11_areAlike 51 1 52 := Or.inl ⟨1, rfl, by decide +kernel, rfl⟩
theorem dX11_areAlike_52 : dc cX11_areAlike 52 (.instanceof 216) 3 55 := ⟨by decide +kernel, rfl⟩
theorem dX11_areAlike_55 : dj cX11_areAlike 55 (.ifCond .eq) 85 58 := ⟨30, by decide +kernel, by decide, rfl⟩
theorem dX11_areAlike_58 : dAl cX11_areAlike 58 1 59 := Or.inl ⟨1, rfl, by decide +kernel, rfl⟩
theorem dX11_areAlike_59 : dc cX11_areAlike 59 (.checkcast 216) 3 62 := ⟨by decide +kernel, rfl⟩
theorem dX11_areAlike_62 : dAs cX11_areAlike 62 4 64 := Or.inr ⟨by decide +kernel, rfl⟩
theorem dX11_areAlike_64 : dIl cX11_areAlike 64 2 65 := Or.inl ⟨2, rfl, by decide +kernel, rfl⟩
theorem dX11_areAlike_65 : dKc cX11_areAlike 65 5 66 := Or.inl ⟨5, by decide +kernel, by decide +kernel, rfl⟩
theorem dX11_areAlike_66 : dj cX11_areAlike 66 (.if_icmp .ge) 83 69 := ⟨17, by decide +kernel, by decide, rfl⟩
theorem dX11_areAlike_69 : dAl cX11_areAlike 69 3 70 := Or.inl ⟨3, rfl, by decide +kernel, rfl⟩
theorem dX11_areAlike_70 : dAl cX11_areAlike 70 4 72 := Or.inr ⟨by decide +kernel, rfl⟩
theorem dX11_areAlike_72 : dIl cX11_areAlike 72 2 73 := Or.inl ⟨2, rfl, by decide +kernel, rfl⟩
theorem dX11_areAlike_73 : dc cX11_areAlike 73 (.invokestatic 275) 3 76 := ⟨by decide +kernel, rfl⟩
theorem dX11_areAlike_76 : dj cX11_areAlike 76 (.ifCond .eq) 83 79 := ⟨7, by decide +kernel, by decide, rfl⟩
theorem dX11_areAlike_79 : dKc cX11_areAlike 79 1 80 := Or.inl ⟨1, by decide +kernel, by decide +kernel, rfl⟩
theorem dX11_areAlike_80 : dj cX11_areAlike 80 .goto 84 83 := ⟨4, by decide +kernel, by decide, rfl⟩
theorem dX11_areAlike_83 : dKc cX11_areAlike 83 0 84 := Or.inl ⟨0, by decide +kernel, by decide +kernel, rfl⟩
theorem dX11_areAlike_84 : dc cX11_areAlike 84 .ireturn 1 85 := ⟨by decide +kernel, rfl⟩
theorem dX11_areAlike_85 : dKc cX11_areAlike 85 0 86 := Or.inl ⟨0, by decide +kernel, by decide +kernel, rfl⟩
theorem dX11_areAlike_86 : dc cX11_areAlike 86 .ireturn 1 87 := ⟨by decide +kernel, rfl⟩
theorem dX11_haveSameItems_0 : dAl cX11_haveSameItems 0 0 1 := Or.inl ⟨0, rfl, by decide +kernel, rfl⟩
theorem dX11_haveSameItems_1 : dc cX11_haveSameItems 1 (.getfield 176) 3 4 := ⟨by decide +kernel, rfl⟩
theorem dX11_haveSameItems_4 : dc cX11_haveSameItems 4 .arraylength 1 5 := ⟨by decide +kernel, rfl⟩
theorem dX11_haveSameItems_5 : dAl cX11_haveSameItems 5 1 6 := Or.inl ⟨1, rfl, by decide +kernel, rfl⟩
theorem dX11_haveSameItems_6 : dc cX11_haveSameItems 6 (.getfield 176) 3 9 := ⟨by decide +kernel, rfl⟩
theorem dX11_haveSameItems_9 : dc cX11_haveSameItems 9 .arraylength 1 10 := ⟨by decide +kernel, rfl⟩
theorem dX11_haveSameItems_10 : dj cX11_haveSameItems 10 (.if_icmp .eq) 15 13 := ⟨5, by decide +kernel, by decide, rfl⟩
theorem dX11_haveSameItems_13 : dKc cX11_haveSameItems 13 0 14 := Or.inl ⟨0, by decide +kernel, by decide +kernel, rfl⟩
theorem dX11_haveSameItems_14 : dc cX11_haveSameItems 14 .ireturn 1 15 := ⟨by decide +kernel, rfl⟩
theorem dX11_haveSameItems_15 : dKc cX11_haveSameItems 15 0 16 := Or.inl ⟨0, by decide +kernel, by decide +kernel, rfl⟩
theorem dX11_haveSameItems_16 : dIs cX11_haveSameItems 16 2 17 := Or.inl ⟨2, rfl, by decide +kernel, rfl⟩
theorem dX11_haveSameItems_17 : dIl cX11_haveSameItems 17 2 18 := Or.inl ⟨2, rfl, by decide +kernel, rfl⟩
theorem dX11_haveSameItems_18 : dAl cX11_haveSameItems 18 0 19 := Or.inl ⟨0, rfl, by decide +kernel, rfl⟩
theorem dX11_haveSameItems_19 : dc cX11_haveSameItems 19 (.getfield 176) 3 22 := ⟨by decide +kernel, rfl⟩
theorem dX11_haveSameItems_22 : dc cX11_haveSameItems 22 .arraylength 1 23 := ⟨by decide +kernel, rfl⟩
theorem dX11_haveSameItems_23 : dj cX11_haveSameItems 23 (.if_icmp .ge) 49 26 := ⟨26, by decide +kernel, by decide, rfl⟩
theorem dX11_haveSameItems_26 : dAl cX11_haveSameItems 26 0 27 := Or.inl ⟨0, rfl, by decide +kernel, rfl⟩
theorem dX11_haveSameItems_27 : dc cX11_haveSameItems 27 (.getfield 176) 3 30 := ⟨by decide +kernel, rfl⟩
theorem dX11_haveSameItems_30 : dIl cX11_haveSameItems 30 2 31 := Or.inl ⟨2, rfl, by decide +kernel, rfl⟩
theorem dX11_haveSameItems_31 : dc cX11_haveSameItems 31 .iaload 1 32 := ⟨by decide +kernel, rfl⟩
theorem dX11_haveSameItems_32 : dAl cX11_haveSameItems 32 1 33 := Or.inl ⟨1, rfl, by decide +kernel, rfl⟩
theorem dX11_haveSameItems_33 : dc cX11_haveSameItems 33 (.getfield 176) 3 36 := ⟨by decide +kernel, rfl⟩
theorem dX11_haveSameItems_36 : dIl cX11_haveSameItems 36 2 37 := Or.inl ⟨2, rfl, by decide +kernel, rfl⟩
theorem dX11_haveSameItems_37 : dc cX11_haveSameItems 37 .iaload 1 38 := ⟨by decide +kernel, rfl⟩
theorem dX11_haveSameItems_38 : dj cX11_haveSameItems 38 (.if_icmp .eq) 43 41 := ⟨5, by decide +kernel, by decide, rfl⟩
theorem dX11_haveSameItems_41 : dKc cX11_haveSameItems 41 0 42 := Or.inl ⟨0, by decide +kernel, by decide +kernel, rfl⟩
theorem dX11_haveSameItems_42 : dc cX11_haveSameItems 42 .ireturn 1 43 := ⟨by decide +kernel, rfl⟩
theorem dX11_haveSameItems_43 : dc cX11_haveSameItems 43 (.iinc 2 1) 3 46 := ⟨by decide +kernel, rfl⟩
theorem dX11_haveSameItems_46 : dj cX11_haveSameItems 46 .goto 17 49 := ⟨(-29), by decide +kernel, by decide, rfl⟩
theorem dX11_haveSameItems_49 : dKc cX11_haveSameItems 49 1 50 := Or.inl ⟨1, by decide +kernel, by decide +kernel, rfl⟩
theorem dX11_haveSameItems_50 : dc cX11_haveSameItems 50 .ireturn 1 51 := ⟨by decide +kernel, rfl⟩
theorem dX11_haveLikeParts_0 : dAl cX11_haveLikeParts 0 0 1 := Or.inl ⟨0, rfl, by decide +kernel, rfl⟩
theorem dX11_haveLikeParts_1 : dc cX11_haveLikeParts 1 (.getfield 228) 3 4 := ⟨by decide +kernel, rfl⟩
theorem dX11_haveLikeParts_4 : dAl cX11_haveLikeParts 4 1 5 := Or.inl ⟨1, rfl, by decide +kernel, rfl⟩
theorem dX11_haveLikeParts_5 : dc cX11_haveLikeParts 5 (.getfield 228) 3 8 := ⟨by decide +kernel, rfl⟩
theorem dX11_haveLikeParts_8 : dj cX11_haveLikeParts 8 (.if_acmp .ne) 22 11 := ⟨14, by decide +kernel, by decide, rfl⟩
theorem dX11_haveLikeParts_11 : dAl cX11_haveLikeParts 11 0 12 := Or.inl ⟨0, rfl, by decide +kernel, rfl⟩
theorem dX11_haveLikeParts_12 : dc cX11_haveLikeParts 12 (.getfield 279) 3 15 := ⟨by decide +kernel, rfl⟩
theorem dX11_haveLikeParts_15 : dAl cX11_haveLikeParts 15 1 16 := Or.inl ⟨1, rfl, by decide +kernel, rfl⟩
theorem dX11_haveLikeParts_16 : dc cX11_haveLikeParts 16 (.getfield 279) 3 19 := ⟨by decide +kernel, rfl⟩
theorem dX11_haveLikeParts_19 : dj cX11_haveLikeParts 19 (.if_icmp .eq) 24 22 := ⟨5, by decide +kernel, by decide, rfl⟩
theorem dX11_haveLikeParts_22 : dKc cX11_haveLikeParts 22 0 23 := Or.inl ⟨0, by decide +kernel, by decide +kernel, rfl⟩
theorem dX11_haveLikeParts_23 : dc cX11_haveLikeParts 23 .ireturn 1 24 := ⟨by decide +kernel, rfl⟩
theorem dX11_haveLikeParts_24 : dKc cX11_haveLikeParts 24 0 25 := Or.inl ⟨0, by decide +kernel, by decide +kernel, rfl⟩
theorem dX11_haveLikeParts_25 : dIs cX11_haveLikeParts 25 3 26 := Or.inl ⟨3, rfl, by decide +kernel, rfl⟩
theorem dX11_haveLikeParts_26 : dIl cX11_haveLikeParts 26 3 27 := Or.inl ⟨3, rfl, by decide +kernel, rfl⟩
theorem dX11_haveLikeParts_27 : dAl cX11_haveLikeParts 27 0 28 := Or.inl ⟨0, rfl, by decide +kernel, rfl⟩
theorem dX11_haveLikeParts_28 : dc cX11_haveLikeParts 28 (.getfield 279) 3 31 := ⟨by decide +kernel, rfl⟩
theorem dX11_haveLikeParts_31 : dj cX11_haveLikeParts 31 (.if_icmp .ge) 78 34 := ⟨47, by decide +kernel, by decide, rfl⟩
theorem dX11_haveLikeParts_34 : dAl cX11_haveLikeParts 34 0 35 := Or.inl ⟨0, rfl, by decide +kernel, rfl⟩
theorem dX11_haveLikeParts_35 : dc cX11_haveLikeParts 35 (.getfield 237) 3 38 := ⟨by decide +kernel, rfl⟩
theorem dX11_haveLikeParts_38 : dIl cX11_haveLikeParts 38 3 39 := Or.inl ⟨3, rfl, by decide +kernel, rfl⟩
theorem dX11_haveLikeParts_39 : dc cX11_haveLikeParts 39 .iaload 1 40 := ⟨by decide +kernel, rfl⟩
theorem dX11_haveLikeParts_40 : dAl cX11_haveLikeParts 40 1 41 := Or.inl ⟨1, rfl, by decide +kernel, rfl⟩
theorem dX11_haveLikeParts_41 : dc cX11_haveLikeParts 41 (.getfield 237) 3 44 := ⟨by decide +kernel, rfl⟩
theorem dX11_haveLikeParts_44 : dIl cX11_haveLikeParts 44 3 45 := Or.inl ⟨3, rfl, by decide +kernel, rfl⟩
theorem dX11_haveLikeParts_45 : dc cX11_haveLikeParts 45 .iaload 1 46 := ⟨by decide +kernel, rfl⟩
theorem dX11_haveLikeParts_46 : dj cX11_haveLikeParts 46 (.if_icmp .ne) 70 49 := ⟨24, by decide +kernel, by decide, rfl⟩
theorem dX11_haveLikeParts_49 : dAl cX11_haveLikeParts 49 0 50 := Or.inl ⟨0, rfl, by decide +kernel, rfl⟩
theorem dX11_haveLikeParts_50 : dc cX11_haveLikeParts 50 (.getfield 240) 3 53 := ⟨by decide +kernel, rfl⟩
theorem dX11_haveLikeParts_53 : dIl cX11_haveLikeParts 53 3 54 := Or.inl ⟨3, rfl, by decide +kernel, rfl⟩
theorem dX11_haveLikeParts_54 : dc cX11_haveLikeParts 54 .aaload 1 55 := ⟨by decide +kernel, rfl⟩
theorem dX11_haveLikeParts_55 : dAl cX11_haveLikeParts 55 1 56 := Or.inl ⟨1, rfl, by decide +kernel, rfl⟩
theorem dX11_haveLikeParts_56 : dc cX11_haveLikeParts 56 (.getfield 240) 3 59 := ⟨by decide +kernel, rfl⟩
theorem dX11_haveLikeParts_59 : dIl cX11_haveLikeParts 59 3 60 := Or.inl ⟨3, rfl, by decide +kernel, rfl⟩
theorem dX11_haveLikeParts_60 : dc cX11_haveLikeParts 60 .aaload 1 61 := ⟨by decide +kernel, rfl⟩
theorem dX11_haveLikeParts_61 : dIl cX11_haveLikeParts 61 2 62 := Or.inl ⟨2, rfl, by decide +kernel, rfl⟩
theorem dX11_haveLikeParts_62 : dKc cX11_haveLikeParts 62 1 63 := Or.inl ⟨1, by decide +kernel, by decide +kernel, rfl⟩
theorem dX11_haveLikeParts_63 : dc cX11_haveLikeParts 63 .iadd 1 64 := ⟨by decide +kernel, rfl⟩
theorem dX11_haveLikeParts_64 : dc cX11_haveLikeParts 64 (.invokestatic 187) 3 67 := ⟨by decide +kernel, rfl⟩
theorem dX11_haveLikeParts_67 : dj cX11_haveLikeParts 67 (.ifCond .ne) 72 70 := ⟨5, by decide +kernel, by decide, rfl⟩
theorem dX11_haveLikeParts_70 : dKc cX11_haveLikeParts 70 0 71 := Or.inl ⟨0, by decide +kernel, by decide +kernel, rfl⟩
theorem dX11_haveLikeParts_71 : dc cX11_haveLikeParts 71 .ireturn 1 72 := ⟨by decide +kernel, rfl⟩
theorem dX11_haveLikeParts_72 : dc cX11_haveLikeParts 72 (.iinc 3 1) 3 75 := ⟨by decide +kernel, rfl⟩
theorem dX11_haveLikeParts_75 : dj cX11_haveLikeParts 75 .goto 26 78 := ⟨(-49), by decide +kernel, by decide, rfl⟩
theorem dX11_haveLikeParts_78 : dKc cX11_haveLikeParts 78 1 79 := Or.inl ⟨1, by decide +kernel, by decide +kernel, rfl⟩
theorem dX11_haveLikeParts_79 : dc cX11_haveLikeParts 79 .ireturn 1 80 := ⟨by decide +kernel, rfl⟩
theorem dX11_isPartAllowed_0 : dIl cX11_isPartAllowed 0 0 1 := Or.inl ⟨0, rfl, by decide +kernel, rfl⟩
theorem dX11_isPartAllowed_1 : dc cX11_isPartAllowed 1 (.tableswitch 58 0 4 #[35, 44, 58, 58, 51]) 35 36 := ⟨by decide +kernel, rfl⟩
theorem dX11_isPartAllowed_36 : dIl cX11_isPartAllowed 36 1 37 := Or.inl ⟨1, rfl, by decide +kernel, rfl⟩
theorem dX11_isPartAllowed_37 : dKc cX11_isPartAllowed 37 0 38 := Or.inl ⟨0, by decide +kernel, by decide +kernel, rfl⟩
theorem dX11_isPartAllowed_38 : dKc cX11_isPartAllowed 38 1000 41 := Or.inr (Or.inr ⟨1000, by decide +kernel, by decide +kernel, rfl⟩)
theorem dX11_isPartAllowed_41 : dc cX11_isPartAllowed 41 (.invokestatic 78) 3 44 := ⟨by decide +kernel, rfl⟩
theorem dX11_isPartAllowed_44 : dc cX11_isPartAllowed 44 .ireturn 1 45 := ⟨by decide +kernel, rfl⟩
theorem dX11_isPartAllowed_45 : dIl cX11_isPartAllowed 45 1 46 := Or.inl ⟨1, rfl, by decide +kernel, rfl⟩
theorem dX11_isPartAllowed_46 : dKc cX11_isPartAllowed 46 0 47 := Or.inl ⟨0, by decide +kernel, by decide +kernel, rfl⟩
theorem dX11_isPartAllowed_47 : dKc cX11_isPartAllowed 47 5 48 := Or.inl ⟨5, by decide +kernel, by decide +kernel, rfl⟩
theorem dX11_isPartAllowed_48 : dc cX11_isPartAllowed 48 (.invokestatic 78) 3 51 := ⟨by decide +kernel, rfl⟩
theorem dX11_isPartAllowed_51 : dc cX11_isPartAllowed 51 .ireturn 1 52 := ⟨by decide +kernel, rfl⟩
theorem dX11_isPartAllowed_52 : dIl cX11_isPartAllowed 52 1 53 := Or.inl ⟨1, rfl, by decide +kernel, rfl⟩
theorem dX11_isPartAllowed_53 : dKc cX11_isPartAllowed 53 0 54 := Or.inl ⟨0, by decide +kernel, by decide +kernel, rfl⟩
theorem dX11_isPartAllowed_54 : dKc cX11_isPartAllowed 54 5 55 := Or.inl ⟨5, by decide +kernel, by decide +kernel, rfl⟩
theorem dX11_isPartAllowed_55 : dc cX11_isPartAllowed 55 (.invokestatic 78) 3 58 := ⟨by decide +kernel, rfl⟩
theorem dX11_isPartAllowed_58 : dc cX11_isPartAllowed 58 .ireturn 1 59 := ⟨by decide +kernel, rfl⟩
theorem dX11_isPartAllowed_59 : dIl cX11_isPartAllowed 59 0 60 := Or.inl ⟨0, rfl, by decide +kernel, rfl⟩
theorem dX11_isPartAllowed_60 : dKc cX11_isPartAllowed 60 2 61 := Or.inl ⟨2, by decide +kernel, by decide +kernel, rfl⟩
theorem dX11_isPartAllowed_61 : dj cX11_isPartAllowed 61 (.if_icmp .eq) 69 64 := ⟨8, by decide +kernel, by decide, rfl⟩
theorem dX11_isPartAllowed_64 : dIl cX11_isPartAllowed 64 0 65 := Or.inl ⟨0, rfl, by decide +kernel, rfl⟩
theorem dX11_isPartAllowed_65 : dKc cX11_isPartAllowed 65 3 66 := Or.inl ⟨3, by decide +kernel, by decide +kernel, rfl⟩
theorem dX11_isPartAllowed_66 : dj cX11_isPartAllowed 66 (.if_icmp .ne) 73 69 := ⟨7, by decide +kernel, by decide, rfl⟩
theorem dX11_isPartAllowed_69 : dKc cX11_isPartAllowed 69 1 70 := Or.inl ⟨1, by decide +kernel, by decide +kernel, rfl⟩
theorem dX11_isPartAllowed_70 : dj cX11_isPartAllowed 70 .goto 74 73 := ⟨4, by decide +kernel, by decide, rfl⟩
theorem dX11_isPartAllowed_73 : dKc cX11_isPartAllowed 73 0 74 := Or.inl ⟨0, by decide +kernel, by decide +kernel, rfl⟩
theorem dX11_isPartAllowed_74 : dc cX11_isPartAllowed 74 .ireturn 1 75 := ⟨by decide +kernel, rfl⟩
theorem dX11_isCheckOver_0 : dIl cX11_isCheckOver 0 0 1 := Or.inl ⟨0, rfl, by decide +kernel, rfl⟩
theorem dX11_isCheckOver_1 : dc cX11_isCheckOver 1 (.tableswitch 87 0 5 #[39, 39, 49, 49, 60, 76]) 39 40 := ⟨by decide +kernel, rfl⟩
theorem dX11_isCheckOver_40 : dIl cX11_isCheckOver 40 1 41 := Or.inl ⟨1, rfl, by decide +kernel, rfl⟩
theorem dX11_isCheckOver_41 : dj cX11_isCheckOver 41 (.ifCond .ne) 48 44 := ⟨7, by decide +kernel, by decide, rfl⟩
theorem dX11_isCheckOver_44 : dKc cX11_isCheckOver 44 1 45 := Or.inl ⟨1, by decide +kernel, by decide +kernel, rfl⟩
theorem dX11_isCheckOver_45 : dj cX11_isCheckOver 45 .goto 49 48 := ⟨4, by decide +kernel, by decide, rfl⟩
theorem dX11_isCheckOver_48 : dKc cX11_isCheckOver 48 0 49 := Or.inl ⟨0, by decide +kernel, by decide +kernel, rfl⟩
theorem dX11_isCheckOver_49 : dc cX11_isCheckOver 49 .ireturn 1 50 := ⟨by decide +kernel, rfl⟩
theorem dX11_isCheckOver_50 : dIl cX11_isCheckOver 50 1 51 := Or.inl ⟨1, rfl, by decide +kernel, rfl⟩
theorem dX11_isCheckOver_51 : dKc cX11_isCheckOver 51 3 52 := Or.inl ⟨3, by decide +kernel, by decide +kernel, rfl⟩
theorem dX11_isCheckOver_52 : dj cX11_isCheckOver 52 (.if_icmp .ne) 59 55 := ⟨7, by decide +kernel, by decide, rfl⟩
theorem dX11_isCheckOver_55 : dKc cX11_isCheckOver 55 1 56 := Or.inl ⟨1, by decide +kernel, by decide +kernel, rfl⟩
theorem dX11_isCheckOver_56 : dj cX11_isCheckOver 56 .goto 60 59 := ⟨4, by decide +kernel, by decide, rfl⟩
theorem dX11_isCheckOver_59 : dKc cX11_isCheckOver 59 0 60 := Or.inl ⟨0, by decide +kernel, by decide +kernel, rfl⟩
theorem dX11_isCheckOver_60 : dc cX11_isCheckOver 60 .ireturn 1 61 := ⟨by decide +kernel, rfl⟩
theorem dX11_isCheckOver_61 : dIl cX11_isCheckOver 61 1 62 := Or.inl ⟨1, rfl, by decide +kernel, rfl⟩
theorem dX11_isCheckOver_62 : dKc cX11_isCheckOver 62 1 63 := Or.inl ⟨1, by decide +kernel, by decide +kernel, rfl⟩
theorem dX11_isCheckOver_63 : dj cX11_isCheckOver 63 (.if_icmp .eq) 71 66 := ⟨8, by decide +kernel, by decide, rfl⟩
theorem dX11_isCheckOver_66 : dIl cX11_isCheckOver 66 1 67 := Or.inl ⟨1, rfl, by decide +kernel, rfl⟩
theorem dX11_isCheckOver_67 : dKc cX11_isCheckOver 67 2 68 := Or.inl ⟨2, by decide +kernel, by decide +kernel, rfl⟩
theorem dX11_isCheckOver_68 : dj cX11_isCheckOver 68 (.if_icmp .ne) 75 71 := ⟨7, by decide +kernel, by decide, rfl⟩
theorem dX11_isCheckOver_71 : dKc cX11_isCheckOver 71 1 72 := Or.inl ⟨1, by decide +kernel, by decide +kernel, rfl⟩
theorem dX11_isCheckOver_72 : dj cX11_isCheckOver 72 .goto 76 75 := ⟨4, by decide +kernel, by decide, rfl⟩
theorem dX11_isCheckOver_75 : dKc cX11_isCheckOver 75 0 76 := Or.inl ⟨0, by decide +kernel, by decide +kernel, rfl⟩
theorem dX11_isCheckOver_76 : dc cX11_isCheckOver 76 .ireturn 1 77 := ⟨by decide +kernel, rfl⟩
theorem dX11_isCheckOver_77 : dIl cX11_isCheckOver 77 1 78 := Or.inl ⟨1, rfl, by decide +kernel, rfl⟩
theorem dX11_isCheckOver_78 : dKc cX11_isCheckOver 78 4 79 := Or.inl ⟨4, by decide +kernel, by decide +kernel, rfl⟩
theorem dX11_isCheckOver_79 : dj cX11_isCheckOver 79 (.if_icmp .ne) 86 82 := ⟨7, by decide +kernel, by decide, rfl⟩
theorem dX11_isCheckOver_82 : dKc cX11_isCheckOver 82 1 83 := Or.inl ⟨1, by decide +kernel, by decide +kernel, rfl⟩
theorem dX11_isCheckOver_83 : dj cX11_isCheckOver 83 .goto 87 86 := ⟨4, by decide +kernel, by decide, rfl⟩
theorem dX11_isCheckOver_86 : dKc cX11_isCheckOver 86 0 87 := Or.inl ⟨0, by decide +kernel, by decide +kernel, rfl⟩
theorem dX11_isCheckOver_87 : dc cX11_isCheckOver 87 .ireturn 1 88 := ⟨by decide +kernel, rfl⟩
theorem dX11_isCheckOver_88 : dKc cX11_isCheckOver 88 0 89 := Or.inl ⟨0, by decide +kernel, by decide +kernel, rfl⟩
theorem dX11_isCheckOver_89 : dc cX11_isCheckOver 89 .ireturn 1 90 := ⟨by decide +kernel, rfl⟩
theorem dX11_fillParts_0 : dKc cX11_fillParts 0 0 1 := Or.inl ⟨0, by decide +kernel, by decide +kernel, rfl⟩
theorem dX11_fillParts_1 : dIs cX11_fillParts 1 2 2 := Or.inl ⟨2, rfl, by decide +kernel, rfl⟩
theorem dX11_fillParts_2 : dIl cX11_fillParts 2 2 3 := Or.inl ⟨2, rfl, by decide +kernel, rfl⟩
theorem dX11_fillParts_3 : dAl cX11_fillParts 3 1 4 := Or.inl ⟨1, rfl, by decide +kernel, rfl⟩
theorem dX11_fillParts_4 : dc cX11_fillParts 4 (.getfield 279) 3 7 := ⟨by decide +kernel, rfl⟩
theorem dX11_fillParts_7 : dj cX11_fillParts 7 (.if_icmp .ge) 51 10 := ⟨44, by decide +kernel, by decide, rfl⟩
theorem dX11_fillParts_10 : dAl cX11_fillParts 10 1 11 := Or.inl ⟨1, rfl, by decide +kernel, rfl⟩
theorem dX11_fillParts_11 : dIl cX11_fillParts 11 2 12 := Or.inl ⟨2, rfl, by decide +kernel, rfl⟩
theorem dX11_fillParts_12 : dc cX11_fillParts 12 (.invokevirtual 234) 3 15 := ⟨by decide +kernel, rfl⟩
theorem dX11_fillParts_15 : dj cX11_fillParts 15 (.ifCond .eq) 27 18 := ⟨12, by decide +kernel, by decide, rfl⟩
theorem dX11_fillParts_18 : dAl cX11_fillParts 18 0 19 := Or.inl ⟨0, rfl, by decide +kernel, rfl⟩
theorem dX11_fillParts_19 : dAl cX11_fillParts 19 1 20 := Or.inl ⟨1, rfl, by decide +kernel, rfl⟩
theorem dX11_fillParts_20 : dIl cX11_fillParts 20 2 21 := Or.inl ⟨2, rfl, by decide +kernel, rfl⟩
theorem dX11_fillParts_21 : dc cX11_fillParts 21 (.invokevirtual 280) 3 24 := ⟨by decide +kernel, rfl⟩
theorem dX11_fillParts_24 : dj cX11_fillParts 24 .goto 33 27 := ⟨9, by decide +kernel, by decide, rfl⟩
theorem dX11_fillParts_27 : dAl cX11_fillParts 27 0 28 := Or.inl ⟨0, rfl, by decide +kernel, rfl⟩
theorem dX11_fillParts_28 : dAl cX11_fillParts 28 1 29 := Or.inl ⟨1, rfl, by decide +kernel, rfl⟩
theorem dX11_fillParts_29 : dIl cX11_fillParts 29 2 30 := Or.inl ⟨2, rfl, by decide +kernel, rfl⟩
theorem dX11_fillParts_30 : dc cX11_fillParts 30 (.invokevirtual 284) 3 33 := ⟨by decide +kernel, rfl⟩
theorem dX11_fillParts_33 : dIs cX11_fillParts 33 3 34 := Or.inl ⟨3, rfl, by decide +kernel, rfl⟩
theorem dX11_fillParts_34 : dIl cX11_fillParts 34 3 35 := Or.inl ⟨3, rfl, by decide +kernel, rfl⟩
theorem dX11_fillParts_35 : dj cX11_fillParts 35 (.ifCond .eq) 45 38 := ⟨10, by decide +kernel, by decide, rfl⟩
theorem dX11_fillParts_38 : dAl cX11_fillParts 38 0 39 := Or.inl ⟨0, rfl, by decide +kernel, rfl⟩
theorem dX11_fillParts_39 : dIl cX11_fillParts 39 2 40 := Or.inl ⟨2, rfl, by decide +kernel, rfl⟩
theorem dX11_fillParts_40 : dc cX11_fillParts 40 (.putfield 59) 3 43 := ⟨by decide +kernel, rfl⟩
theorem dX11_fillParts_43 : dIl cX11_fillParts 43 3 44 := Or.inl ⟨3, rfl, by decide +kernel, rfl⟩
theorem dX11_fillParts_44 : dc cX11_fillParts 44 .ireturn 1 45 := ⟨by decide +kernel, rfl⟩
theorem dX11_fillParts_45 : dc cX11_fillParts 45 (.iinc 2 1) 3 48 := ⟨by decide +kernel, rfl⟩
theorem dX11_fillParts_48 : dj cX11_fillParts 48 .goto 2 51 := ⟨(-46), by decide +kernel, by decide, rfl⟩
theorem dX11_fillParts_51 : dKc cX11_fillParts 51 0 52 := Or.inl ⟨0, by decide +kernel, by decide +kernel, rfl⟩
theorem dX11_fillParts_52 : dc cX11_fillParts 52 .ireturn 1 53 := ⟨by decide +kernel, rfl⟩
theorem dX11_fillNumber_0 : dAl cX11_fillNumber 0 0 1 := Or.inl ⟨0, rfl, by decide +kernel, rfl⟩
theorem dX11_fillNumber_1 : dc cX11_fillNumber 1 (.getfield 47) 3 4 := ⟨by decide +kernel, rfl⟩
theorem dX11_fillNumber_4 : dIl cX11_fillNumber 4 2 5 := Or.inl ⟨2, rfl, by decide +kernel, rfl⟩
theorem dX11_fillNumber_5 : dc cX11_fillNumber 5 .iaload 1 6 := ⟨by decide +kernel, rfl⟩
theorem dX11_fillNumber_6 : dKc cX11_fillNumber 6 0 7 := Or.inl ⟨0, by decide +kernel, by decide +kernel, rfl⟩
theorem dX11_fillNumber_7 : dAl cX11_fillNumber 7 1 8 := Or.inl ⟨1, rfl, by decide +kernel, rfl⟩
theorem dX11_fillNumber_8 : dc cX11_fillNumber 8 (.getfield 228) 3 11 := ⟨by decide +kernel, rfl⟩
theorem dX11_fillNumber_11 : dc cX11_fillNumber 11 (.getfield 287) 3 14 := ⟨by decide +kernel, rfl⟩
theorem dX11_fillNumber_14 : dIl cX11_fillNumber 14 2 15 := Or.inl ⟨2, rfl, by decide +kernel, rfl⟩
theorem dX11_fillNumber_15 : dc cX11_fillNumber 15 .iaload 1 16 := ⟨by decide +kernel, rfl⟩
theorem dX11_fillNumber_16 : dc cX11_fillNumber 16 (.invokestatic 78) 3 19 := ⟨by decide +kernel, rfl⟩
theorem dX11_fillNumber_19 : dj cX11_fillNumber 19 (.ifCond .ne) 24 22 := ⟨5, by decide +kernel, by decide, rfl⟩
theorem dX11_fillNumber_22 : dKc cX11_fillNumber 22 2 23 := Or.inl ⟨2, by decide +kernel, by decide +kernel, rfl⟩
theorem dX11_fillNumber_23 : dc cX11_fillNumber 23 .ireturn 1 24 := ⟨by decide +kernel, rfl⟩
theorem dX11_fillNumber_24 : dAl cX11_fillNumber 24 1 25 := Or.inl ⟨1, rfl, by decide +kernel, rfl⟩
theorem dX11_fillNumber_25 : dc cX11_fillNumber 25 (.getfield 237) 3 28 := ⟨by decide +kernel, rfl⟩
theorem dX11_fillNumber_28 : dIl cX11_fillNumber 28 2 29 := Or.inl ⟨2, rfl, by decide +kernel, rfl⟩
theorem dX11_fillNumber_29 : dAl cX11_fillNumber 29 0 30 := Or.inl ⟨0, rfl, by decide +kernel, rfl⟩
theorem dX11_fillNumber_30 : dc cX11_fillNumber 30 (.getfield 47) 3 33 := ⟨by decide +kernel, rfl⟩
theorem dX11_fillNumber_33 : dIl cX11_fillNumber 33 2 34 := Or.inl ⟨2, rfl, by decide +kernel, rfl⟩
theorem dX11_fillNumber_34 : dc cX11_fillNumber 34 .iaload 1 35 := ⟨by decide +kernel, rfl⟩
theorem dX11_fillNumber_35 : dc cX11_fillNumber 35 .iastore 1 36 := ⟨by decide +kernel, rfl⟩
theorem dX11_fillNumber_36 : dKc cX11_fillNumber 36 0 37 := Or.inl ⟨0, by decide +kernel, by decide +kernel, rfl⟩
theorem dX11_fillNumber_37 : dc cX11_fillNumber 37 .ireturn 1 38 := ⟨by decide +kernel, rfl⟩
theorem dX11_fillThing_0 : dAl cX11_fillThing 0 0 1 := Or.inl ⟨0, rfl, by decide +kernel, rfl⟩
theorem dX11_fillThing_1 : dAl cX11_fillThing 1 0 2 := Or.inl ⟨0, rfl, by decide +kernel, rfl⟩
theorem dX11_fillThing_2 : dc cX11_fillThing 2 (.getfield 50) 3 5 := ⟨by decide +kernel, rfl⟩
theorem dX11_fillThing_5 : dIl cX11_fillThing 5 2 6 := Or.inl ⟨2, rfl, by decide +kernel, rfl⟩
theorem dX11_fillThing_6 : dc cX11_fillThing 6 .iaload 1 7 := ⟨by decide +kernel, rfl⟩
theorem dX11_fillThing_7 : dc cX11_fillThing 7 (.invokevirtual 169) 3 10 := ⟨by decide +kernel, rfl⟩
theorem dX11_fillThing_10 : dAs cX11_fillThing 10 3 11 := Or.inl ⟨3, rfl, by decide +kernel, rfl⟩
theorem dX11_fillThing_11 : dAl cX11_fillThing 11 1 12 := Or.inl ⟨1, rfl, by decide +kernel, rfl⟩
theorem dX11_fillThing_12 : dc cX11_fillThing 12 (.getfield 228) 3 15 := ⟨by decide +kernel, rfl⟩
theorem dX11_fillThing_15 : dc cX11_fillThing 15 (.getfield 206) 3 18 := ⟨by decide +kernel, rfl⟩
theorem dX11_fillThing_18 : dIl cX11_fillThing 18 2 19 := Or.inl ⟨2, rfl, by decide +kernel, rfl⟩
theorem dX11_fillThing_19 : dc cX11_fillThing 19 .iaload 1 20 := ⟨by decide +kernel, rfl⟩
theorem dX11_fillThing_20 : dIs cX11_fillThing 20 4 22 := Or.inr ⟨by decide +kernel, rfl⟩
theorem dX11_fillThing_22 : dAl cX11_fillThing 22 3 23 := Or.inl ⟨3, rfl, by decide +kernel, rfl⟩
theorem dX11_fillThing_23 : dj cX11_fillThing 23 .ifnull 37 26 := ⟨14, by decide +kernel, by decide, rfl⟩
theorem dX11_fillThing_26 : dAl cX11_fillThing 26 3 27 := Or.inl ⟨3, rfl, by decide +kernel, rfl⟩
theorem dX11_fillThing_27 : dIl cX11_fillThing 27 4 29 := Or.inr ⟨by decide +kernel, rfl⟩
theorem dX11_fillThing_29 : dc cX11_fillThing 29 (.invokestatic 290) 3 32 := ⟨by decide +kernel, rfl⟩
theorem dX11_fillThing_32 : dj cX11_fillThing 32 (.ifCond .ne) 37 35 := ⟨5, by decide +kernel, by decide, rfl⟩
theorem dX11_fillThing_35 : dKc cX11_fillThing 35 1 36 := Or.inl ⟨1, by decide +kernel, by decide +kernel, rfl⟩
theorem dX11_fillThing_36 : dc cX11_fillThing 36 .ireturn 1 37 := ⟨by decide +kernel, rfl⟩
theorem dX11_fillThing_37 : dAl cX11_fillThing 37 3 38 := Or.inl ⟨3, rfl, by decide +kernel, rfl⟩
theorem dX11_fillThing_38 : dIl cX11_fillThing 38 4 40 := Or.inr ⟨by decide +kernel, rfl⟩
theorem dX11_fillThing_40 : dAl cX11_fillThing 40 1 41 := Or.inl ⟨1, rfl, by decide +kernel, rfl⟩
theorem dX11_fillThing_41 : dc cX11_fillThing 41 (.getfield 228) 3 44 := ⟨by decide +kernel, rfl⟩
theorem dX11_fillThing_44 : dc cX11_fillThing 44 (.getfield 287) 3 47 := ⟨by decide +kernel, rfl⟩
theorem dX11_fillThing_47 : dIl cX11_fillThing 47 2 48 := Or.inl ⟨2, rfl, by decide +kernel, rfl⟩
theorem dX11_fillThing_48 : dc cX11_fillThing 48 .iaload 1 49 := ⟨by decide +kernel, rfl⟩
theorem dX11_fillThing_49 : dc cX11_fillThing 49 (.invokestatic 293) 3 52 := ⟨by decide +kernel, rfl⟩
theorem dX11_fillThing_52 : dj cX11_fillThing 52 (.ifCond .eq) 57 55 := ⟨5, by decide +kernel, by decide, rfl⟩
theorem dX11_fillThing_55 : dKc cX11_fillThing 55 2 56 := Or.inl ⟨2, by decide +kernel, by decide +kernel, rfl⟩
theorem dX11_fillThing_56 : dc cX11_fillThing 56 .ireturn 1 57 := ⟨by decide +kernel, rfl⟩
theorem dX11_fillThing_57 : dAl cX11_fillThing 57 3 58 := Or.inl ⟨3, rfl, by decide +kernel, rfl⟩
theorem dX11_fillThing_58 : dc cX11_fillThing 58 (.instanceof 9) 3 61 := ⟨by decide +kernel, rfl⟩
theorem dX11_fillThing_61 : dj cX11_fillThing 61 (.ifCond .eq) 76 64 := ⟨15, by decide +kernel, by decide, rfl⟩
theorem dX11_fillThing_64 : dAl cX11_fillThing 64 3 65 := Or.inl ⟨3, rfl, by decide +kernel, rfl⟩
theorem dX11_fillThing_65 : dc cX11_fillThing 65 (.checkcast 9) 3 68 := ⟨by decide +kernel, rfl⟩
theorem dX11_fillThing_68 : dAs cX11_fillThing 68 5 70 := Or.inr ⟨by decide +kernel, rfl⟩
theorem dX11_fillThing_70 : dAl cX11_fillThing 70 0 71 := Or.inl ⟨0, rfl, by decide +kernel, rfl⟩
theorem dX11_fillThing_71 : dAl cX11_fillThing 71 5 73 := Or.inr ⟨by decide +kernel, rfl⟩
theorem dX11_fillThing_73 : dc cX11_fillThing 73 (.invokevirtual 140) 3 76 := ⟨by decide +kernel, rfl⟩
theorem dX11_fillThing_76 : dAl cX11_fillThing 76 1 77 := Or.inl ⟨1, rfl, by decide +kernel, rfl⟩
theorem dX11_fillThing_77 : dc cX11_fillThing 77 (.getfield 240) 3 80 := ⟨by decide +kernel, rfl⟩
theorem dX11_fillThing_80 : dIl cX11_fillThing 80 2 81 := Or.inl ⟨2, rfl, by decide +kernel, rfl⟩
theorem dX11_fillThing_81 : dAl cX11_fillThing 81 3 82 := Or.inl ⟨3, rfl, by decide +kernel, rfl⟩
theorem dX11_fillThing_82 : dc cX11_fillThing 82 .aastore 1 83 := ⟨by decide +kernel, rfl⟩
theorem dX11_fillThing_83 : dKc cX11_fillThing 83 0 84 := Or.inl ⟨0, by decide +kernel, by decide +kernel, rfl⟩
theorem dX11_fillThing_84 : dc cX11_fillThing 84 .ireturn 1 85 := ⟨by decide +kernel, rfl⟩
theorem dX11_isOfSort_0 : dIl cX11_isOfSort 0 1 1 := Or.inl ⟨1, rfl, by decide +kernel, rfl⟩
theorem dX11_isOfSort_1 : dc cX11_isOfSort 1 (.tableswitch 42 1 3 #[27, 32, 37]) 27 28 := ⟨by decide +kernel, rfl⟩
theorem dX11_isOfSort_28 : dAl cX11_isOfSort 28 0 29 := Or.inl ⟨0, rfl, by decide +kernel, rfl⟩
theorem dX11_isOfSort_29 : dc cX11_isOfSort 29 (.instanceof 9) 3 32 := ⟨by decide +kernel, rfl⟩
theorem dX11_isOfSort_32 : dc cX11_isOfSort 32 .ireturn 1 33 := ⟨by decide +kernel, rfl⟩
theorem dX11_isOfSort_33 : dAl cX11_isOfSort 33 0 34 := Or.inl ⟨0, rfl, by decide +kernel, rfl⟩
theorem dX11_isOfSort_34 : dc cX11_isOfSort 34 (.instanceof 249) 3 37 := ⟨by decide +kernel, rfl⟩
theorem dX11_isOfSort_37 : dc cX11_isOfSort 37 .ireturn 1 38 := ⟨by decide +kernel, rfl⟩
theorem dX11_isOfSort_38 : dAl cX11_isOfSort 38 0 39 := Or.inl ⟨0, rfl, by decide +kernel, rfl⟩
theorem dX11_isOfSort_39 : dc cX11_isOfSort 39 (.instanceof 166) 3 42 := ⟨by decide +kernel, rfl⟩
theorem dX11_isOfSort_42 : dc cX11_isOfSort 42 .ireturn 1 43 := ⟨by decide +kernel, rfl⟩
theorem dX11_isOfSort_43 : dAl cX11_isOfSort 43 0 44 := Or.inl ⟨0, rfl, by decide +kernel, rfl⟩
theorem dX11_isOfSort_44 : dc cX11_isOfSort 44 (.instanceof 216) 3 47 := ⟨by decide +kernel, rfl⟩
theorem dX11_isOfSort_47 : dc cX11_isOfSort 47 .ireturn 1 48 := ⟨by decide +kernel, rfl⟩
theorem dX11_isForeign_0 : dIl cX11_isForeign 0 1 1 := Or.inl ⟨1, rfl, by decide +kernel, rfl⟩
theorem dX11_isForeign_1 : dKc cX11_isForeign 1 1 2 := Or.inl ⟨1, by decide +kernel, by decide +kernel, rfl⟩
theorem dX11_isForeign_2 : dj cX11_isForeign 2 (.if_icmp .ne) 34 5 := ⟨32, by decide +kernel, by decide, rfl⟩
theorem dX11_isForeign_5 : dAl cX11_isForeign 5 0 6 := Or.inl ⟨0, rfl, by decide +kernel, rfl⟩
theorem dX11_isForeign_6 : dc cX11_isForeign 6 (.instanceof 9) 3 9 := ⟨by decide +kernel, rfl⟩
theorem dX11_isForeign_9 : dj cX11_isForeign 9 (.ifCond .eq) 34 12 := ⟨25, by decide +kernel, by decide, rfl⟩
theorem dX11_isForeign_12 : dAl cX11_isForeign 12 0 13 := Or.inl ⟨0, rfl, by decide +kernel, rfl⟩
theorem dX11_isForeign_13 : dc cX11_isForeign 13 (.checkcast 9) 3 16 := ⟨by decide +kernel, rfl⟩
theorem dX11_isForeign_16 : dAs cX11_isForeign 16 3 17 := Or.inl ⟨3, rfl, by decide +kernel, rfl⟩
theorem dX11_isForeign_17 : dAl cX11_isForeign 17 3 18 := Or.inl ⟨3, rfl, by decide +kernel, rfl⟩
theorem dX11_isForeign_18 : dc cX11_isForeign 18 (.getfield 98) 3 21 := ⟨by decide +kernel, rfl⟩
theorem dX11_isForeign_21 : dc cX11_isForeign 21 (.getfield 109) 3 24 := ⟨by decide +kernel, rfl⟩
theorem dX11_isForeign_24 : dIl cX11_isForeign 24 2 25 := Or.inl ⟨2, rfl, by decide +kernel, rfl⟩
theorem dX11_isForeign_25 : dj cX11_isForeign 25 (.if_icmp .eq) 32 28 := ⟨7, by decide +kernel, by decide, rfl⟩
theorem dX11_isForeign_28 : dKc cX11_isForeign 28 1 29 := Or.inl ⟨1, by decide +kernel, by decide +kernel, rfl⟩
theorem dX11_isForeign_29 : dj cX11_isForeign 29 .goto 33 32 := ⟨4, by decide +kernel, by decide, rfl⟩
theorem dX11_isForeign_32 : dKc cX11_isForeign 32 0 33 := Or.inl ⟨0, by decide +kernel, by decide +kernel, rfl⟩
theorem dX11_isForeign_33 : dc cX11_isForeign 33 .ireturn 1 34 := ⟨by decide +kernel, rfl⟩
theorem dX11_isForeign_34 : dIl cX11_isForeign 34 1 35 := Or.inl ⟨1, rfl, by decide +kernel, rfl⟩
theorem dX11_isForeign_35 : dKc cX11_isForeign 35 4 36 := Or.inl ⟨4, by decide +kernel, by decide +kernel, rfl⟩
theorem dX11_isForeign_36 : dj cX11_isForeign 36 (.if_icmp .ne) 68 39 := ⟨32, by decide +kernel, by decide, rfl⟩
theorem dX11_isForeign_39 : dAl cX11_isForeign 39 0 40 := Or.inl ⟨0, rfl, by decide +kernel, rfl⟩
theorem dX11_isForeign_40 : dc cX11_isForeign 40 (.instanceof 216) 3 43 := ⟨by decide +kernel, rfl⟩
theorem dX11_isForeign_43 : dj cX11_isForeign 43 (.ifCond .eq) 68 46 := ⟨25, by decide +kernel, by decide, rfl⟩
theorem dX11_isForeign_46 : dAl cX11_isForeign 46 0 47 := Or.inl ⟨0, rfl, by decide +kernel, rfl⟩
theorem dX11_isForeign_47 : dc cX11_isForeign 47 (.checkcast 216) 3 50 := ⟨by decide +kernel, rfl⟩
theorem dX11_isForeign_50 : dAs cX11_isForeign 50 3 51 := Or.inl ⟨3, rfl, by decide +kernel, rfl⟩
theorem dX11_isForeign_51 : dAl cX11_isForeign 51 3 52 := Or.inl ⟨3, rfl, by decide +kernel, rfl⟩
theorem dX11_isForeign_52 : dc cX11_isForeign 52 (.getfield 228) 3 55 := ⟨by decide +kernel, rfl⟩
theorem dX11_isForeign_55 : dc cX11_isForeign 55 (.getfield 232) 3 58 := ⟨by decide +kernel, rfl⟩
theorem dX11_isForeign_58 : dIl cX11_isForeign 58 2 59 := Or.inl ⟨2, rfl, by decide +kernel, rfl⟩
theorem dX11_isForeign_59 : dj cX11_isForeign 59 (.if_icmp .eq) 66 62 := ⟨7, by decide +kernel, by decide, rfl⟩
theorem dX11_isForeign_62 : dKc cX11_isForeign 62 1 63 := Or.inl ⟨1, by decide +kernel, by decide +kernel, rfl⟩
theorem dX11_isForeign_63 : dj cX11_isForeign 63 .goto 67 66 := ⟨4, by decide +kernel, by decide, rfl⟩
theorem dX11_isForeign_66 : dKc cX11_isForeign 66 0 67 := Or.inl ⟨0, by decide +kernel, by decide +kernel, rfl⟩
theorem dX11_isForeign_67 : dc cX11_isForeign 67 .ireturn 1 68 := ⟨by decide +kernel, rfl⟩
theorem dX11_isForeign_68 : dKc cX11_isForeign 68 0 69 := Or.inl ⟨0, by decide +kernel, by decide +kernel, rfl⟩
theorem dX11_isForeign_69 : dc cX11_isForeign 69 .ireturn 1 70 := ⟨by decide +kernel, rfl⟩
theorem dX11_runChecks_0 : dKc cX11_runChecks 0 0 1 := Or.inl ⟨0, by decide +kernel, by decide +kernel, rfl⟩
theorem dX11_runChecks_1 : dIs cX11_runChecks 1 2 2 := Or.inl ⟨2, rfl, by decide +kernel, rfl⟩
theorem dX11_runChecks_2 : dIl cX11_runChecks 2 2 3 := Or.inl ⟨2, rfl, by decide +kernel, rfl⟩
theorem dX11_runChecks_3 : dAl cX11_runChecks 3 1 4 := Or.inl ⟨1, rfl, by decide +kernel, rfl⟩
theorem dX11_runChecks_4 : dc cX11_runChecks 4 (.getfield 228) 3 7 := ⟨by decide +kernel, rfl⟩
theorem dX11_runChecks_7 : dc cX11_runChecks 7 (.getfield 297) 3 10 := ⟨by decide +kernel, rfl⟩
theorem dX11_runChecks_10 : dj cX11_runChecks 10 (.if_icmp .ge) 47 13 := ⟨37, by decide +kernel, by decide, rfl⟩
theorem dX11_runChecks_13 : dAl cX11_runChecks 13 1 14 := Or.inl ⟨1, rfl, by decide +kernel, rfl⟩
theorem dX11_runChecks_14 : dc cX11_runChecks 14 (.getfield 228) 3 17 := ⟨by decide +kernel, rfl⟩
theorem dX11_runChecks_17 : dc cX11_runChecks 17 (.getfield 300) 3 20 := ⟨by decide +kernel, rfl⟩
theorem dX11_runChecks_20 : dIl cX11_runChecks 20 2 21 := Or.inl ⟨2, rfl, by decide +kernel, rfl⟩
theorem dX11_runChecks_21 : dc cX11_runChecks 21 .aaload 1 22 := ⟨by decide +kernel, rfl⟩
theorem dX11_runChecks_22 : dAl cX11_runChecks 22 1 23 := Or.inl ⟨1, rfl, by decide +kernel, rfl⟩
theorem dX11_runChecks_23 : dc cX11_runChecks 23 (.invokevirtual 304) 3 26 := ⟨by decide +kernel, rfl⟩
theorem dX11_runChecks_26 : dIs cX11_runChecks 26 3 27 := Or.inl ⟨3, rfl, by decide +kernel, rfl⟩
theorem dX11_runChecks_27 : dIl cX11_runChecks 27 3 28 := Or.inl ⟨3, rfl, by decide +kernel, rfl⟩
theorem dX11_runChecks_28 : dj cX11_runChecks 28 (.ifCond .eq) 41 31 := ⟨13, by decide +kernel, by decide, rfl⟩
theorem dX11_runChecks_31 : dAl cX11_runChecks 31 0 32 := Or.inl ⟨0, rfl, by decide +kernel, rfl⟩
theorem dX11_runChecks_32 : dKc cX11_runChecks 32 10 34 := Or.inr (Or.inl ⟨10, by decide +kernel, by decide +kernel, rfl⟩)
theorem dX11_runChecks_34 : dIl cX11_runChecks 34 2 35 := Or.inl ⟨2, rfl, by decide +kernel, rfl⟩
theorem dX11_runChecks_35 : dc cX11_runChecks 35 .iadd 1 36 := ⟨by decide +kernel, rfl⟩
theorem dX11_runChecks_36 : dc cX11_runChecks 36 (.putfield 59) 3 39 := ⟨by decide +kernel, rfl⟩
theorem dX11_runChecks_39 : dIl cX11_runChecks 39 3 40 := Or.inl ⟨3, rfl, by decide +kernel, rfl⟩
theorem dX11_runChecks_40 : dc cX11_runChecks 40 .ireturn 1 41 := ⟨by decide +kernel, rfl⟩
theorem dX11_runChecks_41 : dc cX11_runChecks 41 (.iinc 2 1) 3 44 := ⟨by decide +kernel, rfl⟩
theorem dX11_runChecks_44 : dj cX11_runChecks 44 .goto 2 47 := ⟨(-42), by decide +kernel, by decide, rfl⟩
theorem dX11_runChecks_47 : dKc cX11_runChecks 47 0 48 := Or.inl ⟨0, by decide +kernel, by decide +kernel, rfl⟩
theorem dX11_runChecks_48 : dc cX11_runChecks 48 .ireturn 1 49 := ⟨by decide +kernel, rfl⟩
end
section
theorem dX12_init_0 : dAl cX12_init 0 0 1 := Or.inl ⟨0, rfl, by decide +kernel, rfl⟩
theorem dX12_init_1 : dc cX12_init 1 (.invokespecial 1) 3 4 := ⟨by decide +kernel, rfl⟩
theorem dX12_init_4 : dAl cX12_init 4 0 5 := Or.inl ⟨0, rfl, by decide +kernel, rfl⟩
theorem dX12_init_5 : dKc cX12_init 5 60 7 := Or.inr (Or.inl ⟨60, by decide +kernel, by decide +kernel, rfl⟩)
theorem dX12_init_7 : dc cX12_init 7 (.newarray .int) 2 9 := ⟨by decide +kernel, rfl⟩
theorem dX12_init_9 : dc cX12_init 9 (.putfield 7) 3 12 := ⟨by decide +kernel, rfl⟩
theorem dX12_init_12 : dAl cX12_init 12 0 13 := Or.inl ⟨0, rfl, by decide +kernel, rfl⟩
theorem dX12_init_13 : dKc cX12_init 13 60 15 := Or.inr (Or.inl ⟨60, by decide +kernel, by decide +kernel, rfl⟩)
theorem dX12_init_15 : dc cX12_init 15 (.newarray .long) 2 17 := ⟨by decide +kernel, rfl⟩
theorem dX12_init_17 : dc cX12_init 17 (.putfield 13) 3 20 := ⟨by decide +kernel, rfl⟩
theorem dX12_init_20 : dAl cX12_init 20 0 21 := Or.inl ⟨0, rfl, by decide +kernel, rfl⟩
theorem dX12_init_21 : dKc cX12_init 21 60 23 := Or.inr (Or.inl ⟨60, by decide +kernel, by decide +kernel, rfl⟩)
theorem dX12_init_23 : dc cX12_init 23 (.newarray .int) 2 25 := ⟨by decide +kernel, rfl⟩
theorem dX12_init_25 : dc cX12_init 25 (.putfield 17) 3 28 := ⟨by decide +kernel, rfl⟩
theorem dX12_init_28 : dAl cX12_init 28 0 29 := Or.inl ⟨0, rfl, by decide +kernel, rfl⟩
theorem dX12_init_29 : dKc cX12_init 29 60 31 := Or.inr (Or.inl ⟨60, by decide +kernel, by decide +kernel, rfl⟩)
theorem dX12_init_31 : dc cX12_init 31 (.newarray .int) 2 33 := ⟨by decide +kernel, rfl⟩
theorem dX12_init_33 : dc cX12_init 33 (.putfield 20) 3 36 := ⟨by decide +kernel, rfl⟩
theorem dX12_init_36 : dAl cX12_init 36 0 37 := Or.inl ⟨0, rfl, by decide +kernel, rfl⟩
theorem dX12_init_37 : dKc cX12_init 37 60 39 := Or.inr (Or.inl ⟨60, by decide +kernel, by decide +kernel, rfl⟩)
theorem dX12_init_39 : dc cX12_init 39 (.newarray .int) 2 41 := ⟨by decide +kernel, rfl⟩
theorem dX12_init_41 : dc cX12_init 41 (.putfield 23) 3 44 := ⟨by decide +kernel, rfl⟩
theorem dX12_init_44 : dAl cX12_init 44 0 45 := Or.inl ⟨0, rfl, by decide +kernel, rfl⟩
theorem dX12_init_45 : dKc cX12_init 45 18 47 := Or.inr (Or.inl ⟨18, by decide +kernel, by decide +kernel, rfl⟩)
theorem dX12_init_47 : dc cX12_init 47 (.newarray .int) 2 49 := ⟨by decide +kernel, rfl⟩
theorem dX12_init_49 : dc cX12_init 49 (.putfield 26) 3 52 := ⟨by decide +kernel, rfl⟩
theorem dX12_init_52 : dAl cX12_init 52 0 53 := Or.inl ⟨0, rfl, by decide +kernel, rfl⟩
theorem dX12_init_53 : dKc cX12_init 53 1080 56 := Or.inr (Or.inr ⟨1080, by decide +kernel, by decide +kernel, rfl⟩)
theorem dX12_init_56 : dc cX12_init 56 (.newarray .int) 2 58 := ⟨by decide +kernel, rfl⟩
theorem dX12_init_58 : dc cX12_init 58 (.putfield 29) 3 61 := ⟨by decide +kernel, rfl⟩
theorem dX12_init_61 : dAl cX12_init 61 0 62 := Or.inl ⟨0, rfl, by decide +kernel, rfl⟩
theorem dX12_init_62 : dKc cX12_init 62 520 65 := Or.inr (Or.inr ⟨520, by decide +kernel, by decide +kernel, rfl⟩)
theorem dX12_init_65 : dc cX12_init 65 (.newarray .int) 2 67 := ⟨by decide +kernel, rfl⟩
theorem dX12_init_67 : dc cX12_init 67 (.putfield 32) 3 70 := ⟨by decide +kernel, rfl⟩
theorem dX12_init_70 : dAl cX12_init 70 0 71 := Or.inl ⟨0, rfl, by decide +kernel, rfl⟩
theorem dX12_init_71 : dKc cX12_init 71 6240 74 := Or.inr (Or.inr ⟨6240, by decide +kernel, by decide +kernel, rfl⟩)
theorem dX12_init_74 : dc cX12_init 74 (.newarray .int) 2 76 := ⟨by decide +kernel, rfl⟩
theorem dX12_init_76 : dc cX12_init 76 (.putfield 35) 3 79 := ⟨by decide +kernel, rfl⟩
theorem dX12_init_79 : dAl cX12_init 79 0 80 := Or.inl ⟨0, rfl, by decide +kernel, rfl⟩
theorem dX12_init_80 : dKc cX12_init 80 520 83 := Or.inr (Or.inr ⟨520, by decide +kernel, by decide +kernel, rfl⟩)
theorem dX12_init_83 : dc cX12_init 83 (.newarray .int) 2 85 := ⟨by decide +kernel, rfl⟩
theorem dX12_init_85 : dc cX12_init 85 (.putfield 38) 3 88 := ⟨by decide +kernel, rfl⟩
theorem dX12_init_88 : dAl cX12_init 88 0 89 := Or.inl ⟨0, rfl, by decide +kernel, rfl⟩
theorem dX12_init_89 : dKc cX12_init 89 520 92 := Or.inr (Or.inr ⟨520, by decide +kernel, by decide +kernel, rfl⟩)
theorem dX12_init_92 : dc cX12_init 92 (.newarray .int) 2 94 := ⟨by decide +kernel, rfl⟩
theorem dX12_init_94 : dc cX12_init 94 (.putfield 41) 3 97 := ⟨by decide +kernel, rfl⟩
theorem dX12_init_97 : dAl cX12_init 97 0 98 := Or.inl ⟨0, rfl, by decide +kernel, rfl⟩
theorem dX12_init_98 : dKc cX12_init 98 2600 101 := Or.inr (Or.inr ⟨2600, by decide +kernel, by decide +kernel, rfl⟩)
theorem dX12_init_101 : dc cX12_init 101 (.newarray .int) 2 103 := ⟨by decide +kernel, rfl⟩
theorem dX12_init_103 : dc cX12_init 103 (.putfield 44) 3 106 := ⟨by decide +kernel, rfl⟩
theorem dX12_init_106 : dAl cX12_init 106 0 107 := Or.inl ⟨0, rfl, by decide +kernel, rfl⟩
theorem dX12_init_107 : dKc cX12_init 107 10 109 := Or.inr (Or.inl ⟨10, by decide +kernel, by decide +kernel, rfl⟩)
theorem dX12_init_109 : dc cX12_init 109 (.newarray .int) 2 111 := ⟨by decide +kernel, rfl⟩
theorem dX12_init_111 : dc cX12_init 111 (.putfield 47) 3 114 := ⟨by decide +kernel, rfl⟩
theorem dX12_init_114 : dAl cX12_init 114 0 115 := Or.inl ⟨0, rfl, by decide +kernel, rfl⟩
theorem dX12_init_115 : dKc cX12_init 115 6 117 := Or.inr (Or.inl ⟨6, by decide +kernel, by decide +kernel, rfl⟩)
theorem dX12_init_117 : dc cX12_init 117 (.newarray .int) 2 119 := ⟨by decide +kernel, rfl⟩
theorem dX12_init_119 : dc cX12_init 119 (.putfield 50) 3 122 := ⟨by decide +kernel, rfl⟩
theorem dX12_init_122 : dAl cX12_init 122 0 123 := Or.inl ⟨0, rfl, by decide +kernel, rfl⟩
theorem dX12_init_123 : dKc cX12_init 123 30 125 := Or.inr (Or.inl ⟨30, by decide +kernel, by decide +kernel, rfl⟩)
theorem dX12_init_125 : dc cX12_init 125 (.newarray .int) 2 127 := ⟨by decide +kernel, rfl⟩
theorem dX12_init_127 : dc cX12_init 127 (.putfield 53) 3 130 := ⟨by decide +kernel, rfl⟩
theorem dX12_init_130 : dAl cX12_init 130 0 131 := Or.inl ⟨0, rfl, by decide +kernel, rfl⟩
theorem dX12_init_131 : dKc cX12_init 131 30 133 := Or.inr (Or.inl ⟨30, by decide +kernel, by decide +kernel, rfl⟩)
theorem dX12_init_133 : dc cX12_init 133 (.newarray .int) 2 135 := ⟨by decide +kernel, rfl⟩
theorem dX12_init_135 : dc cX12_init 135 (.putfield 56) 3 138 := ⟨by decide +kernel, rfl⟩
theorem dX12_init_138 : dAl cX12_init 138 0 139 := Or.inl ⟨0, rfl, by decide +kernel, rfl⟩
theorem dX12_init_139 : dKc cX12_init 139 6 141 := Or.inr (Or.inl ⟨6, by decide +kernel, by decide +kernel, rfl⟩)
theorem dX12_init_141 : dc cX12_init 141 (.newarray .int) 2 143 := ⟨by decide +kernel, rfl⟩
theorem dX12_init_143 : dc cX12_init 143 (.putfield 59) 3 146 := ⟨by decide +kernel, rfl⟩
theorem dX12_init_146 : dAl cX12_init 146 0 147 := Or.inl ⟨0, rfl, by decide +kernel, rfl⟩
theorem dX12_init_147 : dKc cX12_init 147 24 149 := Or.inr (Or.inl ⟨24, by decide +kernel, by decide +kernel, rfl⟩)
theorem dX12_init_149 : dc cX12_init 149 (.newarray .int) 2 151 := ⟨by decide +kernel, rfl⟩
theorem dX12_init_151 : dc cX12_init 151 (.putfield 62) 3 154 := ⟨by decide +kernel, rfl⟩
theorem dX12_init_154 : dAl cX12_init 154 0 155 := Or.inl ⟨0, rfl, by decide +kernel, rfl⟩
theorem dX12_init_155 : dKc cX12_init 155 24 157 := Or.inr (Or.inl ⟨24, by decide +kernel, by decide +kernel, rfl⟩)
theorem dX12_init_157 : dc cX12_init 157 (.newarray .int) 2 159 := ⟨by decide +kernel, rfl⟩
theorem dX12_init_159 : dc cX12_init 159 (.putfield 65) 3 162 := ⟨by decide +kernel, rfl⟩
theorem dX12_init_162 : dAl cX12_init 162 0 163 := Or.inl ⟨0, rfl, by decide +kernel, rfl⟩
theorem dX12_init_163 : dKc cX12_init 163 24 165 := Or.inr (Or.inl ⟨24, by decide +kernel, by decide +kernel, rfl⟩)
theorem dX12_init_165 : dc cX12_init 165 (.newarray .int) 2 167 := ⟨by decide +kernel, rfl⟩
theorem dX12_init_167 : dc cX12_init 167 (.putfield 68) 3 170 := ⟨by decide +kernel, rfl⟩
theorem dX12_init_170 : dAl cX12_init 170 0 171 := Or.inl ⟨0, rfl, by decide +kernel, rfl⟩
theorem dX12_init_171 : dKc cX12_init 171 5 172 := Or.inl ⟨5, by decide +kernel, by decide +kernel, rfl⟩
theorem dX12_init_172 : dc cX12_init 172 (.newarray .int) 2 174 := ⟨by decide +kernel, rfl⟩
theorem dX12_init_174 : dc cX12_init 174 (.putfield 71) 3 177 := ⟨by decide +kernel, rfl⟩
theorem dX12_init_177 : dAl cX12_init 177 0 178 := Or.inl ⟨0, rfl, by decide +kernel, rfl⟩
theorem dX12_init_178 : dKc cX12_init 178 5 179 := Or.inl ⟨5, by decide +kernel, by decide +kernel, rfl⟩
theorem dX12_init_179 : dc cX12_init 179 (.newarray .int) 2 181 := ⟨by decide +kernel, rfl⟩
theorem dX12_init_181 : dc cX12_init 181 (.putfield 74) 3 184 := ⟨by decide +kernel, rfl⟩
theorem dX12_init_184 : dAl cX12_init 184 0 185 := Or.inl ⟨0, rfl, by decide +kernel, rfl⟩
theorem dX12_init_185 : dKc cX12_init 185 (-3) 187 := Or.inr (Or.inl ⟨(-3), by decide +kernel, by decide +kernel, rfl⟩)
theorem dX12_init_187 : dc cX12_init 187 (.putfield 77) 3 190 := ⟨by decide +kernel, rfl⟩
theorem dX12_init_190 : dAl cX12_init 190 0 191 := Or.inl ⟨0, rfl, by decide +kernel, rfl⟩
theorem dX12_init_191 : dKc cX12_init 191 6 193 := Or.inr (Or.inl ⟨6, by decide +kernel, by decide +kernel, rfl⟩)
theorem dX12_init_193 : dc cX12_init 193 (.newarray .int) 2 195 := ⟨by decide +kernel, rfl⟩
theorem dX12_init_195 : dc cX12_init 195 .dup 1 196 := ⟨by decide +kernel, rfl⟩
theorem dX12_init_196 : dKc cX12_init 196 0 197 := Or.inl ⟨0, by decide +kernel, by decide +kernel, rfl⟩
theorem dX12_init_197 : dKc cX12_init 197 (-3) 199 := Or.inr (Or.inl ⟨(-3), by decide +kernel, by decide +kernel, rfl⟩)
theorem dX12_init_199 : dc cX12_init 199 .iastore 1 200 := ⟨by decide +kernel, rfl⟩
theorem dX12_init_200 : dc cX12_init 200 .dup 1 201 := ⟨by decide +kernel, rfl⟩
theorem dX12_init_201 : dKc cX12_init 201 1 202 := Or.inl ⟨1, by decide +kernel, by decide +kernel, rfl⟩
theorem dX12_init_202 : dKc cX12_init 202 (-3) 204 := Or.inr (Or.inl ⟨(-3), by decide +kernel, by decide +kernel, rfl⟩)
theorem dX12_init_204 : dc cX12_init 204 .iastore 1 205 := ⟨by decide +kernel, rfl⟩
theorem dX12_init_205 : dc cX12_init 205 .dup 1 206 := ⟨by decide +kernel, rfl⟩
theorem dX12_init_206 : dKc cX12_init 206 2 207 := Or.inl ⟨2, by decide +kernel, by decide +kernel, rfl⟩
theorem dX12_init_207 : dKc cX12_init 207 (-3) 209 := Or.inr (Or.inl ⟨(-3), by decide +kernel, by decide +kernel, rfl⟩)
theorem dX12_init_209 : dc cX12_init 209 .iastore 1 210 := ⟨by decide +kernel, rfl⟩
theorem dX12_init_210 : dc cX12_init 210 .dup 1 211 := ⟨by decide +kernel, rfl⟩
theorem dX12_init_211 : dKc cX12_init 211 3 212 := Or.inl ⟨3, by decide +kernel, by decide +kernel, rfl⟩
theorem dX12_init_212 : dKc cX12_init 212 (-3) 214 := Or.inr (Or.inl ⟨(-3), by decide +kernel, by decide +kernel, rfl⟩)
theorem dX12_init_214 : dc cX12_init 214 .iastore 1 215 := ⟨by decide +kernel, rfl⟩
theorem dX12_init_215 : dc cX12_init 215 .dup 1 216 := ⟨by decide +kernel, rfl⟩
theorem dX12_init_216 : dKc cX12_init 216 4 217 := Or.inl ⟨4, by decide +kernel, by decide +kernel, rfl⟩
theorem dX12_init_217 : dKc cX12_init 217 (-3) 219 := Or.inr (Or.inl ⟨(-3), by decide +kernel, by decide +kernel, rfl⟩)
theorem dX12_init_219 : dc cX12_init 219 .iastore 1 220 := ⟨by decide +kernel, rfl⟩
theorem dX12_init_220 : dc cX12_init 220 .dup 1 221 := ⟨by decide +kernel, rfl⟩
theorem dX12_init_221 : dKc cX12_init 221 5 222 := Or.inl ⟨5, by decide +kernel, by decide +kernel, rfl⟩
theorem dX12_init_222 : dKc cX12_init 222 (-3) 224 := Or.inr (Or.inl ⟨(-3), by decide +kernel, by decide +kernel, rfl⟩)
theorem dX12_init_224 : dc cX12_init 224 .iastore 1 225 := ⟨by decide +kernel, rfl⟩
theorem dX12_init_225 : dc cX12_init 225 (.putfield 81) 3 228 := ⟨by decide +kernel, rfl⟩
theorem dX12_init_228 : dAl cX12_init 228 0 229 := Or.inl ⟨0, rfl, by decide +kernel, rfl⟩
theorem dX12_init_229 : dKc cX12_init 229 32 231 := Or.inr (Or.inl ⟨32, by decide +kernel, by decide +kernel, rfl⟩)
theorem dX12_init_231 : dc cX12_init 231 (.newarray .int) 2 233 := ⟨by decide +kernel, rfl⟩
theorem dX12_init_233 : dc cX12_init 233 (.putfield 84) 3 236 := ⟨by decide +kernel, rfl⟩
theorem dX12_init_236 : dAl cX12_init 236 0 237 := Or.inl ⟨0, rfl, by decide +kernel, rfl⟩
theorem dX12_init_237 : dKc cX12_init 237 32 239 := Or.inr (Or.inl ⟨32, by decide +kernel, by decide +kernel, rfl⟩)
theorem dX12_init_239 : dc cX12_init 239 (.newarray .int) 2 241 := ⟨by decide +kernel, rfl⟩
theorem dX12_init_241 : dc cX12_init 241 (.putfield 87) 3 244 := ⟨by decide +kernel, rfl⟩
theorem dX12_init_244 : dAl cX12_init 244 0 245 := Or.inl ⟨0, rfl, by decide +kernel, rfl⟩
theorem dX12_init_245 : dKc cX12_init 245 32 247 := Or.inr (Or.inl ⟨32, by decide +kernel, by decide +kernel, rfl⟩)
theorem dX12_init_247 : dc cX12_init 247 (.newarray .int) 2 249 := ⟨by decide +kernel, rfl⟩
theorem dX12_init_249 : dc cX12_init 249 (.putfield 90) 3 252 := ⟨by decide +kernel, rfl⟩
theorem dX12_init_252 : dKc cX12_init 252 0 253 := Or.inl ⟨0, by decide +kernel, by decide +kernel, rfl⟩
theorem dX12_init_253 : dIs cX12_init 253 1 254 := Or.inl ⟨1, rfl, by decide +kernel, rfl⟩
theorem dX12_init_254 : dIl cX12_init 254 1 255 := Or.inl ⟨1, rfl, by decide +kernel, rfl⟩
theorem dX12_init_255 : dKc cX12_init 255 10 257 := Or.inr (Or.inl ⟨10, by decide +kernel, by decide +kernel, rfl⟩)
theorem dX12_init_257 : dj cX12_init 257 (.if_icmp .ge) 273 260 := ⟨16, by decide +kernel, by decide, rfl⟩
theorem dX12_init_260 : dAl cX12_init 260 0 261 := Or.inl ⟨0, rfl, by decide +kernel, rfl⟩
theorem dX12_init_261 : dc cX12_init 261 (.getfield 47) 3 264 := ⟨by decide +kernel, rfl⟩
theorem dX12_init_264 : dIl cX12_init 264 1 265 := Or.inl ⟨1, rfl, by decide +kernel, rfl⟩
theorem dX12_init_265 : dKc cX12_init 265 (-1) 266 := Or.inl ⟨(-1), by decide +kernel, by decide +kernel, rfl⟩
theorem dX12_init_266 : dc cX12_init 266 .iastore 1 267 := ⟨by decide +kernel, rfl⟩
theorem dX12_init_267 : dc cX12_init 267 (.iinc 1 1) 3 270 := ⟨by decide +kernel, rfl⟩
theorem dX12_init_270 : dj cX12_init 270 .goto 254 273 := ⟨(-16), by decide +kernel, by decide, rfl⟩
theorem dX12_init_273 : dc cX12_init 273 .return_ 1 274 := ⟨by decide +kernel, rfl⟩
theorem dX12_in_0 : dIl cX12_in 0 0 1 := Or.inl ⟨0, rfl, by decide +kernel, rfl⟩
theorem dX12_in_1 : dIl cX12_in 1 1 2 := Or.inl ⟨1, rfl, by decide +kernel, rfl⟩
theorem dX12_in_2 : dj cX12_in 2 (.if_icmp .lt) 14 5 := ⟨12, by decide +kernel, by decide, rfl⟩
theorem dX12_in_5 : dIl cX12_in 5 0 6 := Or.inl ⟨0, rfl, by decide +kernel, rfl⟩
theorem dX12_in_6 : dIl cX12_in 6 2 7 := Or.inl ⟨2, rfl, by decide +kernel, rfl⟩
theorem dX12_in_7 : dj cX12_in 7 (.if_icmp .gt) 14 10 := ⟨7, by decide +kernel, by decide, rfl⟩
theorem dX12_in_10 : dKc cX12_in 10 1 11 := Or.inl ⟨1, by decide +kernel, by decide +kernel, rfl⟩
theorem dX12_in_11 : dj cX12_in 11 .goto 15 14 := ⟨4, by decide +kernel, by decide, rfl⟩
theorem dX12_in_14 : dKc cX12_in 14 0 15 := Or.inl ⟨0, by decide +kernel, by decide +kernel, rfl⟩
theorem dX12_in_15 : dc cX12_in 15 .ireturn 1 16 := ⟨by decide +kernel, rfl⟩
theorem dX12_isConstant_0 : dIl cX12_isConstant 0 1 1 := Or.inl ⟨1, rfl, by decide +kernel, rfl⟩
theorem dX12_isConstant_1 : dKc cX12_isConstant 1 0 2 := Or.inl ⟨0, by decide +kernel, by decide +kernel, rfl⟩
theorem dX12_isConstant_2 : dAl cX12_isConstant 2 0 3 := Or.inl ⟨0, rfl, by decide +kernel, rfl⟩
theorem dX12_isConstant_3 : dc cX12_isConstant 3 (.getfield 93) 3 6 := ⟨by decide +kernel, rfl⟩
theorem dX12_isConstant_6 : dKc cX12_isConstant 6 1 7 := Or.inl ⟨1, by decide +kernel, by decide +kernel, rfl⟩
theorem dX12_isConstant_7 : dc cX12_isConstant 7 .isub 1 8 := ⟨by decide +kernel, rfl⟩
theorem dX12_isConstant_8 : dc cX12_isConstant 8 (.invokestatic 96) 3 11 := ⟨by decide +kernel, rfl⟩
theorem dX12_isConstant_11 : dc cX12_isConstant 11 .ireturn 1 12 := ⟨by decide +kernel, rfl⟩
theorem dX12_isKind_0 : dIl cX12_isKind 0 0 1 := Or.inl ⟨0, rfl, by decide +kernel, rfl⟩
theorem dX12_isKind_1 : dKc cX12_isKind 1 0 2 := Or.inl ⟨0, by decide +kernel, by decide +kernel, rfl⟩
theorem dX12_isKind_2 : dKc cX12_isKind 2 5 3 := Or.inl ⟨5, by decide +kernel, by decide +kernel, rfl⟩
theorem dX12_isKind_3 : dc cX12_isKind 3 (.invokestatic 96) 3 6 := ⟨by decide +kernel, rfl⟩
theorem dX12_isKind_6 : dc cX12_isKind 6 .ireturn 1 7 := ⟨by decide +kernel, rfl⟩
theorem dX12_isPlace_0 : dIl cX12_isPlace 0 0 1 := Or.inl ⟨0, rfl, by decide +kernel, rfl⟩
theorem dX12_isPlace_1 : dKc cX12_isPlace 1 0 2 := Or.inl ⟨0, by decide +kernel, by decide +kernel, rfl⟩
theorem dX12_isPlace_2 : dKc cX12_isPlace 2 9 4 := Or.inr (Or.inl ⟨9, by decide +kernel, by decide +kernel, rfl⟩)
theorem dX12_isPlace_4 : dc cX12_isPlace 4 (.invokestatic 96) 3 7 := ⟨by decide +kernel, rfl⟩
theorem dX12_isPlace_7 : dc cX12_isPlace 7 .ireturn 1 8 := ⟨by decide +kernel, rfl⟩
theorem dX12_isName_0 : dKc cX12_isName 0 1 1 := Or.inl ⟨1, by decide +kernel, by decide +kernel, rfl⟩
theorem dX12_isName_1 : dIs cX12_isName 1 2 2 := Or.inl ⟨2, rfl, by decide +kernel, rfl⟩
theorem dX12_isName_2 : dKc cX12_isName 2 0 3 := Or.inl ⟨0, by decide +kernel, by decide +kernel, rfl⟩
theorem dX12_isName_3 : dIs cX12_isName 3 3 4 := Or.inl ⟨3, rfl, by decide +kernel, rfl⟩
theorem dX12_isName_4 : dKc cX12_isName 4 0 5 := Or.inl ⟨0, by decide +kernel, by decide +kernel, rfl⟩
theorem dX12_isName_5 : dIs cX12_isName 5 4 7 := Or.inr ⟨by decide +kernel, rfl⟩
theorem dX12_isName_7 : dKc cX12_isName 7 0 8 := Or.inl ⟨0, by decide +kernel, by decide +kernel, rfl⟩
theorem dX12_isName_8 : dIs cX12_isName 8 5 10 := Or.inr ⟨by decide +kernel, rfl⟩
theorem dX12_isName_10 : dIl cX12_isName 10 5 12 := Or.inr ⟨by decide +kernel, rfl⟩
theorem dX12_isName_12 : dKc cX12_isName 12 8 14 := Or.inr (Or.inl ⟨8, by decide +kernel, by decide +kernel, rfl⟩)
theorem dX12_isName_14 : dj cX12_isName 14 (.if_icmp .ge) 96 17 := ⟨82, by decide +kernel, by decide, rfl⟩
theorem dX12_isName_17 : dLl cX12_isName 17 0 18 := ⟨0, rfl, by decide +kernel, rfl⟩
theorem dX12_isName_18 : dKc cX12_isName 18 8 20 := Or.inr (Or.inl ⟨8, by decide +kernel, by decide +kernel, rfl⟩)
theorem dX12_isName_20 : dIl cX12_isName 20 5 22 := Or.inr ⟨by decide +kernel, rfl⟩
theorem dX12_isName_22 : dc cX12_isName 22 .imul 1 23 := ⟨by decide +kernel, rfl⟩
theorem dX12_isName_23 : dc cX12_isName 23 .lushr 1 24 := ⟨by decide +kernel, rfl⟩
theorem dX12_isName_24 : dc cX12_isName 24 .l2i 1 25 := ⟨by decide +kernel, rfl⟩
theorem dX12_isName_25 : dKc cX12_isName 25 255 28 := Or.inr (Or.inr ⟨255, by decide +kernel, by decide +kernel, rfl⟩)
theorem dX12_isName_28 : dc cX12_isName 28 .iand 1 29 := ⟨by decide +kernel, rfl⟩
theorem dX12_isName_29 : dIs cX12_isName 29 6 31 := Or.inr ⟨by decide +kernel, rfl⟩
theorem dX12_isName_31 : dIl cX12_isName 31 3 32 := Or.inl ⟨3, rfl, by decide +kernel, rfl⟩
theorem dX12_isName_32 : dIl cX12_isName 32 6 34 := Or.inr ⟨by decide +kernel, rfl⟩
theorem dX12_isName_34 : dj cX12_isName 34 (.ifCond .ne) 41 37 := ⟨7, by decide +kernel, by decide, rfl⟩
theorem dX12_isName_37 : dKc cX12_isName 37 1 38 := Or.inl ⟨1, by decide +kernel, by decide +kernel, rfl⟩
theorem dX12_isName_38 : dj cX12_isName 38 .goto 42 41 := ⟨4, by decide +kernel, by decide, rfl⟩
theorem dX12_isName_41 : dKc cX12_isName 41 0 42 := Or.inl ⟨0, by decide +kernel, by decide +kernel, rfl⟩
theorem dX12_isName_42 : dc cX12_isName 42 .ior 1 43 := ⟨by decide +kernel, rfl⟩
theorem dX12_isName_43 : dIs cX12_isName 43 3 44 := Or.inl ⟨3, rfl, by decide +kernel, rfl⟩
theorem dX12_isName_44 : dIl cX12_isName 44 2 45 := Or.inl ⟨2, rfl, by decide +kernel, rfl⟩
theorem dX12_isName_45 : dIl cX12_isName 45 6 47 := Or.inr ⟨by decide +kernel, rfl⟩
theorem dX12_isName_47 : dj cX12_isName 47 (.ifCond .eq) 68 50 := ⟨21, by decide +kernel, by decide, rfl⟩
theorem dX12_isName_50 : dIl cX12_isName 50 3 51 := Or.inl ⟨3, rfl, by decide +kernel, rfl⟩
theorem dX12_isName_51 : dj cX12_isName 51 (.ifCond .ne) 72 54 := ⟨21, by decide +kernel, by decide, rfl⟩
theorem dX12_isName_54 : dIl cX12_isName 54 6 56 := Or.inr ⟨by decide +kernel, rfl⟩
theorem dX12_isName_56 : dKc cX12_isName 56 97 58 := Or.inr (Or.inl ⟨97, by decide +kernel, by decide +kernel, rfl⟩)
theorem dX12_isName_58 : dj cX12_isName 58 (.if_icmp .lt) 72 61 := ⟨14, by decide +kernel, by decide, rfl⟩
theorem dX12_isName_61 : dIl cX12_isName 61 6 63 := Or.inr ⟨by decide +kernel, rfl⟩
theorem dX12_isName_63 : dKc cX12_isName 63 122 65 := Or.inr (Or.inl ⟨122, by decide +kernel, by decide +kernel, rfl⟩)
theorem dX12_isName_65 : dj cX12_isName 65 (.if_icmp .gt) 72 68 := ⟨7, by decide +kernel, by decide, rfl⟩
theorem dX12_isName_68 : dKc cX12_isName 68 1 69 := Or.inl ⟨1, by decide +kernel, by decide +kernel, rfl⟩
theorem dX12_isName_69 : dj cX12_isName 69 .goto 73 72 := ⟨4, by decide +kernel, by decide, rfl⟩
theorem dX12_isName_72 : dKc cX12_isName 72 0 73 := Or.inl ⟨0, by decide +kernel, by decide +kernel, rfl⟩
theorem dX12_isName_73 : dc cX12_isName 73 .iand 1 74 := ⟨by decide +kernel, rfl⟩
theorem dX12_isName_74 : dIs cX12_isName 74 2 75 := Or.inl ⟨2, rfl, by decide +kernel, rfl⟩
theorem dX12_isName_75 : dIl cX12_isName 75 4 77 := Or.inr ⟨by decide +kernel, rfl⟩
theorem dX12_isName_77 : dIl cX12_isName 77 6 79 := Or.inr ⟨by decide +kernel, rfl⟩
theorem dX12_isName_79 : dj cX12_isName 79 (.ifCond .eq) 86 82 := ⟨7, by decide +kernel, by decide, rfl⟩
theorem dX12_isName_82 : dKc cX12_isName 82 1 83 := Or.inl ⟨1, by decide +kernel, by decide +kernel, rfl⟩
theorem dX12_isName_83 : dj cX12_isName 83 .goto 87 86 := ⟨4, by decide +kernel, by decide, rfl⟩
theorem dX12_isName_86 : dKc cX12_isName 86 0 87 := Or.inl ⟨0, by decide +kernel, by decide +kernel, rfl⟩
theorem dX12_isName_87 : dc cX12_isName 87 .iadd 1 88 := ⟨by decide +kernel, rfl⟩
theorem dX12_isName_88 : dIs cX12_isName 88 4 90 := Or.inr ⟨by decide +kernel, rfl⟩
theorem dX12_isName_90 : dc cX12_isName 90 (.iinc 5 1) 3 93 := ⟨by decide +kernel, rfl⟩
theorem dX12_isName_93 : dj cX12_isName 93 .goto 10 96 := ⟨(-83), by decide +kernel, by decide, rfl⟩
theorem dX12_isName_96 : dIl cX12_isName 96 2 97 := Or.inl ⟨2, rfl, by decide +kernel, rfl⟩
theorem dX12_isName_97 : dj cX12_isName 97 (.ifCond .eq) 109 100 := ⟨12, by decide +kernel, by decide, rfl⟩
theorem dX12_isName_100 : dIl cX12_isName 100 4 102 := Or.inr ⟨by decide +kernel, rfl⟩
theorem dX12_isName_102 : dj cX12_isName 102 (.ifCond .le) 109 105 := ⟨7, by decide +kernel, by decide, rfl⟩
theorem dX12_isName_105 : dKc cX12_isName 105 1 106 := Or.inl ⟨1, by decide +kernel, by decide +kernel, rfl⟩
theorem dX12_isName_106 : dj cX12_isName 106 .goto 110 109 := ⟨4, by decide +kernel, by decide, rfl⟩
theorem dX12_isName_109 : dKc cX12_isName 109 0 110 := Or.inl ⟨0, by decide +kernel, by decide +kernel, rfl⟩
theorem dX12_isName_110 : dc cX12_isName 110 .ireturn 1 111 := ⟨by decide +kernel, rfl⟩
theorem dX12_byName_0 : dKc cX12_byName 0 0 1 := Or.inl ⟨0, by decide +kernel, by decide +kernel, rfl⟩
theorem dX12_byName_1 : dIs cX12_byName 1 4 3 := Or.inr ⟨by decide +kernel, rfl⟩
theorem dX12_byName_3 : dIl cX12_byName 3 4 5 := Or.inr ⟨by decide +kernel, rfl⟩
theorem dX12_byName_5 : dAl cX12_byName 5 0 6 := Or.inl ⟨0, rfl, by decide +kernel, rfl⟩
theorem dX12_byName_6 : dc cX12_byName 6 (.getfield 93) 3 9 := ⟨by decide +kernel, rfl⟩
theorem dX12_byName_9 : dj cX12_byName 9 (.if_icmp .ge) 44 12 := ⟨35, by decide +kernel, by decide, rfl⟩
theorem dX12_byName_12 : dAl cX12_byName 12 0 13 := Or.inl ⟨0, rfl, by decide +kernel, rfl⟩
theorem dX12_byName_13 : dc cX12_byName 13 (.getfield 7) 3 16 := ⟨by decide +kernel, rfl⟩
theorem dX12_byName_16 : dIl cX12_byName 16 4 18 := Or.inr ⟨by decide +kernel, rfl⟩
theorem dX12_byName_18 : dc cX12_byName 18 .iaload 1 19 := ⟨by decide +kernel, rfl⟩
theorem dX12_byName_19 : dIl cX12_byName 19 1 20 := Or.inl ⟨1, rfl, by decide +kernel, rfl⟩
theorem dX12_byName_20 : dj cX12_byName 20 (.if_icmp .ne) 38 23 := ⟨18, by decide +kernel, by decide, rfl⟩
theorem dX12_byName_23 : dAl cX12_byName 23 0 24 := Or.inl ⟨0, rfl, by decide +kernel, rfl⟩
theorem dX12_byName_24 : dc cX12_byName 24 (.getfield 13) 3 27 := ⟨by decide +kernel, rfl⟩
theorem dX12_byName_27 : dIl cX12_byName 27 4 29 := Or.inr ⟨by decide +kernel, rfl⟩
theorem dX12_byName_29 : dc cX12_byName 29 .laload 1 30 := ⟨by decide +kernel, rfl⟩
theorem dX12_byName_30 : dLl cX12_byName 30 2 31 := ⟨2, rfl, by decide +kernel, rfl⟩
theorem dX12_byName_31 : dc cX12_byName 31 .lcmp 1 32 := ⟨by decide +kernel, rfl⟩
theorem dX12_byName_32 : dj cX12_byName 32 (.ifCond .ne) 38 35 := ⟨6, by decide +kernel, by decide, rfl⟩
theorem dX12_byName_35 : dIl cX12_byName 35 4 37 := Or.inr ⟨by decide +kernel, rfl⟩
theorem dX12_byName_37 : dc cX12_byName 37 .ireturn 1 38 := ⟨by decide +kernel, rfl⟩
theorem dX12_byName_38 : dc cX12_byName 38 (.iinc 4 1) 3 41 := ⟨by decide +kernel, rfl⟩
theorem dX12_byName_41 : dj cX12_byName 41 .goto 3 44 := ⟨(-38), by decide +kernel, by decide, rfl⟩
theorem dX12_byName_44 : dKc cX12_byName 44 (-3) 46 := Or.inr (Or.inl ⟨(-3), by decide +kernel, by decide +kernel, rfl⟩)
theorem dX12_byName_46 : dc cX12_byName 46 .ireturn 1 47 := ⟨by decide +kernel, rfl⟩
theorem dX12_constant_0 : dIl cX12_constant 0 1 1 := Or.inl ⟨1, rfl, by decide +kernel, rfl⟩
theorem dX12_constant_1 : dc cX12_constant 1 (.invokestatic 100) 3 4 := ⟨by decide +kernel, rfl⟩
theorem dX12_constant_4 : dj cX12_constant 4 (.ifCond .eq) 33 7 := ⟨29, by decide +kernel, by decide, rfl⟩
theorem dX12_constant_7 : dLl cX12_constant 7 2 8 := ⟨2, rfl, by decide +kernel, rfl⟩
theorem dX12_constant_8 : dc cX12_constant 8 (.invokestatic 104) 3 11 := ⟨by decide +kernel, rfl⟩
theorem dX12_constant_11 : dj cX12_constant 11 (.ifCond .eq) 33 14 := ⟨22, by decide +kernel, by decide, rfl⟩
theorem dX12_constant_14 : dAl cX12_constant 14 0 15 := Or.inl ⟨0, rfl, by decide +kernel, rfl⟩
theorem dX12_constant_15 : dIl cX12_constant 15 1 16 := Or.inl ⟨1, rfl, by decide +kernel, rfl⟩
theorem dX12_constant_16 : dLl cX12_constant 16 2 17 := ⟨2, rfl, by decide +kernel, rfl⟩
theorem dX12_constant_17 : dc cX12_constant 17 (.invokevirtual 108) 3 20 := ⟨by decide +kernel, rfl⟩
theorem dX12_constant_20 : dj cX12_constant 20 (.ifCond .ge) 33 23 := ⟨13, by decide +kernel, by decide, rfl⟩
theorem dX12_constant_23 : dIl cX12_constant 23 4 25 := Or.inr ⟨by decide +kernel, rfl⟩
theorem dX12_constant_25 : dKc cX12_constant 25 0 26 := Or.inl ⟨0, by decide +kernel, by decide +kernel, rfl⟩
theorem dX12_constant_26 : dKc cX12_constant 26 2 27 := Or.inl ⟨2, by decide +kernel, by decide +kernel, rfl⟩
theorem dX12_constant_27 : dc cX12_constant 27 (.invokestatic 96) 3 30 := ⟨by decide +kernel, rfl⟩
theorem dX12_constant_30 : dj cX12_constant 30 (.ifCond .ne) 35 33 := ⟨5, by decide +kernel, by decide, rfl⟩
theorem dX12_constant_33 : dKc cX12_constant 33 (-1) 34 := Or.inl ⟨(-1), by decide +kernel, by decide +kernel, rfl⟩
theorem dX12_constant_34 : dc cX12_constant 34 .ireturn 1 35 := ⟨by decide +kernel, rfl⟩
theorem dX12_constant_35 : dAl cX12_constant 35 0 36 := Or.inl ⟨0, rfl, by decide +kernel, rfl⟩
theorem dX12_constant_36 : dc cX12_constant 36 (.getfield 93) 3 39 := ⟨by decide +kernel, rfl⟩
theorem dX12_constant_39 : dKc cX12_constant 39 60 41 := Or.inr (Or.inl ⟨60, by decide +kernel, by decide +kernel, rfl⟩)
theorem dX12_constant_41 : dj cX12_constant 41 (.if_icmp .ne) 47 44 := ⟨6, by decide +kernel, by decide, rfl⟩
theorem dX12_constant_44 : dKc cX12_constant 44 (-2) 46 := Or.inr (Or.inl ⟨(-2), by decide +kernel, by decide +kernel, rfl⟩)
theorem dX12_constant_46 : dc cX12_constant 46 .ireturn 1 47 := ⟨by decide +kernel, rfl⟩
theorem dX12_constant_47 : dAl cX12_constant 47 0 48 := Or.inl ⟨0, rfl, by decide +kernel, rfl⟩
theorem dX12_constant_48 : dc cX12_constant 48 (.getfield 93) 3 51 := ⟨by decide +kernel, rfl⟩
theorem dX12_constant_51 : dIs cX12_constant 51 5 53 := Or.inr ⟨by decide +kernel, rfl⟩
theorem dX12_constant_53 : dAl cX12_constant 53 0 54 := Or.inl ⟨0, rfl, by decide +kernel, rfl⟩
theorem dX12_constant_54 : dc cX12_constant 54 (.getfield 7) 3 57 := ⟨by decide +kernel, rfl⟩
theorem dX12_constant_57 : dIl cX12_constant 57 5 59 := Or.inr ⟨by decide +kernel, rfl⟩
theorem dX12_constant_59 : dIl cX12_constant 59 1 60 := Or.inl ⟨1, rfl, by decide +kernel, rfl⟩
theorem dX12_constant_60 : dc cX12_constant 60 .iastore 1 61 := ⟨by decide +kernel, rfl⟩
theorem dX12_constant_61 : dAl cX12_constant 61 0 62 := Or.inl ⟨0, rfl, by decide +kernel, rfl⟩
theorem dX12_constant_62 : dc cX12_constant 62 (.getfield 13) 3 65 := ⟨by decide +kernel, rfl⟩
theorem dX12_constant_65 : dIl cX12_constant 65 5 67 := Or.inr ⟨by decide +kernel, rfl⟩
theorem dX12_constant_67 : dLl cX12_constant 67 2 68 := ⟨2, rfl, by decide +kernel, rfl⟩
theorem dX12_constant_68 : dc cX12_constant 68 .lastore 1 69 := ⟨by decide +kernel, rfl⟩
theorem dX12_constant_69 : dAl cX12_constant 69 0 70 := Or.inl ⟨0, rfl, by decide +kernel, rfl⟩
theorem dX12_constant_70 : dc cX12_constant 70 (.getfield 17) 3 73 := ⟨by decide +kernel, rfl⟩
theorem dX12_constant_73 : dIl cX12_constant 73 5 75 := Or.inr ⟨by decide +kernel, rfl⟩
theorem dX12_constant_75 : dIl cX12_constant 75 4 77 := Or.inr ⟨by decide +kernel, rfl⟩
theorem dX12_constant_77 : dc cX12_constant 77 .iastore 1 78 := ⟨by decide +kernel, rfl⟩
theorem dX12_constant_78 : dAl cX12_constant 78 0 79 := Or.inl ⟨0, rfl, by decide +kernel, rfl⟩
theorem dX12_constant_79 : dc cX12_constant 79 .dup 1 80 := ⟨by decide +kernel, rfl⟩
theorem dX12_constant_80 : dc cX12_constant 80 (.getfield 93) 3 83 := ⟨by decide +kernel, rfl⟩
theorem dX12_constant_83 : dKc cX12_constant 83 1 84 := Or.inl ⟨1, by decide +kernel, by decide +kernel, rfl⟩
theorem dX12_constant_84 : dc cX12_constant 84 .iadd 1 85 := ⟨by decide +kernel, rfl⟩
theorem dX12_constant_85 : dc cX12_constant 85 (.putfield 93) 3 88 := ⟨by decide +kernel, rfl⟩
theorem dX12_constant_88 : dAl cX12_constant 88 0 89 := Or.inl ⟨0, rfl, by decide +kernel, rfl⟩
theorem dX12_constant_89 : dIl cX12_constant 89 5 91 := Or.inr ⟨by decide +kernel, rfl⟩
theorem dX12_constant_91 : dKc cX12_constant 91 0 92 := Or.inl ⟨0, by decide +kernel, by decide +kernel, rfl⟩
theorem dX12_constant_92 : dc cX12_constant 92 (.invokevirtual 112) 3 95 := ⟨by decide +kernel, rfl⟩
theorem dX12_constant_95 : dc cX12_constant 95 .pop 1 96 := ⟨by decide +kernel, rfl⟩
theorem dX12_constant_96 : dIl cX12_constant 96 5 98 := Or.inr ⟨by decide +kernel, rfl⟩
theorem dX12_constant_98 : dc cX12_constant 98 .ireturn 1 99 := ⟨by decide +kernel, rfl⟩
theorem dX12_append_0 : dKc cX12_append 0 3 1 := Or.inl ⟨3, by decide +kernel, by decide +kernel, rfl⟩
theorem dX12_append_1 : dAl cX12_append 1 0 2 := Or.inl ⟨0, rfl, by decide +kernel, rfl⟩
theorem dX12_append_2 : dc cX12_append 2 (.getfield 7) 3 5 := ⟨by decide +kernel, rfl⟩
theorem dX12_append_5 : dIl cX12_append 5 1 6 := Or.inl ⟨1, rfl, by decide +kernel, rfl⟩
theorem dX12_append_6 : dc cX12_append 6 .iaload 1 7 := ⟨by decide +kernel, rfl⟩
theorem dX12_append_7 : dc cX12_append 7 .imul 1 8 := ⟨by decide +kernel, rfl⟩
theorem dX12_append_8 : dIl cX12_append 8 2 9 := Or.inl ⟨2, rfl, by decide +kernel, rfl⟩
theorem dX12_append_9 : dc cX12_append 9 .iadd 1 10 := ⟨by decide +kernel, rfl⟩
theorem dX12_append_10 : dIs cX12_append 10 3 11 := Or.inl ⟨3, rfl, by decide +kernel, rfl⟩
theorem dX12_append_11 : dAl cX12_append 11 0 12 := Or.inl ⟨0, rfl, by decide +kernel, rfl⟩
theorem dX12_append_12 : dc cX12_append 12 (.getfield 29) 3 15 := ⟨by decide +kernel, rfl⟩
theorem dX12_append_15 : dKc cX12_append 15 60 17 := Or.inr (Or.inl ⟨60, by decide +kernel, by decide +kernel, rfl⟩)
theorem dX12_append_17 : dIl cX12_append 17 3 18 := Or.inl ⟨3, rfl, by decide +kernel, rfl⟩
theorem dX12_append_18 : dc cX12_append 18 .imul 1 19 := ⟨by decide +kernel, rfl⟩
theorem dX12_append_19 : dAl cX12_append 19 0 20 := Or.inl ⟨0, rfl, by decide +kernel, rfl⟩
theorem dX12_append_20 : dc cX12_append 20 (.getfield 26) 3 23 := ⟨by decide +kernel, rfl⟩
theorem dX12_append_23 : dIl cX12_append 23 3 24 := Or.inl ⟨3, rfl, by decide +kernel, rfl⟩
theorem dX12_append_24 : dc cX12_append 24 .iaload 1 25 := ⟨by decide +kernel, rfl⟩
theorem dX12_append_25 : dc cX12_append 25 .iadd 1 26 := ⟨by decide +kernel, rfl⟩
theorem dX12_append_26 : dIl cX12_append 26 1 27 := Or.inl ⟨1, rfl, by decide +kernel, rfl⟩
theorem dX12_append_27 : dc cX12_append 27 .iastore 1 28 := ⟨by decide +kernel, rfl⟩
theorem dX12_append_28 : dAl cX12_append 28 0 29 := Or.inl ⟨0, rfl, by decide +kernel, rfl⟩
theorem dX12_append_29 : dc cX12_append 29 (.getfield 26) 3 32 := ⟨by decide +kernel, rfl⟩
theorem dX12_append_32 : dIl cX12_append 32 3 33 := Or.inl ⟨3, rfl, by decide +kernel, rfl⟩
theorem dX12_append_33 : dc cX12_append 33 .dup2 1 34 := ⟨by decide +kernel, rfl⟩
theorem dX12_append_34 : dc cX12_append 34 .iaload 1 35 := ⟨by decide +kernel, rfl⟩
theorem dX12_append_35 : dKc cX12_append 35 1 36 := Or.inl ⟨1, by decide +kernel, by decide +kernel, rfl⟩
theorem dX12_append_36 : dc cX12_append 36 .iadd 1 37 := ⟨by decide +kernel, rfl⟩
theorem dX12_append_37 : dc cX12_append 37 .iastore 1 38 := ⟨by decide +kernel, rfl⟩
theorem dX12_append_38 : dAl cX12_append 38 0 39 := Or.inl ⟨0, rfl, by decide +kernel, rfl⟩
theorem dX12_append_39 : dc cX12_append 39 (.getfield 26) 3 42 := ⟨by decide +kernel, rfl⟩
theorem dX12_append_42 : dIl cX12_append 42 3 43 := Or.inl ⟨3, rfl, by decide +kernel, rfl⟩
theorem dX12_append_43 : dc cX12_append 43 .iaload 1 44 := ⟨by decide +kernel, rfl⟩
theorem dX12_append_44 : dKc cX12_append 44 1 45 := Or.inl ⟨1, by decide +kernel, by decide +kernel, rfl⟩
theorem dX12_append_45 : dc cX12_append 45 .isub 1 46 := ⟨by decide +kernel, rfl⟩
theorem dX12_append_46 : dc cX12_append 46 .ireturn 1 47 := ⟨by decide +kernel, rfl⟩
theorem dX12_orderOf_0 : dKc cX12_orderOf 0 3 1 := Or.inl ⟨3, by decide +kernel, by decide +kernel, rfl⟩
theorem dX12_orderOf_1 : dAl cX12_orderOf 1 0 2 := Or.inl ⟨0, rfl, by decide +kernel, rfl⟩
theorem dX12_orderOf_2 : dc cX12_orderOf 2 (.getfield 7) 3 5 := ⟨by decide +kernel, rfl⟩
theorem dX12_orderOf_5 : dIl cX12_orderOf 5 1 6 := Or.inl ⟨1, rfl, by decide +kernel, rfl⟩
theorem dX12_orderOf_6 : dc cX12_orderOf 6 .iaload 1 7 := ⟨by decide +kernel, rfl⟩
theorem dX12_orderOf_7 : dc cX12_orderOf 7 .imul 1 8 := ⟨by decide +kernel, rfl⟩
theorem dX12_orderOf_8 : dIl cX12_orderOf 8 2 9 := Or.inl ⟨2, rfl, by decide +kernel, rfl⟩
theorem dX12_orderOf_9 : dc cX12_orderOf 9 .iadd 1 10 := ⟨by decide +kernel, rfl⟩
theorem dX12_orderOf_10 : dIs cX12_orderOf 10 3 11 := Or.inl ⟨3, rfl, by decide +kernel, rfl⟩
theorem dX12_orderOf_11 : dKc cX12_orderOf 11 0 12 := Or.inl ⟨0, by decide +kernel, by decide +kernel, rfl⟩
theorem dX12_orderOf_12 : dIs cX12_orderOf 12 4 14 := Or.inr ⟨by decide +kernel, rfl⟩
theorem dX12_orderOf_14 : dIl cX12_orderOf 14 4 16 := Or.inr ⟨by decide +kernel, rfl⟩
theorem dX12_orderOf_16 : dAl cX12_orderOf 16 0 17 := Or.inl ⟨0, rfl, by decide +kernel, rfl⟩
theorem dX12_orderOf_17 : dc cX12_orderOf 17 (.getfield 26) 3 20 := ⟨by decide +kernel, rfl⟩
theorem dX12_orderOf_20 : dIl cX12_orderOf 20 3 21 := Or.inl ⟨3, rfl, by decide +kernel, rfl⟩
theorem dX12_orderOf_21 : dc cX12_orderOf 21 .iaload 1 22 := ⟨by decide +kernel, rfl⟩
theorem dX12_orderOf_22 : dj cX12_orderOf 22 (.if_icmp .ge) 50 25 := ⟨28, by decide +kernel, by decide, rfl⟩
theorem dX12_orderOf_25 : dAl cX12_orderOf 25 0 26 := Or.inl ⟨0, rfl, by decide +kernel, rfl⟩
theorem dX12_orderOf_26 : dc cX12_orderOf 26 (.getfield 29) 3 29 := ⟨by decide +kernel, rfl⟩
theorem dX12_orderOf_29 : dKc cX12_orderOf 29 60 31 := Or.inr (Or.inl ⟨60, by decide +kernel, by decide +kernel, rfl⟩)
theorem dX12_orderOf_31 : dIl cX12_orderOf 31 3 32 := Or.inl ⟨3, rfl, by decide +kernel, rfl⟩
theorem dX12_orderOf_32 : dc cX12_orderOf 32 .imul 1 33 := ⟨by decide +kernel, rfl⟩
theorem dX12_orderOf_33 : dIl cX12_orderOf 33 4 35 := Or.inr ⟨by decide +kernel, rfl⟩
theorem dX12_orderOf_35 : dc cX12_orderOf 35 .iadd 1 36 := ⟨by decide +kernel, rfl⟩
theorem dX12_orderOf_36 : dc cX12_orderOf 36 .iaload 1 37 := ⟨by decide +kernel, rfl⟩
theorem dX12_orderOf_37 : dIl cX12_orderOf 37 1 38 := Or.inl ⟨1, rfl, by decide +kernel, rfl⟩
theorem dX12_orderOf_38 : dj cX12_orderOf 38 (.if_icmp .ne) 44 41 := ⟨6, by decide +kernel, by decide, rfl⟩
theorem dX12_orderOf_41 : dIl cX12_orderOf 41 4 43 := Or.inr ⟨by decide +kernel, rfl⟩
theorem dX12_orderOf_43 : dc cX12_orderOf 43 .ireturn 1 44 := ⟨by decide +kernel, rfl⟩
theorem dX12_orderOf_44 : dc cX12_orderOf 44 (.iinc 4 1) 3 47 := ⟨by decide +kernel, rfl⟩
theorem dX12_orderOf_47 : dj cX12_orderOf 47 .goto 14 50 := ⟨(-33), by decide +kernel, by decide, rfl⟩
theorem dX12_orderOf_50 : dKc cX12_orderOf 50 (-3) 52 := Or.inr (Or.inl ⟨(-3), by decide +kernel, by decide +kernel, rfl⟩)
theorem dX12_orderOf_52 : dc cX12_orderOf 52 .ireturn 1 53 := ⟨by decide +kernel, rfl⟩
theorem dX12_arrange_0 : dAl cX12_arrange 0 0 1 := Or.inl ⟨0, rfl, by decide +kernel, rfl⟩
theorem dX12_arrange_1 : dIl cX12_arrange 1 1 2 := Or.inl ⟨1, rfl, by decide +kernel, rfl⟩
theorem dX12_arrange_2 : dc cX12_arrange 2 (.invokevirtual 116) 3 5 := ⟨by decide +kernel, rfl⟩
theorem dX12_arrange_5 : dj cX12_arrange 5 (.ifCond .eq) 26 8 := ⟨21, by decide +kernel, by decide, rfl⟩
theorem dX12_arrange_8 : dIl cX12_arrange 8 2 9 := Or.inl ⟨2, rfl, by decide +kernel, rfl⟩
theorem dX12_arrange_9 : dKc cX12_arrange 9 1 10 := Or.inl ⟨1, by decide +kernel, by decide +kernel, rfl⟩
theorem dX12_arrange_10 : dKc cX12_arrange 10 2 11 := Or.inl ⟨2, by decide +kernel, by decide +kernel, rfl⟩
theorem dX12_arrange_11 : dc cX12_arrange 11 (.invokestatic 96) 3 14 := ⟨by decide +kernel, rfl⟩
theorem dX12_arrange_14 : dj cX12_arrange 14 (.ifCond .eq) 26 17 := ⟨12, by decide +kernel, by decide, rfl⟩
theorem dX12_arrange_17 : dAl cX12_arrange 17 0 18 := Or.inl ⟨0, rfl, by decide +kernel, rfl⟩
theorem dX12_arrange_18 : dIl cX12_arrange 18 1 19 := Or.inl ⟨1, rfl, by decide +kernel, rfl⟩
theorem dX12_arrange_19 : dIl cX12_arrange 19 2 20 := Or.inl ⟨2, rfl, by decide +kernel, rfl⟩
theorem dX12_arrange_20 : dc cX12_arrange 20 (.invokevirtual 119) 3 23 := ⟨by decide +kernel, rfl⟩
theorem dX12_arrange_23 : dj cX12_arrange 23 (.ifCond .lt) 28 26 := ⟨5, by decide +kernel, by decide, rfl⟩
theorem dX12_arrange_26 : dKc cX12_arrange 26 (-1) 27 := Or.inl ⟨(-1), by decide +kernel, by decide +kernel, rfl⟩
theorem dX12_arrange_27 : dc cX12_arrange 27 .ireturn 1 28 := ⟨by decide +kernel, rfl⟩
theorem dX12_arrange_28 : dAl cX12_arrange 28 0 29 := Or.inl ⟨0, rfl, by decide +kernel, rfl⟩
theorem dX12_arrange_29 : dIl cX12_arrange 29 1 30 := Or.inl ⟨1, rfl, by decide +kernel, rfl⟩
theorem dX12_arrange_30 : dIl cX12_arrange 30 2 31 := Or.inl ⟨2, rfl, by decide +kernel, rfl⟩
theorem dX12_arrange_31 : dc cX12_arrange 31 (.invokevirtual 112) 3 34 := ⟨by decide +kernel, rfl⟩
theorem dX12_arrange_34 : dc cX12_arrange 34 .ireturn 1 35 := ⟨by decide +kernel, rfl⟩
theorem dX12_drawOf_0 : dLl cX12_drawOf 0 0 1 := ⟨0, rfl, by decide +kernel, rfl⟩
theorem dX12_drawOf_1 : dIl cX12_drawOf 1 2 2 := Or.inl ⟨2, rfl, by decide +kernel, rfl⟩
theorem dX12_drawOf_2 : dc cX12_drawOf 2 .i2l 1 3 := ⟨by decide +kernel, rfl⟩
theorem dX12_drawOf_3 : dc cX12_drawOf 3 (.lconst 1) 1 4 := ⟨by decide +kernel, rfl⟩
theorem dX12_drawOf_4 : dc cX12_drawOf 4 .ladd 1 5 := ⟨by decide +kernel, rfl⟩
theorem dX12_drawOf_5 : dc cX12_drawOf 5 (.ldc2_w 122) 3 8 := ⟨by decide +kernel, rfl⟩
theorem dX12_drawOf_8 : dc cX12_drawOf 8 .lmul 1 9 := ⟨by decide +kernel, rfl⟩
theorem dX12_drawOf_9 : dc cX12_drawOf 9 .ladd 1 10 := ⟨by decide +kernel, rfl⟩
theorem dX12_drawOf_10 : dLs cX12_drawOf 10 3 11 := ⟨3, rfl, by decide +kernel, rfl⟩
theorem dX12_drawOf_11 : dLl cX12_drawOf 11 3 12 := ⟨3, rfl, by decide +kernel, rfl⟩
theorem dX12_drawOf_12 : dLl cX12_drawOf 12 3 13 := ⟨3, rfl, by decide +kernel, rfl⟩
theorem dX12_drawOf_13 : dKc cX12_drawOf 13 30 15 := Or.inr (Or.inl ⟨30, by decide +kernel, by decide +kernel, rfl⟩)
theorem dX12_drawOf_15 : dc cX12_drawOf 15 .lushr 1 16 := ⟨by decide +kernel, rfl⟩
theorem dX12_drawOf_16 : dc cX12_drawOf 16 .lxor 1 17 := ⟨by decide +kernel, rfl⟩
theorem dX12_drawOf_17 : dc cX12_drawOf 17 (.ldc2_w 124) 3 20 := ⟨by decide +kernel, rfl⟩
theorem dX12_drawOf_20 : dc cX12_drawOf 20 .lmul 1 21 := ⟨by decide +kernel, rfl⟩
theorem dX12_drawOf_21 : dLs cX12_drawOf 21 3 22 := ⟨3, rfl, by decide +kernel, rfl⟩
theorem dX12_drawOf_22 : dLl cX12_drawOf 22 3 23 := ⟨3, rfl, by decide +kernel, rfl⟩
theorem dX12_drawOf_23 : dLl cX12_drawOf 23 3 24 := ⟨3, rfl, by decide +kernel, rfl⟩
theorem dX12_drawOf_24 : dKc cX12_drawOf 24 27 26 := Or.inr (Or.inl ⟨27, by decide +kernel, by decide +kernel, rfl⟩)
theorem dX12_drawOf_26 : dc cX12_drawOf 26 .lushr 1 27 := ⟨by decide +kernel, rfl⟩
theorem dX12_drawOf_27 : dc cX12_drawOf 27 .lxor 1 28 := ⟨by decide +kernel, rfl⟩
theorem dX12_drawOf_28 : dc cX12_drawOf 28 (.ldc2_w 126) 3 31 := ⟨by decide +kernel, rfl⟩
theorem dX12_drawOf_31 : dc cX12_drawOf 31 .lmul 1 32 := ⟨by decide +kernel, rfl⟩
theorem dX12_drawOf_32 : dLs cX12_drawOf 32 3 33 := ⟨3, rfl, by decide +kernel, rfl⟩
theorem dX12_drawOf_33 : dLl cX12_drawOf 33 3 34 := ⟨3, rfl, by decide +kernel, rfl⟩
theorem dX12_drawOf_34 : dLl cX12_drawOf 34 3 35 := ⟨3, rfl, by decide +kernel, rfl⟩
theorem dX12_drawOf_35 : dKc cX12_drawOf 35 31 37 := Or.inr (Or.inl ⟨31, by decide +kernel, by decide +kernel, rfl⟩)
theorem dX12_drawOf_37 : dc cX12_drawOf 37 .lushr 1 38 := ⟨by decide +kernel, rfl⟩
theorem dX12_drawOf_38 : dc cX12_drawOf 38 .lxor 1 39 := ⟨by decide +kernel, rfl⟩
theorem dX12_drawOf_39 : dc cX12_drawOf 39 .lreturn 1 40 := ⟨by decide +kernel, rfl⟩
theorem dX12_modulo_0 : dLl cX12_modulo 0 0 1 := ⟨0, rfl, by decide +kernel, rfl⟩
theorem dX12_modulo_1 : dKc cX12_modulo 1 1 2 := Or.inl ⟨1, by decide +kernel, by decide +kernel, rfl⟩
theorem dX12_modulo_2 : dc cX12_modulo 2 .lushr 1 3 := ⟨by decide +kernel, rfl⟩
theorem dX12_modulo_3 : dIl cX12_modulo 3 2 4 := Or.inl ⟨2, rfl, by decide +kernel, rfl⟩
theorem dX12_modulo_4 : dc cX12_modulo 4 .i2l 1 5 := ⟨by decide +kernel, rfl⟩
theorem dX12_modulo_5 : dc cX12_modulo 5 .lrem 1 6 := ⟨by decide +kernel, rfl⟩
theorem dX12_modulo_6 : dc cX12_modulo 6 (.ldc2_w 128) 3 9 := ⟨by decide +kernel, rfl⟩
theorem dX12_modulo_9 : dc cX12_modulo 9 .lmul 1 10 := ⟨by decide +kernel, rfl⟩
theorem dX12_modulo_10 : dLl cX12_modulo 10 0 11 := ⟨0, rfl, by decide +kernel, rfl⟩
theorem dX12_modulo_11 : dc cX12_modulo 11 (.lconst 1) 1 12 := ⟨by decide +kernel, rfl⟩
theorem dX12_modulo_12 : dc cX12_modulo 12 .land 1 13 := ⟨by decide +kernel, rfl⟩
theorem dX12_modulo_13 : dc cX12_modulo 13 .ladd 1 14 := ⟨by decide +kernel, rfl⟩
theorem dX12_modulo_14 : dIl cX12_modulo 14 2 15 := Or.inl ⟨2, rfl, by decide +kernel, rfl⟩
theorem dX12_modulo_15 : dc cX12_modulo 15 .i2l 1 16 := ⟨by decide +kernel, rfl⟩
theorem dX12_modulo_16 : dc cX12_modulo 16 .lrem 1 17 := ⟨by decide +kernel, rfl⟩
theorem dX12_modulo_17 : dc cX12_modulo 17 .l2i 1 18 := ⟨by decide +kernel, rfl⟩
theorem dX12_modulo_18 : dc cX12_modulo 18 .ireturn 1 19 := ⟨by decide +kernel, rfl⟩
theorem dX12_shuffle_0 : dIl cX12_shuffle 0 1 1 := Or.inl ⟨1, rfl, by decide +kernel, rfl⟩
theorem dX12_shuffle_1 : dc cX12_shuffle 1 (.invokestatic 100) 3 4 := ⟨by decide +kernel, rfl⟩
theorem dX12_shuffle_4 : dj cX12_shuffle 4 (.ifCond .eq) 16 7 := ⟨12, by decide +kernel, by decide, rfl⟩
theorem dX12_shuffle_7 : dIl cX12_shuffle 7 2 8 := Or.inl ⟨2, rfl, by decide +kernel, rfl⟩
theorem dX12_shuffle_8 : dKc cX12_shuffle 8 1 9 := Or.inl ⟨1, by decide +kernel, by decide +kernel, rfl⟩
theorem dX12_shuffle_9 : dKc cX12_shuffle 9 2 10 := Or.inl ⟨2, by decide +kernel, by decide +kernel, rfl⟩
theorem dX12_shuffle_10 : dc cX12_shuffle 10 (.invokestatic 96) 3 13 := ⟨by decide +kernel, rfl⟩
theorem dX12_shuffle_13 : dj cX12_shuffle 13 (.ifCond .ne) 18 16 := ⟨5, by decide +kernel, by decide, rfl⟩
theorem dX12_shuffle_16 : dKc cX12_shuffle 16 (-1) 17 := Or.inl ⟨(-1), by decide +kernel, by decide +kernel, rfl⟩
theorem dX12_shuffle_17 : dc cX12_shuffle 17 .ireturn 1 18 := ⟨by decide +kernel, rfl⟩
theorem dX12_shuffle_18 : dKc cX12_shuffle 18 3 19 := Or.inl ⟨3, by decide +kernel, by decide +kernel, rfl⟩
theorem dX12_shuffle_19 : dIl cX12_shuffle 19 1 20 := Or.inl ⟨1, rfl, by decide +kernel, rfl⟩
theorem dX12_shuffle_20 : dc cX12_shuffle 20 .imul 1 21 := ⟨by decide +kernel, rfl⟩
theorem dX12_shuffle_21 : dIl cX12_shuffle 21 2 22 := Or.inl ⟨2, rfl, by decide +kernel, rfl⟩
theorem dX12_shuffle_22 : dc cX12_shuffle 22 .iadd 1 23 := ⟨by decide +kernel, rfl⟩
theorem dX12_shuffle_23 : dIs cX12_shuffle 23 5 25 := Or.inr ⟨by decide +kernel, rfl⟩
theorem dX12_shuffle_25 : dAl cX12_shuffle 25 0 26 := Or.inl ⟨0, rfl, by decide +kernel, rfl⟩
theorem dX12_shuffle_26 : dc cX12_shuffle 26 (.getfield 26) 3 29 := ⟨by decide +kernel, rfl⟩
theorem dX12_shuffle_29 : dIl cX12_shuffle 29 5 31 := Or.inr ⟨by decide +kernel, rfl⟩
theorem dX12_shuffle_31 : dc cX12_shuffle 31 .iaload 1 32 := ⟨by decide +kernel, rfl⟩
theorem dX12_shuffle_32 : dKc cX12_shuffle 32 1 33 := Or.inl ⟨1, by decide +kernel, by decide +kernel, rfl⟩
theorem dX12_shuffle_33 : dc cX12_shuffle 33 .isub 1 34 := ⟨by decide +kernel, rfl⟩
theorem dX12_shuffle_34 : dIs cX12_shuffle 34 6 36 := Or.inr ⟨by decide +kernel, rfl⟩
theorem dX12_shuffle_36 : dIl cX12_shuffle 36 6 38 := Or.inr ⟨by decide +kernel, rfl⟩
theorem dX12_shuffle_38 : dj cX12_shuffle 38 (.ifCond .le) 118 41 := ⟨80, by decide +kernel, by decide, rfl⟩
theorem dX12_shuffle_41 : dLl cX12_shuffle 41 3 42 := ⟨3, rfl, by decide +kernel, rfl⟩
theorem dX12_shuffle_42 : dIl cX12_shuffle 42 6 44 := Or.inr ⟨by decide +kernel, rfl⟩
theorem dX12_shuffle_44 : dc cX12_shuffle 44 (.invokestatic 130) 3 47 := ⟨by decide +kernel, rfl⟩
theorem dX12_shuffle_47 : dIl cX12_shuffle 47 6 49 := Or.inr ⟨by decide +kernel, rfl⟩
theorem dX12_shuffle_49 : dKc cX12_shuffle 49 1 50 := Or.inl ⟨1, by decide +kernel, by decide +kernel, rfl⟩
theorem dX12_shuffle_50 : dc cX12_shuffle 50 .iadd 1 51 := ⟨by decide +kernel, rfl⟩
theorem dX12_shuffle_51 : dc cX12_shuffle 51 (.invokestatic 134) 3 54 := ⟨by decide +kernel, rfl⟩
theorem dX12_shuffle_54 : dIs cX12_shuffle 54 7 56 := Or.inr ⟨by decide +kernel, rfl⟩
theorem dX12_shuffle_56 : dAl cX12_shuffle 56 0 57 := Or.inl ⟨0, rfl, by decide +kernel, rfl⟩
theorem dX12_shuffle_57 : dc cX12_shuffle 57 (.getfield 29) 3 60 := ⟨by decide +kernel, rfl⟩
theorem dX12_shuffle_60 : dKc cX12_shuffle 60 60 62 := Or.inr (Or.inl ⟨60, by decide +kernel, by decide +kernel, rfl⟩)
theorem dX12_shuffle_62 : dIl cX12_shuffle 62 5 64 := Or.inr ⟨by decide +kernel, rfl⟩
theorem dX12_shuffle_64 : dc cX12_shuffle 64 .imul 1 65 := ⟨by decide +kernel, rfl⟩
theorem dX12_shuffle_65 : dIl cX12_shuffle 65 6 67 := Or.inr ⟨by decide +kernel, rfl⟩
theorem dX12_shuffle_67 : dc cX12_shuffle 67 .iadd 1 68 := ⟨by decide +kernel, rfl⟩
theorem dX12_shuffle_68 : dc cX12_shuffle 68 .iaload 1 69 := ⟨by decide +kernel, rfl⟩
theorem dX12_shuffle_69 : dIs cX12_shuffle 69 8 71 := Or.inr ⟨by decide +kernel, rfl⟩
theorem dX12_shuffle_71 : dAl cX12_shuffle 71 0 72 := Or.inl ⟨0, rfl, by decide +kernel, rfl⟩
theorem dX12_shuffle_72 : dc cX12_shuffle 72 (.getfield 29) 3 75 := ⟨by decide +kernel, rfl⟩
theorem dX12_shuffle_75 : dKc cX12_shuffle 75 60 77 := Or.inr (Or.inl ⟨60, by decide +kernel, by decide +kernel, rfl⟩)
theorem dX12_shuffle_77 : dIl cX12_shuffle 77 5 79 := Or.inr ⟨by decide +kernel, rfl⟩
theorem dX12_shuffle_79 : dc cX12_shuffle 79 .imul 1 80 := ⟨by decide +kernel, rfl⟩
theorem dX12_shuffle_80 : dIl cX12_shuffle 80 6 82 := Or.inr ⟨by decide +kernel, rfl⟩
theorem dX12_shuffle_82 : dc cX12_shuffle 82 .iadd 1 83 := ⟨by decide +kernel, rfl⟩
theorem dX12_shuffle_83 : dAl cX12_shuffle 83 0 84 := Or.inl ⟨0, rfl, by decide +kernel, rfl⟩
theorem dX12_shuffle_84 : dc cX12_shuffle 84 (.getfield 29) 3 87 := ⟨by decide +kernel, rfl⟩
theorem dX12_shuffle_87 : dKc cX12_shuffle 87 60 89 := Or.inr (Or.inl ⟨60, by decide +kernel, by decide +kernel, rfl⟩)
theorem dX12_shuffle_89 : dIl cX12_shuffle 89 5 91 := Or.inr ⟨by decide +kernel, rfl⟩
theorem dX12_shuffle_91 : dc cX12_shuffle 91 .imul 1 92 := ⟨by decide +kernel, rfl⟩
theorem dX12_shuffle_92 : dIl cX12_shuffle 92 7 94 := Or.inr ⟨by decide +kernel, rfl⟩
theorem dX12_shuffle_94 : dc cX12_shuffle 94 .iadd 1 95 := ⟨by decide +kernel, rfl⟩
theorem dX12_shuffle_95 : dc cX12_shuffle 95 .iaload 1 96 := ⟨by decide +kernel, rfl⟩
theorem dX12_shuffle_96 : dc cX12_shuffle 96 .iastore 1 97 := ⟨by decide +kernel, rfl⟩
theorem dX12_shuffle_97 : dAl cX12_shuffle 97 0 98 := Or.inl ⟨0, rfl, by decide +kernel, rfl⟩
theorem dX12_shuffle_98 : dc cX12_shuffle 98 (.getfield 29) 3 101 := ⟨by decide +kernel, rfl⟩
theorem dX12_shuffle_101 : dKc cX12_shuffle 101 60 103 := Or.inr (Or.inl ⟨60, by decide +kernel, by decide +kernel, rfl⟩)
theorem dX12_shuffle_103 : dIl cX12_shuffle 103 5 105 := Or.inr ⟨by decide +kernel, rfl⟩
theorem dX12_shuffle_105 : dc cX12_shuffle 105 .imul 1 106 := ⟨by decide +kernel, rfl⟩
theorem dX12_shuffle_106 : dIl cX12_shuffle 106 7 108 := Or.inr ⟨by decide +kernel, rfl⟩
theorem dX12_shuffle_108 : dc cX12_shuffle 108 .iadd 1 109 := ⟨by decide +kernel, rfl⟩
theorem dX12_shuffle_109 : dIl cX12_shuffle 109 8 111 := Or.inr ⟨by decide +kernel, rfl⟩
theorem dX12_shuffle_111 : dc cX12_shuffle 111 .iastore 1 112 := ⟨by decide +kernel, rfl⟩
theorem dX12_shuffle_112 : dc cX12_shuffle 112 (.iinc 6 (-1)) 3 115 := ⟨by decide +kernel, rfl⟩
theorem dX12_shuffle_115 : dj cX12_shuffle 115 .goto 36 118 := ⟨(-79), by decide +kernel, by decide, rfl⟩
theorem dX12_shuffle_118 : dAl cX12_shuffle 118 0 119 := Or.inl ⟨0, rfl, by decide +kernel, rfl⟩
theorem dX12_shuffle_119 : dc cX12_shuffle 119 (.getfield 26) 3 122 := ⟨by decide +kernel, rfl⟩
theorem dX12_shuffle_122 : dIl cX12_shuffle 122 5 124 := Or.inr ⟨by decide +kernel, rfl⟩
theorem dX12_shuffle_124 : dc cX12_shuffle 124 .iaload 1 125 := ⟨by decide +kernel, rfl⟩
theorem dX12_shuffle_125 : dc cX12_shuffle 125 .ireturn 1 126 := ⟨by decide +kernel, rfl⟩
theorem dX12_kind_0 : dIl cX12_kind 0 1 1 := Or.inl ⟨1, rfl, by decide +kernel, rfl⟩
theorem dX12_kind_1 : dc cX12_kind 1 (.invokestatic 100) 3 4 := ⟨by decide +kernel, rfl⟩
theorem dX12_kind_4 : dj cX12_kind 4 (.ifCond .eq) 16 7 := ⟨12, by decide +kernel, by decide, rfl⟩
theorem dX12_kind_7 : dIl cX12_kind 7 2 8 := Or.inl ⟨2, rfl, by decide +kernel, rfl⟩
theorem dX12_kind_8 : dKc cX12_kind 8 0 9 := Or.inl ⟨0, by decide +kernel, by decide +kernel, rfl⟩
theorem dX12_kind_9 : dKc cX12_kind 9 2 10 := Or.inl ⟨2, by decide +kernel, by decide +kernel, rfl⟩
theorem dX12_kind_10 : dc cX12_kind 10 (.invokestatic 96) 3 13 := ⟨by decide +kernel, rfl⟩
theorem dX12_kind_13 : dj cX12_kind 13 (.ifCond .ne) 18 16 := ⟨5, by decide +kernel, by decide, rfl⟩
theorem dX12_kind_16 : dKc cX12_kind 16 (-1) 17 := Or.inl ⟨(-1), by decide +kernel, by decide +kernel, rfl⟩
theorem dX12_kind_17 : dc cX12_kind 17 .ireturn 1 18 := ⟨by decide +kernel, rfl⟩
theorem dX12_kind_18 : dKc cX12_kind 18 3 19 := Or.inl ⟨3, by decide +kernel, by decide +kernel, rfl⟩
theorem dX12_kind_19 : dIl cX12_kind 19 1 20 := Or.inl ⟨1, rfl, by decide +kernel, rfl⟩
theorem dX12_kind_20 : dc cX12_kind 20 .imul 1 21 := ⟨by decide +kernel, rfl⟩
theorem dX12_kind_21 : dIl cX12_kind 21 2 22 := Or.inl ⟨2, rfl, by decide +kernel, rfl⟩
theorem dX12_kind_22 : dc cX12_kind 22 .iadd 1 23 := ⟨by decide +kernel, rfl⟩
theorem dX12_kind_23 : dIs cX12_kind 23 4 25 := Or.inr ⟨by decide +kernel, rfl⟩
theorem dX12_kind_25 : dIl cX12_kind 25 3 26 := Or.inl ⟨3, rfl, by decide +kernel, rfl⟩
theorem dX12_kind_26 : dKc cX12_kind 26 (-3) 28 := Or.inr (Or.inl ⟨(-3), by decide +kernel, by decide +kernel, rfl⟩)
theorem dX12_kind_28 : dj cX12_kind 28 (.if_icmp .ne) 41 31 := ⟨13, by decide +kernel, by decide, rfl⟩
theorem dX12_kind_31 : dAl cX12_kind 31 0 32 := Or.inl ⟨0, rfl, by decide +kernel, rfl⟩
theorem dX12_kind_32 : dc cX12_kind 32 (.getfield 26) 3 35 := ⟨by decide +kernel, rfl⟩
theorem dX12_kind_35 : dIl cX12_kind 35 4 37 := Or.inr ⟨by decide +kernel, rfl⟩
theorem dX12_kind_37 : dc cX12_kind 37 .iaload 1 38 := ⟨by decide +kernel, rfl⟩
theorem dX12_kind_38 : dj cX12_kind 38 .goto 74 41 := ⟨36, by decide +kernel, by decide, rfl⟩
theorem dX12_kind_41 : dIl cX12_kind 41 3 42 := Or.inl ⟨3, rfl, by decide +kernel, rfl⟩
theorem dX12_kind_42 : dKc cX12_kind 42 0 43 := Or.inl ⟨0, by decide +kernel, by decide +kernel, rfl⟩
theorem dX12_kind_43 : dAl cX12_kind 43 0 44 := Or.inl ⟨0, rfl, by decide +kernel, rfl⟩
theorem dX12_kind_44 : dc cX12_kind 44 (.getfield 26) 3 47 := ⟨by decide +kernel, rfl⟩
theorem dX12_kind_47 : dIl cX12_kind 47 4 49 := Or.inr ⟨by decide +kernel, rfl⟩
theorem dX12_kind_49 : dc cX12_kind 49 .iaload 1 50 := ⟨by decide +kernel, rfl⟩
theorem dX12_kind_50 : dKc cX12_kind 50 1 51 := Or.inl ⟨1, by decide +kernel, by decide +kernel, rfl⟩
theorem dX12_kind_51 : dc cX12_kind 51 .isub 1 52 := ⟨by decide +kernel, rfl⟩
theorem dX12_kind_52 : dc cX12_kind 52 (.invokestatic 96) 3 55 := ⟨by decide +kernel, rfl⟩
theorem dX12_kind_55 : dj cX12_kind 55 (.ifCond .eq) 73 58 := ⟨18, by decide +kernel, by decide, rfl⟩
theorem dX12_kind_58 : dAl cX12_kind 58 0 59 := Or.inl ⟨0, rfl, by decide +kernel, rfl⟩
theorem dX12_kind_59 : dc cX12_kind 59 (.getfield 29) 3 62 := ⟨by decide +kernel, rfl⟩
theorem dX12_kind_62 : dKc cX12_kind 62 60 64 := Or.inr (Or.inl ⟨60, by decide +kernel, by decide +kernel, rfl⟩)
theorem dX12_kind_64 : dIl cX12_kind 64 4 66 := Or.inr ⟨by decide +kernel, rfl⟩
theorem dX12_kind_66 : dc cX12_kind 66 .imul 1 67 := ⟨by decide +kernel, rfl⟩
theorem dX12_kind_67 : dIl cX12_kind 67 3 68 := Or.inl ⟨3, rfl, by decide +kernel, rfl⟩
theorem dX12_kind_68 : dc cX12_kind 68 .iadd 1 69 := ⟨by decide +kernel, rfl⟩
theorem dX12_kind_69 : dc cX12_kind 69 .iaload 1 70 := ⟨by decide +kernel, rfl⟩
theorem dX12_kind_70 : dj cX12_kind 70 .goto 74 73 := ⟨4, by decide +kernel, by decide, rfl⟩
theorem dX12_kind_73 : dKc cX12_kind 73 (-1) 74 := Or.inl ⟨(-1), by decide +kernel, by decide +kernel, rfl⟩
theorem dX12_kind_74 : dc cX12_kind 74 .ireturn 1 75 := ⟨by decide +kernel, rfl⟩
theorem dX12_named_0 : dIl cX12_named 0 1 1 := Or.inl ⟨1, rfl, by decide +kernel, rfl⟩
theorem dX12_named_1 : dc cX12_named 1 (.invokestatic 100) 3 4 := ⟨by decide +kernel, rfl⟩
theorem dX12_named_4 : dj cX12_named 4 (.ifCond .eq) 16 7 := ⟨12, by decide +kernel, by decide, rfl⟩
theorem dX12_named_7 : dAl cX12_named 7 0 8 := Or.inl ⟨0, rfl, by decide +kernel, rfl⟩
theorem dX12_named_8 : dIl cX12_named 8 1 9 := Or.inl ⟨1, rfl, by decide +kernel, rfl⟩
theorem dX12_named_9 : dLl cX12_named 9 2 10 := ⟨2, rfl, by decide +kernel, rfl⟩
theorem dX12_named_10 : dc cX12_named 10 (.invokevirtual 108) 3 13 := ⟨by decide +kernel, rfl⟩
theorem dX12_named_13 : dj cX12_named 13 .goto 17 16 := ⟨4, by decide +kernel, by decide, rfl⟩
theorem dX12_named_16 : dKc cX12_named 16 (-1) 17 := Or.inl ⟨(-1), by decide +kernel, by decide +kernel, rfl⟩
theorem dX12_named_17 : dc cX12_named 17 .ireturn 1 18 := ⟨by decide +kernel, rfl⟩
theorem dX12_order_0 : dAl cX12_order 0 0 1 := Or.inl ⟨0, rfl, by decide +kernel, rfl⟩
theorem dX12_order_1 : dIl cX12_order 1 1 2 := Or.inl ⟨1, rfl, by decide +kernel, rfl⟩
theorem dX12_order_2 : dc cX12_order 2 (.invokevirtual 116) 3 5 := ⟨by decide +kernel, rfl⟩
theorem dX12_order_5 : dj cX12_order 5 (.ifCond .eq) 26 8 := ⟨21, by decide +kernel, by decide, rfl⟩
theorem dX12_order_8 : dIl cX12_order 8 2 9 := Or.inl ⟨2, rfl, by decide +kernel, rfl⟩
theorem dX12_order_9 : dKc cX12_order 9 0 10 := Or.inl ⟨0, by decide +kernel, by decide +kernel, rfl⟩
theorem dX12_order_10 : dKc cX12_order 10 2 11 := Or.inl ⟨2, by decide +kernel, by decide +kernel, rfl⟩
theorem dX12_order_11 : dc cX12_order 11 (.invokestatic 96) 3 14 := ⟨by decide +kernel, rfl⟩
theorem dX12_order_14 : dj cX12_order 14 (.ifCond .eq) 26 17 := ⟨12, by decide +kernel, by decide, rfl⟩
theorem dX12_order_17 : dAl cX12_order 17 0 18 := Or.inl ⟨0, rfl, by decide +kernel, rfl⟩
theorem dX12_order_18 : dIl cX12_order 18 1 19 := Or.inl ⟨1, rfl, by decide +kernel, rfl⟩
theorem dX12_order_19 : dIl cX12_order 19 2 20 := Or.inl ⟨2, rfl, by decide +kernel, rfl⟩
theorem dX12_order_20 : dc cX12_order 20 (.invokevirtual 119) 3 23 := ⟨by decide +kernel, rfl⟩
theorem dX12_order_23 : dj cX12_order 23 .goto 27 26 := ⟨4, by decide +kernel, by decide, rfl⟩
theorem dX12_order_26 : dKc cX12_order 26 (-1) 27 := Or.inl ⟨(-1), by decide +kernel, by decide +kernel, rfl⟩
theorem dX12_order_27 : dc cX12_order 27 .ireturn 1 28 := ⟨by decide +kernel, rfl⟩
theorem dX12_about_0 : dAl cX12_about 0 0 1 := Or.inl ⟨0, rfl, by decide +kernel, rfl⟩
theorem dX12_about_1 : dIl cX12_about 1 1 2 := Or.inl ⟨1, rfl, by decide +kernel, rfl⟩
theorem dX12_about_2 : dc cX12_about 2 (.invokevirtual 116) 3 5 := ⟨by decide +kernel, rfl⟩
theorem dX12_about_5 : dj cX12_about 5 (.ifCond .eq) 17 8 := ⟨12, by decide +kernel, by decide, rfl⟩
theorem dX12_about_8 : dIl cX12_about 8 2 9 := Or.inl ⟨2, rfl, by decide +kernel, rfl⟩
theorem dX12_about_9 : dKc cX12_about 9 0 10 := Or.inl ⟨0, by decide +kernel, by decide +kernel, rfl⟩
theorem dX12_about_10 : dKc cX12_about 10 3 11 := Or.inl ⟨3, by decide +kernel, by decide +kernel, rfl⟩
theorem dX12_about_11 : dc cX12_about 11 (.invokestatic 96) 3 14 := ⟨by decide +kernel, rfl⟩
theorem dX12_about_14 : dj cX12_about 14 (.ifCond .ne) 19 17 := ⟨5, by decide +kernel, by decide, rfl⟩
theorem dX12_about_17 : dKc cX12_about 17 (-1) 18 := Or.inl ⟨(-1), by decide +kernel, by decide +kernel, rfl⟩
theorem dX12_about_18 : dc cX12_about 18 .ireturn 1 19 := ⟨by decide +kernel, rfl⟩
theorem dX12_about_19 : dIl cX12_about 19 2 20 := Or.inl ⟨2, rfl, by decide +kernel, rfl⟩
theorem dX12_about_20 : dj cX12_about 20 (.ifCond .ne) 32 23 := ⟨12, by decide +kernel, by decide, rfl⟩
theorem dX12_about_23 : dAl cX12_about 23 0 24 := Or.inl ⟨0, rfl, by decide +kernel, rfl⟩
theorem dX12_about_24 : dc cX12_about 24 (.getfield 7) 3 27 := ⟨by decide +kernel, rfl⟩
theorem dX12_about_27 : dIl cX12_about 27 1 28 := Or.inl ⟨1, rfl, by decide +kernel, rfl⟩
theorem dX12_about_28 : dc cX12_about 28 .iaload 1 29 := ⟨by decide +kernel, rfl⟩
theorem dX12_about_29 : dj cX12_about 29 .goto 66 32 := ⟨37, by decide +kernel, by decide, rfl⟩
theorem dX12_about_32 : dIl cX12_about 32 2 33 := Or.inl ⟨2, rfl, by decide +kernel, rfl⟩
theorem dX12_about_33 : dKc cX12_about 33 1 34 := Or.inl ⟨1, by decide +kernel, by decide +kernel, rfl⟩
theorem dX12_about_34 : dj cX12_about 34 (.if_icmp .ne) 46 37 := ⟨12, by decide +kernel, by decide, rfl⟩
theorem dX12_about_37 : dAl cX12_about 37 0 38 := Or.inl ⟨0, rfl, by decide +kernel, rfl⟩
theorem dX12_about_38 : dc cX12_about 38 (.getfield 17) 3 41 := ⟨by decide +kernel, rfl⟩
theorem dX12_about_41 : dIl cX12_about 41 1 42 := Or.inl ⟨1, rfl, by decide +kernel, rfl⟩
theorem dX12_about_42 : dc cX12_about 42 .iaload 1 43 := ⟨by decide +kernel, rfl⟩
theorem dX12_about_43 : dj cX12_about 43 .goto 66 46 := ⟨23, by decide +kernel, by decide, rfl⟩
theorem dX12_about_46 : dIl cX12_about 46 2 47 := Or.inl ⟨2, rfl, by decide +kernel, rfl⟩
theorem dX12_about_47 : dKc cX12_about 47 2 48 := Or.inl ⟨2, by decide +kernel, by decide +kernel, rfl⟩
theorem dX12_about_48 : dj cX12_about 48 (.if_icmp .ne) 60 51 := ⟨12, by decide +kernel, by decide, rfl⟩
theorem dX12_about_51 : dAl cX12_about 51 0 52 := Or.inl ⟨0, rfl, by decide +kernel, rfl⟩
theorem dX12_about_52 : dc cX12_about 52 (.getfield 20) 3 55 := ⟨by decide +kernel, rfl⟩
theorem dX12_about_55 : dIl cX12_about 55 1 56 := Or.inl ⟨1, rfl, by decide +kernel, rfl⟩
theorem dX12_about_56 : dc cX12_about 56 .iaload 1 57 := ⟨by decide +kernel, rfl⟩
theorem dX12_about_57 : dj cX12_about 57 .goto 66 60 := ⟨9, by decide +kernel, by decide, rfl⟩
theorem dX12_about_60 : dAl cX12_about 60 0 61 := Or.inl ⟨0, rfl, by decide +kernel, rfl⟩
theorem dX12_about_61 : dc cX12_about 61 (.getfield 23) 3 64 := ⟨by decide +kernel, rfl⟩
theorem dX12_about_64 : dIl cX12_about 64 1 65 := Or.inl ⟨1, rfl, by decide +kernel, rfl⟩
theorem dX12_about_65 : dc cX12_about 65 .iaload 1 66 := ⟨by decide +kernel, rfl⟩
theorem dX12_about_66 : dc cX12_about 66 .ireturn 1 67 := ⟨by decide +kernel, rfl⟩
theorem dX12_starts_0 : dAl cX12_starts 0 0 1 := Or.inl ⟨0, rfl, by decide +kernel, rfl⟩
theorem dX12_starts_1 : dc cX12_starts 1 (.getfield 81) 3 4 := ⟨by decide +kernel, rfl⟩
theorem dX12_starts_4 : dAl cX12_starts 4 0 5 := Or.inl ⟨0, rfl, by decide +kernel, rfl⟩
theorem dX12_starts_5 : dc cX12_starts 5 (.getfield 7) 3 8 := ⟨by decide +kernel, rfl⟩
theorem dX12_starts_8 : dIl cX12_starts 8 1 9 := Or.inl ⟨1, rfl, by decide +kernel, rfl⟩
theorem dX12_starts_9 : dc cX12_starts 9 .iaload 1 10 := ⟨by decide +kernel, rfl⟩
theorem dX12_starts_10 : dAl cX12_starts 10 0 11 := Or.inl ⟨0, rfl, by decide +kernel, rfl⟩
theorem dX12_starts_11 : dc cX12_starts 11 (.getfield 81) 3 14 := ⟨by decide +kernel, rfl⟩
theorem dX12_starts_14 : dAl cX12_starts 14 0 15 := Or.inl ⟨0, rfl, by decide +kernel, rfl⟩
theorem dX12_starts_15 : dc cX12_starts 15 (.getfield 7) 3 18 := ⟨by decide +kernel, rfl⟩
theorem dX12_starts_18 : dIl cX12_starts 18 1 19 := Or.inl ⟨1, rfl, by decide +kernel, rfl⟩
theorem dX12_starts_19 : dc cX12_starts 19 .iaload 1 20 := ⟨by decide +kernel, rfl⟩
theorem dX12_starts_20 : dc cX12_starts 20 .iaload 1 21 := ⟨by decide +kernel, rfl⟩
theorem dX12_starts_21 : dKc cX12_starts 21 (-3) 23 := Or.inr (Or.inl ⟨(-3), by decide +kernel, by decide +kernel, rfl⟩)
theorem dX12_starts_23 : dj cX12_starts 23 (.if_icmp .ne) 33 26 := ⟨10, by decide +kernel, by decide, rfl⟩
theorem dX12_starts_26 : dAl cX12_starts 26 0 27 := Or.inl ⟨0, rfl, by decide +kernel, rfl⟩
theorem dX12_starts_27 : dc cX12_starts 27 (.getfield 138) 3 30 := ⟨by decide +kernel, rfl⟩
theorem dX12_starts_30 : dj cX12_starts 30 .goto 44 33 := ⟨14, by decide +kernel, by decide, rfl⟩
theorem dX12_starts_33 : dAl cX12_starts 33 0 34 := Or.inl ⟨0, rfl, by decide +kernel, rfl⟩
theorem dX12_starts_34 : dc cX12_starts 34 (.getfield 81) 3 37 := ⟨by decide +kernel, rfl⟩
theorem dX12_starts_37 : dAl cX12_starts 37 0 38 := Or.inl ⟨0, rfl, by decide +kernel, rfl⟩
theorem dX12_starts_38 : dc cX12_starts 38 (.getfield 7) 3 41 := ⟨by decide +kernel, rfl⟩
theorem dX12_starts_41 : dIl cX12_starts 41 1 42 := Or.inl ⟨1, rfl, by decide +kernel, rfl⟩
theorem dX12_starts_42 : dc cX12_starts 42 .iaload 1 43 := ⟨by decide +kernel, rfl⟩
theorem dX12_starts_43 : dc cX12_starts 43 .iaload 1 44 := ⟨by decide +kernel, rfl⟩
theorem dX12_starts_44 : dc cX12_starts 44 .iastore 1 45 := ⟨by decide +kernel, rfl⟩
theorem dX12_starts_45 : dc cX12_starts 45 .return_ 1 46 := ⟨by decide +kernel, rfl⟩
theorem dX12_worth_0 : dAl cX12_worth 0 0 1 := Or.inl ⟨0, rfl, by decide +kernel, rfl⟩
theorem dX12_worth_1 : dIl cX12_worth 1 1 2 := Or.inl ⟨1, rfl, by decide +kernel, rfl⟩
theorem dX12_worth_2 : dc cX12_worth 2 (.invokevirtual 116) 3 5 := ⟨by decide +kernel, rfl⟩
theorem dX12_worth_5 : dj cX12_worth 5 (.ifCond .ne) 10 8 := ⟨5, by decide +kernel, by decide, rfl⟩
theorem dX12_worth_8 : dKc cX12_worth 8 (-1) 9 := Or.inl ⟨(-1), by decide +kernel, by decide +kernel, rfl⟩
theorem dX12_worth_9 : dc cX12_worth 9 .ireturn 1 10 := ⟨by decide +kernel, rfl⟩
theorem dX12_worth_10 : dAl cX12_worth 10 0 11 := Or.inl ⟨0, rfl, by decide +kernel, rfl⟩
theorem dX12_worth_11 : dIl cX12_worth 11 1 12 := Or.inl ⟨1, rfl, by decide +kernel, rfl⟩
theorem dX12_worth_12 : dc cX12_worth 12 (.invokevirtual 141) 3 15 := ⟨by decide +kernel, rfl⟩
theorem dX12_worth_15 : dAl cX12_worth 15 0 16 := Or.inl ⟨0, rfl, by decide +kernel, rfl⟩
theorem dX12_worth_16 : dc cX12_worth 16 .dup 1 17 := ⟨by decide +kernel, rfl⟩
theorem dX12_worth_17 : dc cX12_worth 17 (.getfield 138) 3 20 := ⟨by decide +kernel, rfl⟩
theorem dX12_worth_20 : dKc cX12_worth 20 1 21 := Or.inl ⟨1, by decide +kernel, by decide +kernel, rfl⟩
theorem dX12_worth_21 : dc cX12_worth 21 .iadd 1 22 := ⟨by decide +kernel, rfl⟩
theorem dX12_worth_22 : dc cX12_worth 22 (.putfield 138) 3 25 := ⟨by decide +kernel, rfl⟩
theorem dX12_worth_25 : dIl cX12_worth 25 2 26 := Or.inl ⟨2, rfl, by decide +kernel, rfl⟩
theorem dX12_worth_26 : dAl cX12_worth 26 0 27 := Or.inl ⟨0, rfl, by decide +kernel, rfl⟩
theorem dX12_worth_27 : dIl cX12_worth 27 1 28 := Or.inl ⟨1, rfl, by decide +kernel, rfl⟩
theorem dX12_worth_28 : dKc cX12_worth 28 0 29 := Or.inl ⟨0, by decide +kernel, by decide +kernel, rfl⟩
theorem dX12_worth_29 : dc cX12_worth 29 (.invokevirtual 119) 3 32 := ⟨by decide +kernel, rfl⟩
theorem dX12_worth_32 : dc cX12_worth 32 .iadd 1 33 := ⟨by decide +kernel, rfl⟩
theorem dX12_worth_33 : dIs cX12_worth 33 3 34 := Or.inl ⟨3, rfl, by decide +kernel, rfl⟩
theorem dX12_worth_34 : dAl cX12_worth 34 0 35 := Or.inl ⟨0, rfl, by decide +kernel, rfl⟩
theorem dX12_worth_35 : dc cX12_worth 35 (.getfield 17) 3 38 := ⟨by decide +kernel, rfl⟩
theorem dX12_worth_38 : dIl cX12_worth 38 1 39 := Or.inl ⟨1, rfl, by decide +kernel, rfl⟩
theorem dX12_worth_39 : dc cX12_worth 39 .iaload 1 40 := ⟨by decide +kernel, rfl⟩
theorem dX12_worth_40 : dj cX12_worth 40 (.ifCond .ne) 47 43 := ⟨7, by decide +kernel, by decide, rfl⟩
theorem dX12_worth_43 : dIl cX12_worth 43 3 44 := Or.inl ⟨3, rfl, by decide +kernel, rfl⟩
theorem dX12_worth_44 : dj cX12_worth 44 .goto 68 47 := ⟨24, by decide +kernel, by decide, rfl⟩
theorem dX12_worth_47 : dAl cX12_worth 47 0 48 := Or.inl ⟨0, rfl, by decide +kernel, rfl⟩
theorem dX12_worth_48 : dc cX12_worth 48 (.getfield 17) 3 51 := ⟨by decide +kernel, rfl⟩
theorem dX12_worth_51 : dIl cX12_worth 51 1 52 := Or.inl ⟨1, rfl, by decide +kernel, rfl⟩
theorem dX12_worth_52 : dc cX12_worth 52 .iaload 1 53 := ⟨by decide +kernel, rfl⟩
theorem dX12_worth_53 : dKc cX12_worth 53 1 54 := Or.inl ⟨1, by decide +kernel, by decide +kernel, rfl⟩
theorem dX12_worth_54 : dj cX12_worth 54 (.if_icmp .ne) 63 57 := ⟨9, by decide +kernel, by decide, rfl⟩
theorem dX12_worth_57 : dKc cX12_worth 57 2 58 := Or.inl ⟨2, by decide +kernel, by decide +kernel, rfl⟩
theorem dX12_worth_58 : dIl cX12_worth 58 3 59 := Or.inl ⟨3, rfl, by decide +kernel, rfl⟩
theorem dX12_worth_59 : dc cX12_worth 59 .imul 1 60 := ⟨by decide +kernel, rfl⟩
theorem dX12_worth_60 : dj cX12_worth 60 .goto 68 63 := ⟨8, by decide +kernel, by decide, rfl⟩
theorem dX12_worth_63 : dKc cX12_worth 63 2 64 := Or.inl ⟨2, by decide +kernel, by decide +kernel, rfl⟩
theorem dX12_worth_64 : dIl cX12_worth 64 3 65 := Or.inl ⟨3, rfl, by decide +kernel, rfl⟩
theorem dX12_worth_65 : dc cX12_worth 65 .imul 1 66 := ⟨by decide +kernel, rfl⟩
theorem dX12_worth_66 : dKc cX12_worth 66 3 67 := Or.inl ⟨3, by decide +kernel, by decide +kernel, rfl⟩
theorem dX12_worth_67 : dc cX12_worth 67 .isub 1 68 := ⟨by decide +kernel, rfl⟩
theorem dX12_worth_68 : dc cX12_worth 68 .ireturn 1 69 := ⟨by decide +kernel, rfl⟩
theorem dX12_weigh_0 : dAl cX12_weigh 0 0 1 := Or.inl ⟨0, rfl, by decide +kernel, rfl⟩
theorem dX12_weigh_1 : dIl cX12_weigh 1 1 2 := Or.inl ⟨1, rfl, by decide +kernel, rfl⟩
theorem dX12_weigh_2 : dc cX12_weigh 2 (.invokevirtual 116) 3 5 := ⟨by decide +kernel, rfl⟩
theorem dX12_weigh_5 : dj cX12_weigh 5 (.ifCond .eq) 19 8 := ⟨14, by decide +kernel, by decide, rfl⟩
theorem dX12_weigh_8 : dIl cX12_weigh 8 2 9 := Or.inl ⟨2, rfl, by decide +kernel, rfl⟩
theorem dX12_weigh_9 : dKc cX12_weigh 9 0 10 := Or.inl ⟨0, by decide +kernel, by decide +kernel, rfl⟩
theorem dX12_weigh_10 : dKc cX12_weigh 10 1000 13 := Or.inr (Or.inr ⟨1000, by decide +kernel, by decide +kernel, rfl⟩)
theorem dX12_weigh_13 : dc cX12_weigh 13 (.invokestatic 96) 3 16 := ⟨by decide +kernel, rfl⟩
theorem dX12_weigh_16 : dj cX12_weigh 16 (.ifCond .ne) 21 19 := ⟨5, by decide +kernel, by decide, rfl⟩
theorem dX12_weigh_19 : dKc cX12_weigh 19 (-1) 20 := Or.inl ⟨(-1), by decide +kernel, by decide +kernel, rfl⟩
theorem dX12_weigh_20 : dc cX12_weigh 20 .ireturn 1 21 := ⟨by decide +kernel, rfl⟩
theorem dX12_weigh_21 : dAl cX12_weigh 21 0 22 := Or.inl ⟨0, rfl, by decide +kernel, rfl⟩
theorem dX12_weigh_22 : dc cX12_weigh 22 (.getfield 20) 3 25 := ⟨by decide +kernel, rfl⟩
theorem dX12_weigh_25 : dIl cX12_weigh 25 1 26 := Or.inl ⟨1, rfl, by decide +kernel, rfl⟩
theorem dX12_weigh_26 : dc cX12_weigh 26 .iaload 1 27 := ⟨by decide +kernel, rfl⟩
theorem dX12_weigh_27 : dIs cX12_weigh 27 3 28 := Or.inl ⟨3, rfl, by decide +kernel, rfl⟩
theorem dX12_weigh_28 : dAl cX12_weigh 28 0 29 := Or.inl ⟨0, rfl, by decide +kernel, rfl⟩
theorem dX12_weigh_29 : dc cX12_weigh 29 (.getfield 20) 3 32 := ⟨by decide +kernel, rfl⟩
theorem dX12_weigh_32 : dIl cX12_weigh 32 1 33 := Or.inl ⟨1, rfl, by decide +kernel, rfl⟩
theorem dX12_weigh_33 : dIl cX12_weigh 33 2 34 := Or.inl ⟨2, rfl, by decide +kernel, rfl⟩
theorem dX12_weigh_34 : dc cX12_weigh 34 .iastore 1 35 := ⟨by decide +kernel, rfl⟩
theorem dX12_weigh_35 : dIl cX12_weigh 35 3 36 := Or.inl ⟨3, rfl, by decide +kernel, rfl⟩
theorem dX12_weigh_36 : dc cX12_weigh 36 .ireturn 1 37 := ⟨by decide +kernel, rfl⟩
theorem dX12_lacks_0 : dKc cX12_lacks 0 0 1 := Or.inl ⟨0, by decide +kernel, by decide +kernel, rfl⟩
theorem dX12_lacks_1 : dIs cX12_lacks 1 2 2 := Or.inl ⟨2, rfl, by decide +kernel, rfl⟩
theorem dX12_lacks_2 : dIl cX12_lacks 2 2 3 := Or.inl ⟨2, rfl, by decide +kernel, rfl⟩
theorem dX12_lacks_3 : dAl cX12_lacks 3 0 4 := Or.inl ⟨0, rfl, by decide +kernel, rfl⟩
theorem dX12_lacks_4 : dc cX12_lacks 4 (.getfield 26) 3 7 := ⟨by decide +kernel, rfl⟩
theorem dX12_lacks_7 : dIl cX12_lacks 7 1 8 := Or.inl ⟨1, rfl, by decide +kernel, rfl⟩
theorem dX12_lacks_8 : dc cX12_lacks 8 .iaload 1 9 := ⟨by decide +kernel, rfl⟩
theorem dX12_lacks_9 : dj cX12_lacks 9 (.if_icmp .ge) 52 12 := ⟨43, by decide +kernel, by decide, rfl⟩
theorem dX12_lacks_12 : dAl cX12_lacks 12 0 13 := Or.inl ⟨0, rfl, by decide +kernel, rfl⟩
theorem dX12_lacks_13 : dc cX12_lacks 13 (.getfield 20) 3 16 := ⟨by decide +kernel, rfl⟩
theorem dX12_lacks_16 : dAl cX12_lacks 16 0 17 := Or.inl ⟨0, rfl, by decide +kernel, rfl⟩
theorem dX12_lacks_17 : dc cX12_lacks 17 (.getfield 29) 3 20 := ⟨by decide +kernel, rfl⟩
theorem dX12_lacks_20 : dKc cX12_lacks 20 60 22 := Or.inr (Or.inl ⟨60, by decide +kernel, by decide +kernel, rfl⟩)
theorem dX12_lacks_22 : dIl cX12_lacks 22 1 23 := Or.inl ⟨1, rfl, by decide +kernel, rfl⟩
theorem dX12_lacks_23 : dc cX12_lacks 23 .imul 1 24 := ⟨by decide +kernel, rfl⟩
theorem dX12_lacks_24 : dIl cX12_lacks 24 2 25 := Or.inl ⟨2, rfl, by decide +kernel, rfl⟩
theorem dX12_lacks_25 : dc cX12_lacks 25 .iadd 1 26 := ⟨by decide +kernel, rfl⟩
theorem dX12_lacks_26 : dc cX12_lacks 26 .iaload 1 27 := ⟨by decide +kernel, rfl⟩
theorem dX12_lacks_27 : dc cX12_lacks 27 .iaload 1 28 := ⟨by decide +kernel, rfl⟩
theorem dX12_lacks_28 : dj cX12_lacks 28 (.ifCond .ne) 46 31 := ⟨18, by decide +kernel, by decide, rfl⟩
theorem dX12_lacks_31 : dKc cX12_lacks 31 (-10) 33 := Or.inr (Or.inl ⟨(-10), by decide +kernel, by decide +kernel, rfl⟩)
theorem dX12_lacks_33 : dAl cX12_lacks 33 0 34 := Or.inl ⟨0, rfl, by decide +kernel, rfl⟩
theorem dX12_lacks_34 : dc cX12_lacks 34 (.getfield 29) 3 37 := ⟨by decide +kernel, rfl⟩
theorem dX12_lacks_37 : dKc cX12_lacks 37 60 39 := Or.inr (Or.inl ⟨60, by decide +kernel, by decide +kernel, rfl⟩)
theorem dX12_lacks_39 : dIl cX12_lacks 39 1 40 := Or.inl ⟨1, rfl, by decide +kernel, rfl⟩
theorem dX12_lacks_40 : dc cX12_lacks 40 .imul 1 41 := ⟨by decide +kernel, rfl⟩
theorem dX12_lacks_41 : dIl cX12_lacks 41 2 42 := Or.inl ⟨2, rfl, by decide +kernel, rfl⟩
theorem dX12_lacks_42 : dc cX12_lacks 42 .iadd 1 43 := ⟨by decide +kernel, rfl⟩
theorem dX12_lacks_43 : dc cX12_lacks 43 .iaload 1 44 := ⟨by decide +kernel, rfl⟩
theorem dX12_lacks_44 : dc cX12_lacks 44 .isub 1 45 := ⟨by decide +kernel, rfl⟩
theorem dX12_lacks_45 : dc cX12_lacks 45 .ireturn 1 46 := ⟨by decide +kernel, rfl⟩
theorem dX12_lacks_46 : dc cX12_lacks 46 (.iinc 2 1) 3 49 := ⟨by decide +kernel, rfl⟩
theorem dX12_lacks_49 : dj cX12_lacks 49 .goto 2 52 := ⟨(-47), by decide +kernel, by decide, rfl⟩
theorem dX12_lacks_52 : dAl cX12_lacks 52 0 53 := Or.inl ⟨0, rfl, by decide +kernel, rfl⟩
theorem dX12_lacks_53 : dc cX12_lacks 53 (.getfield 26) 3 56 := ⟨by decide +kernel, rfl⟩
theorem dX12_lacks_56 : dIl cX12_lacks 56 1 57 := Or.inl ⟨1, rfl, by decide +kernel, rfl⟩
theorem dX12_lacks_57 : dc cX12_lacks 57 .iaload 1 58 := ⟨by decide +kernel, rfl⟩
theorem dX12_lacks_58 : dj cX12_lacks 58 (.ifCond .ne) 65 61 := ⟨7, by decide +kernel, by decide, rfl⟩
theorem dX12_lacks_61 : dKc cX12_lacks 61 1 62 := Or.inl ⟨1, by decide +kernel, by decide +kernel, rfl⟩
theorem dX12_lacks_62 : dj cX12_lacks 62 .goto 66 65 := ⟨4, by decide +kernel, by decide, rfl⟩
theorem dX12_lacks_65 : dKc cX12_lacks 65 0 66 := Or.inl ⟨0, by decide +kernel, by decide +kernel, rfl⟩
theorem dX12_lacks_66 : dc cX12_lacks 66 .ireturn 1 67 := ⟨by decide +kernel, rfl⟩
theorem dX12_table_0 : dIl cX12_table 0 1 1 := Or.inl ⟨1, rfl, by decide +kernel, rfl⟩
theorem dX12_table_1 : dc cX12_table 1 (.invokestatic 100) 3 4 := ⟨by decide +kernel, rfl⟩
theorem dX12_table_4 : dj cX12_table 4 (.ifCond .eq) 28 7 := ⟨24, by decide +kernel, by decide, rfl⟩
theorem dX12_table_7 : dIl cX12_table 7 2 8 := Or.inl ⟨2, rfl, by decide +kernel, rfl⟩
theorem dX12_table_8 : dKc cX12_table 8 0 9 := Or.inl ⟨0, by decide +kernel, by decide +kernel, rfl⟩
theorem dX12_table_9 : dKc cX12_table 9 2 10 := Or.inl ⟨2, by decide +kernel, by decide +kernel, rfl⟩
theorem dX12_table_10 : dc cX12_table 10 (.invokestatic 96) 3 13 := ⟨by decide +kernel, rfl⟩
theorem dX12_table_13 : dj cX12_table 13 (.ifCond .eq) 28 16 := ⟨15, by decide +kernel, by decide, rfl⟩
theorem dX12_table_16 : dAl cX12_table 16 0 17 := Or.inl ⟨0, rfl, by decide +kernel, rfl⟩
theorem dX12_table_17 : dKc cX12_table 17 3 18 := Or.inl ⟨3, by decide +kernel, by decide +kernel, rfl⟩
theorem dX12_table_18 : dIl cX12_table 18 1 19 := Or.inl ⟨1, rfl, by decide +kernel, rfl⟩
theorem dX12_table_19 : dc cX12_table 19 .imul 1 20 := ⟨by decide +kernel, rfl⟩
theorem dX12_table_20 : dIl cX12_table 20 2 21 := Or.inl ⟨2, rfl, by decide +kernel, rfl⟩
theorem dX12_table_21 : dc cX12_table 21 .iadd 1 22 := ⟨by decide +kernel, rfl⟩
theorem dX12_table_22 : dc cX12_table 22 (.invokevirtual 145) 3 25 := ⟨by decide +kernel, rfl⟩
theorem dX12_table_25 : dj cX12_table 25 .goto 29 28 := ⟨4, by decide +kernel, by decide, rfl⟩
theorem dX12_table_28 : dKc cX12_table 28 (-1) 29 := Or.inl ⟨(-1), by decide +kernel, by decide +kernel, rfl⟩
theorem dX12_table_29 : dc cX12_table 29 .ireturn 1 30 := ⟨by decide +kernel, rfl⟩
theorem dX12_draw_0 : dIl cX12_draw 0 1 1 := Or.inl ⟨1, rfl, by decide +kernel, rfl⟩
theorem dX12_draw_1 : dc cX12_draw 1 (.invokestatic 100) 3 4 := ⟨by decide +kernel, rfl⟩
theorem dX12_draw_4 : dj cX12_draw 4 (.ifCond .eq) 21 7 := ⟨17, by decide +kernel, by decide, rfl⟩
theorem dX12_draw_7 : dIl cX12_draw 7 2 8 := Or.inl ⟨2, rfl, by decide +kernel, rfl⟩
theorem dX12_draw_8 : dKc cX12_draw 8 0 9 := Or.inl ⟨0, by decide +kernel, by decide +kernel, rfl⟩
theorem dX12_draw_9 : dKc cX12_draw 9 2 10 := Or.inl ⟨2, by decide +kernel, by decide +kernel, rfl⟩
theorem dX12_draw_10 : dc cX12_draw 10 (.invokestatic 96) 3 13 := ⟨by decide +kernel, rfl⟩
theorem dX12_draw_13 : dj cX12_draw 13 (.ifCond .eq) 21 16 := ⟨8, by decide +kernel, by decide, rfl⟩
theorem dX12_draw_16 : dIl cX12_draw 16 5 18 := Or.inr ⟨by decide +kernel, rfl⟩
theorem dX12_draw_18 : dj cX12_draw 18 (.ifCond .ge) 23 21 := ⟨5, by decide +kernel, by decide, rfl⟩
theorem dX12_draw_21 : dKc cX12_draw 21 (-1) 22 := Or.inl ⟨(-1), by decide +kernel, by decide +kernel, rfl⟩
theorem dX12_draw_22 : dc cX12_draw 22 .ireturn 1 23 := ⟨by decide +kernel, rfl⟩
theorem dX12_draw_23 : dKc cX12_draw 23 3 24 := Or.inl ⟨3, by decide +kernel, by decide +kernel, rfl⟩
theorem dX12_draw_24 : dIl cX12_draw 24 1 25 := Or.inl ⟨1, rfl, by decide +kernel, rfl⟩
theorem dX12_draw_25 : dc cX12_draw 25 .imul 1 26 := ⟨by decide +kernel, rfl⟩
theorem dX12_draw_26 : dIl cX12_draw 26 2 27 := Or.inl ⟨2, rfl, by decide +kernel, rfl⟩
theorem dX12_draw_27 : dc cX12_draw 27 .iadd 1 28 := ⟨by decide +kernel, rfl⟩
theorem dX12_draw_28 : dIs cX12_draw 28 6 30 := Or.inr ⟨by decide +kernel, rfl⟩
theorem dX12_draw_30 : dAl cX12_draw 30 0 31 := Or.inl ⟨0, rfl, by decide +kernel, rfl⟩
theorem dX12_draw_31 : dIl cX12_draw 31 6 33 := Or.inr ⟨by decide +kernel, rfl⟩
theorem dX12_draw_33 : dc cX12_draw 33 (.invokevirtual 145) 3 36 := ⟨by decide +kernel, rfl⟩
theorem dX12_draw_36 : dj cX12_draw 36 (.ifCond .eq) 42 39 := ⟨6, by decide +kernel, by decide, rfl⟩
theorem dX12_draw_39 : dKc cX12_draw 39 (-3) 41 := Or.inr (Or.inl ⟨(-3), by decide +kernel, by decide +kernel, rfl⟩)
theorem dX12_draw_41 : dc cX12_draw 41 .ireturn 1 42 := ⟨by decide +kernel, rfl⟩
theorem dX12_draw_42 : dKc cX12_draw 42 0 43 := Or.inl ⟨0, by decide +kernel, by decide +kernel, rfl⟩
theorem dX12_draw_43 : dIs cX12_draw 43 7 45 := Or.inr ⟨by decide +kernel, rfl⟩
theorem dX12_draw_45 : dKc cX12_draw 45 0 46 := Or.inl ⟨0, by decide +kernel, by decide +kernel, rfl⟩
theorem dX12_draw_46 : dIs cX12_draw 46 8 48 := Or.inr ⟨by decide +kernel, rfl⟩
theorem dX12_draw_48 : dIl cX12_draw 48 8 50 := Or.inr ⟨by decide +kernel, rfl⟩
theorem dX12_draw_50 : dAl cX12_draw 50 0 51 := Or.inl ⟨0, rfl, by decide +kernel, rfl⟩
theorem dX12_draw_51 : dc cX12_draw 51 (.getfield 26) 3 54 := ⟨by decide +kernel, rfl⟩
theorem dX12_draw_54 : dIl cX12_draw 54 6 56 := Or.inr ⟨by decide +kernel, rfl⟩
theorem dX12_draw_56 : dc cX12_draw 56 .iaload 1 57 := ⟨by decide +kernel, rfl⟩
theorem dX12_draw_57 : dj cX12_draw 57 (.if_icmp .ge) 89 60 := ⟨32, by decide +kernel, by decide, rfl⟩
theorem dX12_draw_60 : dIl cX12_draw 60 7 62 := Or.inr ⟨by decide +kernel, rfl⟩
theorem dX12_draw_62 : dAl cX12_draw 62 0 63 := Or.inl ⟨0, rfl, by decide +kernel, rfl⟩
theorem dX12_draw_63 : dc cX12_draw 63 (.getfield 20) 3 66 := ⟨by decide +kernel, rfl⟩
theorem dX12_draw_66 : dAl cX12_draw 66 0 67 := Or.inl ⟨0, rfl, by decide +kernel, rfl⟩
theorem dX12_draw_67 : dc cX12_draw 67 (.getfield 29) 3 70 := ⟨by decide +kernel, rfl⟩
theorem dX12_draw_70 : dKc cX12_draw 70 60 72 := Or.inr (Or.inl ⟨60, by decide +kernel, by decide +kernel, rfl⟩)
theorem dX12_draw_72 : dIl cX12_draw 72 6 74 := Or.inr ⟨by decide +kernel, rfl⟩
theorem dX12_draw_74 : dc cX12_draw 74 .imul 1 75 := ⟨by decide +kernel, rfl⟩
theorem dX12_draw_75 : dIl cX12_draw 75 8 77 := Or.inr ⟨by decide +kernel, rfl⟩
theorem dX12_draw_77 : dc cX12_draw 77 .iadd 1 78 := ⟨by decide +kernel, rfl⟩
theorem dX12_draw_78 : dc cX12_draw 78 .iaload 1 79 := ⟨by decide +kernel, rfl⟩
theorem dX12_draw_79 : dc cX12_draw 79 .iaload 1 80 := ⟨by decide +kernel, rfl⟩
theorem dX12_draw_80 : dc cX12_draw 80 .iadd 1 81 := ⟨by decide +kernel, rfl⟩
theorem dX12_draw_81 : dIs cX12_draw 81 7 83 := Or.inr ⟨by decide +kernel, rfl⟩
theorem dX12_draw_83 : dc cX12_draw 83 (.iinc 8 1) 3 86 := ⟨by decide +kernel, rfl⟩
theorem dX12_draw_86 : dj cX12_draw 86 .goto 48 89 := ⟨(-38), by decide +kernel, by decide, rfl⟩
theorem dX12_draw_89 : dLl cX12_draw 89 3 90 := ⟨3, rfl, by decide +kernel, rfl⟩
theorem dX12_draw_90 : dIl cX12_draw 90 5 92 := Or.inr ⟨by decide +kernel, rfl⟩
theorem dX12_draw_92 : dc cX12_draw 92 (.invokestatic 130) 3 95 := ⟨by decide +kernel, rfl⟩
theorem dX12_draw_95 : dIl cX12_draw 95 7 97 := Or.inr ⟨by decide +kernel, rfl⟩
theorem dX12_draw_97 : dc cX12_draw 97 (.invokestatic 134) 3 100 := ⟨by decide +kernel, rfl⟩
theorem dX12_draw_100 : dIs cX12_draw 100 8 102 := Or.inr ⟨by decide +kernel, rfl⟩
theorem dX12_draw_102 : dKc cX12_draw 102 0 103 := Or.inl ⟨0, by decide +kernel, by decide +kernel, rfl⟩
theorem dX12_draw_103 : dIs cX12_draw 103 9 105 := Or.inr ⟨by decide +kernel, rfl⟩
theorem dX12_draw_105 : dIl cX12_draw 105 8 107 := Or.inr ⟨by decide +kernel, rfl⟩
theorem dX12_draw_107 : dAl cX12_draw 107 0 108 := Or.inl ⟨0, rfl, by decide +kernel, rfl⟩
theorem dX12_draw_108 : dc cX12_draw 108 (.getfield 20) 3 111 := ⟨by decide +kernel, rfl⟩
theorem dX12_draw_111 : dAl cX12_draw 111 0 112 := Or.inl ⟨0, rfl, by decide +kernel, rfl⟩
theorem dX12_draw_112 : dc cX12_draw 112 (.getfield 29) 3 115 := ⟨by decide +kernel, rfl⟩
theorem dX12_draw_115 : dKc cX12_draw 115 60 117 := Or.inr (Or.inl ⟨60, by decide +kernel, by decide +kernel, rfl⟩)
theorem dX12_draw_117 : dIl cX12_draw 117 6 119 := Or.inr ⟨by decide +kernel, rfl⟩
theorem dX12_draw_119 : dc cX12_draw 119 .imul 1 120 := ⟨by decide +kernel, rfl⟩
theorem dX12_draw_120 : dIl cX12_draw 120 9 122 := Or.inr ⟨by decide +kernel, rfl⟩
theorem dX12_draw_122 : dc cX12_draw 122 .iadd 1 123 := ⟨by decide +kernel, rfl⟩
theorem dX12_draw_123 : dc cX12_draw 123 .iaload 1 124 := ⟨by decide +kernel, rfl⟩
theorem dX12_draw_124 : dc cX12_draw 124 .iaload 1 125 := ⟨by decide +kernel, rfl⟩
theorem dX12_draw_125 : dj cX12_draw 125 (.if_icmp .lt) 157 128 := ⟨32, by decide +kernel, by decide, rfl⟩
theorem dX12_draw_128 : dIl cX12_draw 128 8 130 := Or.inr ⟨by decide +kernel, rfl⟩
theorem dX12_draw_130 : dAl cX12_draw 130 0 131 := Or.inl ⟨0, rfl, by decide +kernel, rfl⟩
theorem dX12_draw_131 : dc cX12_draw 131 (.getfield 20) 3 134 := ⟨by decide +kernel, rfl⟩
theorem dX12_draw_134 : dAl cX12_draw 134 0 135 := Or.inl ⟨0, rfl, by decide +kernel, rfl⟩
theorem dX12_draw_135 : dc cX12_draw 135 (.getfield 29) 3 138 := ⟨by decide +kernel, rfl⟩
theorem dX12_draw_138 : dKc cX12_draw 138 60 140 := Or.inr (Or.inl ⟨60, by decide +kernel, by decide +kernel, rfl⟩)
theorem dX12_draw_140 : dIl cX12_draw 140 6 142 := Or.inr ⟨by decide +kernel, rfl⟩
theorem dX12_draw_142 : dc cX12_draw 142 .imul 1 143 := ⟨by decide +kernel, rfl⟩
theorem dX12_draw_143 : dIl cX12_draw 143 9 145 := Or.inr ⟨by decide +kernel, rfl⟩
theorem dX12_draw_145 : dc cX12_draw 145 .iadd 1 146 := ⟨by decide +kernel, rfl⟩
theorem dX12_draw_146 : dc cX12_draw 146 .iaload 1 147 := ⟨by decide +kernel, rfl⟩
theorem dX12_draw_147 : dc cX12_draw 147 .iaload 1 148 := ⟨by decide +kernel, rfl⟩
theorem dX12_draw_148 : dc cX12_draw 148 .isub 1 149 := ⟨by decide +kernel, rfl⟩
theorem dX12_draw_149 : dIs cX12_draw 149 8 151 := Or.inr ⟨by decide +kernel, rfl⟩
theorem dX12_draw_151 : dc cX12_draw 151 (.iinc 9 1) 3 154 := ⟨by decide +kernel, rfl⟩
theorem dX12_draw_154 : dj cX12_draw 154 .goto 105 157 := ⟨(-49), by decide +kernel, by decide, rfl⟩
theorem dX12_draw_157 : dAl cX12_draw 157 0 158 := Or.inl ⟨0, rfl, by decide +kernel, rfl⟩
theorem dX12_draw_158 : dc cX12_draw 158 (.getfield 29) 3 161 := ⟨by decide +kernel, rfl⟩
theorem dX12_draw_161 : dKc cX12_draw 161 60 163 := Or.inr (Or.inl ⟨60, by decide +kernel, by decide +kernel, rfl⟩)
theorem dX12_draw_163 : dIl cX12_draw 163 6 165 := Or.inr ⟨by decide +kernel, rfl⟩
theorem dX12_draw_165 : dc cX12_draw 165 .imul 1 166 := ⟨by decide +kernel, rfl⟩
theorem dX12_draw_166 : dIl cX12_draw 166 9 168 := Or.inr ⟨by decide +kernel, rfl⟩
theorem dX12_draw_168 : dc cX12_draw 168 .iadd 1 169 := ⟨by decide +kernel, rfl⟩
theorem dX12_draw_169 : dc cX12_draw 169 .iaload 1 170 := ⟨by decide +kernel, rfl⟩
theorem dX12_draw_170 : dIs cX12_draw 170 10 172 := Or.inr ⟨by decide +kernel, rfl⟩
theorem dX12_draw_172 : dAl cX12_draw 172 0 173 := Or.inl ⟨0, rfl, by decide +kernel, rfl⟩
theorem dX12_draw_173 : dc cX12_draw 173 (.getfield 23) 3 176 := ⟨by decide +kernel, rfl⟩
theorem dX12_draw_176 : dIl cX12_draw 176 10 178 := Or.inr ⟨by decide +kernel, rfl⟩
theorem dX12_draw_178 : dc cX12_draw 178 .dup2 1 179 := ⟨by decide +kernel, rfl⟩
theorem dX12_draw_179 : dc cX12_draw 179 .iaload 1 180 := ⟨by decide +kernel, rfl⟩
theorem dX12_draw_180 : dKc cX12_draw 180 1 181 := Or.inl ⟨1, by decide +kernel, by decide +kernel, rfl⟩
theorem dX12_draw_181 : dc cX12_draw 181 .iadd 1 182 := ⟨by decide +kernel, rfl⟩
theorem dX12_draw_182 : dc cX12_draw 182 .iastore 1 183 := ⟨by decide +kernel, rfl⟩
theorem dX12_draw_183 : dAl cX12_draw 183 0 184 := Or.inl ⟨0, rfl, by decide +kernel, rfl⟩
theorem dX12_draw_184 : dc cX12_draw 184 .dup 1 185 := ⟨by decide +kernel, rfl⟩
theorem dX12_draw_185 : dc cX12_draw 185 (.getfield 149) 3 188 := ⟨by decide +kernel, rfl⟩
theorem dX12_draw_188 : dKc cX12_draw 188 1 189 := Or.inl ⟨1, by decide +kernel, by decide +kernel, rfl⟩
theorem dX12_draw_189 : dc cX12_draw 189 .iadd 1 190 := ⟨by decide +kernel, rfl⟩
theorem dX12_draw_190 : dc cX12_draw 190 (.putfield 149) 3 193 := ⟨by decide +kernel, rfl⟩
theorem dX12_draw_193 : dAl cX12_draw 193 0 194 := Or.inl ⟨0, rfl, by decide +kernel, rfl⟩
theorem dX12_draw_194 : dIl cX12_draw 194 10 196 := Or.inr ⟨by decide +kernel, rfl⟩
theorem dX12_draw_196 : dc cX12_draw 196 (.invokevirtual 141) 3 199 := ⟨by decide +kernel, rfl⟩
theorem dX12_draw_199 : dAl cX12_draw 199 0 200 := Or.inl ⟨0, rfl, by decide +kernel, rfl⟩
theorem dX12_draw_200 : dc cX12_draw 200 .dup 1 201 := ⟨by decide +kernel, rfl⟩
theorem dX12_draw_201 : dc cX12_draw 201 (.getfield 138) 3 204 := ⟨by decide +kernel, rfl⟩
theorem dX12_draw_204 : dKc cX12_draw 204 1 205 := Or.inl ⟨1, by decide +kernel, by decide +kernel, rfl⟩
theorem dX12_draw_205 : dc cX12_draw 205 .iadd 1 206 := ⟨by decide +kernel, rfl⟩
theorem dX12_draw_206 : dc cX12_draw 206 (.putfield 138) 3 209 := ⟨by decide +kernel, rfl⟩
theorem dX12_draw_209 : dIl cX12_draw 209 10 211 := Or.inr ⟨by decide +kernel, rfl⟩
theorem dX12_draw_211 : dc cX12_draw 211 .ireturn 1 212 := ⟨by decide +kernel, rfl⟩
theorem dX12_familyOf_0 : dIl cX12_familyOf 0 1 1 := Or.inl ⟨1, rfl, by decide +kernel, rfl⟩
theorem dX12_familyOf_1 : dKc cX12_familyOf 1 (-1) 2 := Or.inl ⟨(-1), by decide +kernel, by decide +kernel, rfl⟩
theorem dX12_familyOf_2 : dj cX12_familyOf 2 (.if_icmp .ne) 9 5 := ⟨7, by decide +kernel, by decide, rfl⟩
theorem dX12_familyOf_5 : dKc cX12_familyOf 5 0 6 := Or.inl ⟨0, by decide +kernel, by decide +kernel, rfl⟩
theorem dX12_familyOf_6 : dj cX12_familyOf 6 .goto 37 9 := ⟨31, by decide +kernel, by decide, rfl⟩
theorem dX12_familyOf_9 : dIl cX12_familyOf 9 1 10 := Or.inl ⟨1, rfl, by decide +kernel, rfl⟩
theorem dX12_familyOf_10 : dKc cX12_familyOf 10 100 12 := Or.inr (Or.inl ⟨100, by decide +kernel, by decide +kernel, rfl⟩)
theorem dX12_familyOf_12 : dj cX12_familyOf 12 (.if_icmp .ge) 26 15 := ⟨14, by decide +kernel, by decide, rfl⟩
theorem dX12_familyOf_15 : dKc cX12_familyOf 15 1 16 := Or.inl ⟨1, by decide +kernel, by decide +kernel, rfl⟩
theorem dX12_familyOf_16 : dAl cX12_familyOf 16 0 17 := Or.inl ⟨0, rfl, by decide +kernel, rfl⟩
theorem dX12_familyOf_17 : dc cX12_familyOf 17 (.getfield 17) 3 20 := ⟨by decide +kernel, rfl⟩
theorem dX12_familyOf_20 : dIl cX12_familyOf 20 1 21 := Or.inl ⟨1, rfl, by decide +kernel, rfl⟩
theorem dX12_familyOf_21 : dc cX12_familyOf 21 .iaload 1 22 := ⟨by decide +kernel, rfl⟩
theorem dX12_familyOf_22 : dc cX12_familyOf 22 .iadd 1 23 := ⟨by decide +kernel, rfl⟩
theorem dX12_familyOf_23 : dj cX12_familyOf 23 .goto 37 26 := ⟨14, by decide +kernel, by decide, rfl⟩
theorem dX12_familyOf_26 : dIl cX12_familyOf 26 1 27 := Or.inl ⟨1, rfl, by decide +kernel, rfl⟩
theorem dX12_familyOf_27 : dc cX12_familyOf 27 (.ldc 152) 2 29 := ⟨by decide +kernel, rfl⟩
theorem dX12_familyOf_29 : dj cX12_familyOf 29 (.if_icmp .ge) 36 32 := ⟨7, by decide +kernel, by decide, rfl⟩
theorem dX12_familyOf_32 : dKc cX12_familyOf 32 4 33 := Or.inl ⟨4, by decide +kernel, by decide +kernel, rfl⟩
theorem dX12_familyOf_33 : dj cX12_familyOf 33 .goto 37 36 := ⟨4, by decide +kernel, by decide, rfl⟩
theorem dX12_familyOf_36 : dKc cX12_familyOf 36 5 37 := Or.inl ⟨5, by decide +kernel, by decide +kernel, rfl⟩
theorem dX12_familyOf_37 : dc cX12_familyOf 37 .ireturn 1 38 := ⟨by decide +kernel, rfl⟩
theorem dX12_hold_0 : dIl cX12_hold 0 1 1 := Or.inl ⟨1, rfl, by decide +kernel, rfl⟩
theorem dX12_hold_1 : dc cX12_hold 1 (.invokestatic 153) 3 4 := ⟨by decide +kernel, rfl⟩
theorem dX12_hold_4 : dj cX12_hold 4 (.ifCond .eq) 15 7 := ⟨11, by decide +kernel, by decide, rfl⟩
theorem dX12_hold_7 : dAl cX12_hold 7 0 8 := Or.inl ⟨0, rfl, by decide +kernel, rfl⟩
theorem dX12_hold_8 : dIl cX12_hold 8 2 9 := Or.inl ⟨2, rfl, by decide +kernel, rfl⟩
theorem dX12_hold_9 : dc cX12_hold 9 (.invokevirtual 116) 3 12 := ⟨by decide +kernel, rfl⟩
theorem dX12_hold_12 : dj cX12_hold 12 (.ifCond .ne) 17 15 := ⟨5, by decide +kernel, by decide, rfl⟩
theorem dX12_hold_15 : dKc cX12_hold 15 (-1) 16 := Or.inl ⟨(-1), by decide +kernel, by decide +kernel, rfl⟩
theorem dX12_hold_16 : dc cX12_hold 16 .ireturn 1 17 := ⟨by decide +kernel, rfl⟩
theorem dX12_hold_17 : dAl cX12_hold 17 0 18 := Or.inl ⟨0, rfl, by decide +kernel, rfl⟩
theorem dX12_hold_18 : dc cX12_hold 18 (.getfield 47) 3 21 := ⟨by decide +kernel, rfl⟩
theorem dX12_hold_21 : dIl cX12_hold 21 1 22 := Or.inl ⟨1, rfl, by decide +kernel, rfl⟩
theorem dX12_hold_22 : dIl cX12_hold 22 2 23 := Or.inl ⟨2, rfl, by decide +kernel, rfl⟩
theorem dX12_hold_23 : dc cX12_hold 23 .iastore 1 24 := ⟨by decide +kernel, rfl⟩
theorem dX12_hold_24 : dAl cX12_hold 24 0 25 := Or.inl ⟨0, rfl, by decide +kernel, rfl⟩
theorem dX12_hold_25 : dIl cX12_hold 25 2 26 := Or.inl ⟨2, rfl, by decide +kernel, rfl⟩
theorem dX12_hold_26 : dc cX12_hold 26 (.invokevirtual 141) 3 29 := ⟨by decide +kernel, rfl⟩
theorem dX12_hold_29 : dAl cX12_hold 29 0 30 := Or.inl ⟨0, rfl, by decide +kernel, rfl⟩
theorem dX12_hold_30 : dc cX12_hold 30 .dup 1 31 := ⟨by decide +kernel, rfl⟩
theorem dX12_hold_31 : dc cX12_hold 31 (.getfield 138) 3 34 := ⟨by decide +kernel, rfl⟩
theorem dX12_hold_34 : dKc cX12_hold 34 1 35 := Or.inl ⟨1, by decide +kernel, by decide +kernel, rfl⟩
theorem dX12_hold_35 : dc cX12_hold 35 .iadd 1 36 := ⟨by decide +kernel, rfl⟩
theorem dX12_hold_36 : dc cX12_hold 36 (.putfield 138) 3 39 := ⟨by decide +kernel, rfl⟩
theorem dX12_hold_39 : dAl cX12_hold 39 0 40 := Or.inl ⟨0, rfl, by decide +kernel, rfl⟩
theorem dX12_hold_40 : dc cX12_hold 40 (.getfield 7) 3 43 := ⟨by decide +kernel, rfl⟩
theorem dX12_hold_43 : dIl cX12_hold 43 2 44 := Or.inl ⟨2, rfl, by decide +kernel, rfl⟩
theorem dX12_hold_44 : dc cX12_hold 44 .iaload 1 45 := ⟨by decide +kernel, rfl⟩
theorem dX12_hold_45 : dc cX12_hold 45 .ireturn 1 46 := ⟨by decide +kernel, rfl⟩
theorem dX12_row_0 : dIl cX12_row 0 1 1 := Or.inl ⟨1, rfl, by decide +kernel, rfl⟩
theorem dX12_row_1 : dc cX12_row 1 (.invokestatic 153) 3 4 := ⟨by decide +kernel, rfl⟩
theorem dX12_row_4 : dj cX12_row 4 (.ifCond .eq) 23 7 := ⟨19, by decide +kernel, by decide, rfl⟩
theorem dX12_row_7 : dIl cX12_row 7 2 8 := Or.inl ⟨2, rfl, by decide +kernel, rfl⟩
theorem dX12_row_8 : dKc cX12_row 8 (-3) 10 := Or.inr (Or.inl ⟨(-3), by decide +kernel, by decide +kernel, rfl⟩)
theorem dX12_row_10 : dj cX12_row 10 (.if_icmp .eq) 25 13 := ⟨15, by decide +kernel, by decide, rfl⟩
theorem dX12_row_13 : dIl cX12_row 13 2 14 := Or.inl ⟨2, rfl, by decide +kernel, rfl⟩
theorem dX12_row_14 : dKc cX12_row 14 0 15 := Or.inl ⟨0, by decide +kernel, by decide +kernel, rfl⟩
theorem dX12_row_15 : dKc cX12_row 15 12 17 := Or.inr (Or.inl ⟨12, by decide +kernel, by decide +kernel, rfl⟩)
theorem dX12_row_17 : dc cX12_row 17 (.invokestatic 96) 3 20 := ⟨by decide +kernel, rfl⟩
theorem dX12_row_20 : dj cX12_row 20 (.ifCond .ne) 25 23 := ⟨5, by decide +kernel, by decide, rfl⟩
theorem dX12_row_23 : dKc cX12_row 23 (-1) 24 := Or.inl ⟨(-1), by decide +kernel, by decide +kernel, rfl⟩
theorem dX12_row_24 : dc cX12_row 24 .ireturn 1 25 := ⟨by decide +kernel, rfl⟩
theorem dX12_row_25 : dIl cX12_row 25 2 26 := Or.inl ⟨2, rfl, by decide +kernel, rfl⟩
theorem dX12_row_26 : dKc cX12_row 26 (-3) 28 := Or.inr (Or.inl ⟨(-3), by decide +kernel, by decide +kernel, rfl⟩)
theorem dX12_row_28 : dj cX12_row 28 (.if_icmp .ne) 40 31 := ⟨12, by decide +kernel, by decide, rfl⟩
theorem dX12_row_31 : dAl cX12_row 31 0 32 := Or.inl ⟨0, rfl, by decide +kernel, rfl⟩
theorem dX12_row_32 : dc cX12_row 32 (.getfield 47) 3 35 := ⟨by decide +kernel, rfl⟩
theorem dX12_row_35 : dIl cX12_row 35 1 36 := Or.inl ⟨1, rfl, by decide +kernel, rfl⟩
theorem dX12_row_36 : dKc cX12_row 36 (-1) 37 := Or.inl ⟨(-1), by decide +kernel, by decide +kernel, rfl⟩
theorem dX12_row_37 : dc cX12_row 37 .iastore 1 38 := ⟨by decide +kernel, rfl⟩
theorem dX12_row_38 : dKc cX12_row 38 1 39 := Or.inl ⟨1, by decide +kernel, by decide +kernel, rfl⟩
theorem dX12_row_39 : dc cX12_row 39 .ireturn 1 40 := ⟨by decide +kernel, rfl⟩
theorem dX12_row_40 : dAl cX12_row 40 0 41 := Or.inl ⟨0, rfl, by decide +kernel, rfl⟩
theorem dX12_row_41 : dc cX12_row 41 (.getfield 32) 3 44 := ⟨by decide +kernel, rfl⟩
theorem dX12_row_44 : dAl cX12_row 44 0 45 := Or.inl ⟨0, rfl, by decide +kernel, rfl⟩
theorem dX12_row_45 : dc cX12_row 45 (.getfield 156) 3 48 := ⟨by decide +kernel, rfl⟩
theorem dX12_row_48 : dIl cX12_row 48 2 49 := Or.inl ⟨2, rfl, by decide +kernel, rfl⟩
theorem dX12_row_49 : dc cX12_row 49 .iastore 1 50 := ⟨by decide +kernel, rfl⟩
theorem dX12_row_50 : dKc cX12_row 50 0 51 := Or.inl ⟨0, by decide +kernel, by decide +kernel, rfl⟩
theorem dX12_row_51 : dIs cX12_row 51 3 52 := Or.inl ⟨3, rfl, by decide +kernel, rfl⟩
theorem dX12_row_52 : dIl cX12_row 52 3 53 := Or.inl ⟨3, rfl, by decide +kernel, rfl⟩
theorem dX12_row_53 : dKc cX12_row 53 12 55 := Or.inr (Or.inl ⟨12, by decide +kernel, by decide +kernel, rfl⟩)
theorem dX12_row_55 : dj cX12_row 55 (.if_icmp .ge) 79 58 := ⟨24, by decide +kernel, by decide, rfl⟩
theorem dX12_row_58 : dAl cX12_row 58 0 59 := Or.inl ⟨0, rfl, by decide +kernel, rfl⟩
theorem dX12_row_59 : dc cX12_row 59 (.getfield 35) 3 62 := ⟨by decide +kernel, rfl⟩
theorem dX12_row_62 : dKc cX12_row 62 12 64 := Or.inr (Or.inl ⟨12, by decide +kernel, by decide +kernel, rfl⟩)
theorem dX12_row_64 : dAl cX12_row 64 0 65 := Or.inl ⟨0, rfl, by decide +kernel, rfl⟩
theorem dX12_row_65 : dc cX12_row 65 (.getfield 156) 3 68 := ⟨by decide +kernel, rfl⟩
theorem dX12_row_68 : dc cX12_row 68 .imul 1 69 := ⟨by decide +kernel, rfl⟩
theorem dX12_row_69 : dIl cX12_row 69 3 70 := Or.inl ⟨3, rfl, by decide +kernel, rfl⟩
theorem dX12_row_70 : dc cX12_row 70 .iadd 1 71 := ⟨by decide +kernel, rfl⟩
theorem dX12_row_71 : dKc cX12_row 71 0 72 := Or.inl ⟨0, by decide +kernel, by decide +kernel, rfl⟩
theorem dX12_row_72 : dc cX12_row 72 .iastore 1 73 := ⟨by decide +kernel, rfl⟩
theorem dX12_row_73 : dc cX12_row 73 (.iinc 3 1) 3 76 := ⟨by decide +kernel, rfl⟩
theorem dX12_row_76 : dj cX12_row 76 .goto 52 79 := ⟨(-24), by decide +kernel, by decide, rfl⟩
theorem dX12_row_79 : dAl cX12_row 79 0 80 := Or.inl ⟨0, rfl, by decide +kernel, rfl⟩
theorem dX12_row_80 : dc cX12_row 80 (.getfield 47) 3 83 := ⟨by decide +kernel, rfl⟩
theorem dX12_row_83 : dIl cX12_row 83 1 84 := Or.inl ⟨1, rfl, by decide +kernel, rfl⟩
theorem dX12_row_84 : dKc cX12_row 84 100 86 := Or.inr (Or.inl ⟨100, by decide +kernel, by decide +kernel, rfl⟩)
theorem dX12_row_86 : dAl cX12_row 86 0 87 := Or.inl ⟨0, rfl, by decide +kernel, rfl⟩
theorem dX12_row_87 : dc cX12_row 87 (.getfield 156) 3 90 := ⟨by decide +kernel, rfl⟩
theorem dX12_row_90 : dc cX12_row 90 .iadd 1 91 := ⟨by decide +kernel, rfl⟩
theorem dX12_row_91 : dc cX12_row 91 .iastore 1 92 := ⟨by decide +kernel, rfl⟩
theorem dX12_row_92 : dAl cX12_row 92 0 93 := Or.inl ⟨0, rfl, by decide +kernel, rfl⟩
theorem dX12_row_93 : dc cX12_row 93 .dup 1 94 := ⟨by decide +kernel, rfl⟩
theorem dX12_row_94 : dc cX12_row 94 (.getfield 156) 3 97 := ⟨by decide +kernel, rfl⟩
theorem dX12_row_97 : dKc cX12_row 97 1 98 := Or.inl ⟨1, by decide +kernel, by decide +kernel, rfl⟩
theorem dX12_row_98 : dc cX12_row 98 .iadd 1 99 := ⟨by decide +kernel, rfl⟩
theorem dX12_row_99 : dc cX12_row 99 (.putfield 156) 3 102 := ⟨by decide +kernel, rfl⟩
theorem dX12_row_102 : dKc cX12_row 102 1 103 := Or.inl ⟨1, by decide +kernel, by decide +kernel, rfl⟩
theorem dX12_row_103 : dc cX12_row 103 .ireturn 1 104 := ⟨by decide +kernel, rfl⟩
theorem dX12_item_0 : dIl cX12_item 0 1 1 := Or.inl ⟨1, rfl, by decide +kernel, rfl⟩
theorem dX12_item_1 : dc cX12_item 1 (.invokestatic 153) 3 4 := ⟨by decide +kernel, rfl⟩
theorem dX12_item_4 : dj cX12_item 4 (.ifCond .eq) 21 7 := ⟨17, by decide +kernel, by decide, rfl⟩
theorem dX12_item_7 : dAl cX12_item 7 0 8 := Or.inl ⟨0, rfl, by decide +kernel, rfl⟩
theorem dX12_item_8 : dAl cX12_item 8 0 9 := Or.inl ⟨0, rfl, by decide +kernel, rfl⟩
theorem dX12_item_9 : dc cX12_item 9 (.getfield 47) 3 12 := ⟨by decide +kernel, rfl⟩
theorem dX12_item_12 : dIl cX12_item 12 1 13 := Or.inl ⟨1, rfl, by decide +kernel, rfl⟩
theorem dX12_item_13 : dc cX12_item 13 .iaload 1 14 := ⟨by decide +kernel, rfl⟩
theorem dX12_item_14 : dc cX12_item 14 (.invokevirtual 159) 3 17 := ⟨by decide +kernel, rfl⟩
theorem dX12_item_17 : dKc cX12_item 17 4 18 := Or.inl ⟨4, by decide +kernel, by decide +kernel, rfl⟩
theorem dX12_item_18 : dj cX12_item 18 (.if_icmp .eq) 23 21 := ⟨5, by decide +kernel, by decide, rfl⟩
theorem dX12_item_21 : dKc cX12_item 21 (-1) 22 := Or.inl ⟨(-1), by decide +kernel, by decide +kernel, rfl⟩
theorem dX12_item_22 : dc cX12_item 22 .ireturn 1 23 := ⟨by decide +kernel, rfl⟩
theorem dX12_item_23 : dAl cX12_item 23 0 24 := Or.inl ⟨0, rfl, by decide +kernel, rfl⟩
theorem dX12_item_24 : dc cX12_item 24 (.getfield 47) 3 27 := ⟨by decide +kernel, rfl⟩
theorem dX12_item_27 : dIl cX12_item 27 1 28 := Or.inl ⟨1, rfl, by decide +kernel, rfl⟩
theorem dX12_item_28 : dc cX12_item 28 .iaload 1 29 := ⟨by decide +kernel, rfl⟩
theorem dX12_item_29 : dKc cX12_item 29 100 31 := Or.inr (Or.inl ⟨100, by decide +kernel, by decide +kernel, rfl⟩)
theorem dX12_item_31 : dc cX12_item 31 .isub 1 32 := ⟨by decide +kernel, rfl⟩
theorem dX12_item_32 : dIs cX12_item 32 4 34 := Or.inr ⟨by decide +kernel, rfl⟩
theorem dX12_item_34 : dIl cX12_item 34 2 35 := Or.inl ⟨2, rfl, by decide +kernel, rfl⟩
theorem dX12_item_35 : dKc cX12_item 35 0 36 := Or.inl ⟨0, by decide +kernel, by decide +kernel, rfl⟩
theorem dX12_item_36 : dAl cX12_item 36 0 37 := Or.inl ⟨0, rfl, by decide +kernel, rfl⟩
theorem dX12_item_37 : dc cX12_item 37 (.getfield 32) 3 40 := ⟨by decide +kernel, rfl⟩
theorem dX12_item_40 : dIl cX12_item 40 4 42 := Or.inr ⟨by decide +kernel, rfl⟩
theorem dX12_item_42 : dc cX12_item 42 .iaload 1 43 := ⟨by decide +kernel, rfl⟩
theorem dX12_item_43 : dKc cX12_item 43 1 44 := Or.inl ⟨1, by decide +kernel, by decide +kernel, rfl⟩
theorem dX12_item_44 : dc cX12_item 44 .isub 1 45 := ⟨by decide +kernel, rfl⟩
theorem dX12_item_45 : dc cX12_item 45 (.invokestatic 96) 3 48 := ⟨by decide +kernel, rfl⟩
theorem dX12_item_48 : dj cX12_item 48 (.ifCond .ne) 53 51 := ⟨5, by decide +kernel, by decide, rfl⟩
theorem dX12_item_51 : dKc cX12_item 51 (-1) 52 := Or.inl ⟨(-1), by decide +kernel, by decide +kernel, rfl⟩
theorem dX12_item_52 : dc cX12_item 52 .ireturn 1 53 := ⟨by decide +kernel, rfl⟩
theorem dX12_item_53 : dAl cX12_item 53 0 54 := Or.inl ⟨0, rfl, by decide +kernel, rfl⟩
theorem dX12_item_54 : dc cX12_item 54 (.getfield 35) 3 57 := ⟨by decide +kernel, rfl⟩
theorem dX12_item_57 : dKc cX12_item 57 12 59 := Or.inr (Or.inl ⟨12, by decide +kernel, by decide +kernel, rfl⟩)
theorem dX12_item_59 : dIl cX12_item 59 4 61 := Or.inr ⟨by decide +kernel, rfl⟩
theorem dX12_item_61 : dc cX12_item 61 .imul 1 62 := ⟨by decide +kernel, rfl⟩
theorem dX12_item_62 : dIl cX12_item 62 2 63 := Or.inl ⟨2, rfl, by decide +kernel, rfl⟩
theorem dX12_item_63 : dc cX12_item 63 .iadd 1 64 := ⟨by decide +kernel, rfl⟩
theorem dX12_item_64 : dc cX12_item 64 .iaload 1 65 := ⟨by decide +kernel, rfl⟩
theorem dX12_item_65 : dIs cX12_item 65 5 67 := Or.inr ⟨by decide +kernel, rfl⟩
theorem dX12_item_67 : dAl cX12_item 67 0 68 := Or.inl ⟨0, rfl, by decide +kernel, rfl⟩
theorem dX12_item_68 : dc cX12_item 68 (.getfield 35) 3 71 := ⟨by decide +kernel, rfl⟩
theorem dX12_item_71 : dKc cX12_item 71 12 73 := Or.inr (Or.inl ⟨12, by decide +kernel, by decide +kernel, rfl⟩)
theorem dX12_item_73 : dIl cX12_item 73 4 75 := Or.inr ⟨by decide +kernel, rfl⟩
theorem dX12_item_75 : dc cX12_item 75 .imul 1 76 := ⟨by decide +kernel, rfl⟩
theorem dX12_item_76 : dIl cX12_item 76 2 77 := Or.inl ⟨2, rfl, by decide +kernel, rfl⟩
theorem dX12_item_77 : dc cX12_item 77 .iadd 1 78 := ⟨by decide +kernel, rfl⟩
theorem dX12_item_78 : dIl cX12_item 78 3 79 := Or.inl ⟨3, rfl, by decide +kernel, rfl⟩
theorem dX12_item_79 : dc cX12_item 79 .iastore 1 80 := ⟨by decide +kernel, rfl⟩
theorem dX12_item_80 : dIl cX12_item 80 5 82 := Or.inr ⟨by decide +kernel, rfl⟩
theorem dX12_item_82 : dc cX12_item 82 .ireturn 1 83 := ⟨by decide +kernel, rfl⟩
theorem dX12_share_0 : dIl cX12_share 0 1 1 := Or.inl ⟨1, rfl, by decide +kernel, rfl⟩
theorem dX12_share_1 : dc cX12_share 1 (.invokestatic 153) 3 4 := ⟨by decide +kernel, rfl⟩
theorem dX12_share_4 : dj cX12_share 4 (.ifCond .eq) 14 7 := ⟨10, by decide +kernel, by decide, rfl⟩
theorem dX12_share_7 : dIl cX12_share 7 2 8 := Or.inl ⟨2, rfl, by decide +kernel, rfl⟩
theorem dX12_share_8 : dc cX12_share 8 (.invokestatic 153) 3 11 := ⟨by decide +kernel, rfl⟩
theorem dX12_share_11 : dj cX12_share 11 (.ifCond .ne) 16 14 := ⟨5, by decide +kernel, by decide, rfl⟩
theorem dX12_share_14 : dKc cX12_share 14 (-1) 15 := Or.inl ⟨(-1), by decide +kernel, by decide +kernel, rfl⟩
theorem dX12_share_15 : dc cX12_share 15 .ireturn 1 16 := ⟨by decide +kernel, rfl⟩
theorem dX12_share_16 : dAl cX12_share 16 0 17 := Or.inl ⟨0, rfl, by decide +kernel, rfl⟩
theorem dX12_share_17 : dc cX12_share 17 (.getfield 47) 3 20 := ⟨by decide +kernel, rfl⟩
theorem dX12_share_20 : dIl cX12_share 20 1 21 := Or.inl ⟨1, rfl, by decide +kernel, rfl⟩
theorem dX12_share_21 : dAl cX12_share 21 0 22 := Or.inl ⟨0, rfl, by decide +kernel, rfl⟩
theorem dX12_share_22 : dc cX12_share 22 (.getfield 47) 3 25 := ⟨by decide +kernel, rfl⟩
theorem dX12_share_25 : dIl cX12_share 25 2 26 := Or.inl ⟨2, rfl, by decide +kernel, rfl⟩
theorem dX12_share_26 : dc cX12_share 26 .iaload 1 27 := ⟨by decide +kernel, rfl⟩
theorem dX12_share_27 : dc cX12_share 27 .iastore 1 28 := ⟨by decide +kernel, rfl⟩
theorem dX12_share_28 : dAl cX12_share 28 0 29 := Or.inl ⟨0, rfl, by decide +kernel, rfl⟩
theorem dX12_share_29 : dAl cX12_share 29 0 30 := Or.inl ⟨0, rfl, by decide +kernel, rfl⟩
theorem dX12_share_30 : dc cX12_share 30 (.getfield 47) 3 33 := ⟨by decide +kernel, rfl⟩
theorem dX12_share_33 : dIl cX12_share 33 1 34 := Or.inl ⟨1, rfl, by decide +kernel, rfl⟩
theorem dX12_share_34 : dc cX12_share 34 .iaload 1 35 := ⟨by decide +kernel, rfl⟩
theorem dX12_share_35 : dc cX12_share 35 (.invokevirtual 159) 3 38 := ⟨by decide +kernel, rfl⟩
theorem dX12_share_38 : dc cX12_share 38 .ireturn 1 39 := ⟨by decide +kernel, rfl⟩
theorem dX12_family_0 : dIl cX12_family 0 1 1 := Or.inl ⟨1, rfl, by decide +kernel, rfl⟩
theorem dX12_family_1 : dc cX12_family 1 (.invokestatic 153) 3 4 := ⟨by decide +kernel, rfl⟩
theorem dX12_family_4 : dj cX12_family 4 (.ifCond .eq) 20 7 := ⟨16, by decide +kernel, by decide, rfl⟩
theorem dX12_family_7 : dAl cX12_family 7 0 8 := Or.inl ⟨0, rfl, by decide +kernel, rfl⟩
theorem dX12_family_8 : dAl cX12_family 8 0 9 := Or.inl ⟨0, rfl, by decide +kernel, rfl⟩
theorem dX12_family_9 : dc cX12_family 9 (.getfield 47) 3 12 := ⟨by decide +kernel, rfl⟩
theorem dX12_family_12 : dIl cX12_family 12 1 13 := Or.inl ⟨1, rfl, by decide +kernel, rfl⟩
theorem dX12_family_13 : dc cX12_family 13 .iaload 1 14 := ⟨by decide +kernel, rfl⟩
theorem dX12_family_14 : dc cX12_family 14 (.invokevirtual 159) 3 17 := ⟨by decide +kernel, rfl⟩
theorem dX12_family_17 : dj cX12_family 17 .goto 21 20 := ⟨4, by decide +kernel, by decide, rfl⟩
theorem dX12_family_20 : dKc cX12_family 20 (-1) 21 := Or.inl ⟨(-1), by decide +kernel, by decide +kernel, rfl⟩
theorem dX12_family_21 : dc cX12_family 21 .ireturn 1 22 := ⟨by decide +kernel, rfl⟩
theorem dX12_is_0 : dIl cX12_is 0 1 1 := Or.inl ⟨1, rfl, by decide +kernel, rfl⟩
theorem dX12_is_1 : dc cX12_is 1 (.invokestatic 153) 3 4 := ⟨by decide +kernel, rfl⟩
theorem dX12_is_4 : dj cX12_is 4 (.ifCond .eq) 16 7 := ⟨12, by decide +kernel, by decide, rfl⟩
theorem dX12_is_7 : dIl cX12_is 7 2 8 := Or.inl ⟨2, rfl, by decide +kernel, rfl⟩
theorem dX12_is_8 : dKc cX12_is 8 1 9 := Or.inl ⟨1, by decide +kernel, by decide +kernel, rfl⟩
theorem dX12_is_9 : dKc cX12_is 9 5 10 := Or.inl ⟨5, by decide +kernel, by decide +kernel, rfl⟩
theorem dX12_is_10 : dc cX12_is 10 (.invokestatic 96) 3 13 := ⟨by decide +kernel, rfl⟩
theorem dX12_is_13 : dj cX12_is 13 (.ifCond .ne) 18 16 := ⟨5, by decide +kernel, by decide, rfl⟩
theorem dX12_is_16 : dKc cX12_is 16 (-1) 17 := Or.inl ⟨(-1), by decide +kernel, by decide +kernel, rfl⟩
theorem dX12_is_17 : dc cX12_is 17 .ireturn 1 18 := ⟨by decide +kernel, rfl⟩
theorem dX12_is_18 : dAl cX12_is 18 0 19 := Or.inl ⟨0, rfl, by decide +kernel, rfl⟩
theorem dX12_is_19 : dAl cX12_is 19 0 20 := Or.inl ⟨0, rfl, by decide +kernel, rfl⟩
theorem dX12_is_20 : dc cX12_is 20 (.getfield 47) 3 23 := ⟨by decide +kernel, rfl⟩
theorem dX12_is_23 : dIl cX12_is 23 1 24 := Or.inl ⟨1, rfl, by decide +kernel, rfl⟩
theorem dX12_is_24 : dc cX12_is 24 .iaload 1 25 := ⟨by decide +kernel, rfl⟩
theorem dX12_is_25 : dc cX12_is 25 (.invokevirtual 159) 3 28 := ⟨by decide +kernel, rfl⟩
theorem dX12_is_28 : dIs cX12_is 28 3 29 := Or.inl ⟨3, rfl, by decide +kernel, rfl⟩
theorem dX12_is_29 : dIl cX12_is 29 3 30 := Or.inl ⟨3, rfl, by decide +kernel, rfl⟩
theorem dX12_is_30 : dIl cX12_is 30 2 31 := Or.inl ⟨2, rfl, by decide +kernel, rfl⟩
theorem dX12_is_31 : dj cX12_is 31 (.if_icmp .eq) 44 34 := ⟨13, by decide +kernel, by decide, rfl⟩
theorem dX12_is_34 : dIl cX12_is 34 3 35 := Or.inl ⟨3, rfl, by decide +kernel, rfl⟩
theorem dX12_is_35 : dKc cX12_is 35 3 36 := Or.inl ⟨3, by decide +kernel, by decide +kernel, rfl⟩
theorem dX12_is_36 : dj cX12_is 36 (.if_icmp .ne) 48 39 := ⟨12, by decide +kernel, by decide, rfl⟩
theorem dX12_is_39 : dIl cX12_is 39 2 40 := Or.inl ⟨2, rfl, by decide +kernel, rfl⟩
theorem dX12_is_40 : dKc cX12_is 40 2 41 := Or.inl ⟨2, by decide +kernel, by decide +kernel, rfl⟩
theorem dX12_is_41 : dj cX12_is 41 (.if_icmp .ne) 48 44 := ⟨7, by decide +kernel, by decide, rfl⟩
theorem dX12_is_44 : dKc cX12_is 44 1 45 := Or.inl ⟨1, by decide +kernel, by decide +kernel, rfl⟩
theorem dX12_is_45 : dj cX12_is 45 .goto 49 48 := ⟨4, by decide +kernel, by decide, rfl⟩
theorem dX12_is_48 : dKc cX12_is 48 0 49 := Or.inl ⟨0, by decide +kernel, by decide +kernel, rfl⟩
theorem dX12_is_49 : dc cX12_is 49 .ireturn 1 50 := ⟨by decide +kernel, rfl⟩
theorem dX12_rowsLike_0 : dAl cX12_rowsLike 0 0 1 := Or.inl ⟨0, rfl, by decide +kernel, rfl⟩
theorem dX12_rowsLike_1 : dc cX12_rowsLike 1 (.getfield 32) 3 4 := ⟨by decide +kernel, rfl⟩
theorem dX12_rowsLike_4 : dIl cX12_rowsLike 4 1 5 := Or.inl ⟨1, rfl, by decide +kernel, rfl⟩
theorem dX12_rowsLike_5 : dc cX12_rowsLike 5 .iaload 1 6 := ⟨by decide +kernel, rfl⟩
theorem dX12_rowsLike_6 : dAl cX12_rowsLike 6 0 7 := Or.inl ⟨0, rfl, by decide +kernel, rfl⟩
theorem dX12_rowsLike_7 : dc cX12_rowsLike 7 (.getfield 32) 3 10 := ⟨by decide +kernel, rfl⟩
theorem dX12_rowsLike_10 : dIl cX12_rowsLike 10 2 11 := Or.inl ⟨2, rfl, by decide +kernel, rfl⟩
theorem dX12_rowsLike_11 : dc cX12_rowsLike 11 .iaload 1 12 := ⟨by decide +kernel, rfl⟩
theorem dX12_rowsLike_12 : dj cX12_rowsLike 12 (.if_icmp .ne) 19 15 := ⟨7, by decide +kernel, by decide, rfl⟩
theorem dX12_rowsLike_15 : dKc cX12_rowsLike 15 1 16 := Or.inl ⟨1, by decide +kernel, by decide +kernel, rfl⟩
theorem dX12_rowsLike_16 : dj cX12_rowsLike 16 .goto 20 19 := ⟨4, by decide +kernel, by decide, rfl⟩
theorem dX12_rowsLike_19 : dKc cX12_rowsLike 19 0 20 := Or.inl ⟨0, by decide +kernel, by decide +kernel, rfl⟩
theorem dX12_rowsLike_20 : dIs cX12_rowsLike 20 3 21 := Or.inl ⟨3, rfl, by decide +kernel, rfl⟩
theorem dX12_rowsLike_21 : dKc cX12_rowsLike 21 0 22 := Or.inl ⟨0, by decide +kernel, by decide +kernel, rfl⟩
theorem dX12_rowsLike_22 : dIs cX12_rowsLike 22 4 24 := Or.inr ⟨by decide +kernel, rfl⟩
theorem dX12_rowsLike_24 : dIl cX12_rowsLike 24 4 26 := Or.inr ⟨by decide +kernel, rfl⟩
theorem dX12_rowsLike_26 : dAl cX12_rowsLike 26 0 27 := Or.inl ⟨0, rfl, by decide +kernel, rfl⟩
theorem dX12_rowsLike_27 : dc cX12_rowsLike 27 (.getfield 32) 3 30 := ⟨by decide +kernel, rfl⟩
theorem dX12_rowsLike_30 : dIl cX12_rowsLike 30 1 31 := Or.inl ⟨1, rfl, by decide +kernel, rfl⟩
theorem dX12_rowsLike_31 : dc cX12_rowsLike 31 .iaload 1 32 := ⟨by decide +kernel, rfl⟩
theorem dX12_rowsLike_32 : dj cX12_rowsLike 32 (.if_icmp .ge) 78 35 := ⟨46, by decide +kernel, by decide, rfl⟩
theorem dX12_rowsLike_35 : dIl cX12_rowsLike 35 3 36 := Or.inl ⟨3, rfl, by decide +kernel, rfl⟩
theorem dX12_rowsLike_36 : dj cX12_rowsLike 36 (.ifCond .eq) 78 39 := ⟨42, by decide +kernel, by decide, rfl⟩
theorem dX12_rowsLike_39 : dAl cX12_rowsLike 39 0 40 := Or.inl ⟨0, rfl, by decide +kernel, rfl⟩
theorem dX12_rowsLike_40 : dc cX12_rowsLike 40 (.getfield 35) 3 43 := ⟨by decide +kernel, rfl⟩
theorem dX12_rowsLike_43 : dKc cX12_rowsLike 43 12 45 := Or.inr (Or.inl ⟨12, by decide +kernel, by decide +kernel, rfl⟩)
theorem dX12_rowsLike_45 : dIl cX12_rowsLike 45 1 46 := Or.inl ⟨1, rfl, by decide +kernel, rfl⟩
theorem dX12_rowsLike_46 : dc cX12_rowsLike 46 .imul 1 47 := ⟨by decide +kernel, rfl⟩
theorem dX12_rowsLike_47 : dIl cX12_rowsLike 47 4 49 := Or.inr ⟨by decide +kernel, rfl⟩
theorem dX12_rowsLike_49 : dc cX12_rowsLike 49 .iadd 1 50 := ⟨by decide +kernel, rfl⟩
theorem dX12_rowsLike_50 : dc cX12_rowsLike 50 .iaload 1 51 := ⟨by decide +kernel, rfl⟩
theorem dX12_rowsLike_51 : dAl cX12_rowsLike 51 0 52 := Or.inl ⟨0, rfl, by decide +kernel, rfl⟩
theorem dX12_rowsLike_52 : dc cX12_rowsLike 52 (.getfield 35) 3 55 := ⟨by decide +kernel, rfl⟩
theorem dX12_rowsLike_55 : dKc cX12_rowsLike 55 12 57 := Or.inr (Or.inl ⟨12, by decide +kernel, by decide +kernel, rfl⟩)
theorem dX12_rowsLike_57 : dIl cX12_rowsLike 57 2 58 := Or.inl ⟨2, rfl, by decide +kernel, rfl⟩
theorem dX12_rowsLike_58 : dc cX12_rowsLike 58 .imul 1 59 := ⟨by decide +kernel, rfl⟩
theorem dX12_rowsLike_59 : dIl cX12_rowsLike 59 4 61 := Or.inr ⟨by decide +kernel, rfl⟩
theorem dX12_rowsLike_61 : dc cX12_rowsLike 61 .iadd 1 62 := ⟨by decide +kernel, rfl⟩
theorem dX12_rowsLike_62 : dc cX12_rowsLike 62 .iaload 1 63 := ⟨by decide +kernel, rfl⟩
theorem dX12_rowsLike_63 : dj cX12_rowsLike 63 (.if_icmp .ne) 70 66 := ⟨7, by decide +kernel, by decide, rfl⟩
theorem dX12_rowsLike_66 : dKc cX12_rowsLike 66 1 67 := Or.inl ⟨1, by decide +kernel, by decide +kernel, rfl⟩
theorem dX12_rowsLike_67 : dj cX12_rowsLike 67 .goto 71 70 := ⟨4, by decide +kernel, by decide, rfl⟩
theorem dX12_rowsLike_70 : dKc cX12_rowsLike 70 0 71 := Or.inl ⟨0, by decide +kernel, by decide +kernel, rfl⟩
theorem dX12_rowsLike_71 : dIs cX12_rowsLike 71 3 72 := Or.inl ⟨3, rfl, by decide +kernel, rfl⟩
theorem dX12_rowsLike_72 : dc cX12_rowsLike 72 (.iinc 4 1) 3 75 := ⟨by decide +kernel, rfl⟩
theorem dX12_rowsLike_75 : dj cX12_rowsLike 75 .goto 24 78 := ⟨(-51), by decide +kernel, by decide, rfl⟩
theorem dX12_rowsLike_78 : dIl cX12_rowsLike 78 3 79 := Or.inl ⟨3, rfl, by decide +kernel, rfl⟩
theorem dX12_rowsLike_79 : dc cX12_rowsLike 79 .ireturn 1 80 := ⟨by decide +kernel, rfl⟩
theorem dX12_pair_0 : dAl cX12_pair 0 0 1 := Or.inl ⟨0, rfl, by decide +kernel, rfl⟩
theorem dX12_pair_1 : dc cX12_pair 1 (.getfield 84) 3 4 := ⟨by decide +kernel, rfl⟩
theorem dX12_pair_4 : dAl cX12_pair 4 0 5 := Or.inl ⟨0, rfl, by decide +kernel, rfl⟩
theorem dX12_pair_5 : dc cX12_pair 5 (.getfield 162) 3 8 := ⟨by decide +kernel, rfl⟩
theorem dX12_pair_8 : dIl cX12_pair 8 1 9 := Or.inl ⟨1, rfl, by decide +kernel, rfl⟩
theorem dX12_pair_9 : dc cX12_pair 9 .iastore 1 10 := ⟨by decide +kernel, rfl⟩
theorem dX12_pair_10 : dAl cX12_pair 10 0 11 := Or.inl ⟨0, rfl, by decide +kernel, rfl⟩
theorem dX12_pair_11 : dc cX12_pair 11 (.getfield 87) 3 14 := ⟨by decide +kernel, rfl⟩
theorem dX12_pair_14 : dAl cX12_pair 14 0 15 := Or.inl ⟨0, rfl, by decide +kernel, rfl⟩
theorem dX12_pair_15 : dc cX12_pair 15 (.getfield 162) 3 18 := ⟨by decide +kernel, rfl⟩
theorem dX12_pair_18 : dIl cX12_pair 18 2 19 := Or.inl ⟨2, rfl, by decide +kernel, rfl⟩
theorem dX12_pair_19 : dc cX12_pair 19 .iastore 1 20 := ⟨by decide +kernel, rfl⟩
theorem dX12_pair_20 : dAl cX12_pair 20 0 21 := Or.inl ⟨0, rfl, by decide +kernel, rfl⟩
theorem dX12_pair_21 : dc cX12_pair 21 (.getfield 90) 3 24 := ⟨by decide +kernel, rfl⟩
theorem dX12_pair_24 : dAl cX12_pair 24 0 25 := Or.inl ⟨0, rfl, by decide +kernel, rfl⟩
theorem dX12_pair_25 : dc cX12_pair 25 (.getfield 162) 3 28 := ⟨by decide +kernel, rfl⟩
theorem dX12_pair_28 : dIl cX12_pair 28 3 29 := Or.inl ⟨3, rfl, by decide +kernel, rfl⟩
theorem dX12_pair_29 : dc cX12_pair 29 .iastore 1 30 := ⟨by decide +kernel, rfl⟩
theorem dX12_pair_30 : dAl cX12_pair 30 0 31 := Or.inl ⟨0, rfl, by decide +kernel, rfl⟩
theorem dX12_pair_31 : dc cX12_pair 31 .dup 1 32 := ⟨by decide +kernel, rfl⟩
theorem dX12_pair_32 : dc cX12_pair 32 (.getfield 162) 3 35 := ⟨by decide +kernel, rfl⟩
theorem dX12_pair_35 : dKc cX12_pair 35 1 36 := Or.inl ⟨1, by decide +kernel, by decide +kernel, rfl⟩
theorem dX12_pair_36 : dc cX12_pair 36 .iadd 1 37 := ⟨by decide +kernel, rfl⟩
theorem dX12_pair_37 : dc cX12_pair 37 (.putfield 162) 3 40 := ⟨by decide +kernel, rfl⟩
theorem dX12_pair_40 : dc cX12_pair 40 .return_ 1 41 := ⟨by decide +kernel, rfl⟩
theorem dX12_areLike_0 : dAl cX12_areLike 0 0 1 := Or.inl ⟨0, rfl, by decide +kernel, rfl⟩
theorem dX12_areLike_1 : dKc cX12_areLike 1 0 2 := Or.inl ⟨0, by decide +kernel, by decide +kernel, rfl⟩
theorem dX12_areLike_2 : dc cX12_areLike 2 (.putfield 162) 3 5 := ⟨by decide +kernel, rfl⟩
theorem dX12_areLike_5 : dAl cX12_areLike 5 0 6 := Or.inl ⟨0, rfl, by decide +kernel, rfl⟩
theorem dX12_areLike_6 : dIl cX12_areLike 6 1 7 := Or.inl ⟨1, rfl, by decide +kernel, rfl⟩
theorem dX12_areLike_7 : dIl cX12_areLike 7 2 8 := Or.inl ⟨2, rfl, by decide +kernel, rfl⟩
theorem dX12_areLike_8 : dKc cX12_areLike 8 0 9 := Or.inl ⟨0, by decide +kernel, by decide +kernel, rfl⟩
theorem dX12_areLike_9 : dc cX12_areLike 9 (.invokevirtual 165) 3 12 := ⟨by decide +kernel, rfl⟩
theorem dX12_areLike_12 : dKc cX12_areLike 12 1 13 := Or.inl ⟨1, by decide +kernel, by decide +kernel, rfl⟩
theorem dX12_areLike_13 : dIs cX12_areLike 13 3 14 := Or.inl ⟨3, rfl, by decide +kernel, rfl⟩
theorem dX12_areLike_14 : dAl cX12_areLike 14 0 15 := Or.inl ⟨0, rfl, by decide +kernel, rfl⟩
theorem dX12_areLike_15 : dc cX12_areLike 15 (.getfield 162) 3 18 := ⟨by decide +kernel, rfl⟩
theorem dX12_areLike_18 : dj cX12_areLike 18 (.ifCond .le) 172 21 := ⟨154, by decide +kernel, by decide, rfl⟩
theorem dX12_areLike_21 : dIl cX12_areLike 21 3 22 := Or.inl ⟨3, rfl, by decide +kernel, rfl⟩
theorem dX12_areLike_22 : dj cX12_areLike 22 (.ifCond .eq) 172 25 := ⟨150, by decide +kernel, by decide, rfl⟩
theorem dX12_areLike_25 : dAl cX12_areLike 25 0 26 := Or.inl ⟨0, rfl, by decide +kernel, rfl⟩
theorem dX12_areLike_26 : dc cX12_areLike 26 .dup 1 27 := ⟨by decide +kernel, rfl⟩
theorem dX12_areLike_27 : dc cX12_areLike 27 (.getfield 162) 3 30 := ⟨by decide +kernel, rfl⟩
theorem dX12_areLike_30 : dKc cX12_areLike 30 1 31 := Or.inl ⟨1, by decide +kernel, by decide +kernel, rfl⟩
theorem dX12_areLike_31 : dc cX12_areLike 31 .isub 1 32 := ⟨by decide +kernel, rfl⟩
theorem dX12_areLike_32 : dc cX12_areLike 32 (.putfield 162) 3 35 := ⟨by decide +kernel, rfl⟩
theorem dX12_areLike_35 : dAl cX12_areLike 35 0 36 := Or.inl ⟨0, rfl, by decide +kernel, rfl⟩
theorem dX12_areLike_36 : dc cX12_areLike 36 (.getfield 84) 3 39 := ⟨by decide +kernel, rfl⟩
theorem dX12_areLike_39 : dAl cX12_areLike 39 0 40 := Or.inl ⟨0, rfl, by decide +kernel, rfl⟩
theorem dX12_areLike_40 : dc cX12_areLike 40 (.getfield 162) 3 43 := ⟨by decide +kernel, rfl⟩
theorem dX12_areLike_43 : dc cX12_areLike 43 .iaload 1 44 := ⟨by decide +kernel, rfl⟩
theorem dX12_areLike_44 : dIs cX12_areLike 44 4 46 := Or.inr ⟨by decide +kernel, rfl⟩
theorem dX12_areLike_46 : dAl cX12_areLike 46 0 47 := Or.inl ⟨0, rfl, by decide +kernel, rfl⟩
theorem dX12_areLike_47 : dc cX12_areLike 47 (.getfield 87) 3 50 := ⟨by decide +kernel, rfl⟩
theorem dX12_areLike_50 : dAl cX12_areLike 50 0 51 := Or.inl ⟨0, rfl, by decide +kernel, rfl⟩
theorem dX12_areLike_51 : dc cX12_areLike 51 (.getfield 162) 3 54 := ⟨by decide +kernel, rfl⟩
theorem dX12_areLike_54 : dc cX12_areLike 54 .iaload 1 55 := ⟨by decide +kernel, rfl⟩
theorem dX12_areLike_55 : dIs cX12_areLike 55 5 57 := Or.inr ⟨by decide +kernel, rfl⟩
theorem dX12_areLike_57 : dAl cX12_areLike 57 0 58 := Or.inl ⟨0, rfl, by decide +kernel, rfl⟩
theorem dX12_areLike_58 : dc cX12_areLike 58 (.getfield 90) 3 61 := ⟨by decide +kernel, rfl⟩
theorem dX12_areLike_61 : dAl cX12_areLike 61 0 62 := Or.inl ⟨0, rfl, by decide +kernel, rfl⟩
theorem dX12_areLike_62 : dc cX12_areLike 62 (.getfield 162) 3 65 := ⟨by decide +kernel, rfl⟩
theorem dX12_areLike_65 : dc cX12_areLike 65 .iaload 1 66 := ⟨by decide +kernel, rfl⟩
theorem dX12_areLike_66 : dIs cX12_areLike 66 6 68 := Or.inr ⟨by decide +kernel, rfl⟩
theorem dX12_areLike_68 : dIl cX12_areLike 68 4 70 := Or.inr ⟨by decide +kernel, rfl⟩
theorem dX12_areLike_70 : dIl cX12_areLike 70 5 72 := Or.inr ⟨by decide +kernel, rfl⟩
theorem dX12_areLike_72 : dj cX12_areLike 72 (.if_icmp .eq) 169 75 := ⟨97, by decide +kernel, by decide, rfl⟩
theorem dX12_areLike_75 : dAl cX12_areLike 75 0 76 := Or.inl ⟨0, rfl, by decide +kernel, rfl⟩
theorem dX12_areLike_76 : dIl cX12_areLike 76 4 78 := Or.inr ⟨by decide +kernel, rfl⟩
theorem dX12_areLike_78 : dc cX12_areLike 78 (.invokevirtual 159) 3 81 := ⟨by decide +kernel, rfl⟩
theorem dX12_areLike_81 : dIs cX12_areLike 81 7 83 := Or.inr ⟨by decide +kernel, rfl⟩
theorem dX12_areLike_83 : dIl cX12_areLike 83 7 85 := Or.inr ⟨by decide +kernel, rfl⟩
theorem dX12_areLike_85 : dAl cX12_areLike 85 0 86 := Or.inl ⟨0, rfl, by decide +kernel, rfl⟩
theorem dX12_areLike_86 : dIl cX12_areLike 86 5 88 := Or.inr ⟨by decide +kernel, rfl⟩
theorem dX12_areLike_88 : dc cX12_areLike 88 (.invokevirtual 159) 3 91 := ⟨by decide +kernel, rfl⟩
theorem dX12_areLike_91 : dj cX12_areLike 91 (.if_icmp .ne) 104 94 := ⟨13, by decide +kernel, by decide, rfl⟩
theorem dX12_areLike_94 : dIl cX12_areLike 94 7 96 := Or.inr ⟨by decide +kernel, rfl⟩
theorem dX12_areLike_96 : dKc cX12_areLike 96 3 97 := Or.inl ⟨3, by decide +kernel, by decide +kernel, rfl⟩
theorem dX12_areLike_97 : dj cX12_areLike 97 (.if_icmp .le) 104 100 := ⟨7, by decide +kernel, by decide, rfl⟩
theorem dX12_areLike_100 : dKc cX12_areLike 100 1 101 := Or.inl ⟨1, by decide +kernel, by decide +kernel, rfl⟩
theorem dX12_areLike_101 : dj cX12_areLike 101 .goto 105 104 := ⟨4, by decide +kernel, by decide, rfl⟩
theorem dX12_areLike_104 : dKc cX12_areLike 104 0 105 := Or.inl ⟨0, by decide +kernel, by decide +kernel, rfl⟩
theorem dX12_areLike_105 : dIs cX12_areLike 105 3 106 := Or.inl ⟨3, rfl, by decide +kernel, rfl⟩
theorem dX12_areLike_106 : dIl cX12_areLike 106 3 107 := Or.inl ⟨3, rfl, by decide +kernel, rfl⟩
theorem dX12_areLike_107 : dj cX12_areLike 107 (.ifCond .eq) 134 110 := ⟨27, by decide +kernel, by decide, rfl⟩
theorem dX12_areLike_110 : dIl cX12_areLike 110 7 112 := Or.inr ⟨by decide +kernel, rfl⟩
theorem dX12_areLike_112 : dKc cX12_areLike 112 4 113 := Or.inl ⟨4, by decide +kernel, by decide +kernel, rfl⟩
theorem dX12_areLike_113 : dj cX12_areLike 113 (.if_icmp .ne) 134 116 := ⟨21, by decide +kernel, by decide, rfl⟩
theorem dX12_areLike_116 : dAl cX12_areLike 116 0 117 := Or.inl ⟨0, rfl, by decide +kernel, rfl⟩
theorem dX12_areLike_117 : dIl cX12_areLike 117 4 119 := Or.inr ⟨by decide +kernel, rfl⟩
theorem dX12_areLike_119 : dKc cX12_areLike 119 100 121 := Or.inr (Or.inl ⟨100, by decide +kernel, by decide +kernel, rfl⟩)
theorem dX12_areLike_121 : dc cX12_areLike 121 .isub 1 122 := ⟨by decide +kernel, rfl⟩
theorem dX12_areLike_122 : dIl cX12_areLike 122 5 124 := Or.inr ⟨by decide +kernel, rfl⟩
theorem dX12_areLike_124 : dKc cX12_areLike 124 100 126 := Or.inr (Or.inl ⟨100, by decide +kernel, by decide +kernel, rfl⟩)
theorem dX12_areLike_126 : dc cX12_areLike 126 .isub 1 127 := ⟨by decide +kernel, rfl⟩
theorem dX12_areLike_127 : dc cX12_areLike 127 (.invokevirtual 169) 3 130 := ⟨by decide +kernel, rfl⟩
theorem dX12_areLike_130 : dIs cX12_areLike 130 3 131 := Or.inl ⟨3, rfl, by decide +kernel, rfl⟩
theorem dX12_areLike_131 : dj cX12_areLike 131 .goto 169 134 := ⟨38, by decide +kernel, by decide, rfl⟩
theorem dX12_areLike_134 : dIl cX12_areLike 134 3 135 := Or.inl ⟨3, rfl, by decide +kernel, rfl⟩
theorem dX12_areLike_135 : dj cX12_areLike 135 (.ifCond .eq) 169 138 := ⟨34, by decide +kernel, by decide, rfl⟩
theorem dX12_areLike_138 : dIl cX12_areLike 138 6 140 := Or.inr ⟨by decide +kernel, rfl⟩
theorem dX12_areLike_140 : dKc cX12_areLike 140 5 141 := Or.inl ⟨5, by decide +kernel, by decide +kernel, rfl⟩
theorem dX12_areLike_141 : dj cX12_areLike 141 (.if_icmp .ge) 167 144 := ⟨26, by decide +kernel, by decide, rfl⟩
theorem dX12_areLike_144 : dAl cX12_areLike 144 0 145 := Or.inl ⟨0, rfl, by decide +kernel, rfl⟩
theorem dX12_areLike_145 : dIl cX12_areLike 145 4 147 := Or.inr ⟨by decide +kernel, rfl⟩
theorem dX12_areLike_147 : dc cX12_areLike 147 (.ldc 152) 2 149 := ⟨by decide +kernel, rfl⟩
theorem dX12_areLike_149 : dc cX12_areLike 149 .isub 1 150 := ⟨by decide +kernel, rfl⟩
theorem dX12_areLike_150 : dIl cX12_areLike 150 5 152 := Or.inr ⟨by decide +kernel, rfl⟩
theorem dX12_areLike_152 : dc cX12_areLike 152 (.ldc 152) 2 154 := ⟨by decide +kernel, rfl⟩
theorem dX12_areLike_154 : dc cX12_areLike 154 .isub 1 155 := ⟨by decide +kernel, rfl⟩
theorem dX12_areLike_155 : dIl cX12_areLike 155 6 157 := Or.inr ⟨by decide +kernel, rfl⟩
theorem dX12_areLike_157 : dc cX12_areLike 157 (.invokevirtual 173) 3 160 := ⟨by decide +kernel, rfl⟩
theorem dX12_areLike_160 : dj cX12_areLike 160 (.ifCond .eq) 167 163 := ⟨7, by decide +kernel, by decide, rfl⟩
theorem dX12_areLike_163 : dKc cX12_areLike 163 1 164 := Or.inl ⟨1, by decide +kernel, by decide +kernel, rfl⟩
theorem dX12_areLike_164 : dj cX12_areLike 164 .goto 168 167 := ⟨4, by decide +kernel, by decide, rfl⟩
theorem dX12_areLike_167 : dKc cX12_areLike 167 0 168 := Or.inl ⟨0, by decide +kernel, by decide +kernel, rfl⟩
theorem dX12_areLike_168 : dIs cX12_areLike 168 3 169 := Or.inl ⟨3, rfl, by decide +kernel, rfl⟩
theorem dX12_areLike_169 : dj cX12_areLike 169 .goto 14 172 := ⟨(-155), by decide +kernel, by decide, rfl⟩
theorem dX12_areLike_172 : dIl cX12_areLike 172 3 173 := Or.inl ⟨3, rfl, by decide +kernel, rfl⟩
theorem dX12_areLike_173 : dc cX12_areLike 173 .ireturn 1 174 := ⟨by decide +kernel, rfl⟩
theorem dX12_opens_0 : dAl cX12_opens 0 0 1 := Or.inl ⟨0, rfl, by decide +kernel, rfl⟩
theorem dX12_opens_1 : dc cX12_opens 1 (.getfield 38) 3 4 := ⟨by decide +kernel, rfl⟩
theorem dX12_opens_4 : dIl cX12_opens 4 1 5 := Or.inl ⟨1, rfl, by decide +kernel, rfl⟩
theorem dX12_opens_5 : dc cX12_opens 5 .iaload 1 6 := ⟨by decide +kernel, rfl⟩
theorem dX12_opens_6 : dAl cX12_opens 6 0 7 := Or.inl ⟨0, rfl, by decide +kernel, rfl⟩
theorem dX12_opens_7 : dc cX12_opens 7 (.getfield 38) 3 10 := ⟨by decide +kernel, rfl⟩
theorem dX12_opens_10 : dIl cX12_opens 10 2 11 := Or.inl ⟨2, rfl, by decide +kernel, rfl⟩
theorem dX12_opens_11 : dc cX12_opens 11 .iaload 1 12 := ⟨by decide +kernel, rfl⟩
theorem dX12_opens_12 : dj cX12_opens 12 (.if_icmp .ne) 30 15 := ⟨18, by decide +kernel, by decide, rfl⟩
theorem dX12_opens_15 : dAl cX12_opens 15 0 16 := Or.inl ⟨0, rfl, by decide +kernel, rfl⟩
theorem dX12_opens_16 : dc cX12_opens 16 (.getfield 41) 3 19 := ⟨by decide +kernel, rfl⟩
theorem dX12_opens_19 : dIl cX12_opens 19 1 20 := Or.inl ⟨1, rfl, by decide +kernel, rfl⟩
theorem dX12_opens_20 : dc cX12_opens 20 .iaload 1 21 := ⟨by decide +kernel, rfl⟩
theorem dX12_opens_21 : dAl cX12_opens 21 0 22 := Or.inl ⟨0, rfl, by decide +kernel, rfl⟩
theorem dX12_opens_22 : dc cX12_opens 22 (.getfield 41) 3 25 := ⟨by decide +kernel, rfl⟩
theorem dX12_opens_25 : dIl cX12_opens 25 2 26 := Or.inl ⟨2, rfl, by decide +kernel, rfl⟩
theorem dX12_opens_26 : dc cX12_opens 26 .iaload 1 27 := ⟨by decide +kernel, rfl⟩
theorem dX12_opens_27 : dj cX12_opens 27 (.if_icmp .eq) 32 30 := ⟨5, by decide +kernel, by decide, rfl⟩
theorem dX12_opens_30 : dKc cX12_opens 30 0 31 := Or.inl ⟨0, by decide +kernel, by decide +kernel, rfl⟩
theorem dX12_opens_31 : dc cX12_opens 31 .ireturn 1 32 := ⟨by decide +kernel, rfl⟩
theorem dX12_opens_32 : dKc cX12_opens 32 1 33 := Or.inl ⟨1, by decide +kernel, by decide +kernel, rfl⟩
theorem dX12_opens_33 : dIs cX12_opens 33 4 35 := Or.inr ⟨by decide +kernel, rfl⟩
theorem dX12_opens_35 : dKc cX12_opens 35 0 36 := Or.inl ⟨0, by decide +kernel, by decide +kernel, rfl⟩
theorem dX12_opens_36 : dIs cX12_opens 36 5 38 := Or.inr ⟨by decide +kernel, rfl⟩
theorem dX12_opens_38 : dIl cX12_opens 38 5 40 := Or.inr ⟨by decide +kernel, rfl⟩
theorem dX12_opens_40 : dAl cX12_opens 40 0 41 := Or.inl ⟨0, rfl, by decide +kernel, rfl⟩
theorem dX12_opens_41 : dc cX12_opens 41 (.getfield 41) 3 44 := ⟨by decide +kernel, rfl⟩
theorem dX12_opens_44 : dIl cX12_opens 44 1 45 := Or.inl ⟨1, rfl, by decide +kernel, rfl⟩
theorem dX12_opens_45 : dc cX12_opens 45 .iaload 1 46 := ⟨by decide +kernel, rfl⟩
theorem dX12_opens_46 : dj cX12_opens 46 (.if_icmp .ge) 141 49 := ⟨95, by decide +kernel, by decide, rfl⟩
theorem dX12_opens_49 : dAl cX12_opens 49 0 50 := Or.inl ⟨0, rfl, by decide +kernel, rfl⟩
theorem dX12_opens_50 : dc cX12_opens 50 (.getfield 53) 3 53 := ⟨by decide +kernel, rfl⟩
theorem dX12_opens_53 : dKc cX12_opens 53 5 54 := Or.inl ⟨5, by decide +kernel, by decide +kernel, rfl⟩
theorem dX12_opens_54 : dAl cX12_opens 54 0 55 := Or.inl ⟨0, rfl, by decide +kernel, rfl⟩
theorem dX12_opens_55 : dc cX12_opens 55 (.getfield 38) 3 58 := ⟨by decide +kernel, rfl⟩
theorem dX12_opens_58 : dIl cX12_opens 58 1 59 := Or.inl ⟨1, rfl, by decide +kernel, rfl⟩
theorem dX12_opens_59 : dc cX12_opens 59 .iaload 1 60 := ⟨by decide +kernel, rfl⟩
theorem dX12_opens_60 : dc cX12_opens 60 .imul 1 61 := ⟨by decide +kernel, rfl⟩
theorem dX12_opens_61 : dIl cX12_opens 61 5 63 := Or.inr ⟨by decide +kernel, rfl⟩
theorem dX12_opens_63 : dc cX12_opens 63 .iadd 1 64 := ⟨by decide +kernel, rfl⟩
theorem dX12_opens_64 : dc cX12_opens 64 .iaload 1 65 := ⟨by decide +kernel, rfl⟩
theorem dX12_opens_65 : dj cX12_opens 65 (.ifCond .ne) 106 68 := ⟨41, by decide +kernel, by decide, rfl⟩
theorem dX12_opens_68 : dIl cX12_opens 68 4 70 := Or.inr ⟨by decide +kernel, rfl⟩
theorem dX12_opens_70 : dAl cX12_opens 70 0 71 := Or.inl ⟨0, rfl, by decide +kernel, rfl⟩
theorem dX12_opens_71 : dc cX12_opens 71 (.getfield 44) 3 74 := ⟨by decide +kernel, rfl⟩
theorem dX12_opens_74 : dKc cX12_opens 74 5 75 := Or.inl ⟨5, by decide +kernel, by decide +kernel, rfl⟩
theorem dX12_opens_75 : dIl cX12_opens 75 1 76 := Or.inl ⟨1, rfl, by decide +kernel, rfl⟩
theorem dX12_opens_76 : dc cX12_opens 76 .imul 1 77 := ⟨by decide +kernel, rfl⟩
theorem dX12_opens_77 : dIl cX12_opens 77 5 79 := Or.inr ⟨by decide +kernel, rfl⟩
theorem dX12_opens_79 : dc cX12_opens 79 .iadd 1 80 := ⟨by decide +kernel, rfl⟩
theorem dX12_opens_80 : dc cX12_opens 80 .iaload 1 81 := ⟨by decide +kernel, rfl⟩
theorem dX12_opens_81 : dAl cX12_opens 81 0 82 := Or.inl ⟨0, rfl, by decide +kernel, rfl⟩
theorem dX12_opens_82 : dc cX12_opens 82 (.getfield 44) 3 85 := ⟨by decide +kernel, rfl⟩
theorem dX12_opens_85 : dKc cX12_opens 85 5 86 := Or.inl ⟨5, by decide +kernel, by decide +kernel, rfl⟩
theorem dX12_opens_86 : dIl cX12_opens 86 2 87 := Or.inl ⟨2, rfl, by decide +kernel, rfl⟩
theorem dX12_opens_87 : dc cX12_opens 87 .imul 1 88 := ⟨by decide +kernel, rfl⟩
theorem dX12_opens_88 : dIl cX12_opens 88 5 90 := Or.inr ⟨by decide +kernel, rfl⟩
theorem dX12_opens_90 : dc cX12_opens 90 .iadd 1 91 := ⟨by decide +kernel, rfl⟩
theorem dX12_opens_91 : dc cX12_opens 91 .iaload 1 92 := ⟨by decide +kernel, rfl⟩
theorem dX12_opens_92 : dj cX12_opens 92 (.if_icmp .ne) 99 95 := ⟨7, by decide +kernel, by decide, rfl⟩
theorem dX12_opens_95 : dKc cX12_opens 95 1 96 := Or.inl ⟨1, by decide +kernel, by decide +kernel, rfl⟩
theorem dX12_opens_96 : dj cX12_opens 96 .goto 100 99 := ⟨4, by decide +kernel, by decide, rfl⟩
theorem dX12_opens_99 : dKc cX12_opens 99 0 100 := Or.inl ⟨0, by decide +kernel, by decide +kernel, rfl⟩
theorem dX12_opens_100 : dc cX12_opens 100 .iand 1 101 := ⟨by decide +kernel, rfl⟩
theorem dX12_opens_101 : dIs cX12_opens 101 4 103 := Or.inr ⟨by decide +kernel, rfl⟩
theorem dX12_opens_103 : dj cX12_opens 103 .goto 135 106 := ⟨32, by decide +kernel, by decide, rfl⟩
theorem dX12_opens_106 : dAl cX12_opens 106 0 107 := Or.inl ⟨0, rfl, by decide +kernel, rfl⟩
theorem dX12_opens_107 : dAl cX12_opens 107 0 108 := Or.inl ⟨0, rfl, by decide +kernel, rfl⟩
theorem dX12_opens_108 : dc cX12_opens 108 (.getfield 44) 3 111 := ⟨by decide +kernel, rfl⟩
theorem dX12_opens_111 : dKc cX12_opens 111 5 112 := Or.inl ⟨5, by decide +kernel, by decide +kernel, rfl⟩
theorem dX12_opens_112 : dIl cX12_opens 112 1 113 := Or.inl ⟨1, rfl, by decide +kernel, rfl⟩
theorem dX12_opens_113 : dc cX12_opens 113 .imul 1 114 := ⟨by decide +kernel, rfl⟩
theorem dX12_opens_114 : dIl cX12_opens 114 5 116 := Or.inr ⟨by decide +kernel, rfl⟩
theorem dX12_opens_116 : dc cX12_opens 116 .iadd 1 117 := ⟨by decide +kernel, rfl⟩
theorem dX12_opens_117 : dc cX12_opens 117 .iaload 1 118 := ⟨by decide +kernel, rfl⟩
theorem dX12_opens_118 : dAl cX12_opens 118 0 119 := Or.inl ⟨0, rfl, by decide +kernel, rfl⟩
theorem dX12_opens_119 : dc cX12_opens 119 (.getfield 44) 3 122 := ⟨by decide +kernel, rfl⟩
theorem dX12_opens_122 : dKc cX12_opens 122 5 123 := Or.inl ⟨5, by decide +kernel, by decide +kernel, rfl⟩
theorem dX12_opens_123 : dIl cX12_opens 123 2 124 := Or.inl ⟨2, rfl, by decide +kernel, rfl⟩
theorem dX12_opens_124 : dc cX12_opens 124 .imul 1 125 := ⟨by decide +kernel, rfl⟩
theorem dX12_opens_125 : dIl cX12_opens 125 5 127 := Or.inr ⟨by decide +kernel, rfl⟩
theorem dX12_opens_127 : dc cX12_opens 127 .iadd 1 128 := ⟨by decide +kernel, rfl⟩
theorem dX12_opens_128 : dc cX12_opens 128 .iaload 1 129 := ⟨by decide +kernel, rfl⟩
theorem dX12_opens_129 : dIl cX12_opens 129 3 130 := Or.inl ⟨3, rfl, by decide +kernel, rfl⟩
theorem dX12_opens_130 : dKc cX12_opens 130 1 131 := Or.inl ⟨1, by decide +kernel, by decide +kernel, rfl⟩
theorem dX12_opens_131 : dc cX12_opens 131 .iadd 1 132 := ⟨by decide +kernel, rfl⟩
theorem dX12_opens_132 : dc cX12_opens 132 (.invokevirtual 165) 3 135 := ⟨by decide +kernel, rfl⟩
theorem dX12_opens_135 : dc cX12_opens 135 (.iinc 5 1) 3 138 := ⟨by decide +kernel, rfl⟩
theorem dX12_opens_138 : dj cX12_opens 138 .goto 38 141 := ⟨(-100), by decide +kernel, by decide, rfl⟩
theorem dX12_opens_141 : dIl cX12_opens 141 4 143 := Or.inr ⟨by decide +kernel, rfl⟩
theorem dX12_opens_143 : dc cX12_opens 143 .ireturn 1 144 := ⟨by decide +kernel, rfl⟩
theorem dX12_like_0 : dIl cX12_like 0 1 1 := Or.inl ⟨1, rfl, by decide +kernel, rfl⟩
theorem dX12_like_1 : dc cX12_like 1 (.invokestatic 153) 3 4 := ⟨by decide +kernel, rfl⟩
theorem dX12_like_4 : dj cX12_like 4 (.ifCond .eq) 14 7 := ⟨10, by decide +kernel, by decide, rfl⟩
theorem dX12_like_7 : dIl cX12_like 7 2 8 := Or.inl ⟨2, rfl, by decide +kernel, rfl⟩
theorem dX12_like_8 : dc cX12_like 8 (.invokestatic 153) 3 11 := ⟨by decide +kernel, rfl⟩
theorem dX12_like_11 : dj cX12_like 11 (.ifCond .ne) 18 14 := ⟨7, by decide +kernel, by decide, rfl⟩
theorem dX12_like_14 : dKc cX12_like 14 (-1) 15 := Or.inl ⟨(-1), by decide +kernel, by decide +kernel, rfl⟩
theorem dX12_like_15 : dj cX12_like 15 .goto 42 18 := ⟨27, by decide +kernel, by decide, rfl⟩
theorem dX12_like_18 : dAl cX12_like 18 0 19 := Or.inl ⟨0, rfl, by decide +kernel, rfl⟩
theorem dX12_like_19 : dAl cX12_like 19 0 20 := Or.inl ⟨0, rfl, by decide +kernel, rfl⟩
theorem dX12_like_20 : dc cX12_like 20 (.getfield 47) 3 23 := ⟨by decide +kernel, rfl⟩
theorem dX12_like_23 : dIl cX12_like 23 1 24 := Or.inl ⟨1, rfl, by decide +kernel, rfl⟩
theorem dX12_like_24 : dc cX12_like 24 .iaload 1 25 := ⟨by decide +kernel, rfl⟩
theorem dX12_like_25 : dAl cX12_like 25 0 26 := Or.inl ⟨0, rfl, by decide +kernel, rfl⟩
theorem dX12_like_26 : dc cX12_like 26 (.getfield 47) 3 29 := ⟨by decide +kernel, rfl⟩
theorem dX12_like_29 : dIl cX12_like 29 2 30 := Or.inl ⟨2, rfl, by decide +kernel, rfl⟩
theorem dX12_like_30 : dc cX12_like 30 .iaload 1 31 := ⟨by decide +kernel, rfl⟩
theorem dX12_like_31 : dc cX12_like 31 (.invokevirtual 176) 3 34 := ⟨by decide +kernel, rfl⟩
theorem dX12_like_34 : dj cX12_like 34 (.ifCond .eq) 41 37 := ⟨7, by decide +kernel, by decide, rfl⟩
theorem dX12_like_37 : dKc cX12_like 37 1 38 := Or.inl ⟨1, by decide +kernel, by decide +kernel, rfl⟩
theorem dX12_like_38 : dj cX12_like 38 .goto 42 41 := ⟨4, by decide +kernel, by decide, rfl⟩
theorem dX12_like_41 : dKc cX12_like 41 0 42 := Or.inl ⟨0, by decide +kernel, by decide +kernel, rfl⟩
theorem dX12_like_42 : dc cX12_like 42 .ireturn 1 43 := ⟨by decide +kernel, rfl⟩
theorem dX12_isShape_0 : dIl cX12_isShape 0 0 1 := Or.inl ⟨0, rfl, by decide +kernel, rfl⟩
theorem dX12_isShape_1 : dKc cX12_isShape 1 0 2 := Or.inl ⟨0, by decide +kernel, by decide +kernel, rfl⟩
theorem dX12_isShape_2 : dKc cX12_isShape 2 5 3 := Or.inl ⟨5, by decide +kernel, by decide +kernel, rfl⟩
theorem dX12_isShape_3 : dc cX12_isShape 3 (.invokestatic 96) 3 6 := ⟨by decide +kernel, rfl⟩
theorem dX12_isShape_6 : dc cX12_isShape 6 .ireturn 1 7 := ⟨by decide +kernel, rfl⟩
theorem dX12_part_0 : dIl cX12_part 0 1 1 := Or.inl ⟨1, rfl, by decide +kernel, rfl⟩
theorem dX12_part_1 : dc cX12_part 1 (.invokestatic 179) 3 4 := ⟨by decide +kernel, rfl⟩
theorem dX12_part_4 : dj cX12_part 4 (.ifCond .eq) 50 7 := ⟨46, by decide +kernel, by decide, rfl⟩
theorem dX12_part_7 : dIl cX12_part 7 2 8 := Or.inl ⟨2, rfl, by decide +kernel, rfl⟩
theorem dX12_part_8 : dKc cX12_part 8 0 9 := Or.inl ⟨0, by decide +kernel, by decide +kernel, rfl⟩
theorem dX12_part_9 : dKc cX12_part 9 4 10 := Or.inl ⟨4, by decide +kernel, by decide +kernel, rfl⟩
theorem dX12_part_10 : dc cX12_part 10 (.invokestatic 96) 3 13 := ⟨by decide +kernel, rfl⟩
theorem dX12_part_13 : dj cX12_part 13 (.ifCond .eq) 50 16 := ⟨37, by decide +kernel, by decide, rfl⟩
theorem dX12_part_16 : dIl cX12_part 16 2 17 := Or.inl ⟨2, rfl, by decide +kernel, rfl⟩
theorem dX12_part_17 : dj cX12_part 17 (.ifCond .ne) 31 20 := ⟨14, by decide +kernel, by decide, rfl⟩
theorem dX12_part_20 : dIl cX12_part 20 3 21 := Or.inl ⟨3, rfl, by decide +kernel, rfl⟩
theorem dX12_part_21 : dKc cX12_part 21 0 22 := Or.inl ⟨0, by decide +kernel, by decide +kernel, rfl⟩
theorem dX12_part_22 : dKc cX12_part 22 1000 25 := Or.inr (Or.inr ⟨1000, by decide +kernel, by decide +kernel, rfl⟩)
theorem dX12_part_25 : dc cX12_part 25 (.invokestatic 96) 3 28 := ⟨by decide +kernel, rfl⟩
theorem dX12_part_28 : dj cX12_part 28 (.ifCond .eq) 50 31 := ⟨22, by decide +kernel, by decide, rfl⟩
theorem dX12_part_31 : dIl cX12_part 31 2 32 := Or.inl ⟨2, rfl, by decide +kernel, rfl⟩
theorem dX12_part_32 : dKc cX12_part 32 1 33 := Or.inl ⟨1, by decide +kernel, by decide +kernel, rfl⟩
theorem dX12_part_33 : dj cX12_part 33 (.if_icmp .eq) 41 36 := ⟨8, by decide +kernel, by decide, rfl⟩
theorem dX12_part_36 : dIl cX12_part 36 2 37 := Or.inl ⟨2, rfl, by decide +kernel, rfl⟩
theorem dX12_part_37 : dKc cX12_part 37 4 38 := Or.inl ⟨4, by decide +kernel, by decide +kernel, rfl⟩
theorem dX12_part_38 : dj cX12_part 38 (.if_icmp .ne) 52 41 := ⟨14, by decide +kernel, by decide, rfl⟩
theorem dX12_part_41 : dIl cX12_part 41 3 42 := Or.inl ⟨3, rfl, by decide +kernel, rfl⟩
theorem dX12_part_42 : dKc cX12_part 42 0 43 := Or.inl ⟨0, by decide +kernel, by decide +kernel, rfl⟩
theorem dX12_part_43 : dKc cX12_part 43 5 44 := Or.inl ⟨5, by decide +kernel, by decide +kernel, rfl⟩
theorem dX12_part_44 : dc cX12_part 44 (.invokestatic 96) 3 47 := ⟨by decide +kernel, rfl⟩
theorem dX12_part_47 : dj cX12_part 47 (.ifCond .ne) 52 50 := ⟨5, by decide +kernel, by decide, rfl⟩
theorem dX12_part_50 : dKc cX12_part 50 (-1) 51 := Or.inl ⟨(-1), by decide +kernel, by decide +kernel, rfl⟩
theorem dX12_part_51 : dc cX12_part 51 .ireturn 1 52 := ⟨by decide +kernel, rfl⟩
theorem dX12_part_52 : dAl cX12_part 52 0 53 := Or.inl ⟨0, rfl, by decide +kernel, rfl⟩
theorem dX12_part_53 : dc cX12_part 53 (.getfield 50) 3 56 := ⟨by decide +kernel, rfl⟩
theorem dX12_part_56 : dIl cX12_part 56 1 57 := Or.inl ⟨1, rfl, by decide +kernel, rfl⟩
theorem dX12_part_57 : dc cX12_part 57 .iaload 1 58 := ⟨by decide +kernel, rfl⟩
theorem dX12_part_58 : dKc cX12_part 58 5 59 := Or.inl ⟨5, by decide +kernel, by decide +kernel, rfl⟩
theorem dX12_part_59 : dj cX12_part 59 (.if_icmp .ne) 65 62 := ⟨6, by decide +kernel, by decide, rfl⟩
theorem dX12_part_62 : dKc cX12_part 62 (-2) 64 := Or.inr (Or.inl ⟨(-2), by decide +kernel, by decide +kernel, rfl⟩)
theorem dX12_part_64 : dc cX12_part 64 .ireturn 1 65 := ⟨by decide +kernel, rfl⟩
theorem dX12_part_65 : dAl cX12_part 65 0 66 := Or.inl ⟨0, rfl, by decide +kernel, rfl⟩
theorem dX12_part_66 : dc cX12_part 66 (.getfield 50) 3 69 := ⟨by decide +kernel, rfl⟩
theorem dX12_part_69 : dIl cX12_part 69 1 70 := Or.inl ⟨1, rfl, by decide +kernel, rfl⟩
theorem dX12_part_70 : dc cX12_part 70 .iaload 1 71 := ⟨by decide +kernel, rfl⟩
theorem dX12_part_71 : dIs cX12_part 71 4 73 := Or.inr ⟨by decide +kernel, rfl⟩
theorem dX12_part_73 : dAl cX12_part 73 0 74 := Or.inl ⟨0, rfl, by decide +kernel, rfl⟩
theorem dX12_part_74 : dc cX12_part 74 (.getfield 53) 3 77 := ⟨by decide +kernel, rfl⟩
theorem dX12_part_77 : dKc cX12_part 77 5 78 := Or.inl ⟨5, by decide +kernel, by decide +kernel, rfl⟩
theorem dX12_part_78 : dIl cX12_part 78 1 79 := Or.inl ⟨1, rfl, by decide +kernel, rfl⟩
theorem dX12_part_79 : dc cX12_part 79 .imul 1 80 := ⟨by decide +kernel, rfl⟩
theorem dX12_part_80 : dIl cX12_part 80 4 82 := Or.inr ⟨by decide +kernel, rfl⟩
theorem dX12_part_82 : dc cX12_part 82 .iadd 1 83 := ⟨by decide +kernel, rfl⟩
theorem dX12_part_83 : dIl cX12_part 83 2 84 := Or.inl ⟨2, rfl, by decide +kernel, rfl⟩
theorem dX12_part_84 : dc cX12_part 84 .iastore 1 85 := ⟨by decide +kernel, rfl⟩
theorem dX12_part_85 : dAl cX12_part 85 0 86 := Or.inl ⟨0, rfl, by decide +kernel, rfl⟩
theorem dX12_part_86 : dc cX12_part 86 (.getfield 56) 3 89 := ⟨by decide +kernel, rfl⟩
theorem dX12_part_89 : dKc cX12_part 89 5 90 := Or.inl ⟨5, by decide +kernel, by decide +kernel, rfl⟩
theorem dX12_part_90 : dIl cX12_part 90 1 91 := Or.inl ⟨1, rfl, by decide +kernel, rfl⟩
theorem dX12_part_91 : dc cX12_part 91 .imul 1 92 := ⟨by decide +kernel, rfl⟩
theorem dX12_part_92 : dIl cX12_part 92 4 94 := Or.inr ⟨by decide +kernel, rfl⟩
theorem dX12_part_94 : dc cX12_part 94 .iadd 1 95 := ⟨by decide +kernel, rfl⟩
theorem dX12_part_95 : dIl cX12_part 95 3 96 := Or.inl ⟨3, rfl, by decide +kernel, rfl⟩
theorem dX12_part_96 : dc cX12_part 96 .iastore 1 97 := ⟨by decide +kernel, rfl⟩
theorem dX12_part_97 : dAl cX12_part 97 0 98 := Or.inl ⟨0, rfl, by decide +kernel, rfl⟩
theorem dX12_part_98 : dc cX12_part 98 (.getfield 50) 3 101 := ⟨by decide +kernel, rfl⟩
theorem dX12_part_101 : dIl cX12_part 101 1 102 := Or.inl ⟨1, rfl, by decide +kernel, rfl⟩
theorem dX12_part_102 : dc cX12_part 102 .dup2 1 103 := ⟨by decide +kernel, rfl⟩
theorem dX12_part_103 : dc cX12_part 103 .iaload 1 104 := ⟨by decide +kernel, rfl⟩
theorem dX12_part_104 : dKc cX12_part 104 1 105 := Or.inl ⟨1, by decide +kernel, by decide +kernel, rfl⟩
theorem dX12_part_105 : dc cX12_part 105 .iadd 1 106 := ⟨by decide +kernel, rfl⟩
theorem dX12_part_106 : dc cX12_part 106 .iastore 1 107 := ⟨by decide +kernel, rfl⟩
theorem dX12_part_107 : dIl cX12_part 107 4 109 := Or.inr ⟨by decide +kernel, rfl⟩
theorem dX12_part_109 : dc cX12_part 109 .ireturn 1 110 := ⟨by decide +kernel, rfl⟩
theorem dX12_check_0 : dIl cX12_check 0 1 1 := Or.inl ⟨1, rfl, by decide +kernel, rfl⟩
theorem dX12_check_1 : dc cX12_check 1 (.invokestatic 179) 3 4 := ⟨by decide +kernel, rfl⟩
theorem dX12_check_4 : dj cX12_check 4 (.ifCond .eq) 63 7 := ⟨59, by decide +kernel, by decide, rfl⟩
theorem dX12_check_7 : dIl cX12_check 7 2 8 := Or.inl ⟨2, rfl, by decide +kernel, rfl⟩
theorem dX12_check_8 : dKc cX12_check 8 0 9 := Or.inl ⟨0, by decide +kernel, by decide +kernel, rfl⟩
theorem dX12_check_9 : dKc cX12_check 9 5 10 := Or.inl ⟨5, by decide +kernel, by decide +kernel, rfl⟩
theorem dX12_check_10 : dc cX12_check 10 (.invokestatic 96) 3 13 := ⟨by decide +kernel, rfl⟩
theorem dX12_check_13 : dj cX12_check 13 (.ifCond .eq) 63 16 := ⟨50, by decide +kernel, by decide, rfl⟩
theorem dX12_check_16 : dIl cX12_check 16 3 17 := Or.inl ⟨3, rfl, by decide +kernel, rfl⟩
theorem dX12_check_17 : dKc cX12_check 17 0 18 := Or.inl ⟨0, by decide +kernel, by decide +kernel, rfl⟩
theorem dX12_check_18 : dAl cX12_check 18 0 19 := Or.inl ⟨0, rfl, by decide +kernel, rfl⟩
theorem dX12_check_19 : dc cX12_check 19 (.getfield 50) 3 22 := ⟨by decide +kernel, rfl⟩
theorem dX12_check_22 : dIl cX12_check 22 1 23 := Or.inl ⟨1, rfl, by decide +kernel, rfl⟩
theorem dX12_check_23 : dc cX12_check 23 .iaload 1 24 := ⟨by decide +kernel, rfl⟩
theorem dX12_check_24 : dKc cX12_check 24 1 25 := Or.inl ⟨1, by decide +kernel, by decide +kernel, rfl⟩
theorem dX12_check_25 : dc cX12_check 25 .isub 1 26 := ⟨by decide +kernel, rfl⟩
theorem dX12_check_26 : dc cX12_check 26 (.invokestatic 96) 3 29 := ⟨by decide +kernel, rfl⟩
theorem dX12_check_29 : dj cX12_check 29 (.ifCond .eq) 63 32 := ⟨34, by decide +kernel, by decide, rfl⟩
theorem dX12_check_32 : dIl cX12_check 32 4 34 := Or.inr ⟨by decide +kernel, rfl⟩
theorem dX12_check_34 : dKc cX12_check 34 0 35 := Or.inl ⟨0, by decide +kernel, by decide +kernel, rfl⟩
theorem dX12_check_35 : dAl cX12_check 35 0 36 := Or.inl ⟨0, rfl, by decide +kernel, rfl⟩
theorem dX12_check_36 : dc cX12_check 36 (.getfield 50) 3 39 := ⟨by decide +kernel, rfl⟩
theorem dX12_check_39 : dIl cX12_check 39 1 40 := Or.inl ⟨1, rfl, by decide +kernel, rfl⟩
theorem dX12_check_40 : dc cX12_check 40 .iaload 1 41 := ⟨by decide +kernel, rfl⟩
theorem dX12_check_41 : dKc cX12_check 41 1 42 := Or.inl ⟨1, by decide +kernel, by decide +kernel, rfl⟩
theorem dX12_check_42 : dc cX12_check 42 .isub 1 43 := ⟨by decide +kernel, rfl⟩
theorem dX12_check_43 : dc cX12_check 43 (.invokestatic 96) 3 46 := ⟨by decide +kernel, rfl⟩
theorem dX12_check_46 : dj cX12_check 46 (.ifCond .eq) 63 49 := ⟨17, by decide +kernel, by decide, rfl⟩
theorem dX12_check_49 : dAl cX12_check 49 0 50 := Or.inl ⟨0, rfl, by decide +kernel, rfl⟩
theorem dX12_check_50 : dc cX12_check 50 (.getfield 53) 3 53 := ⟨by decide +kernel, rfl⟩
theorem dX12_check_53 : dKc cX12_check 53 5 54 := Or.inl ⟨5, by decide +kernel, by decide +kernel, rfl⟩
theorem dX12_check_54 : dIl cX12_check 54 1 55 := Or.inl ⟨1, rfl, by decide +kernel, rfl⟩
theorem dX12_check_55 : dc cX12_check 55 .imul 1 56 := ⟨by decide +kernel, rfl⟩
theorem dX12_check_56 : dIl cX12_check 56 4 58 := Or.inr ⟨by decide +kernel, rfl⟩
theorem dX12_check_58 : dc cX12_check 58 .iadd 1 59 := ⟨by decide +kernel, rfl⟩
theorem dX12_check_59 : dc cX12_check 59 .iaload 1 60 := ⟨by decide +kernel, rfl⟩
theorem dX12_check_60 : dj cX12_check 60 (.ifCond .eq) 65 63 := ⟨5, by decide +kernel, by decide, rfl⟩
theorem dX12_check_63 : dKc cX12_check 63 (-1) 64 := Or.inl ⟨(-1), by decide +kernel, by decide +kernel, rfl⟩
theorem dX12_check_64 : dc cX12_check 64 .ireturn 1 65 := ⟨by decide +kernel, rfl⟩
theorem dX12_check_65 : dAl cX12_check 65 0 66 := Or.inl ⟨0, rfl, by decide +kernel, rfl⟩
theorem dX12_check_66 : dc cX12_check 66 (.getfield 53) 3 69 := ⟨by decide +kernel, rfl⟩
theorem dX12_check_69 : dKc cX12_check 69 5 70 := Or.inl ⟨5, by decide +kernel, by decide +kernel, rfl⟩
theorem dX12_check_70 : dIl cX12_check 70 1 71 := Or.inl ⟨1, rfl, by decide +kernel, rfl⟩
theorem dX12_check_71 : dc cX12_check 71 .imul 1 72 := ⟨by decide +kernel, rfl⟩
theorem dX12_check_72 : dIl cX12_check 72 3 73 := Or.inl ⟨3, rfl, by decide +kernel, rfl⟩
theorem dX12_check_73 : dc cX12_check 73 .iadd 1 74 := ⟨by decide +kernel, rfl⟩
theorem dX12_check_74 : dc cX12_check 74 .iaload 1 75 := ⟨by decide +kernel, rfl⟩
theorem dX12_check_75 : dIs cX12_check 75 5 77 := Or.inr ⟨by decide +kernel, rfl⟩
theorem dX12_check_77 : dIl cX12_check 77 2 78 := Or.inl ⟨2, rfl, by decide +kernel, rfl⟩
theorem dX12_check_78 : dKc cX12_check 78 2 79 := Or.inl ⟨2, by decide +kernel, by decide +kernel, rfl⟩
theorem dX12_check_79 : dj cX12_check 79 (.if_icmp .ge) 95 82 := ⟨16, by decide +kernel, by decide, rfl⟩
theorem dX12_check_82 : dIl cX12_check 82 5 84 := Or.inr ⟨by decide +kernel, rfl⟩
theorem dX12_check_84 : dj cX12_check 84 (.ifCond .ne) 91 87 := ⟨7, by decide +kernel, by decide, rfl⟩
theorem dX12_check_87 : dKc cX12_check 87 1 88 := Or.inl ⟨1, by decide +kernel, by decide +kernel, rfl⟩
theorem dX12_check_88 : dj cX12_check 88 .goto 150 91 := ⟨62, by decide +kernel, by decide, rfl⟩
theorem dX12_check_91 : dKc cX12_check 91 0 92 := Or.inl ⟨0, by decide +kernel, by decide +kernel, rfl⟩
theorem dX12_check_92 : dj cX12_check 92 .goto 150 95 := ⟨58, by decide +kernel, by decide, rfl⟩
theorem dX12_check_95 : dIl cX12_check 95 2 96 := Or.inl ⟨2, rfl, by decide +kernel, rfl⟩
theorem dX12_check_96 : dKc cX12_check 96 4 97 := Or.inl ⟨4, by decide +kernel, by decide +kernel, rfl⟩
theorem dX12_check_97 : dj cX12_check 97 (.if_icmp .ge) 114 100 := ⟨17, by decide +kernel, by decide, rfl⟩
theorem dX12_check_100 : dIl cX12_check 100 5 102 := Or.inr ⟨by decide +kernel, rfl⟩
theorem dX12_check_102 : dKc cX12_check 102 3 103 := Or.inl ⟨3, by decide +kernel, by decide +kernel, rfl⟩
theorem dX12_check_103 : dj cX12_check 103 (.if_icmp .ne) 110 106 := ⟨7, by decide +kernel, by decide, rfl⟩
theorem dX12_check_106 : dKc cX12_check 106 1 107 := Or.inl ⟨1, by decide +kernel, by decide +kernel, rfl⟩
theorem dX12_check_107 : dj cX12_check 107 .goto 150 110 := ⟨43, by decide +kernel, by decide, rfl⟩
theorem dX12_check_110 : dKc cX12_check 110 0 111 := Or.inl ⟨0, by decide +kernel, by decide +kernel, rfl⟩
theorem dX12_check_111 : dj cX12_check 111 .goto 150 114 := ⟨39, by decide +kernel, by decide, rfl⟩
theorem dX12_check_114 : dIl cX12_check 114 2 115 := Or.inl ⟨2, rfl, by decide +kernel, rfl⟩
theorem dX12_check_115 : dKc cX12_check 115 4 116 := Or.inl ⟨4, by decide +kernel, by decide +kernel, rfl⟩
theorem dX12_check_116 : dj cX12_check 116 (.if_icmp .ne) 139 119 := ⟨23, by decide +kernel, by decide, rfl⟩
theorem dX12_check_119 : dIl cX12_check 119 5 121 := Or.inr ⟨by decide +kernel, rfl⟩
theorem dX12_check_121 : dKc cX12_check 121 1 122 := Or.inl ⟨1, by decide +kernel, by decide +kernel, rfl⟩
theorem dX12_check_122 : dj cX12_check 122 (.if_icmp .eq) 131 125 := ⟨9, by decide +kernel, by decide, rfl⟩
theorem dX12_check_125 : dIl cX12_check 125 5 127 := Or.inr ⟨by decide +kernel, rfl⟩
theorem dX12_check_127 : dKc cX12_check 127 2 128 := Or.inl ⟨2, by decide +kernel, by decide +kernel, rfl⟩
theorem dX12_check_128 : dj cX12_check 128 (.if_icmp .ne) 135 131 := ⟨7, by decide +kernel, by decide, rfl⟩
theorem dX12_check_131 : dKc cX12_check 131 1 132 := Or.inl ⟨1, by decide +kernel, by decide +kernel, rfl⟩
theorem dX12_check_132 : dj cX12_check 132 .goto 150 135 := ⟨18, by decide +kernel, by decide, rfl⟩
theorem dX12_check_135 : dKc cX12_check 135 0 136 := Or.inl ⟨0, by decide +kernel, by decide +kernel, rfl⟩
theorem dX12_check_136 : dj cX12_check 136 .goto 150 139 := ⟨14, by decide +kernel, by decide, rfl⟩
theorem dX12_check_139 : dIl cX12_check 139 5 141 := Or.inr ⟨by decide +kernel, rfl⟩
theorem dX12_check_141 : dKc cX12_check 141 4 142 := Or.inl ⟨4, by decide +kernel, by decide +kernel, rfl⟩
theorem dX12_check_142 : dj cX12_check 142 (.if_icmp .ne) 149 145 := ⟨7, by decide +kernel, by decide, rfl⟩
theorem dX12_check_145 : dKc cX12_check 145 1 146 := Or.inl ⟨1, by decide +kernel, by decide +kernel, rfl⟩
theorem dX12_check_146 : dj cX12_check 146 .goto 150 149 := ⟨4, by decide +kernel, by decide, rfl⟩
theorem dX12_check_149 : dKc cX12_check 149 0 150 := Or.inl ⟨0, by decide +kernel, by decide +kernel, rfl⟩
theorem dX12_check_150 : dIs cX12_check 150 6 152 := Or.inr ⟨by decide +kernel, rfl⟩
theorem dX12_check_152 : dIl cX12_check 152 6 154 := Or.inr ⟨by decide +kernel, rfl⟩
theorem dX12_check_154 : dj cX12_check 154 (.ifCond .ne) 159 157 := ⟨5, by decide +kernel, by decide, rfl⟩
theorem dX12_check_157 : dKc cX12_check 157 (-1) 158 := Or.inl ⟨(-1), by decide +kernel, by decide +kernel, rfl⟩
theorem dX12_check_158 : dc cX12_check 158 .ireturn 1 159 := ⟨by decide +kernel, rfl⟩
theorem dX12_check_159 : dAl cX12_check 159 0 160 := Or.inl ⟨0, rfl, by decide +kernel, rfl⟩
theorem dX12_check_160 : dc cX12_check 160 (.getfield 59) 3 163 := ⟨by decide +kernel, rfl⟩
theorem dX12_check_163 : dIl cX12_check 163 1 164 := Or.inl ⟨1, rfl, by decide +kernel, rfl⟩
theorem dX12_check_164 : dc cX12_check 164 .iaload 1 165 := ⟨by decide +kernel, rfl⟩
theorem dX12_check_165 : dKc cX12_check 165 4 166 := Or.inl ⟨4, by decide +kernel, by decide +kernel, rfl⟩
theorem dX12_check_166 : dj cX12_check 166 (.if_icmp .ne) 172 169 := ⟨6, by decide +kernel, by decide, rfl⟩
theorem dX12_check_169 : dKc cX12_check 169 (-2) 171 := Or.inr (Or.inl ⟨(-2), by decide +kernel, by decide +kernel, rfl⟩)
theorem dX12_check_171 : dc cX12_check 171 .ireturn 1 172 := ⟨by decide +kernel, rfl⟩
theorem dX12_check_172 : dAl cX12_check 172 0 173 := Or.inl ⟨0, rfl, by decide +kernel, rfl⟩
theorem dX12_check_173 : dc cX12_check 173 (.getfield 59) 3 176 := ⟨by decide +kernel, rfl⟩
theorem dX12_check_176 : dIl cX12_check 176 1 177 := Or.inl ⟨1, rfl, by decide +kernel, rfl⟩
theorem dX12_check_177 : dc cX12_check 177 .iaload 1 178 := ⟨by decide +kernel, rfl⟩
theorem dX12_check_178 : dIs cX12_check 178 7 180 := Or.inr ⟨by decide +kernel, rfl⟩
theorem dX12_check_180 : dAl cX12_check 180 0 181 := Or.inl ⟨0, rfl, by decide +kernel, rfl⟩
theorem dX12_check_181 : dc cX12_check 181 (.getfield 62) 3 184 := ⟨by decide +kernel, rfl⟩
theorem dX12_check_184 : dKc cX12_check 184 4 185 := Or.inl ⟨4, by decide +kernel, by decide +kernel, rfl⟩
theorem dX12_check_185 : dIl cX12_check 185 1 186 := Or.inl ⟨1, rfl, by decide +kernel, rfl⟩
theorem dX12_check_186 : dc cX12_check 186 .imul 1 187 := ⟨by decide +kernel, rfl⟩
theorem dX12_check_187 : dIl cX12_check 187 7 189 := Or.inr ⟨by decide +kernel, rfl⟩
theorem dX12_check_189 : dc cX12_check 189 .iadd 1 190 := ⟨by decide +kernel, rfl⟩
theorem dX12_check_190 : dIl cX12_check 190 2 191 := Or.inl ⟨2, rfl, by decide +kernel, rfl⟩
theorem dX12_check_191 : dc cX12_check 191 .iastore 1 192 := ⟨by decide +kernel, rfl⟩
theorem dX12_check_192 : dAl cX12_check 192 0 193 := Or.inl ⟨0, rfl, by decide +kernel, rfl⟩
theorem dX12_check_193 : dc cX12_check 193 (.getfield 65) 3 196 := ⟨by decide +kernel, rfl⟩
theorem dX12_check_196 : dKc cX12_check 196 4 197 := Or.inl ⟨4, by decide +kernel, by decide +kernel, rfl⟩
theorem dX12_check_197 : dIl cX12_check 197 1 198 := Or.inl ⟨1, rfl, by decide +kernel, rfl⟩
theorem dX12_check_198 : dc cX12_check 198 .imul 1 199 := ⟨by decide +kernel, rfl⟩
theorem dX12_check_199 : dIl cX12_check 199 7 201 := Or.inr ⟨by decide +kernel, rfl⟩
theorem dX12_check_201 : dc cX12_check 201 .iadd 1 202 := ⟨by decide +kernel, rfl⟩
theorem dX12_check_202 : dIl cX12_check 202 3 203 := Or.inl ⟨3, rfl, by decide +kernel, rfl⟩
theorem dX12_check_203 : dc cX12_check 203 .iastore 1 204 := ⟨by decide +kernel, rfl⟩
theorem dX12_check_204 : dAl cX12_check 204 0 205 := Or.inl ⟨0, rfl, by decide +kernel, rfl⟩
theorem dX12_check_205 : dc cX12_check 205 (.getfield 68) 3 208 := ⟨by decide +kernel, rfl⟩
theorem dX12_check_208 : dKc cX12_check 208 4 209 := Or.inl ⟨4, by decide +kernel, by decide +kernel, rfl⟩
theorem dX12_check_209 : dIl cX12_check 209 1 210 := Or.inl ⟨1, rfl, by decide +kernel, rfl⟩
theorem dX12_check_210 : dc cX12_check 210 .imul 1 211 := ⟨by decide +kernel, rfl⟩
theorem dX12_check_211 : dIl cX12_check 211 7 213 := Or.inr ⟨by decide +kernel, rfl⟩
theorem dX12_check_213 : dc cX12_check 213 .iadd 1 214 := ⟨by decide +kernel, rfl⟩
theorem dX12_check_214 : dIl cX12_check 214 4 216 := Or.inr ⟨by decide +kernel, rfl⟩
theorem dX12_check_216 : dc cX12_check 216 .iastore 1 217 := ⟨by decide +kernel, rfl⟩
theorem dX12_check_217 : dAl cX12_check 217 0 218 := Or.inl ⟨0, rfl, by decide +kernel, rfl⟩
theorem dX12_check_218 : dc cX12_check 218 (.getfield 59) 3 221 := ⟨by decide +kernel, rfl⟩
theorem dX12_check_221 : dIl cX12_check 221 1 222 := Or.inl ⟨1, rfl, by decide +kernel, rfl⟩
theorem dX12_check_222 : dc cX12_check 222 .dup2 1 223 := ⟨by decide +kernel, rfl⟩
theorem dX12_check_223 : dc cX12_check 223 .iaload 1 224 := ⟨by decide +kernel, rfl⟩
theorem dX12_check_224 : dKc cX12_check 224 1 225 := Or.inl ⟨1, by decide +kernel, by decide +kernel, rfl⟩
theorem dX12_check_225 : dc cX12_check 225 .iadd 1 226 := ⟨by decide +kernel, rfl⟩
theorem dX12_check_226 : dc cX12_check 226 .iastore 1 227 := ⟨by decide +kernel, rfl⟩
theorem dX12_check_227 : dIl cX12_check 227 7 229 := Or.inr ⟨by decide +kernel, rfl⟩
theorem dX12_check_229 : dc cX12_check 229 .ireturn 1 230 := ⟨by decide +kernel, rfl⟩
theorem dX12_give_0 : dIl cX12_give 0 1 1 := Or.inl ⟨1, rfl, by decide +kernel, rfl⟩
theorem dX12_give_1 : dKc cX12_give 1 0 2 := Or.inl ⟨0, by decide +kernel, by decide +kernel, rfl⟩
theorem dX12_give_2 : dKc cX12_give 2 4 3 := Or.inl ⟨4, by decide +kernel, by decide +kernel, rfl⟩
theorem dX12_give_3 : dc cX12_give 3 (.invokestatic 96) 3 6 := ⟨by decide +kernel, rfl⟩
theorem dX12_give_6 : dj cX12_give 6 (.ifCond .eq) 16 9 := ⟨10, by decide +kernel, by decide, rfl⟩
theorem dX12_give_9 : dIl cX12_give 9 3 10 := Or.inl ⟨3, rfl, by decide +kernel, rfl⟩
theorem dX12_give_10 : dc cX12_give 10 (.invokestatic 153) 3 13 := ⟨by decide +kernel, rfl⟩
theorem dX12_give_13 : dj cX12_give 13 (.ifCond .ne) 18 16 := ⟨5, by decide +kernel, by decide, rfl⟩
theorem dX12_give_16 : dKc cX12_give 16 (-1) 17 := Or.inl ⟨(-1), by decide +kernel, by decide +kernel, rfl⟩
theorem dX12_give_17 : dc cX12_give 17 .ireturn 1 18 := ⟨by decide +kernel, rfl⟩
theorem dX12_give_18 : dAl cX12_give 18 0 19 := Or.inl ⟨0, rfl, by decide +kernel, rfl⟩
theorem dX12_give_19 : dc cX12_give 19 (.getfield 71) 3 22 := ⟨by decide +kernel, rfl⟩
theorem dX12_give_22 : dIl cX12_give 22 1 23 := Or.inl ⟨1, rfl, by decide +kernel, rfl⟩
theorem dX12_give_23 : dIl cX12_give 23 2 24 := Or.inl ⟨2, rfl, by decide +kernel, rfl⟩
theorem dX12_give_24 : dc cX12_give 24 .iastore 1 25 := ⟨by decide +kernel, rfl⟩
theorem dX12_give_25 : dAl cX12_give 25 0 26 := Or.inl ⟨0, rfl, by decide +kernel, rfl⟩
theorem dX12_give_26 : dc cX12_give 26 (.getfield 74) 3 29 := ⟨by decide +kernel, rfl⟩
theorem dX12_give_29 : dIl cX12_give 29 1 30 := Or.inl ⟨1, rfl, by decide +kernel, rfl⟩
theorem dX12_give_30 : dIl cX12_give 30 3 31 := Or.inl ⟨3, rfl, by decide +kernel, rfl⟩
theorem dX12_give_31 : dc cX12_give 31 .iastore 1 32 := ⟨by decide +kernel, rfl⟩
theorem dX12_give_32 : dKc cX12_give 32 1 33 := Or.inl ⟨1, by decide +kernel, by decide +kernel, rfl⟩
theorem dX12_give_33 : dc cX12_give 33 .ireturn 1 34 := ⟨by decide +kernel, rfl⟩
theorem dX12_taken_0 : dAl cX12_taken 0 0 1 := Or.inl ⟨0, rfl, by decide +kernel, rfl⟩
theorem dX12_taken_1 : dc cX12_taken 1 (.getfield 53) 3 4 := ⟨by decide +kernel, rfl⟩
theorem dX12_taken_4 : dKc cX12_taken 4 5 5 := Or.inl ⟨5, by decide +kernel, by decide +kernel, rfl⟩
theorem dX12_taken_5 : dIl cX12_taken 5 1 6 := Or.inl ⟨1, rfl, by decide +kernel, rfl⟩
theorem dX12_taken_6 : dc cX12_taken 6 .imul 1 7 := ⟨by decide +kernel, rfl⟩
theorem dX12_taken_7 : dIl cX12_taken 7 2 8 := Or.inl ⟨2, rfl, by decide +kernel, rfl⟩
theorem dX12_taken_8 : dc cX12_taken 8 .iadd 1 9 := ⟨by decide +kernel, rfl⟩
theorem dX12_taken_9 : dc cX12_taken 9 .iaload 1 10 := ⟨by decide +kernel, rfl⟩
theorem dX12_taken_10 : dIs cX12_taken 10 4 12 := Or.inr ⟨by decide +kernel, rfl⟩
theorem dX12_taken_12 : dAl cX12_taken 12 0 13 := Or.inl ⟨0, rfl, by decide +kernel, rfl⟩
theorem dX12_taken_13 : dc cX12_taken 13 (.getfield 56) 3 16 := ⟨by decide +kernel, rfl⟩
theorem dX12_taken_16 : dKc cX12_taken 16 5 17 := Or.inl ⟨5, by decide +kernel, by decide +kernel, rfl⟩
theorem dX12_taken_17 : dIl cX12_taken 17 1 18 := Or.inl ⟨1, rfl, by decide +kernel, rfl⟩
theorem dX12_taken_18 : dc cX12_taken 18 .imul 1 19 := ⟨by decide +kernel, rfl⟩
theorem dX12_taken_19 : dIl cX12_taken 19 2 20 := Or.inl ⟨2, rfl, by decide +kernel, rfl⟩
theorem dX12_taken_20 : dc cX12_taken 20 .iadd 1 21 := ⟨by decide +kernel, rfl⟩
theorem dX12_taken_21 : dc cX12_taken 21 .iaload 1 22 := ⟨by decide +kernel, rfl⟩
theorem dX12_taken_22 : dIs cX12_taken 22 5 24 := Or.inr ⟨by decide +kernel, rfl⟩
theorem dX12_taken_24 : dIl cX12_taken 24 4 26 := Or.inr ⟨by decide +kernel, rfl⟩
theorem dX12_taken_26 : dj cX12_taken 26 (.ifCond .ne) 66 29 := ⟨40, by decide +kernel, by decide, rfl⟩
theorem dX12_taken_29 : dAl cX12_taken 29 0 30 := Or.inl ⟨0, rfl, by decide +kernel, rfl⟩
theorem dX12_taken_30 : dc cX12_taken 30 (.getfield 44) 3 33 := ⟨by decide +kernel, rfl⟩
theorem dX12_taken_33 : dKc cX12_taken 33 5 34 := Or.inl ⟨5, by decide +kernel, by decide +kernel, rfl⟩
theorem dX12_taken_34 : dIl cX12_taken 34 3 35 := Or.inl ⟨3, rfl, by decide +kernel, rfl⟩
theorem dX12_taken_35 : dc cX12_taken 35 .imul 1 36 := ⟨by decide +kernel, rfl⟩
theorem dX12_taken_36 : dIl cX12_taken 36 2 37 := Or.inl ⟨2, rfl, by decide +kernel, rfl⟩
theorem dX12_taken_37 : dc cX12_taken 37 .iadd 1 38 := ⟨by decide +kernel, rfl⟩
theorem dX12_taken_38 : dAl cX12_taken 38 0 39 := Or.inl ⟨0, rfl, by decide +kernel, rfl⟩
theorem dX12_taken_39 : dc cX12_taken 39 (.getfield 71) 3 42 := ⟨by decide +kernel, rfl⟩
theorem dX12_taken_42 : dIl cX12_taken 42 2 43 := Or.inl ⟨2, rfl, by decide +kernel, rfl⟩
theorem dX12_taken_43 : dc cX12_taken 43 .iaload 1 44 := ⟨by decide +kernel, rfl⟩
theorem dX12_taken_44 : dc cX12_taken 44 .iastore 1 45 := ⟨by decide +kernel, rfl⟩
theorem dX12_taken_45 : dAl cX12_taken 45 0 46 := Or.inl ⟨0, rfl, by decide +kernel, rfl⟩
theorem dX12_taken_46 : dc cX12_taken 46 (.getfield 71) 3 49 := ⟨by decide +kernel, rfl⟩
theorem dX12_taken_49 : dIl cX12_taken 49 2 50 := Or.inl ⟨2, rfl, by decide +kernel, rfl⟩
theorem dX12_taken_50 : dc cX12_taken 50 .iaload 1 51 := ⟨by decide +kernel, rfl⟩
theorem dX12_taken_51 : dKc cX12_taken 51 0 52 := Or.inl ⟨0, by decide +kernel, by decide +kernel, rfl⟩
theorem dX12_taken_52 : dIl cX12_taken 52 5 54 := Or.inr ⟨by decide +kernel, rfl⟩
theorem dX12_taken_54 : dc cX12_taken 54 (.invokestatic 96) 3 57 := ⟨by decide +kernel, rfl⟩
theorem dX12_taken_57 : dj cX12_taken 57 (.ifCond .eq) 64 60 := ⟨7, by decide +kernel, by decide, rfl⟩
theorem dX12_taken_60 : dKc cX12_taken 60 0 61 := Or.inl ⟨0, by decide +kernel, by decide +kernel, rfl⟩
theorem dX12_taken_61 : dj cX12_taken 61 .goto 65 64 := ⟨4, by decide +kernel, by decide, rfl⟩
theorem dX12_taken_64 : dKc cX12_taken 64 2 65 := Or.inl ⟨2, by decide +kernel, by decide +kernel, rfl⟩
theorem dX12_taken_65 : dc cX12_taken 65 .ireturn 1 66 := ⟨by decide +kernel, rfl⟩
theorem dX12_taken_66 : dAl cX12_taken 66 0 67 := Or.inl ⟨0, rfl, by decide +kernel, rfl⟩
theorem dX12_taken_67 : dc cX12_taken 67 (.getfield 47) 3 70 := ⟨by decide +kernel, rfl⟩
theorem dX12_taken_70 : dAl cX12_taken 70 0 71 := Or.inl ⟨0, rfl, by decide +kernel, rfl⟩
theorem dX12_taken_71 : dc cX12_taken 71 (.getfield 74) 3 74 := ⟨by decide +kernel, rfl⟩
theorem dX12_taken_74 : dIl cX12_taken 74 2 75 := Or.inl ⟨2, rfl, by decide +kernel, rfl⟩
theorem dX12_taken_75 : dc cX12_taken 75 .iaload 1 76 := ⟨by decide +kernel, rfl⟩
theorem dX12_taken_76 : dc cX12_taken 76 .iaload 1 77 := ⟨by decide +kernel, rfl⟩
theorem dX12_taken_77 : dIs cX12_taken 77 6 79 := Or.inr ⟨by decide +kernel, rfl⟩
theorem dX12_taken_79 : dAl cX12_taken 79 0 80 := Or.inl ⟨0, rfl, by decide +kernel, rfl⟩
theorem dX12_taken_80 : dIl cX12_taken 80 6 82 := Or.inr ⟨by decide +kernel, rfl⟩
theorem dX12_taken_82 : dc cX12_taken 82 (.invokevirtual 159) 3 85 := ⟨by decide +kernel, rfl⟩
theorem dX12_taken_85 : dIs cX12_taken 85 7 87 := Or.inr ⟨by decide +kernel, rfl⟩
theorem dX12_taken_87 : dAl cX12_taken 87 0 88 := Or.inl ⟨0, rfl, by decide +kernel, rfl⟩
theorem dX12_taken_88 : dc cX12_taken 88 (.getfield 44) 3 91 := ⟨by decide +kernel, rfl⟩
theorem dX12_taken_91 : dKc cX12_taken 91 5 92 := Or.inl ⟨5, by decide +kernel, by decide +kernel, rfl⟩
theorem dX12_taken_92 : dIl cX12_taken 92 3 93 := Or.inl ⟨3, rfl, by decide +kernel, rfl⟩
theorem dX12_taken_93 : dc cX12_taken 93 .imul 1 94 := ⟨by decide +kernel, rfl⟩
theorem dX12_taken_94 : dIl cX12_taken 94 2 95 := Or.inl ⟨2, rfl, by decide +kernel, rfl⟩
theorem dX12_taken_95 : dc cX12_taken 95 .iadd 1 96 := ⟨by decide +kernel, rfl⟩
theorem dX12_taken_96 : dIl cX12_taken 96 6 98 := Or.inr ⟨by decide +kernel, rfl⟩
theorem dX12_taken_98 : dc cX12_taken 98 .iastore 1 99 := ⟨by decide +kernel, rfl⟩
theorem dX12_taken_99 : dIl cX12_taken 99 7 101 := Or.inr ⟨by decide +kernel, rfl⟩
theorem dX12_taken_101 : dj cX12_taken 101 (.ifCond .ne) 106 104 := ⟨5, by decide +kernel, by decide, rfl⟩
theorem dX12_taken_104 : dKc cX12_taken 104 0 105 := Or.inl ⟨0, by decide +kernel, by decide +kernel, rfl⟩
theorem dX12_taken_105 : dc cX12_taken 105 .ireturn 1 106 := ⟨by decide +kernel, rfl⟩
theorem dX12_taken_106 : dIl cX12_taken 106 4 108 := Or.inr ⟨by decide +kernel, rfl⟩
theorem dX12_taken_108 : dKc cX12_taken 108 1 109 := Or.inl ⟨1, by decide +kernel, by decide +kernel, rfl⟩
theorem dX12_taken_109 : dj cX12_taken 109 (.if_icmp .ne) 126 112 := ⟨17, by decide +kernel, by decide, rfl⟩
theorem dX12_taken_112 : dIl cX12_taken 112 7 114 := Or.inr ⟨by decide +kernel, rfl⟩
theorem dX12_taken_114 : dKc cX12_taken 114 4 115 := Or.inl ⟨4, by decide +kernel, by decide +kernel, rfl⟩
theorem dX12_taken_115 : dj cX12_taken 115 (.if_icmp .ge) 122 118 := ⟨7, by decide +kernel, by decide, rfl⟩
theorem dX12_taken_118 : dKc cX12_taken 118 1 119 := Or.inl ⟨1, by decide +kernel, by decide +kernel, rfl⟩
theorem dX12_taken_119 : dj cX12_taken 119 .goto 183 122 := ⟨64, by decide +kernel, by decide, rfl⟩
theorem dX12_taken_122 : dKc cX12_taken 122 0 123 := Or.inl ⟨0, by decide +kernel, by decide +kernel, rfl⟩
theorem dX12_taken_123 : dj cX12_taken 123 .goto 183 126 := ⟨60, by decide +kernel, by decide, rfl⟩
theorem dX12_taken_126 : dIl cX12_taken 126 4 128 := Or.inr ⟨by decide +kernel, rfl⟩
theorem dX12_taken_128 : dKc cX12_taken 128 2 129 := Or.inl ⟨2, by decide +kernel, by decide +kernel, rfl⟩
theorem dX12_taken_129 : dj cX12_taken 129 (.if_icmp .ne) 152 132 := ⟨23, by decide +kernel, by decide, rfl⟩
theorem dX12_taken_132 : dIl cX12_taken 132 7 134 := Or.inr ⟨by decide +kernel, rfl⟩
theorem dX12_taken_134 : dKc cX12_taken 134 2 135 := Or.inl ⟨2, by decide +kernel, by decide +kernel, rfl⟩
theorem dX12_taken_135 : dj cX12_taken 135 (.if_icmp .eq) 144 138 := ⟨9, by decide +kernel, by decide, rfl⟩
theorem dX12_taken_138 : dIl cX12_taken 138 7 140 := Or.inr ⟨by decide +kernel, rfl⟩
theorem dX12_taken_140 : dKc cX12_taken 140 3 141 := Or.inl ⟨3, by decide +kernel, by decide +kernel, rfl⟩
theorem dX12_taken_141 : dj cX12_taken 141 (.if_icmp .ne) 148 144 := ⟨7, by decide +kernel, by decide, rfl⟩
theorem dX12_taken_144 : dKc cX12_taken 144 1 145 := Or.inl ⟨1, by decide +kernel, by decide +kernel, rfl⟩
theorem dX12_taken_145 : dj cX12_taken 145 .goto 183 148 := ⟨38, by decide +kernel, by decide, rfl⟩
theorem dX12_taken_148 : dKc cX12_taken 148 0 149 := Or.inl ⟨0, by decide +kernel, by decide +kernel, rfl⟩
theorem dX12_taken_149 : dj cX12_taken 149 .goto 183 152 := ⟨34, by decide +kernel, by decide, rfl⟩
theorem dX12_taken_152 : dIl cX12_taken 152 4 154 := Or.inr ⟨by decide +kernel, rfl⟩
theorem dX12_taken_154 : dKc cX12_taken 154 3 155 := Or.inl ⟨3, by decide +kernel, by decide +kernel, rfl⟩
theorem dX12_taken_155 : dj cX12_taken 155 (.if_icmp .ne) 172 158 := ⟨17, by decide +kernel, by decide, rfl⟩
theorem dX12_taken_158 : dIl cX12_taken 158 7 160 := Or.inr ⟨by decide +kernel, rfl⟩
theorem dX12_taken_160 : dKc cX12_taken 160 4 161 := Or.inl ⟨4, by decide +kernel, by decide +kernel, rfl⟩
theorem dX12_taken_161 : dj cX12_taken 161 (.if_icmp .ne) 168 164 := ⟨7, by decide +kernel, by decide, rfl⟩
theorem dX12_taken_164 : dKc cX12_taken 164 1 165 := Or.inl ⟨1, by decide +kernel, by decide +kernel, rfl⟩
theorem dX12_taken_165 : dj cX12_taken 165 .goto 183 168 := ⟨18, by decide +kernel, by decide, rfl⟩
theorem dX12_taken_168 : dKc cX12_taken 168 0 169 := Or.inl ⟨0, by decide +kernel, by decide +kernel, rfl⟩
theorem dX12_taken_169 : dj cX12_taken 169 .goto 183 172 := ⟨14, by decide +kernel, by decide, rfl⟩
theorem dX12_taken_172 : dIl cX12_taken 172 7 174 := Or.inr ⟨by decide +kernel, rfl⟩
theorem dX12_taken_174 : dKc cX12_taken 174 5 175 := Or.inl ⟨5, by decide +kernel, by decide +kernel, rfl⟩
theorem dX12_taken_175 : dj cX12_taken 175 (.if_icmp .ne) 182 178 := ⟨7, by decide +kernel, by decide, rfl⟩
theorem dX12_taken_178 : dKc cX12_taken 178 1 179 := Or.inl ⟨1, by decide +kernel, by decide +kernel, rfl⟩
theorem dX12_taken_179 : dj cX12_taken 179 .goto 183 182 := ⟨4, by decide +kernel, by decide, rfl⟩
theorem dX12_taken_182 : dKc cX12_taken 182 0 183 := Or.inl ⟨0, by decide +kernel, by decide +kernel, rfl⟩
theorem dX12_taken_183 : dIs cX12_taken 183 8 185 := Or.inr ⟨by decide +kernel, rfl⟩
theorem dX12_taken_185 : dIl cX12_taken 185 8 187 := Or.inr ⟨by decide +kernel, rfl⟩
theorem dX12_taken_187 : dj cX12_taken 187 (.ifCond .ne) 192 190 := ⟨5, by decide +kernel, by decide, rfl⟩
theorem dX12_taken_190 : dKc cX12_taken 190 1 191 := Or.inl ⟨1, by decide +kernel, by decide +kernel, rfl⟩
theorem dX12_taken_191 : dc cX12_taken 191 .ireturn 1 192 := ⟨by decide +kernel, rfl⟩
theorem dX12_taken_192 : dIl cX12_taken 192 4 194 := Or.inr ⟨by decide +kernel, rfl⟩
theorem dX12_taken_194 : dKc cX12_taken 194 1 195 := Or.inl ⟨1, by decide +kernel, by decide +kernel, rfl⟩
theorem dX12_taken_195 : dj cX12_taken 195 (.if_icmp .ne) 210 198 := ⟨15, by decide +kernel, by decide, rfl⟩
theorem dX12_taken_198 : dAl cX12_taken 198 0 199 := Or.inl ⟨0, rfl, by decide +kernel, rfl⟩
theorem dX12_taken_199 : dc cX12_taken 199 (.getfield 7) 3 202 := ⟨by decide +kernel, rfl⟩
theorem dX12_taken_202 : dIl cX12_taken 202 6 204 := Or.inr ⟨by decide +kernel, rfl⟩
theorem dX12_taken_204 : dc cX12_taken 204 .iaload 1 205 := ⟨by decide +kernel, rfl⟩
theorem dX12_taken_205 : dIl cX12_taken 205 5 207 := Or.inr ⟨by decide +kernel, rfl⟩
theorem dX12_taken_207 : dj cX12_taken 207 (.if_icmp .ne) 231 210 := ⟨24, by decide +kernel, by decide, rfl⟩
theorem dX12_taken_210 : dIl cX12_taken 210 4 212 := Or.inr ⟨by decide +kernel, rfl⟩
theorem dX12_taken_212 : dKc cX12_taken 212 4 213 := Or.inl ⟨4, by decide +kernel, by decide +kernel, rfl⟩
theorem dX12_taken_213 : dj cX12_taken 213 (.if_icmp .ne) 233 216 := ⟨20, by decide +kernel, by decide, rfl⟩
theorem dX12_taken_216 : dAl cX12_taken 216 0 217 := Or.inl ⟨0, rfl, by decide +kernel, rfl⟩
theorem dX12_taken_217 : dc cX12_taken 217 (.getfield 38) 3 220 := ⟨by decide +kernel, rfl⟩
theorem dX12_taken_220 : dIl cX12_taken 220 6 222 := Or.inr ⟨by decide +kernel, rfl⟩
theorem dX12_taken_222 : dc cX12_taken 222 (.ldc 152) 2 224 := ⟨by decide +kernel, rfl⟩
theorem dX12_taken_224 : dc cX12_taken 224 .isub 1 225 := ⟨by decide +kernel, rfl⟩
theorem dX12_taken_225 : dc cX12_taken 225 .iaload 1 226 := ⟨by decide +kernel, rfl⟩
theorem dX12_taken_226 : dIl cX12_taken 226 5 228 := Or.inr ⟨by decide +kernel, rfl⟩
theorem dX12_taken_228 : dj cX12_taken 228 (.if_icmp .eq) 233 231 := ⟨5, by decide +kernel, by decide, rfl⟩
theorem dX12_taken_231 : dKc cX12_taken 231 2 232 := Or.inl ⟨2, by decide +kernel, by decide +kernel, rfl⟩
theorem dX12_taken_232 : dc cX12_taken 232 .ireturn 1 233 := ⟨by decide +kernel, rfl⟩
theorem dX12_taken_233 : dIl cX12_taken 233 4 235 := Or.inr ⟨by decide +kernel, rfl⟩
theorem dX12_taken_235 : dKc cX12_taken 235 3 236 := Or.inl ⟨3, by decide +kernel, by decide +kernel, rfl⟩
theorem dX12_taken_236 : dj cX12_taken 236 (.if_icmp .ge) 245 239 := ⟨9, by decide +kernel, by decide, rfl⟩
theorem dX12_taken_239 : dAl cX12_taken 239 0 240 := Or.inl ⟨0, rfl, by decide +kernel, rfl⟩
theorem dX12_taken_240 : dIl cX12_taken 240 6 242 := Or.inr ⟨by decide +kernel, rfl⟩
theorem dX12_taken_242 : dc cX12_taken 242 (.invokevirtual 141) 3 245 := ⟨by decide +kernel, rfl⟩
theorem dX12_taken_245 : dKc cX12_taken 245 0 246 := Or.inl ⟨0, by decide +kernel, by decide +kernel, rfl⟩
theorem dX12_taken_246 : dc cX12_taken 246 .ireturn 1 247 := ⟨by decide +kernel, rfl⟩
theorem dX12_checked_0 : dIl cX12_checked 0 1 1 := Or.inl ⟨1, rfl, by decide +kernel, rfl⟩
theorem dX12_checked_1 : dj cX12_checked 1 (.ifCond .ne) 15 4 := ⟨14, by decide +kernel, by decide, rfl⟩
theorem dX12_checked_4 : dIl cX12_checked 4 2 5 := Or.inl ⟨2, rfl, by decide +kernel, rfl⟩
theorem dX12_checked_5 : dIl cX12_checked 5 3 6 := Or.inl ⟨3, rfl, by decide +kernel, rfl⟩
theorem dX12_checked_6 : dj cX12_checked 6 (.if_icmp .gt) 13 9 := ⟨7, by decide +kernel, by decide, rfl⟩
theorem dX12_checked_9 : dKc cX12_checked 9 0 10 := Or.inl ⟨0, by decide +kernel, by decide +kernel, rfl⟩
theorem dX12_checked_10 : dj cX12_checked 10 .goto 14 13 := ⟨4, by decide +kernel, by decide, rfl⟩
theorem dX12_checked_13 : dKc cX12_checked 13 2 14 := Or.inl ⟨2, by decide +kernel, by decide +kernel, rfl⟩
theorem dX12_checked_14 : dc cX12_checked 14 .ireturn 1 15 := ⟨by decide +kernel, rfl⟩
theorem dX12_checked_15 : dIl cX12_checked 15 1 16 := Or.inl ⟨1, rfl, by decide +kernel, rfl⟩
theorem dX12_checked_16 : dKc cX12_checked 16 1 17 := Or.inl ⟨1, by decide +kernel, by decide +kernel, rfl⟩
theorem dX12_checked_17 : dj cX12_checked 17 (.if_icmp .ne) 40 20 := ⟨23, by decide +kernel, by decide, rfl⟩
theorem dX12_checked_20 : dIl cX12_checked 20 3 21 := Or.inl ⟨3, rfl, by decide +kernel, rfl⟩
theorem dX12_checked_21 : dj cX12_checked 21 (.ifCond .ne) 28 24 := ⟨7, by decide +kernel, by decide, rfl⟩
theorem dX12_checked_24 : dKc cX12_checked 24 5 25 := Or.inl ⟨5, by decide +kernel, by decide +kernel, rfl⟩
theorem dX12_checked_25 : dj cX12_checked 25 .goto 39 28 := ⟨14, by decide +kernel, by decide, rfl⟩
theorem dX12_checked_28 : dIl cX12_checked 28 2 29 := Or.inl ⟨2, rfl, by decide +kernel, rfl⟩
theorem dX12_checked_29 : dIl cX12_checked 29 3 30 := Or.inl ⟨3, rfl, by decide +kernel, rfl⟩
theorem dX12_checked_30 : dc cX12_checked 30 .irem 1 31 := ⟨by decide +kernel, rfl⟩
theorem dX12_checked_31 : dj cX12_checked 31 (.ifCond .ne) 38 34 := ⟨7, by decide +kernel, by decide, rfl⟩
theorem dX12_checked_34 : dKc cX12_checked 34 0 35 := Or.inl ⟨0, by decide +kernel, by decide +kernel, rfl⟩
theorem dX12_checked_35 : dj cX12_checked 35 .goto 39 38 := ⟨4, by decide +kernel, by decide, rfl⟩
theorem dX12_checked_38 : dKc cX12_checked 38 2 39 := Or.inl ⟨2, by decide +kernel, by decide +kernel, rfl⟩
theorem dX12_checked_39 : dc cX12_checked 39 .ireturn 1 40 := ⟨by decide +kernel, rfl⟩
theorem dX12_checked_40 : dIl cX12_checked 40 2 41 := Or.inl ⟨2, rfl, by decide +kernel, rfl⟩
theorem dX12_checked_41 : dKc cX12_checked 41 (-1) 42 := Or.inl ⟨(-1), by decide +kernel, by decide +kernel, rfl⟩
theorem dX12_checked_42 : dj cX12_checked 42 (.if_icmp .ne) 47 45 := ⟨5, by decide +kernel, by decide, rfl⟩
theorem dX12_checked_45 : dKc cX12_checked 45 3 46 := Or.inl ⟨3, by decide +kernel, by decide +kernel, rfl⟩
theorem dX12_checked_46 : dc cX12_checked 46 .ireturn 1 47 := ⟨by decide +kernel, rfl⟩
theorem dX12_checked_47 : dIl cX12_checked 47 1 48 := Or.inl ⟨1, rfl, by decide +kernel, rfl⟩
theorem dX12_checked_48 : dc cX12_checked 48 (.tableswitch 103 2 4 #[28, 68, 87]) 28 76 := ⟨by decide +kernel, rfl⟩
theorem dX12_checked_76 : dIl cX12_checked 76 3 77 := Or.inl ⟨3, rfl, by decide +kernel, rfl⟩
theorem dX12_checked_77 : dAl cX12_checked 77 0 78 := Or.inl ⟨0, rfl, by decide +kernel, rfl⟩
theorem dX12_checked_78 : dc cX12_checked 78 (.getfield 32) 3 81 := ⟨by decide +kernel, rfl⟩
theorem dX12_checked_81 : dIl cX12_checked 81 2 82 := Or.inl ⟨2, rfl, by decide +kernel, rfl⟩
theorem dX12_checked_82 : dKc cX12_checked 82 100 84 := Or.inr (Or.inl ⟨100, by decide +kernel, by decide +kernel, rfl⟩)
theorem dX12_checked_84 : dc cX12_checked 84 .isub 1 85 := ⟨by decide +kernel, rfl⟩
theorem dX12_checked_85 : dc cX12_checked 85 .iaload 1 86 := ⟨by decide +kernel, rfl⟩
theorem dX12_checked_86 : dj cX12_checked 86 (.if_icmp .lt) 93 89 := ⟨7, by decide +kernel, by decide, rfl⟩
theorem dX12_checked_89 : dKc cX12_checked 89 4 90 := Or.inl ⟨4, by decide +kernel, by decide +kernel, rfl⟩
theorem dX12_checked_90 : dj cX12_checked 90 .goto 115 93 := ⟨25, by decide +kernel, by decide, rfl⟩
theorem dX12_checked_93 : dAl cX12_checked 93 0 94 := Or.inl ⟨0, rfl, by decide +kernel, rfl⟩
theorem dX12_checked_94 : dc cX12_checked 94 (.getfield 35) 3 97 := ⟨by decide +kernel, rfl⟩
theorem dX12_checked_97 : dKc cX12_checked 97 12 99 := Or.inr (Or.inl ⟨12, by decide +kernel, by decide +kernel, rfl⟩)
theorem dX12_checked_99 : dIl cX12_checked 99 2 100 := Or.inl ⟨2, rfl, by decide +kernel, rfl⟩
theorem dX12_checked_100 : dKc cX12_checked 100 100 102 := Or.inr (Or.inl ⟨100, by decide +kernel, by decide +kernel, rfl⟩)
theorem dX12_checked_102 : dc cX12_checked 102 .isub 1 103 := ⟨by decide +kernel, rfl⟩
theorem dX12_checked_103 : dc cX12_checked 103 .imul 1 104 := ⟨by decide +kernel, rfl⟩
theorem dX12_checked_104 : dIl cX12_checked 104 3 105 := Or.inl ⟨3, rfl, by decide +kernel, rfl⟩
theorem dX12_checked_105 : dc cX12_checked 105 .iadd 1 106 := ⟨by decide +kernel, rfl⟩
theorem dX12_checked_106 : dc cX12_checked 106 .iaload 1 107 := ⟨by decide +kernel, rfl⟩
theorem dX12_checked_107 : dj cX12_checked 107 (.ifCond .le) 114 110 := ⟨7, by decide +kernel, by decide, rfl⟩
theorem dX12_checked_110 : dKc cX12_checked 110 0 111 := Or.inl ⟨0, by decide +kernel, by decide +kernel, rfl⟩
theorem dX12_checked_111 : dj cX12_checked 111 .goto 115 114 := ⟨4, by decide +kernel, by decide, rfl⟩
theorem dX12_checked_114 : dKc cX12_checked 114 2 115 := Or.inl ⟨2, by decide +kernel, by decide +kernel, rfl⟩
theorem dX12_checked_115 : dc cX12_checked 115 .ireturn 1 116 := ⟨by decide +kernel, rfl⟩
theorem dX12_checked_116 : dAl cX12_checked 116 0 117 := Or.inl ⟨0, rfl, by decide +kernel, rfl⟩
theorem dX12_checked_117 : dc cX12_checked 117 (.getfield 32) 3 120 := ⟨by decide +kernel, rfl⟩
theorem dX12_checked_120 : dIl cX12_checked 120 2 121 := Or.inl ⟨2, rfl, by decide +kernel, rfl⟩
theorem dX12_checked_121 : dKc cX12_checked 121 100 123 := Or.inr (Or.inl ⟨100, by decide +kernel, by decide +kernel, rfl⟩)
theorem dX12_checked_123 : dc cX12_checked 123 .isub 1 124 := ⟨by decide +kernel, rfl⟩
theorem dX12_checked_124 : dc cX12_checked 124 .iaload 1 125 := ⟨by decide +kernel, rfl⟩
theorem dX12_checked_125 : dIl cX12_checked 125 3 126 := Or.inl ⟨3, rfl, by decide +kernel, rfl⟩
theorem dX12_checked_126 : dj cX12_checked 126 (.if_icmp .lt) 133 129 := ⟨7, by decide +kernel, by decide, rfl⟩
theorem dX12_checked_129 : dKc cX12_checked 129 0 130 := Or.inl ⟨0, by decide +kernel, by decide +kernel, rfl⟩
theorem dX12_checked_130 : dj cX12_checked 130 .goto 134 133 := ⟨4, by decide +kernel, by decide, rfl⟩
theorem dX12_checked_133 : dKc cX12_checked 133 2 134 := Or.inl ⟨2, by decide +kernel, by decide +kernel, rfl⟩
theorem dX12_checked_134 : dc cX12_checked 134 .ireturn 1 135 := ⟨by decide +kernel, rfl⟩
theorem dX12_checked_135 : dAl cX12_checked 135 0 136 := Or.inl ⟨0, rfl, by decide +kernel, rfl⟩
theorem dX12_checked_136 : dIl cX12_checked 136 2 137 := Or.inl ⟨2, rfl, by decide +kernel, rfl⟩
theorem dX12_checked_137 : dKc cX12_checked 137 0 138 := Or.inl ⟨0, by decide +kernel, by decide +kernel, rfl⟩
theorem dX12_checked_138 : dc cX12_checked 138 (.invokevirtual 119) 3 141 := ⟨by decide +kernel, rfl⟩
theorem dX12_checked_141 : dIl cX12_checked 141 3 142 := Or.inl ⟨3, rfl, by decide +kernel, rfl⟩
theorem dX12_checked_142 : dj cX12_checked 142 (.if_icmp .ge) 149 145 := ⟨7, by decide +kernel, by decide, rfl⟩
theorem dX12_checked_145 : dKc cX12_checked 145 0 146 := Or.inl ⟨0, by decide +kernel, by decide +kernel, rfl⟩
theorem dX12_checked_146 : dj cX12_checked 146 .goto 150 149 := ⟨4, by decide +kernel, by decide, rfl⟩
theorem dX12_checked_149 : dKc cX12_checked 149 2 150 := Or.inl ⟨2, by decide +kernel, by decide +kernel, rfl⟩
theorem dX12_checked_150 : dc cX12_checked 150 .ireturn 1 151 := ⟨by decide +kernel, rfl⟩
theorem dX12_checked_151 : dIl cX12_checked 151 2 152 := Or.inl ⟨2, rfl, by decide +kernel, rfl⟩
theorem dX12_checked_152 : dc cX12_checked 152 (.ldc 152) 2 154 := ⟨by decide +kernel, rfl⟩
theorem dX12_checked_154 : dc cX12_checked 154 .isub 1 155 := ⟨by decide +kernel, rfl⟩
theorem dX12_checked_155 : dIs cX12_checked 155 4 157 := Or.inr ⟨by decide +kernel, rfl⟩
theorem dX12_checked_157 : dAl cX12_checked 157 0 158 := Or.inl ⟨0, rfl, by decide +kernel, rfl⟩
theorem dX12_checked_158 : dc cX12_checked 158 (.getfield 41) 3 161 := ⟨by decide +kernel, rfl⟩
theorem dX12_checked_161 : dIl cX12_checked 161 4 163 := Or.inr ⟨by decide +kernel, rfl⟩
theorem dX12_checked_163 : dc cX12_checked 163 .iaload 1 164 := ⟨by decide +kernel, rfl⟩
theorem dX12_checked_164 : dj cX12_checked 164 (.ifCond .ne) 171 167 := ⟨7, by decide +kernel, by decide, rfl⟩
theorem dX12_checked_167 : dKc cX12_checked 167 4 168 := Or.inl ⟨4, by decide +kernel, by decide +kernel, rfl⟩
theorem dX12_checked_168 : dj cX12_checked 168 .goto 210 171 := ⟨42, by decide +kernel, by decide, rfl⟩
theorem dX12_checked_171 : dAl cX12_checked 171 0 172 := Or.inl ⟨0, rfl, by decide +kernel, rfl⟩
theorem dX12_checked_172 : dc cX12_checked 172 (.getfield 53) 3 175 := ⟨by decide +kernel, rfl⟩
theorem dX12_checked_175 : dKc cX12_checked 175 5 176 := Or.inl ⟨5, by decide +kernel, by decide +kernel, rfl⟩
theorem dX12_checked_176 : dAl cX12_checked 176 0 177 := Or.inl ⟨0, rfl, by decide +kernel, rfl⟩
theorem dX12_checked_177 : dc cX12_checked 177 (.getfield 38) 3 180 := ⟨by decide +kernel, rfl⟩
theorem dX12_checked_180 : dIl cX12_checked 180 4 182 := Or.inr ⟨by decide +kernel, rfl⟩
theorem dX12_checked_182 : dc cX12_checked 182 .iaload 1 183 := ⟨by decide +kernel, rfl⟩
theorem dX12_checked_183 : dc cX12_checked 183 .imul 1 184 := ⟨by decide +kernel, rfl⟩
theorem dX12_checked_184 : dc cX12_checked 184 .iaload 1 185 := ⟨by decide +kernel, rfl⟩
theorem dX12_checked_185 : dj cX12_checked 185 (.ifCond .eq) 192 188 := ⟨7, by decide +kernel, by decide, rfl⟩
theorem dX12_checked_188 : dKc cX12_checked 188 1 189 := Or.inl ⟨1, by decide +kernel, by decide +kernel, rfl⟩
theorem dX12_checked_189 : dj cX12_checked 189 .goto 210 192 := ⟨21, by decide +kernel, by decide, rfl⟩
theorem dX12_checked_192 : dAl cX12_checked 192 0 193 := Or.inl ⟨0, rfl, by decide +kernel, rfl⟩
theorem dX12_checked_193 : dc cX12_checked 193 (.getfield 44) 3 196 := ⟨by decide +kernel, rfl⟩
theorem dX12_checked_196 : dKc cX12_checked 196 5 197 := Or.inl ⟨5, by decide +kernel, by decide +kernel, rfl⟩
theorem dX12_checked_197 : dIl cX12_checked 197 4 199 := Or.inr ⟨by decide +kernel, rfl⟩
theorem dX12_checked_199 : dc cX12_checked 199 .imul 1 200 := ⟨by decide +kernel, rfl⟩
theorem dX12_checked_200 : dc cX12_checked 200 .iaload 1 201 := ⟨by decide +kernel, rfl⟩
theorem dX12_checked_201 : dIl cX12_checked 201 3 202 := Or.inl ⟨3, rfl, by decide +kernel, rfl⟩
theorem dX12_checked_202 : dj cX12_checked 202 (.if_icmp .ne) 209 205 := ⟨7, by decide +kernel, by decide, rfl⟩
theorem dX12_checked_205 : dKc cX12_checked 205 0 206 := Or.inl ⟨0, by decide +kernel, by decide +kernel, rfl⟩
theorem dX12_checked_206 : dj cX12_checked 206 .goto 210 209 := ⟨4, by decide +kernel, by decide, rfl⟩
theorem dX12_checked_209 : dKc cX12_checked 209 2 210 := Or.inl ⟨2, by decide +kernel, by decide +kernel, rfl⟩
theorem dX12_checked_210 : dc cX12_checked 210 .ireturn 1 211 := ⟨by decide +kernel, rfl⟩
theorem dX12_make_0 : dIl cX12_make 0 1 1 := Or.inl ⟨1, rfl, by decide +kernel, rfl⟩
theorem dX12_make_1 : dc cX12_make 1 (.invokestatic 179) 3 4 := ⟨by decide +kernel, rfl⟩
theorem dX12_make_4 : dj cX12_make 4 (.ifCond .eq) 14 7 := ⟨10, by decide +kernel, by decide, rfl⟩
theorem dX12_make_7 : dIl cX12_make 7 2 8 := Or.inl ⟨2, rfl, by decide +kernel, rfl⟩
theorem dX12_make_8 : dc cX12_make 8 (.invokestatic 153) 3 11 := ⟨by decide +kernel, rfl⟩
theorem dX12_make_11 : dj cX12_make 11 (.ifCond .ne) 16 14 := ⟨5, by decide +kernel, by decide, rfl⟩
theorem dX12_make_14 : dKc cX12_make 14 (-1) 15 := Or.inl ⟨(-1), by decide +kernel, by decide +kernel, rfl⟩
theorem dX12_make_15 : dc cX12_make 15 .ireturn 1 16 := ⟨by decide +kernel, rfl⟩
theorem dX12_make_16 : dAl cX12_make 16 0 17 := Or.inl ⟨0, rfl, by decide +kernel, rfl⟩
theorem dX12_make_17 : dc cX12_make 17 (.getfield 182) 3 20 := ⟨by decide +kernel, rfl⟩
theorem dX12_make_20 : dIs cX12_make 20 3 21 := Or.inl ⟨3, rfl, by decide +kernel, rfl⟩
theorem dX12_make_21 : dAl cX12_make 21 0 22 := Or.inl ⟨0, rfl, by decide +kernel, rfl⟩
theorem dX12_make_22 : dc cX12_make 22 (.getfield 38) 3 25 := ⟨by decide +kernel, rfl⟩
theorem dX12_make_25 : dIl cX12_make 25 3 26 := Or.inl ⟨3, rfl, by decide +kernel, rfl⟩
theorem dX12_make_26 : dIl cX12_make 26 1 27 := Or.inl ⟨1, rfl, by decide +kernel, rfl⟩
theorem dX12_make_27 : dc cX12_make 27 .iastore 1 28 := ⟨by decide +kernel, rfl⟩
theorem dX12_make_28 : dAl cX12_make 28 0 29 := Or.inl ⟨0, rfl, by decide +kernel, rfl⟩
theorem dX12_make_29 : dc cX12_make 29 (.getfield 41) 3 32 := ⟨by decide +kernel, rfl⟩
theorem dX12_make_32 : dIl cX12_make 32 3 33 := Or.inl ⟨3, rfl, by decide +kernel, rfl⟩
theorem dX12_make_33 : dAl cX12_make 33 0 34 := Or.inl ⟨0, rfl, by decide +kernel, rfl⟩
theorem dX12_make_34 : dc cX12_make 34 (.getfield 50) 3 37 := ⟨by decide +kernel, rfl⟩
theorem dX12_make_37 : dIl cX12_make 37 1 38 := Or.inl ⟨1, rfl, by decide +kernel, rfl⟩
theorem dX12_make_38 : dc cX12_make 38 .iaload 1 39 := ⟨by decide +kernel, rfl⟩
theorem dX12_make_39 : dc cX12_make 39 .iastore 1 40 := ⟨by decide +kernel, rfl⟩
theorem dX12_make_40 : dAl cX12_make 40 0 41 := Or.inl ⟨0, rfl, by decide +kernel, rfl⟩
theorem dX12_make_41 : dKc cX12_make 41 0 42 := Or.inl ⟨0, by decide +kernel, by decide +kernel, rfl⟩
theorem dX12_make_42 : dc cX12_make 42 (.putfield 185) 3 45 := ⟨by decide +kernel, rfl⟩
theorem dX12_make_45 : dAl cX12_make 45 0 46 := Or.inl ⟨0, rfl, by decide +kernel, rfl⟩
theorem dX12_make_46 : dKc cX12_make 46 (-3) 48 := Or.inr (Or.inl ⟨(-3), by decide +kernel, by decide +kernel, rfl⟩)
theorem dX12_make_48 : dc cX12_make 48 (.putfield 77) 3 51 := ⟨by decide +kernel, rfl⟩
theorem dX12_make_51 : dKc cX12_make 51 0 52 := Or.inl ⟨0, by decide +kernel, by decide +kernel, rfl⟩
theorem dX12_make_52 : dIs cX12_make 52 4 54 := Or.inr ⟨by decide +kernel, rfl⟩
theorem dX12_make_54 : dIl cX12_make 54 4 56 := Or.inr ⟨by decide +kernel, rfl⟩
theorem dX12_make_56 : dAl cX12_make 56 0 57 := Or.inl ⟨0, rfl, by decide +kernel, rfl⟩
theorem dX12_make_57 : dc cX12_make 57 (.getfield 50) 3 60 := ⟨by decide +kernel, rfl⟩
theorem dX12_make_60 : dIl cX12_make 60 1 61 := Or.inl ⟨1, rfl, by decide +kernel, rfl⟩
theorem dX12_make_61 : dc cX12_make 61 .iaload 1 62 := ⟨by decide +kernel, rfl⟩
theorem dX12_make_62 : dj cX12_make 62 (.if_icmp .ge) 108 65 := ⟨46, by decide +kernel, by decide, rfl⟩
theorem dX12_make_65 : dAl cX12_make 65 0 66 := Or.inl ⟨0, rfl, by decide +kernel, rfl⟩
theorem dX12_make_66 : dc cX12_make 66 (.getfield 185) 3 69 := ⟨by decide +kernel, rfl⟩
theorem dX12_make_69 : dj cX12_make 69 (.ifCond .ne) 108 72 := ⟨39, by decide +kernel, by decide, rfl⟩
theorem dX12_make_72 : dAl cX12_make 72 0 73 := Or.inl ⟨0, rfl, by decide +kernel, rfl⟩
theorem dX12_make_73 : dAl cX12_make 73 0 74 := Or.inl ⟨0, rfl, by decide +kernel, rfl⟩
theorem dX12_make_74 : dIl cX12_make 74 1 75 := Or.inl ⟨1, rfl, by decide +kernel, rfl⟩
theorem dX12_make_75 : dIl cX12_make 75 4 77 := Or.inr ⟨by decide +kernel, rfl⟩
theorem dX12_make_77 : dIl cX12_make 77 3 78 := Or.inl ⟨3, rfl, by decide +kernel, rfl⟩
theorem dX12_make_78 : dc cX12_make 78 (.invokevirtual 188) 3 81 := ⟨by decide +kernel, rfl⟩
theorem dX12_make_81 : dc cX12_make 81 (.putfield 185) 3 84 := ⟨by decide +kernel, rfl⟩
theorem dX12_make_84 : dAl cX12_make 84 0 85 := Or.inl ⟨0, rfl, by decide +kernel, rfl⟩
theorem dX12_make_85 : dAl cX12_make 85 0 86 := Or.inl ⟨0, rfl, by decide +kernel, rfl⟩
theorem dX12_make_86 : dc cX12_make 86 (.getfield 185) 3 89 := ⟨by decide +kernel, rfl⟩
theorem dX12_make_89 : dj cX12_make 89 (.ifCond .le) 97 92 := ⟨8, by decide +kernel, by decide, rfl⟩
theorem dX12_make_92 : dIl cX12_make 92 4 94 := Or.inr ⟨by decide +kernel, rfl⟩
theorem dX12_make_94 : dj cX12_make 94 .goto 99 97 := ⟨5, by decide +kernel, by decide, rfl⟩
theorem dX12_make_97 : dKc cX12_make 97 (-3) 99 := Or.inr (Or.inl ⟨(-3), by decide +kernel, by decide +kernel, rfl⟩)
theorem dX12_make_99 : dc cX12_make 99 (.putfield 77) 3 102 := ⟨by decide +kernel, rfl⟩
theorem dX12_make_102 : dc cX12_make 102 (.iinc 4 1) 3 105 := ⟨by decide +kernel, rfl⟩
theorem dX12_make_105 : dj cX12_make 105 .goto 54 108 := ⟨(-51), by decide +kernel, by decide, rfl⟩
theorem dX12_make_108 : dKc cX12_make 108 0 109 := Or.inl ⟨0, by decide +kernel, by decide +kernel, rfl⟩
theorem dX12_make_109 : dIs cX12_make 109 4 111 := Or.inr ⟨by decide +kernel, rfl⟩
theorem dX12_make_111 : dIl cX12_make 111 4 113 := Or.inr ⟨by decide +kernel, rfl⟩
theorem dX12_make_113 : dAl cX12_make 113 0 114 := Or.inl ⟨0, rfl, by decide +kernel, rfl⟩
theorem dX12_make_114 : dc cX12_make 114 (.getfield 59) 3 117 := ⟨by decide +kernel, rfl⟩
theorem dX12_make_117 : dIl cX12_make 117 1 118 := Or.inl ⟨1, rfl, by decide +kernel, rfl⟩
theorem dX12_make_118 : dc cX12_make 118 .iaload 1 119 := ⟨by decide +kernel, rfl⟩
theorem dX12_make_119 : dj cX12_make 119 (.if_icmp .ge) 215 122 := ⟨96, by decide +kernel, by decide, rfl⟩
theorem dX12_make_122 : dAl cX12_make 122 0 123 := Or.inl ⟨0, rfl, by decide +kernel, rfl⟩
theorem dX12_make_123 : dc cX12_make 123 (.getfield 185) 3 126 := ⟨by decide +kernel, rfl⟩
theorem dX12_make_126 : dj cX12_make 126 (.ifCond .ne) 215 129 := ⟨89, by decide +kernel, by decide, rfl⟩
theorem dX12_make_129 : dAl cX12_make 129 0 130 := Or.inl ⟨0, rfl, by decide +kernel, rfl⟩
theorem dX12_make_130 : dAl cX12_make 130 0 131 := Or.inl ⟨0, rfl, by decide +kernel, rfl⟩
theorem dX12_make_131 : dAl cX12_make 131 0 132 := Or.inl ⟨0, rfl, by decide +kernel, rfl⟩
theorem dX12_make_132 : dc cX12_make 132 (.getfield 62) 3 135 := ⟨by decide +kernel, rfl⟩
theorem dX12_make_135 : dKc cX12_make 135 4 136 := Or.inl ⟨4, by decide +kernel, by decide +kernel, rfl⟩
theorem dX12_make_136 : dIl cX12_make 136 1 137 := Or.inl ⟨1, rfl, by decide +kernel, rfl⟩
theorem dX12_make_137 : dc cX12_make 137 .imul 1 138 := ⟨by decide +kernel, rfl⟩
theorem dX12_make_138 : dIl cX12_make 138 4 140 := Or.inr ⟨by decide +kernel, rfl⟩
theorem dX12_make_140 : dc cX12_make 140 .iadd 1 141 := ⟨by decide +kernel, rfl⟩
theorem dX12_make_141 : dc cX12_make 141 .iaload 1 142 := ⟨by decide +kernel, rfl⟩
theorem dX12_make_142 : dAl cX12_make 142 0 143 := Or.inl ⟨0, rfl, by decide +kernel, rfl⟩
theorem dX12_make_143 : dc cX12_make 143 (.getfield 44) 3 146 := ⟨by decide +kernel, rfl⟩
theorem dX12_make_146 : dKc cX12_make 146 5 147 := Or.inl ⟨5, by decide +kernel, by decide +kernel, rfl⟩
theorem dX12_make_147 : dIl cX12_make 147 3 148 := Or.inl ⟨3, rfl, by decide +kernel, rfl⟩
theorem dX12_make_148 : dc cX12_make 148 .imul 1 149 := ⟨by decide +kernel, rfl⟩
theorem dX12_make_149 : dAl cX12_make 149 0 150 := Or.inl ⟨0, rfl, by decide +kernel, rfl⟩
theorem dX12_make_150 : dc cX12_make 150 (.getfield 65) 3 153 := ⟨by decide +kernel, rfl⟩
theorem dX12_make_153 : dKc cX12_make 153 4 154 := Or.inl ⟨4, by decide +kernel, by decide +kernel, rfl⟩
theorem dX12_make_154 : dIl cX12_make 154 1 155 := Or.inl ⟨1, rfl, by decide +kernel, rfl⟩
theorem dX12_make_155 : dc cX12_make 155 .imul 1 156 := ⟨by decide +kernel, rfl⟩
theorem dX12_make_156 : dIl cX12_make 156 4 158 := Or.inr ⟨by decide +kernel, rfl⟩
theorem dX12_make_158 : dc cX12_make 158 .iadd 1 159 := ⟨by decide +kernel, rfl⟩
theorem dX12_make_159 : dc cX12_make 159 .iaload 1 160 := ⟨by decide +kernel, rfl⟩
theorem dX12_make_160 : dc cX12_make 160 .iadd 1 161 := ⟨by decide +kernel, rfl⟩
theorem dX12_make_161 : dc cX12_make 161 .iaload 1 162 := ⟨by decide +kernel, rfl⟩
theorem dX12_make_162 : dAl cX12_make 162 0 163 := Or.inl ⟨0, rfl, by decide +kernel, rfl⟩
theorem dX12_make_163 : dc cX12_make 163 (.getfield 44) 3 166 := ⟨by decide +kernel, rfl⟩
theorem dX12_make_166 : dKc cX12_make 166 5 167 := Or.inl ⟨5, by decide +kernel, by decide +kernel, rfl⟩
theorem dX12_make_167 : dIl cX12_make 167 3 168 := Or.inl ⟨3, rfl, by decide +kernel, rfl⟩
theorem dX12_make_168 : dc cX12_make 168 .imul 1 169 := ⟨by decide +kernel, rfl⟩
theorem dX12_make_169 : dAl cX12_make 169 0 170 := Or.inl ⟨0, rfl, by decide +kernel, rfl⟩
theorem dX12_make_170 : dc cX12_make 170 (.getfield 68) 3 173 := ⟨by decide +kernel, rfl⟩
theorem dX12_make_173 : dKc cX12_make 173 4 174 := Or.inl ⟨4, by decide +kernel, by decide +kernel, rfl⟩
theorem dX12_make_174 : dIl cX12_make 174 1 175 := Or.inl ⟨1, rfl, by decide +kernel, rfl⟩
theorem dX12_make_175 : dc cX12_make 175 .imul 1 176 := ⟨by decide +kernel, rfl⟩
theorem dX12_make_176 : dIl cX12_make 176 4 178 := Or.inr ⟨by decide +kernel, rfl⟩
theorem dX12_make_178 : dc cX12_make 178 .iadd 1 179 := ⟨by decide +kernel, rfl⟩
theorem dX12_make_179 : dc cX12_make 179 .iaload 1 180 := ⟨by decide +kernel, rfl⟩
theorem dX12_make_180 : dc cX12_make 180 .iadd 1 181 := ⟨by decide +kernel, rfl⟩
theorem dX12_make_181 : dc cX12_make 181 .iaload 1 182 := ⟨by decide +kernel, rfl⟩
theorem dX12_make_182 : dc cX12_make 182 (.invokevirtual 192) 3 185 := ⟨by decide +kernel, rfl⟩
theorem dX12_make_185 : dc cX12_make 185 (.putfield 185) 3 188 := ⟨by decide +kernel, rfl⟩
theorem dX12_make_188 : dAl cX12_make 188 0 189 := Or.inl ⟨0, rfl, by decide +kernel, rfl⟩
theorem dX12_make_189 : dAl cX12_make 189 0 190 := Or.inl ⟨0, rfl, by decide +kernel, rfl⟩
theorem dX12_make_190 : dc cX12_make 190 (.getfield 185) 3 193 := ⟨by decide +kernel, rfl⟩
theorem dX12_make_193 : dj cX12_make 193 (.ifCond .le) 204 196 := ⟨11, by decide +kernel, by decide, rfl⟩
theorem dX12_make_196 : dKc cX12_make 196 10 198 := Or.inr (Or.inl ⟨10, by decide +kernel, by decide +kernel, rfl⟩)
theorem dX12_make_198 : dIl cX12_make 198 4 200 := Or.inr ⟨by decide +kernel, rfl⟩
theorem dX12_make_200 : dc cX12_make 200 .iadd 1 201 := ⟨by decide +kernel, rfl⟩
theorem dX12_make_201 : dj cX12_make 201 .goto 206 204 := ⟨5, by decide +kernel, by decide, rfl⟩
theorem dX12_make_204 : dKc cX12_make 204 (-3) 206 := Or.inr (Or.inl ⟨(-3), by decide +kernel, by decide +kernel, rfl⟩)
theorem dX12_make_206 : dc cX12_make 206 (.putfield 77) 3 209 := ⟨by decide +kernel, rfl⟩
theorem dX12_make_209 : dc cX12_make 209 (.iinc 4 1) 3 212 := ⟨by decide +kernel, rfl⟩
theorem dX12_make_212 : dj cX12_make 212 .goto 111 215 := ⟨(-101), by decide +kernel, by decide, rfl⟩
theorem dX12_make_215 : dAl cX12_make 215 0 216 := Or.inl ⟨0, rfl, by decide +kernel, rfl⟩
theorem dX12_make_216 : dc cX12_make 216 .dup 1 217 := ⟨by decide +kernel, rfl⟩
theorem dX12_make_217 : dc cX12_make 217 (.getfield 138) 3 220 := ⟨by decide +kernel, rfl⟩
theorem dX12_make_220 : dKc cX12_make 220 1 221 := Or.inl ⟨1, by decide +kernel, by decide +kernel, rfl⟩
theorem dX12_make_221 : dc cX12_make 221 .iadd 1 222 := ⟨by decide +kernel, rfl⟩
theorem dX12_make_222 : dc cX12_make 222 (.putfield 138) 3 225 := ⟨by decide +kernel, rfl⟩
theorem dX12_make_225 : dAl cX12_make 225 0 226 := Or.inl ⟨0, rfl, by decide +kernel, rfl⟩
theorem dX12_make_226 : dc cX12_make 226 (.getfield 185) 3 229 := ⟨by decide +kernel, rfl⟩
theorem dX12_make_229 : dj cX12_make 229 (.ifCond .ne) 252 232 := ⟨23, by decide +kernel, by decide, rfl⟩
theorem dX12_make_232 : dAl cX12_make 232 0 233 := Or.inl ⟨0, rfl, by decide +kernel, rfl⟩
theorem dX12_make_233 : dc cX12_make 233 (.getfield 47) 3 236 := ⟨by decide +kernel, rfl⟩
theorem dX12_make_236 : dIl cX12_make 236 2 237 := Or.inl ⟨2, rfl, by decide +kernel, rfl⟩
theorem dX12_make_237 : dc cX12_make 237 (.ldc 152) 2 239 := ⟨by decide +kernel, rfl⟩
theorem dX12_make_239 : dIl cX12_make 239 3 240 := Or.inl ⟨3, rfl, by decide +kernel, rfl⟩
theorem dX12_make_240 : dc cX12_make 240 .iadd 1 241 := ⟨by decide +kernel, rfl⟩
theorem dX12_make_241 : dc cX12_make 241 .iastore 1 242 := ⟨by decide +kernel, rfl⟩
theorem dX12_make_242 : dAl cX12_make 242 0 243 := Or.inl ⟨0, rfl, by decide +kernel, rfl⟩
theorem dX12_make_243 : dc cX12_make 243 .dup 1 244 := ⟨by decide +kernel, rfl⟩
theorem dX12_make_244 : dc cX12_make 244 (.getfield 182) 3 247 := ⟨by decide +kernel, rfl⟩
theorem dX12_make_247 : dKc cX12_make 247 1 248 := Or.inl ⟨1, by decide +kernel, by decide +kernel, rfl⟩
theorem dX12_make_248 : dc cX12_make 248 .iadd 1 249 := ⟨by decide +kernel, rfl⟩
theorem dX12_make_249 : dc cX12_make 249 (.putfield 182) 3 252 := ⟨by decide +kernel, rfl⟩
theorem dX12_make_252 : dAl cX12_make 252 0 253 := Or.inl ⟨0, rfl, by decide +kernel, rfl⟩
theorem dX12_make_253 : dc cX12_make 253 (.getfield 185) 3 256 := ⟨by decide +kernel, rfl⟩
theorem dX12_make_256 : dc cX12_make 256 .ireturn 1 257 := ⟨by decide +kernel, rfl⟩
theorem dX12_cause_0 : dIl cX12_cause 0 1 1 := Or.inl ⟨1, rfl, by decide +kernel, rfl⟩
theorem dX12_cause_1 : dj cX12_cause 1 (.ifCond .ne) 11 4 := ⟨10, by decide +kernel, by decide, rfl⟩
theorem dX12_cause_4 : dAl cX12_cause 4 0 5 := Or.inl ⟨0, rfl, by decide +kernel, rfl⟩
theorem dX12_cause_5 : dc cX12_cause 5 (.getfield 185) 3 8 := ⟨by decide +kernel, rfl⟩
theorem dX12_cause_8 : dj cX12_cause 8 .goto 24 11 := ⟨16, by decide +kernel, by decide, rfl⟩
theorem dX12_cause_11 : dIl cX12_cause 11 1 12 := Or.inl ⟨1, rfl, by decide +kernel, rfl⟩
theorem dX12_cause_12 : dKc cX12_cause 12 1 13 := Or.inl ⟨1, by decide +kernel, by decide +kernel, rfl⟩
theorem dX12_cause_13 : dj cX12_cause 13 (.if_icmp .ne) 23 16 := ⟨10, by decide +kernel, by decide, rfl⟩
theorem dX12_cause_16 : dAl cX12_cause 16 0 17 := Or.inl ⟨0, rfl, by decide +kernel, rfl⟩
theorem dX12_cause_17 : dc cX12_cause 17 (.getfield 77) 3 20 := ⟨by decide +kernel, rfl⟩
theorem dX12_cause_20 : dj cX12_cause 20 .goto 24 23 := ⟨4, by decide +kernel, by decide, rfl⟩
theorem dX12_cause_23 : dKc cX12_cause 23 (-1) 24 := Or.inl ⟨(-1), by decide +kernel, by decide +kernel, rfl⟩
theorem dX12_cause_24 : dc cX12_cause 24 .ireturn 1 25 := ⟨by decide +kernel, rfl⟩
theorem dX12_told_0 : dIl cX12_told 0 1 1 := Or.inl ⟨1, rfl, by decide +kernel, rfl⟩
theorem dX12_told_1 : dc cX12_told 1 (.invokestatic 153) 3 4 := ⟨by decide +kernel, rfl⟩
theorem dX12_told_4 : dj cX12_told 4 (.ifCond .eq) 21 7 := ⟨17, by decide +kernel, by decide, rfl⟩
theorem dX12_told_7 : dAl cX12_told 7 0 8 := Or.inl ⟨0, rfl, by decide +kernel, rfl⟩
theorem dX12_told_8 : dAl cX12_told 8 0 9 := Or.inl ⟨0, rfl, by decide +kernel, rfl⟩
theorem dX12_told_9 : dc cX12_told 9 (.getfield 47) 3 12 := ⟨by decide +kernel, rfl⟩
theorem dX12_told_12 : dIl cX12_told 12 1 13 := Or.inl ⟨1, rfl, by decide +kernel, rfl⟩
theorem dX12_told_13 : dc cX12_told 13 .iaload 1 14 := ⟨by decide +kernel, rfl⟩
theorem dX12_told_14 : dc cX12_told 14 (.invokevirtual 159) 3 17 := ⟨by decide +kernel, rfl⟩
theorem dX12_told_17 : dKc cX12_told 17 5 18 := Or.inl ⟨5, by decide +kernel, by decide +kernel, rfl⟩
theorem dX12_told_18 : dj cX12_told 18 (.if_icmp .eq) 23 21 := ⟨5, by decide +kernel, by decide, rfl⟩
theorem dX12_told_21 : dKc cX12_told 21 (-1) 22 := Or.inl ⟨(-1), by decide +kernel, by decide +kernel, rfl⟩
theorem dX12_told_22 : dc cX12_told 22 .ireturn 1 23 := ⟨by decide +kernel, rfl⟩
theorem dX12_told_23 : dAl cX12_told 23 0 24 := Or.inl ⟨0, rfl, by decide +kernel, rfl⟩
theorem dX12_told_24 : dc cX12_told 24 (.getfield 47) 3 27 := ⟨by decide +kernel, rfl⟩
theorem dX12_told_27 : dIl cX12_told 27 1 28 := Or.inl ⟨1, rfl, by decide +kernel, rfl⟩
theorem dX12_told_28 : dc cX12_told 28 .iaload 1 29 := ⟨by decide +kernel, rfl⟩
theorem dX12_told_29 : dc cX12_told 29 (.ldc 152) 2 31 := ⟨by decide +kernel, rfl⟩
theorem dX12_told_31 : dc cX12_told 31 .isub 1 32 := ⟨by decide +kernel, rfl⟩
theorem dX12_told_32 : dIs cX12_told 32 3 33 := Or.inl ⟨3, rfl, by decide +kernel, rfl⟩
theorem dX12_told_33 : dIl cX12_told 33 2 34 := Or.inl ⟨2, rfl, by decide +kernel, rfl⟩
theorem dX12_told_34 : dKc cX12_told 34 (-3) 36 := Or.inr (Or.inl ⟨(-3), by decide +kernel, by decide +kernel, rfl⟩)
theorem dX12_told_36 : dj cX12_told 36 (.if_icmp .ne) 46 39 := ⟨10, by decide +kernel, by decide, rfl⟩
theorem dX12_told_39 : dAl cX12_told 39 0 40 := Or.inl ⟨0, rfl, by decide +kernel, rfl⟩
theorem dX12_told_40 : dc cX12_told 40 (.getfield 38) 3 43 := ⟨by decide +kernel, rfl⟩
theorem dX12_told_43 : dIl cX12_told 43 3 44 := Or.inl ⟨3, rfl, by decide +kernel, rfl⟩
theorem dX12_told_44 : dc cX12_told 44 .iaload 1 45 := ⟨by decide +kernel, rfl⟩
theorem dX12_told_45 : dc cX12_told 45 .ireturn 1 46 := ⟨by decide +kernel, rfl⟩
theorem dX12_told_46 : dIl cX12_told 46 2 47 := Or.inl ⟨2, rfl, by decide +kernel, rfl⟩
theorem dX12_told_47 : dKc cX12_told 47 0 48 := Or.inl ⟨0, by decide +kernel, by decide +kernel, rfl⟩
theorem dX12_told_48 : dAl cX12_told 48 0 49 := Or.inl ⟨0, rfl, by decide +kernel, rfl⟩
theorem dX12_told_49 : dc cX12_told 49 (.getfield 41) 3 52 := ⟨by decide +kernel, rfl⟩
theorem dX12_told_52 : dIl cX12_told 52 3 53 := Or.inl ⟨3, rfl, by decide +kernel, rfl⟩
theorem dX12_told_53 : dc cX12_told 53 .iaload 1 54 := ⟨by decide +kernel, rfl⟩
theorem dX12_told_54 : dKc cX12_told 54 1 55 := Or.inl ⟨1, by decide +kernel, by decide +kernel, rfl⟩
theorem dX12_told_55 : dc cX12_told 55 .isub 1 56 := ⟨by decide +kernel, rfl⟩
theorem dX12_told_56 : dc cX12_told 56 (.invokestatic 96) 3 59 := ⟨by decide +kernel, rfl⟩
theorem dX12_told_59 : dj cX12_told 59 (.ifCond .ne) 64 62 := ⟨5, by decide +kernel, by decide, rfl⟩
theorem dX12_told_62 : dKc cX12_told 62 (-1) 63 := Or.inl ⟨(-1), by decide +kernel, by decide +kernel, rfl⟩
theorem dX12_told_63 : dc cX12_told 63 .ireturn 1 64 := ⟨by decide +kernel, rfl⟩
theorem dX12_told_64 : dAl cX12_told 64 0 65 := Or.inl ⟨0, rfl, by decide +kernel, rfl⟩
theorem dX12_told_65 : dc cX12_told 65 (.getfield 53) 3 68 := ⟨by decide +kernel, rfl⟩
theorem dX12_told_68 : dKc cX12_told 68 5 69 := Or.inl ⟨5, by decide +kernel, by decide +kernel, rfl⟩
theorem dX12_told_69 : dAl cX12_told 69 0 70 := Or.inl ⟨0, rfl, by decide +kernel, rfl⟩
theorem dX12_told_70 : dc cX12_told 70 (.getfield 38) 3 73 := ⟨by decide +kernel, rfl⟩
theorem dX12_told_73 : dIl cX12_told 73 3 74 := Or.inl ⟨3, rfl, by decide +kernel, rfl⟩
theorem dX12_told_74 : dc cX12_told 74 .iaload 1 75 := ⟨by decide +kernel, rfl⟩
theorem dX12_told_75 : dc cX12_told 75 .imul 1 76 := ⟨by decide +kernel, rfl⟩
theorem dX12_told_76 : dIl cX12_told 76 2 77 := Or.inl ⟨2, rfl, by decide +kernel, rfl⟩
theorem dX12_told_77 : dc cX12_told 77 .iadd 1 78 := ⟨by decide +kernel, rfl⟩
theorem dX12_told_78 : dc cX12_told 78 .iaload 1 79 := ⟨by decide +kernel, rfl⟩
theorem dX12_told_79 : dj cX12_told 79 (.ifCond .ne) 95 82 := ⟨16, by decide +kernel, by decide, rfl⟩
theorem dX12_told_82 : dAl cX12_told 82 0 83 := Or.inl ⟨0, rfl, by decide +kernel, rfl⟩
theorem dX12_told_83 : dc cX12_told 83 (.getfield 44) 3 86 := ⟨by decide +kernel, rfl⟩
theorem dX12_told_86 : dKc cX12_told 86 5 87 := Or.inl ⟨5, by decide +kernel, by decide +kernel, rfl⟩
theorem dX12_told_87 : dIl cX12_told 87 3 88 := Or.inl ⟨3, rfl, by decide +kernel, rfl⟩
theorem dX12_told_88 : dc cX12_told 88 .imul 1 89 := ⟨by decide +kernel, rfl⟩
theorem dX12_told_89 : dIl cX12_told 89 2 90 := Or.inl ⟨2, rfl, by decide +kernel, rfl⟩
theorem dX12_told_90 : dc cX12_told 90 .iadd 1 91 := ⟨by decide +kernel, rfl⟩
theorem dX12_told_91 : dc cX12_told 91 .iaload 1 92 := ⟨by decide +kernel, rfl⟩
theorem dX12_told_92 : dj cX12_told 92 .goto 112 95 := ⟨20, by decide +kernel, by decide, rfl⟩
theorem dX12_told_95 : dAl cX12_told 95 0 96 := Or.inl ⟨0, rfl, by decide +kernel, rfl⟩
theorem dX12_told_96 : dAl cX12_told 96 0 97 := Or.inl ⟨0, rfl, by decide +kernel, rfl⟩
theorem dX12_told_97 : dc cX12_told 97 (.getfield 44) 3 100 := ⟨by decide +kernel, rfl⟩
theorem dX12_told_100 : dKc cX12_told 100 5 101 := Or.inl ⟨5, by decide +kernel, by decide +kernel, rfl⟩
theorem dX12_told_101 : dIl cX12_told 101 3 102 := Or.inl ⟨3, rfl, by decide +kernel, rfl⟩
theorem dX12_told_102 : dc cX12_told 102 .imul 1 103 := ⟨by decide +kernel, rfl⟩
theorem dX12_told_103 : dIl cX12_told 103 2 104 := Or.inl ⟨2, rfl, by decide +kernel, rfl⟩
theorem dX12_told_104 : dc cX12_told 104 .iadd 1 105 := ⟨by decide +kernel, rfl⟩
theorem dX12_told_105 : dc cX12_told 105 .iaload 1 106 := ⟨by decide +kernel, rfl⟩
theorem dX12_told_106 : dc cX12_told 106 (.invokevirtual 159) 3 109 := ⟨by decide +kernel, rfl⟩
theorem dX12_told_109 : dKc cX12_told 109 10 111 := Or.inr (Or.inl ⟨10, by decide +kernel, by decide +kernel, rfl⟩)
theorem dX12_told_111 : dc cX12_told 111 .isub 1 112 := ⟨by decide +kernel, rfl⟩
theorem dX12_told_112 : dc cX12_told 112 .ireturn 1 113 := ⟨by decide +kernel, rfl⟩
theorem dX12_take_0 : dIl cX12_take 0 1 1 := Or.inl ⟨1, rfl, by decide +kernel, rfl⟩
theorem dX12_take_1 : dc cX12_take 1 (.invokestatic 153) 3 4 := ⟨by decide +kernel, rfl⟩
theorem dX12_take_4 : dj cX12_take 4 (.ifCond .eq) 28 7 := ⟨24, by decide +kernel, by decide, rfl⟩
theorem dX12_take_7 : dAl cX12_take 7 0 8 := Or.inl ⟨0, rfl, by decide +kernel, rfl⟩
theorem dX12_take_8 : dAl cX12_take 8 0 9 := Or.inl ⟨0, rfl, by decide +kernel, rfl⟩
theorem dX12_take_9 : dc cX12_take 9 (.getfield 47) 3 12 := ⟨by decide +kernel, rfl⟩
theorem dX12_take_12 : dIl cX12_take 12 1 13 := Or.inl ⟨1, rfl, by decide +kernel, rfl⟩
theorem dX12_take_13 : dc cX12_take 13 .iaload 1 14 := ⟨by decide +kernel, rfl⟩
theorem dX12_take_14 : dc cX12_take 14 (.invokevirtual 159) 3 17 := ⟨by decide +kernel, rfl⟩
theorem dX12_take_17 : dKc cX12_take 17 5 18 := Or.inl ⟨5, by decide +kernel, by decide +kernel, rfl⟩
theorem dX12_take_18 : dj cX12_take 18 (.if_icmp .ne) 28 21 := ⟨10, by decide +kernel, by decide, rfl⟩
theorem dX12_take_21 : dIl cX12_take 21 3 22 := Or.inl ⟨3, rfl, by decide +kernel, rfl⟩
theorem dX12_take_22 : dc cX12_take 22 (.invokestatic 153) 3 25 := ⟨by decide +kernel, rfl⟩
theorem dX12_take_25 : dj cX12_take 25 (.ifCond .ne) 30 28 := ⟨5, by decide +kernel, by decide, rfl⟩
theorem dX12_take_28 : dKc cX12_take 28 (-1) 29 := Or.inl ⟨(-1), by decide +kernel, by decide +kernel, rfl⟩
theorem dX12_take_29 : dc cX12_take 29 .ireturn 1 30 := ⟨by decide +kernel, rfl⟩
theorem dX12_take_30 : dAl cX12_take 30 0 31 := Or.inl ⟨0, rfl, by decide +kernel, rfl⟩
theorem dX12_take_31 : dc cX12_take 31 (.getfield 47) 3 34 := ⟨by decide +kernel, rfl⟩
theorem dX12_take_34 : dIl cX12_take 34 1 35 := Or.inl ⟨1, rfl, by decide +kernel, rfl⟩
theorem dX12_take_35 : dc cX12_take 35 .iaload 1 36 := ⟨by decide +kernel, rfl⟩
theorem dX12_take_36 : dc cX12_take 36 (.ldc 152) 2 38 := ⟨by decide +kernel, rfl⟩
theorem dX12_take_38 : dc cX12_take 38 .isub 1 39 := ⟨by decide +kernel, rfl⟩
theorem dX12_take_39 : dIs cX12_take 39 4 41 := Or.inr ⟨by decide +kernel, rfl⟩
theorem dX12_take_41 : dIl cX12_take 41 2 42 := Or.inl ⟨2, rfl, by decide +kernel, rfl⟩
theorem dX12_take_42 : dKc cX12_take 42 0 43 := Or.inl ⟨0, by decide +kernel, by decide +kernel, rfl⟩
theorem dX12_take_43 : dAl cX12_take 43 0 44 := Or.inl ⟨0, rfl, by decide +kernel, rfl⟩
theorem dX12_take_44 : dc cX12_take 44 (.getfield 41) 3 47 := ⟨by decide +kernel, rfl⟩
theorem dX12_take_47 : dIl cX12_take 47 4 49 := Or.inr ⟨by decide +kernel, rfl⟩
theorem dX12_take_49 : dc cX12_take 49 .iaload 1 50 := ⟨by decide +kernel, rfl⟩
theorem dX12_take_50 : dKc cX12_take 50 1 51 := Or.inl ⟨1, by decide +kernel, by decide +kernel, rfl⟩
theorem dX12_take_51 : dc cX12_take 51 .isub 1 52 := ⟨by decide +kernel, rfl⟩
theorem dX12_take_52 : dc cX12_take 52 (.invokestatic 96) 3 55 := ⟨by decide +kernel, rfl⟩
theorem dX12_take_55 : dj cX12_take 55 (.ifCond .eq) 77 58 := ⟨22, by decide +kernel, by decide, rfl⟩
theorem dX12_take_58 : dAl cX12_take 58 0 59 := Or.inl ⟨0, rfl, by decide +kernel, rfl⟩
theorem dX12_take_59 : dc cX12_take 59 (.getfield 53) 3 62 := ⟨by decide +kernel, rfl⟩
theorem dX12_take_62 : dKc cX12_take 62 5 63 := Or.inl ⟨5, by decide +kernel, by decide +kernel, rfl⟩
theorem dX12_take_63 : dAl cX12_take 63 0 64 := Or.inl ⟨0, rfl, by decide +kernel, rfl⟩
theorem dX12_take_64 : dc cX12_take 64 (.getfield 38) 3 67 := ⟨by decide +kernel, rfl⟩
theorem dX12_take_67 : dIl cX12_take 67 4 69 := Or.inr ⟨by decide +kernel, rfl⟩
theorem dX12_take_69 : dc cX12_take 69 .iaload 1 70 := ⟨by decide +kernel, rfl⟩
theorem dX12_take_70 : dc cX12_take 70 .imul 1 71 := ⟨by decide +kernel, rfl⟩
theorem dX12_take_71 : dIl cX12_take 71 2 72 := Or.inl ⟨2, rfl, by decide +kernel, rfl⟩
theorem dX12_take_72 : dc cX12_take 72 .iadd 1 73 := ⟨by decide +kernel, rfl⟩
theorem dX12_take_73 : dc cX12_take 73 .iaload 1 74 := ⟨by decide +kernel, rfl⟩
theorem dX12_take_74 : dj cX12_take 74 (.ifCond .ne) 79 77 := ⟨5, by decide +kernel, by decide, rfl⟩
theorem dX12_take_77 : dKc cX12_take 77 (-1) 78 := Or.inl ⟨(-1), by decide +kernel, by decide +kernel, rfl⟩
theorem dX12_take_78 : dc cX12_take 78 .ireturn 1 79 := ⟨by decide +kernel, rfl⟩
theorem dX12_take_79 : dAl cX12_take 79 0 80 := Or.inl ⟨0, rfl, by decide +kernel, rfl⟩
theorem dX12_take_80 : dc cX12_take 80 (.getfield 47) 3 83 := ⟨by decide +kernel, rfl⟩
theorem dX12_take_83 : dIl cX12_take 83 3 84 := Or.inl ⟨3, rfl, by decide +kernel, rfl⟩
theorem dX12_take_84 : dAl cX12_take 84 0 85 := Or.inl ⟨0, rfl, by decide +kernel, rfl⟩
theorem dX12_take_85 : dc cX12_take 85 (.getfield 44) 3 88 := ⟨by decide +kernel, rfl⟩
theorem dX12_take_88 : dKc cX12_take 88 5 89 := Or.inl ⟨5, by decide +kernel, by decide +kernel, rfl⟩
theorem dX12_take_89 : dIl cX12_take 89 4 91 := Or.inr ⟨by decide +kernel, rfl⟩
theorem dX12_take_91 : dc cX12_take 91 .imul 1 92 := ⟨by decide +kernel, rfl⟩
theorem dX12_take_92 : dIl cX12_take 92 2 93 := Or.inl ⟨2, rfl, by decide +kernel, rfl⟩
theorem dX12_take_93 : dc cX12_take 93 .iadd 1 94 := ⟨by decide +kernel, rfl⟩
theorem dX12_take_94 : dc cX12_take 94 .iaload 1 95 := ⟨by decide +kernel, rfl⟩
theorem dX12_take_95 : dc cX12_take 95 .iastore 1 96 := ⟨by decide +kernel, rfl⟩
theorem dX12_take_96 : dAl cX12_take 96 0 97 := Or.inl ⟨0, rfl, by decide +kernel, rfl⟩
theorem dX12_take_97 : dAl cX12_take 97 0 98 := Or.inl ⟨0, rfl, by decide +kernel, rfl⟩
theorem dX12_take_98 : dc cX12_take 98 (.getfield 47) 3 101 := ⟨by decide +kernel, rfl⟩
theorem dX12_take_101 : dIl cX12_take 101 3 102 := Or.inl ⟨3, rfl, by decide +kernel, rfl⟩
theorem dX12_take_102 : dc cX12_take 102 .iaload 1 103 := ⟨by decide +kernel, rfl⟩
theorem dX12_take_103 : dc cX12_take 103 (.invokevirtual 159) 3 106 := ⟨by decide +kernel, rfl⟩
theorem dX12_take_106 : dc cX12_take 106 .ireturn 1 107 := ⟨by decide +kernel, rfl⟩
theorem dX12_started_0 : dIl cX12_started 0 1 1 := Or.inl ⟨1, rfl, by decide +kernel, rfl⟩
theorem dX12_started_1 : dc cX12_started 1 (.invokestatic 100) 3 4 := ⟨by decide +kernel, rfl⟩
theorem dX12_started_4 : dj cX12_started 4 (.ifCond .eq) 16 7 := ⟨12, by decide +kernel, by decide, rfl⟩
theorem dX12_started_7 : dAl cX12_started 7 0 8 := Or.inl ⟨0, rfl, by decide +kernel, rfl⟩
theorem dX12_started_8 : dc cX12_started 8 (.getfield 81) 3 11 := ⟨by decide +kernel, rfl⟩
theorem dX12_started_11 : dIl cX12_started 11 1 12 := Or.inl ⟨1, rfl, by decide +kernel, rfl⟩
theorem dX12_started_12 : dc cX12_started 12 .iaload 1 13 := ⟨by decide +kernel, rfl⟩
theorem dX12_started_13 : dj cX12_started 13 .goto 17 16 := ⟨4, by decide +kernel, by decide, rfl⟩
theorem dX12_started_16 : dKc cX12_started 16 (-1) 17 := Or.inl ⟨(-1), by decide +kernel, by decide +kernel, rfl⟩
theorem dX12_started_17 : dc cX12_started 17 .ireturn 1 18 := ⟨by decide +kernel, rfl⟩
theorem dX12_count_0 : dKc cX12_count 0 0 1 := Or.inl ⟨0, by decide +kernel, by decide +kernel, rfl⟩
theorem dX12_count_1 : dIs cX12_count 1 2 2 := Or.inl ⟨2, rfl, by decide +kernel, rfl⟩
theorem dX12_count_2 : dKc cX12_count 2 0 3 := Or.inl ⟨0, by decide +kernel, by decide +kernel, rfl⟩
theorem dX12_count_3 : dIs cX12_count 3 3 4 := Or.inl ⟨3, rfl, by decide +kernel, rfl⟩
theorem dX12_count_4 : dKc cX12_count 4 0 5 := Or.inl ⟨0, by decide +kernel, by decide +kernel, rfl⟩
theorem dX12_count_5 : dIs cX12_count 5 4 7 := Or.inr ⟨by decide +kernel, rfl⟩
theorem dX12_count_7 : dIl cX12_count 7 4 9 := Or.inr ⟨by decide +kernel, rfl⟩
theorem dX12_count_9 : dKc cX12_count 9 10 11 := Or.inr (Or.inl ⟨10, by decide +kernel, by decide +kernel, rfl⟩)
theorem dX12_count_11 : dj cX12_count 11 (.if_icmp .ge) 39 14 := ⟨28, by decide +kernel, by decide, rfl⟩
theorem dX12_count_14 : dIl cX12_count 14 2 15 := Or.inl ⟨2, rfl, by decide +kernel, rfl⟩
theorem dX12_count_15 : dAl cX12_count 15 0 16 := Or.inl ⟨0, rfl, by decide +kernel, rfl⟩
theorem dX12_count_16 : dc cX12_count 16 (.getfield 47) 3 19 := ⟨by decide +kernel, rfl⟩
theorem dX12_count_19 : dIl cX12_count 19 4 21 := Or.inr ⟨by decide +kernel, rfl⟩
theorem dX12_count_21 : dc cX12_count 21 .iaload 1 22 := ⟨by decide +kernel, rfl⟩
theorem dX12_count_22 : dKc cX12_count 22 (-1) 23 := Or.inl ⟨(-1), by decide +kernel, by decide +kernel, rfl⟩
theorem dX12_count_23 : dj cX12_count 23 (.if_icmp .ne) 30 26 := ⟨7, by decide +kernel, by decide, rfl⟩
theorem dX12_count_26 : dKc cX12_count 26 0 27 := Or.inl ⟨0, by decide +kernel, by decide +kernel, rfl⟩
theorem dX12_count_27 : dj cX12_count 27 .goto 31 30 := ⟨4, by decide +kernel, by decide, rfl⟩
theorem dX12_count_30 : dKc cX12_count 30 1 31 := Or.inl ⟨1, by decide +kernel, by decide +kernel, rfl⟩
theorem dX12_count_31 : dc cX12_count 31 .iadd 1 32 := ⟨by decide +kernel, rfl⟩
theorem dX12_count_32 : dIs cX12_count 32 2 33 := Or.inl ⟨2, rfl, by decide +kernel, rfl⟩
theorem dX12_count_33 : dc cX12_count 33 (.iinc 4 1) 3 36 := ⟨by decide +kernel, rfl⟩
theorem dX12_count_36 : dj cX12_count 36 .goto 7 39 := ⟨(-29), by decide +kernel, by decide, rfl⟩
theorem dX12_count_39 : dKc cX12_count 39 0 40 := Or.inl ⟨0, by decide +kernel, by decide +kernel, rfl⟩
theorem dX12_count_40 : dIs cX12_count 40 4 42 := Or.inr ⟨by decide +kernel, rfl⟩
theorem dX12_count_42 : dIl cX12_count 42 4 44 := Or.inr ⟨by decide +kernel, rfl⟩
theorem dX12_count_44 : dKc cX12_count 44 6 46 := Or.inr (Or.inl ⟨6, by decide +kernel, by decide +kernel, rfl⟩)
theorem dX12_count_46 : dj cX12_count 46 (.if_icmp .ge) 75 49 := ⟨29, by decide +kernel, by decide, rfl⟩
theorem dX12_count_49 : dIl cX12_count 49 3 50 := Or.inl ⟨3, rfl, by decide +kernel, rfl⟩
theorem dX12_count_50 : dAl cX12_count 50 0 51 := Or.inl ⟨0, rfl, by decide +kernel, rfl⟩
theorem dX12_count_51 : dc cX12_count 51 (.getfield 81) 3 54 := ⟨by decide +kernel, rfl⟩
theorem dX12_count_54 : dIl cX12_count 54 4 56 := Or.inr ⟨by decide +kernel, rfl⟩
theorem dX12_count_56 : dc cX12_count 56 .iaload 1 57 := ⟨by decide +kernel, rfl⟩
theorem dX12_count_57 : dKc cX12_count 57 (-3) 59 := Or.inr (Or.inl ⟨(-3), by decide +kernel, by decide +kernel, rfl⟩)
theorem dX12_count_59 : dj cX12_count 59 (.if_icmp .ne) 66 62 := ⟨7, by decide +kernel, by decide, rfl⟩
theorem dX12_count_62 : dKc cX12_count 62 0 63 := Or.inl ⟨0, by decide +kernel, by decide +kernel, rfl⟩
theorem dX12_count_63 : dj cX12_count 63 .goto 67 66 := ⟨4, by decide +kernel, by decide, rfl⟩
theorem dX12_count_66 : dKc cX12_count 66 1 67 := Or.inl ⟨1, by decide +kernel, by decide +kernel, rfl⟩
theorem dX12_count_67 : dc cX12_count 67 .iadd 1 68 := ⟨by decide +kernel, rfl⟩
theorem dX12_count_68 : dIs cX12_count 68 3 69 := Or.inl ⟨3, rfl, by decide +kernel, rfl⟩
theorem dX12_count_69 : dc cX12_count 69 (.iinc 4 1) 3 72 := ⟨by decide +kernel, rfl⟩
theorem dX12_count_72 : dj cX12_count 72 .goto 42 75 := ⟨(-30), by decide +kernel, by decide, rfl⟩
theorem dX12_count_75 : dIl cX12_count 75 1 76 := Or.inl ⟨1, rfl, by decide +kernel, rfl⟩
theorem dX12_count_76 : dj cX12_count 76 (.ifCond .ne) 86 79 := ⟨10, by decide +kernel, by decide, rfl⟩
theorem dX12_count_79 : dAl cX12_count 79 0 80 := Or.inl ⟨0, rfl, by decide +kernel, rfl⟩
theorem dX12_count_80 : dc cX12_count 80 (.getfield 93) 3 83 := ⟨by decide +kernel, rfl⟩
theorem dX12_count_83 : dj cX12_count 83 .goto 141 86 := ⟨58, by decide +kernel, by decide, rfl⟩
theorem dX12_count_86 : dIl cX12_count 86 1 87 := Or.inl ⟨1, rfl, by decide +kernel, rfl⟩
theorem dX12_count_87 : dKc cX12_count 87 1 88 := Or.inl ⟨1, by decide +kernel, by decide +kernel, rfl⟩
theorem dX12_count_88 : dj cX12_count 88 (.if_icmp .ne) 98 91 := ⟨10, by decide +kernel, by decide, rfl⟩
theorem dX12_count_91 : dAl cX12_count 91 0 92 := Or.inl ⟨0, rfl, by decide +kernel, rfl⟩
theorem dX12_count_92 : dc cX12_count 92 (.getfield 138) 3 95 := ⟨by decide +kernel, rfl⟩
theorem dX12_count_95 : dj cX12_count 95 .goto 141 98 := ⟨46, by decide +kernel, by decide, rfl⟩
theorem dX12_count_98 : dIl cX12_count 98 1 99 := Or.inl ⟨1, rfl, by decide +kernel, rfl⟩
theorem dX12_count_99 : dKc cX12_count 99 2 100 := Or.inl ⟨2, by decide +kernel, by decide +kernel, rfl⟩
theorem dX12_count_100 : dj cX12_count 100 (.if_icmp .ne) 110 103 := ⟨10, by decide +kernel, by decide, rfl⟩
theorem dX12_count_103 : dAl cX12_count 103 0 104 := Or.inl ⟨0, rfl, by decide +kernel, rfl⟩
theorem dX12_count_104 : dc cX12_count 104 (.getfield 149) 3 107 := ⟨by decide +kernel, rfl⟩
theorem dX12_count_107 : dj cX12_count 107 .goto 141 110 := ⟨34, by decide +kernel, by decide, rfl⟩
theorem dX12_count_110 : dIl cX12_count 110 1 111 := Or.inl ⟨1, rfl, by decide +kernel, rfl⟩
theorem dX12_count_111 : dKc cX12_count 111 3 112 := Or.inl ⟨3, by decide +kernel, by decide +kernel, rfl⟩
theorem dX12_count_112 : dj cX12_count 112 (.if_icmp .ne) 122 115 := ⟨10, by decide +kernel, by decide, rfl⟩
theorem dX12_count_115 : dAl cX12_count 115 0 116 := Or.inl ⟨0, rfl, by decide +kernel, rfl⟩
theorem dX12_count_116 : dc cX12_count 116 (.getfield 182) 3 119 := ⟨by decide +kernel, rfl⟩
theorem dX12_count_119 : dj cX12_count 119 .goto 141 122 := ⟨22, by decide +kernel, by decide, rfl⟩
theorem dX12_count_122 : dIl cX12_count 122 1 123 := Or.inl ⟨1, rfl, by decide +kernel, rfl⟩
theorem dX12_count_123 : dKc cX12_count 123 4 124 := Or.inl ⟨4, by decide +kernel, by decide +kernel, rfl⟩
theorem dX12_count_124 : dj cX12_count 124 (.if_icmp .ne) 131 127 := ⟨7, by decide +kernel, by decide, rfl⟩
theorem dX12_count_127 : dIl cX12_count 127 2 128 := Or.inl ⟨2, rfl, by decide +kernel, rfl⟩
theorem dX12_count_128 : dj cX12_count 128 .goto 141 131 := ⟨13, by decide +kernel, by decide, rfl⟩
theorem dX12_count_131 : dIl cX12_count 131 1 132 := Or.inl ⟨1, rfl, by decide +kernel, rfl⟩
theorem dX12_count_132 : dKc cX12_count 132 5 133 := Or.inl ⟨5, by decide +kernel, by decide +kernel, rfl⟩
theorem dX12_count_133 : dj cX12_count 133 (.if_icmp .ne) 140 136 := ⟨7, by decide +kernel, by decide, rfl⟩
theorem dX12_count_136 : dIl cX12_count 136 3 137 := Or.inl ⟨3, rfl, by decide +kernel, rfl⟩
theorem dX12_count_137 : dj cX12_count 137 .goto 141 140 := ⟨4, by decide +kernel, by decide, rfl⟩
theorem dX12_count_140 : dKc cX12_count 140 (-1) 141 := Or.inl ⟨(-1), by decide +kernel, by decide +kernel, rfl⟩
theorem dX12_count_141 : dc cX12_count 141 .ireturn 1 142 := ⟨by decide +kernel, rfl⟩
end
section
theorem dL_law_0 : dc cL_law 0 (.new 7) 3 3 := ⟨by decide +kernel, rfl⟩
theorem dL_law_3 : dc cL_law 3 .dup 1 4 := ⟨by decide +kernel, rfl⟩
theorem dL_law_4 : dc cL_law 4 (.invokespecial 9) 3 7 := ⟨by decide +kernel, rfl⟩
theorem dL_law_7 : dAs cL_law 7 1 8 := Or.inl ⟨1, rfl, by decide +kernel, rfl⟩
theorem dL_law_8 : dc cL_law 8 (.new 10) 3 11 := ⟨by decide +kernel, rfl⟩
theorem dL_law_11 : dc cL_law 11 .dup 1 12 := ⟨by decide +kernel, rfl⟩
theorem dL_law_12 : dc cL_law 12 (.invokespecial 12) 3 15 := ⟨by decide +kernel, rfl⟩
theorem dL_law_15 : dAs cL_law 15 2 16 := Or.inl ⟨2, rfl, by decide +kernel, rfl⟩
theorem dL_law_16 : dKc cL_law 16 0 17 := Or.inl ⟨0, by decide +kernel, by decide +kernel, rfl⟩
theorem dL_law_17 : dIs cL_law 17 3 18 := Or.inl ⟨3, rfl, by decide +kernel, rfl⟩
theorem dL_law_18 : dIl cL_law 18 3 19 := Or.inl ⟨3, rfl, by decide +kernel, rfl⟩
theorem dL_law_19 : dAl cL_law 19 0 20 := Or.inl ⟨0, rfl, by decide +kernel, rfl⟩
theorem dL_law_20 : dc cL_law 20 .arraylength 1 21 := ⟨by decide +kernel, rfl⟩
theorem dL_law_21 : dKc cL_law 21 6 23 := Or.inr (Or.inl ⟨6, by decide +kernel, by decide +kernel, rfl⟩)
theorem dL_law_23 : dc cL_law 23 .isub 1 24 := ⟨by decide +kernel, rfl⟩
theorem dL_law_24 : dj cL_law 24 (.if_icmp .gt) 1243 27 := ⟨1219, by decide +kernel, by decide, rfl⟩
theorem dL_law_27 : dAl cL_law 27 0 28 := Or.inl ⟨0, rfl, by decide +kernel, rfl⟩
theorem dL_law_28 : dIl cL_law 28 3 29 := Or.inl ⟨3, rfl, by decide +kernel, rfl⟩
theorem dL_law_29 : dc cL_law 29 .iaload 1 30 := ⟨by decide +kernel, rfl⟩
theorem dL_law_30 : dKc cL_law 30 31 32 := Or.inr (Or.inl ⟨31, by decide +kernel, by decide +kernel, rfl⟩)
theorem dL_law_32 : dc cL_law 32 .iand 1 33 := ⟨by decide +kernel, rfl⟩
theorem dL_law_33 : dc cL_law 33 (.tableswitch 1204 0 26 #[123, 196, 229, 302, 345, 408, 441, 474, 507, 540, 573, 656, 689, 722, 765, 798, 821, 854, 887, 930, 983, 1026, 1059, 1082, 1115, 1158, 1181]) 123 156 := ⟨by decide +kernel, rfl⟩
theorem dL_law_156 : dAl cL_law 156 1 157 := Or.inl ⟨1, rfl, by decide +kernel, rfl⟩
theorem dL_law_157 : dAl cL_law 157 0 158 := Or.inl ⟨0, rfl, by decide +kernel, rfl⟩
theorem dL_law_158 : dIl cL_law 158 3 159 := Or.inl ⟨3, rfl, by decide +kernel, rfl⟩
theorem dL_law_159 : dKc cL_law 159 1 160 := Or.inl ⟨1, by decide +kernel, by decide +kernel, rfl⟩
theorem dL_law_160 : dc cL_law 160 .iadd 1 161 := ⟨by decide +kernel, rfl⟩
theorem dL_law_161 : dc cL_law 161 .iaload 1 162 := ⟨by decide +kernel, rfl⟩
theorem dL_law_162 : dAl cL_law 162 0 163 := Or.inl ⟨0, rfl, by decide +kernel, rfl⟩
theorem dL_law_163 : dIl cL_law 163 3 164 := Or.inl ⟨3, rfl, by decide +kernel, rfl⟩
theorem dL_law_164 : dKc cL_law 164 2 165 := Or.inl ⟨2, by decide +kernel, by decide +kernel, rfl⟩
theorem dL_law_165 : dc cL_law 165 .iadd 1 166 := ⟨by decide +kernel, rfl⟩
theorem dL_law_166 : dc cL_law 166 .iaload 1 167 := ⟨by decide +kernel, rfl⟩
theorem dL_law_167 : dc cL_law 167 .i2l 1 168 := ⟨by decide +kernel, rfl⟩
theorem dL_law_168 : dKc cL_law 168 32 170 := Or.inr (Or.inl ⟨32, by decide +kernel, by decide +kernel, rfl⟩)
theorem dL_law_170 : dc cL_law 170 .lshl 1 171 := ⟨by decide +kernel, rfl⟩
theorem dL_law_171 : dAl cL_law 171 0 172 := Or.inl ⟨0, rfl, by decide +kernel, rfl⟩
theorem dL_law_172 : dIl cL_law 172 3 173 := Or.inl ⟨3, rfl, by decide +kernel, rfl⟩
theorem dL_law_173 : dKc cL_law 173 3 174 := Or.inl ⟨3, by decide +kernel, by decide +kernel, rfl⟩
theorem dL_law_174 : dc cL_law 174 .iadd 1 175 := ⟨by decide +kernel, rfl⟩
theorem dL_law_175 : dc cL_law 175 .iaload 1 176 := ⟨by decide +kernel, rfl⟩
theorem dL_law_176 : dc cL_law 176 .i2l 1 177 := ⟨by decide +kernel, rfl⟩
theorem dL_law_177 : dc cL_law 177 (.ldc2_w 13) 3 180 := ⟨by decide +kernel, rfl⟩
theorem dL_law_180 : dc cL_law 180 .land 1 181 := ⟨by decide +kernel, rfl⟩
theorem dL_law_181 : dc cL_law 181 .lor 1 182 := ⟨by decide +kernel, rfl⟩
theorem dL_law_182 : dAl cL_law 182 0 183 := Or.inl ⟨0, rfl, by decide +kernel, rfl⟩
theorem dL_law_183 : dIl cL_law 183 3 184 := Or.inl ⟨3, rfl, by decide +kernel, rfl⟩
theorem dL_law_184 : dKc cL_law 184 4 185 := Or.inl ⟨4, by decide +kernel, by decide +kernel, rfl⟩
theorem dL_law_185 : dc cL_law 185 .iadd 1 186 := ⟨by decide +kernel, rfl⟩
theorem dL_law_186 : dc cL_law 186 .iaload 1 187 := ⟨by decide +kernel, rfl⟩
theorem dL_law_187 : dc cL_law 187 (.invokevirtual 15) 3 190 := ⟨by decide +kernel, rfl⟩
theorem dL_law_190 : dAl cL_law 190 2 191 := Or.inl ⟨2, rfl, by decide +kernel, rfl⟩
theorem dL_law_191 : dAl cL_law 191 0 192 := Or.inl ⟨0, rfl, by decide +kernel, rfl⟩
theorem dL_law_192 : dIl cL_law 192 3 193 := Or.inl ⟨3, rfl, by decide +kernel, rfl⟩
theorem dL_law_193 : dKc cL_law 193 1 194 := Or.inl ⟨1, by decide +kernel, by decide +kernel, rfl⟩
theorem dL_law_194 : dc cL_law 194 .iadd 1 195 := ⟨by decide +kernel, rfl⟩
theorem dL_law_195 : dc cL_law 195 .iaload 1 196 := ⟨by decide +kernel, rfl⟩
theorem dL_law_196 : dAl cL_law 196 0 197 := Or.inl ⟨0, rfl, by decide +kernel, rfl⟩
theorem dL_law_197 : dIl cL_law 197 3 198 := Or.inl ⟨3, rfl, by decide +kernel, rfl⟩
theorem dL_law_198 : dKc cL_law 198 2 199 := Or.inl ⟨2, by decide +kernel, by decide +kernel, rfl⟩
theorem dL_law_199 : dc cL_law 199 .iadd 1 200 := ⟨by decide +kernel, rfl⟩
theorem dL_law_200 : dc cL_law 200 .iaload 1 201 := ⟨by decide +kernel, rfl⟩
theorem dL_law_201 : dc cL_law 201 .i2l 1 202 := ⟨by decide +kernel, rfl⟩
theorem dL_law_202 : dKc cL_law 202 32 204 := Or.inr (Or.inl ⟨32, by decide +kernel, by decide +kernel, rfl⟩)
theorem dL_law_204 : dc cL_law 204 .lshl 1 205 := ⟨by decide +kernel, rfl⟩
theorem dL_law_205 : dAl cL_law 205 0 206 := Or.inl ⟨0, rfl, by decide +kernel, rfl⟩
theorem dL_law_206 : dIl cL_law 206 3 207 := Or.inl ⟨3, rfl, by decide +kernel, rfl⟩
theorem dL_law_207 : dKc cL_law 207 3 208 := Or.inl ⟨3, by decide +kernel, by decide +kernel, rfl⟩
theorem dL_law_208 : dc cL_law 208 .iadd 1 209 := ⟨by decide +kernel, rfl⟩
theorem dL_law_209 : dc cL_law 209 .iaload 1 210 := ⟨by decide +kernel, rfl⟩
theorem dL_law_210 : dc cL_law 210 .i2l 1 211 := ⟨by decide +kernel, rfl⟩
theorem dL_law_211 : dc cL_law 211 (.ldc2_w 13) 3 214 := ⟨by decide +kernel, rfl⟩
theorem dL_law_214 : dc cL_law 214 .land 1 215 := ⟨by decide +kernel, rfl⟩
theorem dL_law_215 : dc cL_law 215 .lor 1 216 := ⟨by decide +kernel, rfl⟩
theorem dL_law_216 : dAl cL_law 216 0 217 := Or.inl ⟨0, rfl, by decide +kernel, rfl⟩
theorem dL_law_217 : dIl cL_law 217 3 218 := Or.inl ⟨3, rfl, by decide +kernel, rfl⟩
theorem dL_law_218 : dKc cL_law 218 4 219 := Or.inl ⟨4, by decide +kernel, by decide +kernel, rfl⟩
theorem dL_law_219 : dc cL_law 219 .iadd 1 220 := ⟨by decide +kernel, rfl⟩
theorem dL_law_220 : dc cL_law 220 .iaload 1 221 := ⟨by decide +kernel, rfl⟩
theorem dL_law_221 : dc cL_law 221 (.invokevirtual 19) 3 224 := ⟨by decide +kernel, rfl⟩
theorem dL_law_224 : dj cL_law 224 (.if_icmp .eq) 1237 227 := ⟨1013, by decide +kernel, by decide, rfl⟩
theorem dL_law_227 : dKc cL_law 227 0 228 := Or.inl ⟨0, by decide +kernel, by decide +kernel, rfl⟩
theorem dL_law_228 : dc cL_law 228 .ireturn 1 229 := ⟨by decide +kernel, rfl⟩
theorem dL_law_229 : dAl cL_law 229 1 230 := Or.inl ⟨1, rfl, by decide +kernel, rfl⟩
theorem dL_law_230 : dAl cL_law 230 0 231 := Or.inl ⟨0, rfl, by decide +kernel, rfl⟩
theorem dL_law_231 : dIl cL_law 231 3 232 := Or.inl ⟨3, rfl, by decide +kernel, rfl⟩
theorem dL_law_232 : dKc cL_law 232 1 233 := Or.inl ⟨1, by decide +kernel, by decide +kernel, rfl⟩
theorem dL_law_233 : dc cL_law 233 .iadd 1 234 := ⟨by decide +kernel, rfl⟩
theorem dL_law_234 : dc cL_law 234 .iaload 1 235 := ⟨by decide +kernel, rfl⟩
theorem dL_law_235 : dAl cL_law 235 0 236 := Or.inl ⟨0, rfl, by decide +kernel, rfl⟩
theorem dL_law_236 : dIl cL_law 236 3 237 := Or.inl ⟨3, rfl, by decide +kernel, rfl⟩
theorem dL_law_237 : dKc cL_law 237 2 238 := Or.inl ⟨2, by decide +kernel, by decide +kernel, rfl⟩
theorem dL_law_238 : dc cL_law 238 .iadd 1 239 := ⟨by decide +kernel, rfl⟩
theorem dL_law_239 : dc cL_law 239 .iaload 1 240 := ⟨by decide +kernel, rfl⟩
theorem dL_law_240 : dc cL_law 240 (.invokevirtual 20) 3 243 := ⟨by decide +kernel, rfl⟩
theorem dL_law_243 : dAl cL_law 243 2 244 := Or.inl ⟨2, rfl, by decide +kernel, rfl⟩
theorem dL_law_244 : dAl cL_law 244 0 245 := Or.inl ⟨0, rfl, by decide +kernel, rfl⟩
theorem dL_law_245 : dIl cL_law 245 3 246 := Or.inl ⟨3, rfl, by decide +kernel, rfl⟩
theorem dL_law_246 : dKc cL_law 246 1 247 := Or.inl ⟨1, by decide +kernel, by decide +kernel, rfl⟩
theorem dL_law_247 : dc cL_law 247 .iadd 1 248 := ⟨by decide +kernel, rfl⟩
theorem dL_law_248 : dc cL_law 248 .iaload 1 249 := ⟨by decide +kernel, rfl⟩
theorem dL_law_249 : dAl cL_law 249 0 250 := Or.inl ⟨0, rfl, by decide +kernel, rfl⟩
theorem dL_law_250 : dIl cL_law 250 3 251 := Or.inl ⟨3, rfl, by decide +kernel, rfl⟩
theorem dL_law_251 : dKc cL_law 251 2 252 := Or.inl ⟨2, by decide +kernel, by decide +kernel, rfl⟩
theorem dL_law_252 : dc cL_law 252 .iadd 1 253 := ⟨by decide +kernel, rfl⟩
theorem dL_law_253 : dc cL_law 253 .iaload 1 254 := ⟨by decide +kernel, rfl⟩
theorem dL_law_254 : dc cL_law 254 (.invokevirtual 24) 3 257 := ⟨by decide +kernel, rfl⟩
theorem dL_law_257 : dj cL_law 257 (.if_icmp .eq) 1237 260 := ⟨980, by decide +kernel, by decide, rfl⟩
theorem dL_law_260 : dKc cL_law 260 0 261 := Or.inl ⟨0, by decide +kernel, by decide +kernel, rfl⟩
theorem dL_law_261 : dc cL_law 261 .ireturn 1 262 := ⟨by decide +kernel, rfl⟩
theorem dL_law_262 : dAl cL_law 262 1 263 := Or.inl ⟨1, rfl, by decide +kernel, rfl⟩
theorem dL_law_263 : dAl cL_law 263 0 264 := Or.inl ⟨0, rfl, by decide +kernel, rfl⟩
theorem dL_law_264 : dIl cL_law 264 3 265 := Or.inl ⟨3, rfl, by decide +kernel, rfl⟩
theorem dL_law_265 : dKc cL_law 265 1 266 := Or.inl ⟨1, by decide +kernel, by decide +kernel, rfl⟩
theorem dL_law_266 : dc cL_law 266 .iadd 1 267 := ⟨by decide +kernel, rfl⟩
theorem dL_law_267 : dc cL_law 267 .iaload 1 268 := ⟨by decide +kernel, rfl⟩
theorem dL_law_268 : dAl cL_law 268 0 269 := Or.inl ⟨0, rfl, by decide +kernel, rfl⟩
theorem dL_law_269 : dIl cL_law 269 3 270 := Or.inl ⟨3, rfl, by decide +kernel, rfl⟩
theorem dL_law_270 : dKc cL_law 270 2 271 := Or.inl ⟨2, by decide +kernel, by decide +kernel, rfl⟩
theorem dL_law_271 : dc cL_law 271 .iadd 1 272 := ⟨by decide +kernel, rfl⟩
theorem dL_law_272 : dc cL_law 272 .iaload 1 273 := ⟨by decide +kernel, rfl⟩
theorem dL_law_273 : dAl cL_law 273 0 274 := Or.inl ⟨0, rfl, by decide +kernel, rfl⟩
theorem dL_law_274 : dIl cL_law 274 3 275 := Or.inl ⟨3, rfl, by decide +kernel, rfl⟩
theorem dL_law_275 : dKc cL_law 275 3 276 := Or.inl ⟨3, by decide +kernel, by decide +kernel, rfl⟩
theorem dL_law_276 : dc cL_law 276 .iadd 1 277 := ⟨by decide +kernel, rfl⟩
theorem dL_law_277 : dc cL_law 277 .iaload 1 278 := ⟨by decide +kernel, rfl⟩
theorem dL_law_278 : dc cL_law 278 .i2l 1 279 := ⟨by decide +kernel, rfl⟩
theorem dL_law_279 : dKc cL_law 279 32 281 := Or.inr (Or.inl ⟨32, by decide +kernel, by decide +kernel, rfl⟩)
theorem dL_law_281 : dc cL_law 281 .lshl 1 282 := ⟨by decide +kernel, rfl⟩
theorem dL_law_282 : dAl cL_law 282 0 283 := Or.inl ⟨0, rfl, by decide +kernel, rfl⟩
theorem dL_law_283 : dIl cL_law 283 3 284 := Or.inl ⟨3, rfl, by decide +kernel, rfl⟩
theorem dL_law_284 : dKc cL_law 284 4 285 := Or.inl ⟨4, by decide +kernel, by decide +kernel, rfl⟩
theorem dL_law_285 : dc cL_law 285 .iadd 1 286 := ⟨by decide +kernel, rfl⟩
theorem dL_law_286 : dc cL_law 286 .iaload 1 287 := ⟨by decide +kernel, rfl⟩
theorem dL_law_287 : dc cL_law 287 .i2l 1 288 := ⟨by decide +kernel, rfl⟩
theorem dL_law_288 : dc cL_law 288 (.ldc2_w 13) 3 291 := ⟨by decide +kernel, rfl⟩
theorem dL_law_291 : dc cL_law 291 .land 1 292 := ⟨by decide +kernel, rfl⟩
theorem dL_law_292 : dc cL_law 292 .lor 1 293 := ⟨by decide +kernel, rfl⟩
theorem dL_law_293 : dc cL_law 293 (.invokevirtual 25) 3 296 := ⟨by decide +kernel, rfl⟩
theorem dL_law_296 : dAl cL_law 296 2 297 := Or.inl ⟨2, rfl, by decide +kernel, rfl⟩
theorem dL_law_297 : dAl cL_law 297 0 298 := Or.inl ⟨0, rfl, by decide +kernel, rfl⟩
theorem dL_law_298 : dIl cL_law 298 3 299 := Or.inl ⟨3, rfl, by decide +kernel, rfl⟩
theorem dL_law_299 : dKc cL_law 299 1 300 := Or.inl ⟨1, by decide +kernel, by decide +kernel, rfl⟩
theorem dL_law_300 : dc cL_law 300 .iadd 1 301 := ⟨by decide +kernel, rfl⟩
theorem dL_law_301 : dc cL_law 301 .iaload 1 302 := ⟨by decide +kernel, rfl⟩
theorem dL_law_302 : dAl cL_law 302 0 303 := Or.inl ⟨0, rfl, by decide +kernel, rfl⟩
theorem dL_law_303 : dIl cL_law 303 3 304 := Or.inl ⟨3, rfl, by decide +kernel, rfl⟩
theorem dL_law_304 : dKc cL_law 304 2 305 := Or.inl ⟨2, by decide +kernel, by decide +kernel, rfl⟩
theorem dL_law_305 : dc cL_law 305 .iadd 1 306 := ⟨by decide +kernel, rfl⟩
theorem dL_law_306 : dc cL_law 306 .iaload 1 307 := ⟨by decide +kernel, rfl⟩
theorem dL_law_307 : dAl cL_law 307 0 308 := Or.inl ⟨0, rfl, by decide +kernel, rfl⟩
theorem dL_law_308 : dIl cL_law 308 3 309 := Or.inl ⟨3, rfl, by decide +kernel, rfl⟩
theorem dL_law_309 : dKc cL_law 309 3 310 := Or.inl ⟨3, by decide +kernel, by decide +kernel, rfl⟩
theorem dL_law_310 : dc cL_law 310 .iadd 1 311 := ⟨by decide +kernel, rfl⟩
theorem dL_law_311 : dc cL_law 311 .iaload 1 312 := ⟨by decide +kernel, rfl⟩
theorem dL_law_312 : dc cL_law 312 .i2l 1 313 := ⟨by decide +kernel, rfl⟩
theorem dL_law_313 : dKc cL_law 313 32 315 := Or.inr (Or.inl ⟨32, by decide +kernel, by decide +kernel, rfl⟩)
theorem dL_law_315 : dc cL_law 315 .lshl 1 316 := ⟨by decide +kernel, rfl⟩
theorem dL_law_316 : dAl cL_law 316 0 317 := Or.inl ⟨0, rfl, by decide +kernel, rfl⟩
theorem dL_law_317 : dIl cL_law 317 3 318 := Or.inl ⟨3, rfl, by decide +kernel, rfl⟩
theorem dL_law_318 : dKc cL_law 318 4 319 := Or.inl ⟨4, by decide +kernel, by decide +kernel, rfl⟩
theorem dL_law_319 : dc cL_law 319 .iadd 1 320 := ⟨by decide +kernel, rfl⟩
theorem dL_law_320 : dc cL_law 320 .iaload 1 321 := ⟨by decide +kernel, rfl⟩
theorem dL_law_321 : dc cL_law 321 .i2l 1 322 := ⟨by decide +kernel, rfl⟩
theorem dL_law_322 : dc cL_law 322 (.ldc2_w 13) 3 325 := ⟨by decide +kernel, rfl⟩
theorem dL_law_325 : dc cL_law 325 .land 1 326 := ⟨by decide +kernel, rfl⟩
theorem dL_law_326 : dc cL_law 326 .lor 1 327 := ⟨by decide +kernel, rfl⟩
theorem dL_law_327 : dc cL_law 327 (.invokevirtual 29) 3 330 := ⟨by decide +kernel, rfl⟩
theorem dL_law_330 : dj cL_law 330 (.if_icmp .eq) 1237 333 := ⟨907, by decide +kernel, by decide, rfl⟩
theorem dL_law_333 : dKc cL_law 333 0 334 := Or.inl ⟨0, by decide +kernel, by decide +kernel, rfl⟩
theorem dL_law_334 : dc cL_law 334 .ireturn 1 335 := ⟨by decide +kernel, rfl⟩
theorem dL_law_335 : dAl cL_law 335 1 336 := Or.inl ⟨1, rfl, by decide +kernel, rfl⟩
theorem dL_law_336 : dAl cL_law 336 0 337 := Or.inl ⟨0, rfl, by decide +kernel, rfl⟩
theorem dL_law_337 : dIl cL_law 337 3 338 := Or.inl ⟨3, rfl, by decide +kernel, rfl⟩
theorem dL_law_338 : dKc cL_law 338 1 339 := Or.inl ⟨1, by decide +kernel, by decide +kernel, rfl⟩
theorem dL_law_339 : dc cL_law 339 .iadd 1 340 := ⟨by decide +kernel, rfl⟩
theorem dL_law_340 : dc cL_law 340 .iaload 1 341 := ⟨by decide +kernel, rfl⟩
theorem dL_law_341 : dAl cL_law 341 0 342 := Or.inl ⟨0, rfl, by decide +kernel, rfl⟩
theorem dL_law_342 : dIl cL_law 342 3 343 := Or.inl ⟨3, rfl, by decide +kernel, rfl⟩
theorem dL_law_343 : dKc cL_law 343 2 344 := Or.inl ⟨2, by decide +kernel, by decide +kernel, rfl⟩
theorem dL_law_344 : dc cL_law 344 .iadd 1 345 := ⟨by decide +kernel, rfl⟩
theorem dL_law_345 : dc cL_law 345 .iaload 1 346 := ⟨by decide +kernel, rfl⟩
theorem dL_law_346 : dAl cL_law 346 0 347 := Or.inl ⟨0, rfl, by decide +kernel, rfl⟩
theorem dL_law_347 : dIl cL_law 347 3 348 := Or.inl ⟨3, rfl, by decide +kernel, rfl⟩
theorem dL_law_348 : dKc cL_law 348 3 349 := Or.inl ⟨3, by decide +kernel, by decide +kernel, rfl⟩
theorem dL_law_349 : dc cL_law 349 .iadd 1 350 := ⟨by decide +kernel, rfl⟩
theorem dL_law_350 : dc cL_law 350 .iaload 1 351 := ⟨by decide +kernel, rfl⟩
theorem dL_law_351 : dc cL_law 351 (.invokevirtual 30) 3 354 := ⟨by decide +kernel, rfl⟩
theorem dL_law_354 : dAl cL_law 354 2 355 := Or.inl ⟨2, rfl, by decide +kernel, rfl⟩
theorem dL_law_355 : dAl cL_law 355 0 356 := Or.inl ⟨0, rfl, by decide +kernel, rfl⟩
theorem dL_law_356 : dIl cL_law 356 3 357 := Or.inl ⟨3, rfl, by decide +kernel, rfl⟩
theorem dL_law_357 : dKc cL_law 357 1 358 := Or.inl ⟨1, by decide +kernel, by decide +kernel, rfl⟩
theorem dL_law_358 : dc cL_law 358 .iadd 1 359 := ⟨by decide +kernel, rfl⟩
theorem dL_law_359 : dc cL_law 359 .iaload 1 360 := ⟨by decide +kernel, rfl⟩
theorem dL_law_360 : dAl cL_law 360 0 361 := Or.inl ⟨0, rfl, by decide +kernel, rfl⟩
theorem dL_law_361 : dIl cL_law 361 3 362 := Or.inl ⟨3, rfl, by decide +kernel, rfl⟩
theorem dL_law_362 : dKc cL_law 362 2 363 := Or.inl ⟨2, by decide +kernel, by decide +kernel, rfl⟩
theorem dL_law_363 : dc cL_law 363 .iadd 1 364 := ⟨by decide +kernel, rfl⟩
theorem dL_law_364 : dc cL_law 364 .iaload 1 365 := ⟨by decide +kernel, rfl⟩
theorem dL_law_365 : dAl cL_law 365 0 366 := Or.inl ⟨0, rfl, by decide +kernel, rfl⟩
theorem dL_law_366 : dIl cL_law 366 3 367 := Or.inl ⟨3, rfl, by decide +kernel, rfl⟩
theorem dL_law_367 : dKc cL_law 367 3 368 := Or.inl ⟨3, by decide +kernel, by decide +kernel, rfl⟩
theorem dL_law_368 : dc cL_law 368 .iadd 1 369 := ⟨by decide +kernel, rfl⟩
theorem dL_law_369 : dc cL_law 369 .iaload 1 370 := ⟨by decide +kernel, rfl⟩
theorem dL_law_370 : dc cL_law 370 (.invokevirtual 34) 3 373 := ⟨by decide +kernel, rfl⟩
theorem dL_law_373 : dj cL_law 373 (.if_icmp .eq) 1237 376 := ⟨864, by decide +kernel, by decide, rfl⟩
theorem dL_law_376 : dKc cL_law 376 0 377 := Or.inl ⟨0, by decide +kernel, by decide +kernel, rfl⟩
theorem dL_law_377 : dc cL_law 377 .ireturn 1 378 := ⟨by decide +kernel, rfl⟩
theorem dL_law_378 : dAl cL_law 378 1 379 := Or.inl ⟨1, rfl, by decide +kernel, rfl⟩
theorem dL_law_379 : dAl cL_law 379 0 380 := Or.inl ⟨0, rfl, by decide +kernel, rfl⟩
theorem dL_law_380 : dIl cL_law 380 3 381 := Or.inl ⟨3, rfl, by decide +kernel, rfl⟩
theorem dL_law_381 : dKc cL_law 381 1 382 := Or.inl ⟨1, by decide +kernel, by decide +kernel, rfl⟩
theorem dL_law_382 : dc cL_law 382 .iadd 1 383 := ⟨by decide +kernel, rfl⟩
theorem dL_law_383 : dc cL_law 383 .iaload 1 384 := ⟨by decide +kernel, rfl⟩
theorem dL_law_384 : dAl cL_law 384 0 385 := Or.inl ⟨0, rfl, by decide +kernel, rfl⟩
theorem dL_law_385 : dIl cL_law 385 3 386 := Or.inl ⟨3, rfl, by decide +kernel, rfl⟩
theorem dL_law_386 : dKc cL_law 386 2 387 := Or.inl ⟨2, by decide +kernel, by decide +kernel, rfl⟩
theorem dL_law_387 : dc cL_law 387 .iadd 1 388 := ⟨by decide +kernel, rfl⟩
theorem dL_law_388 : dc cL_law 388 .iaload 1 389 := ⟨by decide +kernel, rfl⟩
theorem dL_law_389 : dc cL_law 389 .i2l 1 390 := ⟨by decide +kernel, rfl⟩
theorem dL_law_390 : dKc cL_law 390 32 392 := Or.inr (Or.inl ⟨32, by decide +kernel, by decide +kernel, rfl⟩)
theorem dL_law_392 : dc cL_law 392 .lshl 1 393 := ⟨by decide +kernel, rfl⟩
theorem dL_law_393 : dAl cL_law 393 0 394 := Or.inl ⟨0, rfl, by decide +kernel, rfl⟩
theorem dL_law_394 : dIl cL_law 394 3 395 := Or.inl ⟨3, rfl, by decide +kernel, rfl⟩
theorem dL_law_395 : dKc cL_law 395 3 396 := Or.inl ⟨3, by decide +kernel, by decide +kernel, rfl⟩
theorem dL_law_396 : dc cL_law 396 .iadd 1 397 := ⟨by decide +kernel, rfl⟩
theorem dL_law_397 : dc cL_law 397 .iaload 1 398 := ⟨by decide +kernel, rfl⟩
theorem dL_law_398 : dc cL_law 398 .i2l 1 399 := ⟨by decide +kernel, rfl⟩
theorem dL_law_399 : dc cL_law 399 (.ldc2_w 13) 3 402 := ⟨by decide +kernel, rfl⟩
theorem dL_law_402 : dc cL_law 402 .land 1 403 := ⟨by decide +kernel, rfl⟩
theorem dL_law_403 : dc cL_law 403 .lor 1 404 := ⟨by decide +kernel, rfl⟩
theorem dL_law_404 : dc cL_law 404 (.invokevirtual 35) 3 407 := ⟨by decide +kernel, rfl⟩
theorem dL_law_407 : dAl cL_law 407 2 408 := Or.inl ⟨2, rfl, by decide +kernel, rfl⟩
theorem dL_law_408 : dAl cL_law 408 0 409 := Or.inl ⟨0, rfl, by decide +kernel, rfl⟩
theorem dL_law_409 : dIl cL_law 409 3 410 := Or.inl ⟨3, rfl, by decide +kernel, rfl⟩
theorem dL_law_410 : dKc cL_law 410 1 411 := Or.inl ⟨1, by decide +kernel, by decide +kernel, rfl⟩
theorem dL_law_411 : dc cL_law 411 .iadd 1 412 := ⟨by decide +kernel, rfl⟩
theorem dL_law_412 : dc cL_law 412 .iaload 1 413 := ⟨by decide +kernel, rfl⟩
theorem dL_law_413 : dAl cL_law 413 0 414 := Or.inl ⟨0, rfl, by decide +kernel, rfl⟩
theorem dL_law_414 : dIl cL_law 414 3 415 := Or.inl ⟨3, rfl, by decide +kernel, rfl⟩
theorem dL_law_415 : dKc cL_law 415 2 416 := Or.inl ⟨2, by decide +kernel, by decide +kernel, rfl⟩
theorem dL_law_416 : dc cL_law 416 .iadd 1 417 := ⟨by decide +kernel, rfl⟩
theorem dL_law_417 : dc cL_law 417 .iaload 1 418 := ⟨by decide +kernel, rfl⟩
theorem dL_law_418 : dc cL_law 418 .i2l 1 419 := ⟨by decide +kernel, rfl⟩
theorem dL_law_419 : dKc cL_law 419 32 421 := Or.inr (Or.inl ⟨32, by decide +kernel, by decide +kernel, rfl⟩)
theorem dL_law_421 : dc cL_law 421 .lshl 1 422 := ⟨by decide +kernel, rfl⟩
theorem dL_law_422 : dAl cL_law 422 0 423 := Or.inl ⟨0, rfl, by decide +kernel, rfl⟩
theorem dL_law_423 : dIl cL_law 423 3 424 := Or.inl ⟨3, rfl, by decide +kernel, rfl⟩
theorem dL_law_424 : dKc cL_law 424 3 425 := Or.inl ⟨3, by decide +kernel, by decide +kernel, rfl⟩
theorem dL_law_425 : dc cL_law 425 .iadd 1 426 := ⟨by decide +kernel, rfl⟩
theorem dL_law_426 : dc cL_law 426 .iaload 1 427 := ⟨by decide +kernel, rfl⟩
theorem dL_law_427 : dc cL_law 427 .i2l 1 428 := ⟨by decide +kernel, rfl⟩
theorem dL_law_428 : dc cL_law 428 (.ldc2_w 13) 3 431 := ⟨by decide +kernel, rfl⟩
theorem dL_law_431 : dc cL_law 431 .land 1 432 := ⟨by decide +kernel, rfl⟩
theorem dL_law_432 : dc cL_law 432 .lor 1 433 := ⟨by decide +kernel, rfl⟩
theorem dL_law_433 : dc cL_law 433 (.invokevirtual 39) 3 436 := ⟨by decide +kernel, rfl⟩
theorem dL_law_436 : dj cL_law 436 (.if_icmp .eq) 1237 439 := ⟨801, by decide +kernel, by decide, rfl⟩
theorem dL_law_439 : dKc cL_law 439 0 440 := Or.inl ⟨0, by decide +kernel, by decide +kernel, rfl⟩
theorem dL_law_440 : dc cL_law 440 .ireturn 1 441 := ⟨by decide +kernel, rfl⟩
theorem dL_law_441 : dAl cL_law 441 1 442 := Or.inl ⟨1, rfl, by decide +kernel, rfl⟩
theorem dL_law_442 : dAl cL_law 442 0 443 := Or.inl ⟨0, rfl, by decide +kernel, rfl⟩
theorem dL_law_443 : dIl cL_law 443 3 444 := Or.inl ⟨3, rfl, by decide +kernel, rfl⟩
theorem dL_law_444 : dKc cL_law 444 1 445 := Or.inl ⟨1, by decide +kernel, by decide +kernel, rfl⟩
theorem dL_law_445 : dc cL_law 445 .iadd 1 446 := ⟨by decide +kernel, rfl⟩
theorem dL_law_446 : dc cL_law 446 .iaload 1 447 := ⟨by decide +kernel, rfl⟩
theorem dL_law_447 : dAl cL_law 447 0 448 := Or.inl ⟨0, rfl, by decide +kernel, rfl⟩
theorem dL_law_448 : dIl cL_law 448 3 449 := Or.inl ⟨3, rfl, by decide +kernel, rfl⟩
theorem dL_law_449 : dKc cL_law 449 2 450 := Or.inl ⟨2, by decide +kernel, by decide +kernel, rfl⟩
theorem dL_law_450 : dc cL_law 450 .iadd 1 451 := ⟨by decide +kernel, rfl⟩
theorem dL_law_451 : dc cL_law 451 .iaload 1 452 := ⟨by decide +kernel, rfl⟩
theorem dL_law_452 : dc cL_law 452 (.invokevirtual 40) 3 455 := ⟨by decide +kernel, rfl⟩
theorem dL_law_455 : dAl cL_law 455 2 456 := Or.inl ⟨2, rfl, by decide +kernel, rfl⟩
theorem dL_law_456 : dAl cL_law 456 0 457 := Or.inl ⟨0, rfl, by decide +kernel, rfl⟩
theorem dL_law_457 : dIl cL_law 457 3 458 := Or.inl ⟨3, rfl, by decide +kernel, rfl⟩
theorem dL_law_458 : dKc cL_law 458 1 459 := Or.inl ⟨1, by decide +kernel, by decide +kernel, rfl⟩
theorem dL_law_459 : dc cL_law 459 .iadd 1 460 := ⟨by decide +kernel, rfl⟩
theorem dL_law_460 : dc cL_law 460 .iaload 1 461 := ⟨by decide +kernel, rfl⟩
theorem dL_law_461 : dAl cL_law 461 0 462 := Or.inl ⟨0, rfl, by decide +kernel, rfl⟩
theorem dL_law_462 : dIl cL_law 462 3 463 := Or.inl ⟨3, rfl, by decide +kernel, rfl⟩
theorem dL_law_463 : dKc cL_law 463 2 464 := Or.inl ⟨2, by decide +kernel, by decide +kernel, rfl⟩
theorem dL_law_464 : dc cL_law 464 .iadd 1 465 := ⟨by decide +kernel, rfl⟩
theorem dL_law_465 : dc cL_law 465 .iaload 1 466 := ⟨by decide +kernel, rfl⟩
theorem dL_law_466 : dc cL_law 466 (.invokevirtual 43) 3 469 := ⟨by decide +kernel, rfl⟩
theorem dL_law_469 : dj cL_law 469 (.if_icmp .eq) 1237 472 := ⟨768, by decide +kernel, by decide, rfl⟩
theorem dL_law_472 : dKc cL_law 472 0 473 := Or.inl ⟨0, by decide +kernel, by decide +kernel, rfl⟩
theorem dL_law_473 : dc cL_law 473 .ireturn 1 474 := ⟨by decide +kernel, rfl⟩
theorem dL_law_474 : dAl cL_law 474 1 475 := Or.inl ⟨1, rfl, by decide +kernel, rfl⟩
theorem dL_law_475 : dAl cL_law 475 0 476 := Or.inl ⟨0, rfl, by decide +kernel, rfl⟩
theorem dL_law_476 : dIl cL_law 476 3 477 := Or.inl ⟨3, rfl, by decide +kernel, rfl⟩
theorem dL_law_477 : dKc cL_law 477 1 478 := Or.inl ⟨1, by decide +kernel, by decide +kernel, rfl⟩
theorem dL_law_478 : dc cL_law 478 .iadd 1 479 := ⟨by decide +kernel, rfl⟩
theorem dL_law_479 : dc cL_law 479 .iaload 1 480 := ⟨by decide +kernel, rfl⟩
theorem dL_law_480 : dAl cL_law 480 0 481 := Or.inl ⟨0, rfl, by decide +kernel, rfl⟩
theorem dL_law_481 : dIl cL_law 481 3 482 := Or.inl ⟨3, rfl, by decide +kernel, rfl⟩
theorem dL_law_482 : dKc cL_law 482 2 483 := Or.inl ⟨2, by decide +kernel, by decide +kernel, rfl⟩
theorem dL_law_483 : dc cL_law 483 .iadd 1 484 := ⟨by decide +kernel, rfl⟩
theorem dL_law_484 : dc cL_law 484 .iaload 1 485 := ⟨by decide +kernel, rfl⟩
theorem dL_law_485 : dc cL_law 485 (.invokevirtual 44) 3 488 := ⟨by decide +kernel, rfl⟩
theorem dL_law_488 : dAl cL_law 488 2 489 := Or.inl ⟨2, rfl, by decide +kernel, rfl⟩
theorem dL_law_489 : dAl cL_law 489 0 490 := Or.inl ⟨0, rfl, by decide +kernel, rfl⟩
theorem dL_law_490 : dIl cL_law 490 3 491 := Or.inl ⟨3, rfl, by decide +kernel, rfl⟩
theorem dL_law_491 : dKc cL_law 491 1 492 := Or.inl ⟨1, by decide +kernel, by decide +kernel, rfl⟩
theorem dL_law_492 : dc cL_law 492 .iadd 1 493 := ⟨by decide +kernel, rfl⟩
theorem dL_law_493 : dc cL_law 493 .iaload 1 494 := ⟨by decide +kernel, rfl⟩
theorem dL_law_494 : dAl cL_law 494 0 495 := Or.inl ⟨0, rfl, by decide +kernel, rfl⟩
theorem dL_law_495 : dIl cL_law 495 3 496 := Or.inl ⟨3, rfl, by decide +kernel, rfl⟩
theorem dL_law_496 : dKc cL_law 496 2 497 := Or.inl ⟨2, by decide +kernel, by decide +kernel, rfl⟩
theorem dL_law_497 : dc cL_law 497 .iadd 1 498 := ⟨by decide +kernel, rfl⟩
theorem dL_law_498 : dc cL_law 498 .iaload 1 499 := ⟨by decide +kernel, rfl⟩
theorem dL_law_499 : dc cL_law 499 (.invokevirtual 47) 3 502 := ⟨by decide +kernel, rfl⟩
theorem dL_law_502 : dj cL_law 502 (.if_icmp .eq) 1237 505 := ⟨735, by decide +kernel, by decide, rfl⟩
theorem dL_law_505 : dKc cL_law 505 0 506 := Or.inl ⟨0, by decide +kernel, by decide +kernel, rfl⟩
theorem dL_law_506 : dc cL_law 506 .ireturn 1 507 := ⟨by decide +kernel, rfl⟩
theorem dL_law_507 : dAl cL_law 507 1 508 := Or.inl ⟨1, rfl, by decide +kernel, rfl⟩
theorem dL_law_508 : dAl cL_law 508 0 509 := Or.inl ⟨0, rfl, by decide +kernel, rfl⟩
theorem dL_law_509 : dIl cL_law 509 3 510 := Or.inl ⟨3, rfl, by decide +kernel, rfl⟩
theorem dL_law_510 : dKc cL_law 510 1 511 := Or.inl ⟨1, by decide +kernel, by decide +kernel, rfl⟩
theorem dL_law_511 : dc cL_law 511 .iadd 1 512 := ⟨by decide +kernel, rfl⟩
theorem dL_law_512 : dc cL_law 512 .iaload 1 513 := ⟨by decide +kernel, rfl⟩
theorem dL_law_513 : dAl cL_law 513 0 514 := Or.inl ⟨0, rfl, by decide +kernel, rfl⟩
theorem dL_law_514 : dIl cL_law 514 3 515 := Or.inl ⟨3, rfl, by decide +kernel, rfl⟩
theorem dL_law_515 : dKc cL_law 515 2 516 := Or.inl ⟨2, by decide +kernel, by decide +kernel, rfl⟩
theorem dL_law_516 : dc cL_law 516 .iadd 1 517 := ⟨by decide +kernel, rfl⟩
theorem dL_law_517 : dc cL_law 517 .iaload 1 518 := ⟨by decide +kernel, rfl⟩
theorem dL_law_518 : dc cL_law 518 (.invokevirtual 48) 3 521 := ⟨by decide +kernel, rfl⟩
theorem dL_law_521 : dAl cL_law 521 2 522 := Or.inl ⟨2, rfl, by decide +kernel, rfl⟩
theorem dL_law_522 : dAl cL_law 522 0 523 := Or.inl ⟨0, rfl, by decide +kernel, rfl⟩
theorem dL_law_523 : dIl cL_law 523 3 524 := Or.inl ⟨3, rfl, by decide +kernel, rfl⟩
theorem dL_law_524 : dKc cL_law 524 1 525 := Or.inl ⟨1, by decide +kernel, by decide +kernel, rfl⟩
theorem dL_law_525 : dc cL_law 525 .iadd 1 526 := ⟨by decide +kernel, rfl⟩
theorem dL_law_526 : dc cL_law 526 .iaload 1 527 := ⟨by decide +kernel, rfl⟩
theorem dL_law_527 : dAl cL_law 527 0 528 := Or.inl ⟨0, rfl, by decide +kernel, rfl⟩
theorem dL_law_528 : dIl cL_law 528 3 529 := Or.inl ⟨3, rfl, by decide +kernel, rfl⟩
theorem dL_law_529 : dKc cL_law 529 2 530 := Or.inl ⟨2, by decide +kernel, by decide +kernel, rfl⟩
theorem dL_law_530 : dc cL_law 530 .iadd 1 531 := ⟨by decide +kernel, rfl⟩
theorem dL_law_531 : dc cL_law 531 .iaload 1 532 := ⟨by decide +kernel, rfl⟩
theorem dL_law_532 : dc cL_law 532 (.invokevirtual 51) 3 535 := ⟨by decide +kernel, rfl⟩
theorem dL_law_535 : dj cL_law 535 (.if_icmp .eq) 1237 538 := ⟨702, by decide +kernel, by decide, rfl⟩
theorem dL_law_538 : dKc cL_law 538 0 539 := Or.inl ⟨0, by decide +kernel, by decide +kernel, rfl⟩
theorem dL_law_539 : dc cL_law 539 .ireturn 1 540 := ⟨by decide +kernel, rfl⟩
theorem dL_law_540 : dAl cL_law 540 1 541 := Or.inl ⟨1, rfl, by decide +kernel, rfl⟩
theorem dL_law_541 : dAl cL_law 541 0 542 := Or.inl ⟨0, rfl, by decide +kernel, rfl⟩
theorem dL_law_542 : dIl cL_law 542 3 543 := Or.inl ⟨3, rfl, by decide +kernel, rfl⟩
theorem dL_law_543 : dKc cL_law 543 1 544 := Or.inl ⟨1, by decide +kernel, by decide +kernel, rfl⟩
theorem dL_law_544 : dc cL_law 544 .iadd 1 545 := ⟨by decide +kernel, rfl⟩
theorem dL_law_545 : dc cL_law 545 .iaload 1 546 := ⟨by decide +kernel, rfl⟩
theorem dL_law_546 : dAl cL_law 546 0 547 := Or.inl ⟨0, rfl, by decide +kernel, rfl⟩
theorem dL_law_547 : dIl cL_law 547 3 548 := Or.inl ⟨3, rfl, by decide +kernel, rfl⟩
theorem dL_law_548 : dKc cL_law 548 2 549 := Or.inl ⟨2, by decide +kernel, by decide +kernel, rfl⟩
theorem dL_law_549 : dc cL_law 549 .iadd 1 550 := ⟨by decide +kernel, rfl⟩
theorem dL_law_550 : dc cL_law 550 .iaload 1 551 := ⟨by decide +kernel, rfl⟩
theorem dL_law_551 : dc cL_law 551 (.invokevirtual 52) 3 554 := ⟨by decide +kernel, rfl⟩
theorem dL_law_554 : dAl cL_law 554 2 555 := Or.inl ⟨2, rfl, by decide +kernel, rfl⟩
theorem dL_law_555 : dAl cL_law 555 0 556 := Or.inl ⟨0, rfl, by decide +kernel, rfl⟩
theorem dL_law_556 : dIl cL_law 556 3 557 := Or.inl ⟨3, rfl, by decide +kernel, rfl⟩
theorem dL_law_557 : dKc cL_law 557 1 558 := Or.inl ⟨1, by decide +kernel, by decide +kernel, rfl⟩
theorem dL_law_558 : dc cL_law 558 .iadd 1 559 := ⟨by decide +kernel, rfl⟩
theorem dL_law_559 : dc cL_law 559 .iaload 1 560 := ⟨by decide +kernel, rfl⟩
theorem dL_law_560 : dAl cL_law 560 0 561 := Or.inl ⟨0, rfl, by decide +kernel, rfl⟩
theorem dL_law_561 : dIl cL_law 561 3 562 := Or.inl ⟨3, rfl, by decide +kernel, rfl⟩
theorem dL_law_562 : dKc cL_law 562 2 563 := Or.inl ⟨2, by decide +kernel, by decide +kernel, rfl⟩
theorem dL_law_563 : dc cL_law 563 .iadd 1 564 := ⟨by decide +kernel, rfl⟩
theorem dL_law_564 : dc cL_law 564 .iaload 1 565 := ⟨by decide +kernel, rfl⟩
theorem dL_law_565 : dc cL_law 565 (.invokevirtual 55) 3 568 := ⟨by decide +kernel, rfl⟩
theorem dL_law_568 : dj cL_law 568 (.if_icmp .eq) 1237 571 := ⟨669, by decide +kernel, by decide, rfl⟩
theorem dL_law_571 : dKc cL_law 571 0 572 := Or.inl ⟨0, by decide +kernel, by decide +kernel, rfl⟩
theorem dL_law_572 : dc cL_law 572 .ireturn 1 573 := ⟨by decide +kernel, rfl⟩
theorem dL_law_573 : dAl cL_law 573 1 574 := Or.inl ⟨1, rfl, by decide +kernel, rfl⟩
theorem dL_law_574 : dAl cL_law 574 0 575 := Or.inl ⟨0, rfl, by decide +kernel, rfl⟩
theorem dL_law_575 : dIl cL_law 575 3 576 := Or.inl ⟨3, rfl, by decide +kernel, rfl⟩
theorem dL_law_576 : dKc cL_law 576 1 577 := Or.inl ⟨1, by decide +kernel, by decide +kernel, rfl⟩
theorem dL_law_577 : dc cL_law 577 .iadd 1 578 := ⟨by decide +kernel, rfl⟩
theorem dL_law_578 : dc cL_law 578 .iaload 1 579 := ⟨by decide +kernel, rfl⟩
theorem dL_law_579 : dAl cL_law 579 0 580 := Or.inl ⟨0, rfl, by decide +kernel, rfl⟩
theorem dL_law_580 : dIl cL_law 580 3 581 := Or.inl ⟨3, rfl, by decide +kernel, rfl⟩
theorem dL_law_581 : dKc cL_law 581 2 582 := Or.inl ⟨2, by decide +kernel, by decide +kernel, rfl⟩
theorem dL_law_582 : dc cL_law 582 .iadd 1 583 := ⟨by decide +kernel, rfl⟩
theorem dL_law_583 : dc cL_law 583 .iaload 1 584 := ⟨by decide +kernel, rfl⟩
theorem dL_law_584 : dc cL_law 584 (.invokevirtual 56) 3 587 := ⟨by decide +kernel, rfl⟩
theorem dL_law_587 : dAl cL_law 587 2 588 := Or.inl ⟨2, rfl, by decide +kernel, rfl⟩
theorem dL_law_588 : dAl cL_law 588 0 589 := Or.inl ⟨0, rfl, by decide +kernel, rfl⟩
theorem dL_law_589 : dIl cL_law 589 3 590 := Or.inl ⟨3, rfl, by decide +kernel, rfl⟩
theorem dL_law_590 : dKc cL_law 590 1 591 := Or.inl ⟨1, by decide +kernel, by decide +kernel, rfl⟩
theorem dL_law_591 : dc cL_law 591 .iadd 1 592 := ⟨by decide +kernel, rfl⟩
theorem dL_law_592 : dc cL_law 592 .iaload 1 593 := ⟨by decide +kernel, rfl⟩
theorem dL_law_593 : dAl cL_law 593 0 594 := Or.inl ⟨0, rfl, by decide +kernel, rfl⟩
theorem dL_law_594 : dIl cL_law 594 3 595 := Or.inl ⟨3, rfl, by decide +kernel, rfl⟩
theorem dL_law_595 : dKc cL_law 595 2 596 := Or.inl ⟨2, by decide +kernel, by decide +kernel, rfl⟩
theorem dL_law_596 : dc cL_law 596 .iadd 1 597 := ⟨by decide +kernel, rfl⟩
theorem dL_law_597 : dc cL_law 597 .iaload 1 598 := ⟨by decide +kernel, rfl⟩
theorem dL_law_598 : dc cL_law 598 (.invokevirtual 59) 3 601 := ⟨by decide +kernel, rfl⟩
theorem dL_law_601 : dj cL_law 601 (.if_icmp .eq) 1237 604 := ⟨636, by decide +kernel, by decide, rfl⟩
theorem dL_law_604 : dKc cL_law 604 0 605 := Or.inl ⟨0, by decide +kernel, by decide +kernel, rfl⟩
theorem dL_law_605 : dc cL_law 605 .ireturn 1 606 := ⟨by decide +kernel, rfl⟩
theorem dL_law_606 : dAl cL_law 606 1 607 := Or.inl ⟨1, rfl, by decide +kernel, rfl⟩
theorem dL_law_607 : dAl cL_law 607 0 608 := Or.inl ⟨0, rfl, by decide +kernel, rfl⟩
theorem dL_law_608 : dIl cL_law 608 3 609 := Or.inl ⟨3, rfl, by decide +kernel, rfl⟩
theorem dL_law_609 : dKc cL_law 609 1 610 := Or.inl ⟨1, by decide +kernel, by decide +kernel, rfl⟩
theorem dL_law_610 : dc cL_law 610 .iadd 1 611 := ⟨by decide +kernel, rfl⟩
theorem dL_law_611 : dc cL_law 611 .iaload 1 612 := ⟨by decide +kernel, rfl⟩
theorem dL_law_612 : dAl cL_law 612 0 613 := Or.inl ⟨0, rfl, by decide +kernel, rfl⟩
theorem dL_law_613 : dIl cL_law 613 3 614 := Or.inl ⟨3, rfl, by decide +kernel, rfl⟩
theorem dL_law_614 : dKc cL_law 614 2 615 := Or.inl ⟨2, by decide +kernel, by decide +kernel, rfl⟩
theorem dL_law_615 : dc cL_law 615 .iadd 1 616 := ⟨by decide +kernel, rfl⟩
theorem dL_law_616 : dc cL_law 616 .iaload 1 617 := ⟨by decide +kernel, rfl⟩
theorem dL_law_617 : dAl cL_law 617 0 618 := Or.inl ⟨0, rfl, by decide +kernel, rfl⟩
theorem dL_law_618 : dIl cL_law 618 3 619 := Or.inl ⟨3, rfl, by decide +kernel, rfl⟩
theorem dL_law_619 : dKc cL_law 619 3 620 := Or.inl ⟨3, by decide +kernel, by decide +kernel, rfl⟩
theorem dL_law_620 : dc cL_law 620 .iadd 1 621 := ⟨by decide +kernel, rfl⟩
theorem dL_law_621 : dc cL_law 621 .iaload 1 622 := ⟨by decide +kernel, rfl⟩
theorem dL_law_622 : dc cL_law 622 .i2l 1 623 := ⟨by decide +kernel, rfl⟩
theorem dL_law_623 : dKc cL_law 623 32 625 := Or.inr (Or.inl ⟨32, by decide +kernel, by decide +kernel, rfl⟩)
theorem dL_law_625 : dc cL_law 625 .lshl 1 626 := ⟨by decide +kernel, rfl⟩
theorem dL_law_626 : dAl cL_law 626 0 627 := Or.inl ⟨0, rfl, by decide +kernel, rfl⟩
theorem dL_law_627 : dIl cL_law 627 3 628 := Or.inl ⟨3, rfl, by decide +kernel, rfl⟩
theorem dL_law_628 : dKc cL_law 628 4 629 := Or.inl ⟨4, by decide +kernel, by decide +kernel, rfl⟩
theorem dL_law_629 : dc cL_law 629 .iadd 1 630 := ⟨by decide +kernel, rfl⟩
theorem dL_law_630 : dc cL_law 630 .iaload 1 631 := ⟨by decide +kernel, rfl⟩
theorem dL_law_631 : dc cL_law 631 .i2l 1 632 := ⟨by decide +kernel, rfl⟩
theorem dL_law_632 : dc cL_law 632 (.ldc2_w 13) 3 635 := ⟨by decide +kernel, rfl⟩
theorem dL_law_635 : dc cL_law 635 .land 1 636 := ⟨by decide +kernel, rfl⟩
theorem dL_law_636 : dc cL_law 636 .lor 1 637 := ⟨by decide +kernel, rfl⟩
theorem dL_law_637 : dAl cL_law 637 0 638 := Or.inl ⟨0, rfl, by decide +kernel, rfl⟩
theorem dL_law_638 : dIl cL_law 638 3 639 := Or.inl ⟨3, rfl, by decide +kernel, rfl⟩
theorem dL_law_639 : dKc cL_law 639 5 640 := Or.inl ⟨5, by decide +kernel, by decide +kernel, rfl⟩
theorem dL_law_640 : dc cL_law 640 .iadd 1 641 := ⟨by decide +kernel, rfl⟩
theorem dL_law_641 : dc cL_law 641 .iaload 1 642 := ⟨by decide +kernel, rfl⟩
theorem dL_law_642 : dc cL_law 642 (.invokevirtual 60) 3 645 := ⟨by decide +kernel, rfl⟩
theorem dL_law_645 : dAl cL_law 645 2 646 := Or.inl ⟨2, rfl, by decide +kernel, rfl⟩
theorem dL_law_646 : dAl cL_law 646 0 647 := Or.inl ⟨0, rfl, by decide +kernel, rfl⟩
theorem dL_law_647 : dIl cL_law 647 3 648 := Or.inl ⟨3, rfl, by decide +kernel, rfl⟩
theorem dL_law_648 : dKc cL_law 648 1 649 := Or.inl ⟨1, by decide +kernel, by decide +kernel, rfl⟩
theorem dL_law_649 : dc cL_law 649 .iadd 1 650 := ⟨by decide +kernel, rfl⟩
theorem dL_law_650 : dc cL_law 650 .iaload 1 651 := ⟨by decide +kernel, rfl⟩
theorem dL_law_651 : dAl cL_law 651 0 652 := Or.inl ⟨0, rfl, by decide +kernel, rfl⟩
theorem dL_law_652 : dIl cL_law 652 3 653 := Or.inl ⟨3, rfl, by decide +kernel, rfl⟩
theorem dL_law_653 : dKc cL_law 653 2 654 := Or.inl ⟨2, by decide +kernel, by decide +kernel, rfl⟩
theorem dL_law_654 : dc cL_law 654 .iadd 1 655 := ⟨by decide +kernel, rfl⟩
theorem dL_law_655 : dc cL_law 655 .iaload 1 656 := ⟨by decide +kernel, rfl⟩
theorem dL_law_656 : dAl cL_law 656 0 657 := Or.inl ⟨0, rfl, by decide +kernel, rfl⟩
theorem dL_law_657 : dIl cL_law 657 3 658 := Or.inl ⟨3, rfl, by decide +kernel, rfl⟩
theorem dL_law_658 : dKc cL_law 658 3 659 := Or.inl ⟨3, by decide +kernel, by decide +kernel, rfl⟩
theorem dL_law_659 : dc cL_law 659 .iadd 1 660 := ⟨by decide +kernel, rfl⟩
theorem dL_law_660 : dc cL_law 660 .iaload 1 661 := ⟨by decide +kernel, rfl⟩
theorem dL_law_661 : dc cL_law 661 .i2l 1 662 := ⟨by decide +kernel, rfl⟩
theorem dL_law_662 : dKc cL_law 662 32 664 := Or.inr (Or.inl ⟨32, by decide +kernel, by decide +kernel, rfl⟩)
theorem dL_law_664 : dc cL_law 664 .lshl 1 665 := ⟨by decide +kernel, rfl⟩
theorem dL_law_665 : dAl cL_law 665 0 666 := Or.inl ⟨0, rfl, by decide +kernel, rfl⟩
theorem dL_law_666 : dIl cL_law 666 3 667 := Or.inl ⟨3, rfl, by decide +kernel, rfl⟩
theorem dL_law_667 : dKc cL_law 667 4 668 := Or.inl ⟨4, by decide +kernel, by decide +kernel, rfl⟩
theorem dL_law_668 : dc cL_law 668 .iadd 1 669 := ⟨by decide +kernel, rfl⟩
theorem dL_law_669 : dc cL_law 669 .iaload 1 670 := ⟨by decide +kernel, rfl⟩
theorem dL_law_670 : dc cL_law 670 .i2l 1 671 := ⟨by decide +kernel, rfl⟩
theorem dL_law_671 : dc cL_law 671 (.ldc2_w 13) 3 674 := ⟨by decide +kernel, rfl⟩
theorem dL_law_674 : dc cL_law 674 .land 1 675 := ⟨by decide +kernel, rfl⟩
theorem dL_law_675 : dc cL_law 675 .lor 1 676 := ⟨by decide +kernel, rfl⟩
theorem dL_law_676 : dAl cL_law 676 0 677 := Or.inl ⟨0, rfl, by decide +kernel, rfl⟩
theorem dL_law_677 : dIl cL_law 677 3 678 := Or.inl ⟨3, rfl, by decide +kernel, rfl⟩
theorem dL_law_678 : dKc cL_law 678 5 679 := Or.inl ⟨5, by decide +kernel, by decide +kernel, rfl⟩
theorem dL_law_679 : dc cL_law 679 .iadd 1 680 := ⟨by decide +kernel, rfl⟩
theorem dL_law_680 : dc cL_law 680 .iaload 1 681 := ⟨by decide +kernel, rfl⟩
theorem dL_law_681 : dc cL_law 681 (.invokevirtual 64) 3 684 := ⟨by decide +kernel, rfl⟩
theorem dL_law_684 : dj cL_law 684 (.if_icmp .eq) 1237 687 := ⟨553, by decide +kernel, by decide, rfl⟩
theorem dL_law_687 : dKc cL_law 687 0 688 := Or.inl ⟨0, by decide +kernel, by decide +kernel, rfl⟩
theorem dL_law_688 : dc cL_law 688 .ireturn 1 689 := ⟨by decide +kernel, rfl⟩
theorem dL_law_689 : dAl cL_law 689 1 690 := Or.inl ⟨1, rfl, by decide +kernel, rfl⟩
theorem dL_law_690 : dAl cL_law 690 0 691 := Or.inl ⟨0, rfl, by decide +kernel, rfl⟩
theorem dL_law_691 : dIl cL_law 691 3 692 := Or.inl ⟨3, rfl, by decide +kernel, rfl⟩
theorem dL_law_692 : dKc cL_law 692 1 693 := Or.inl ⟨1, by decide +kernel, by decide +kernel, rfl⟩
theorem dL_law_693 : dc cL_law 693 .iadd 1 694 := ⟨by decide +kernel, rfl⟩
theorem dL_law_694 : dc cL_law 694 .iaload 1 695 := ⟨by decide +kernel, rfl⟩
theorem dL_law_695 : dAl cL_law 695 0 696 := Or.inl ⟨0, rfl, by decide +kernel, rfl⟩
theorem dL_law_696 : dIl cL_law 696 3 697 := Or.inl ⟨3, rfl, by decide +kernel, rfl⟩
theorem dL_law_697 : dKc cL_law 697 2 698 := Or.inl ⟨2, by decide +kernel, by decide +kernel, rfl⟩
theorem dL_law_698 : dc cL_law 698 .iadd 1 699 := ⟨by decide +kernel, rfl⟩
theorem dL_law_699 : dc cL_law 699 .iaload 1 700 := ⟨by decide +kernel, rfl⟩
theorem dL_law_700 : dc cL_law 700 (.invokevirtual 65) 3 703 := ⟨by decide +kernel, rfl⟩
theorem dL_law_703 : dAl cL_law 703 2 704 := Or.inl ⟨2, rfl, by decide +kernel, rfl⟩
theorem dL_law_704 : dAl cL_law 704 0 705 := Or.inl ⟨0, rfl, by decide +kernel, rfl⟩
theorem dL_law_705 : dIl cL_law 705 3 706 := Or.inl ⟨3, rfl, by decide +kernel, rfl⟩
theorem dL_law_706 : dKc cL_law 706 1 707 := Or.inl ⟨1, by decide +kernel, by decide +kernel, rfl⟩
theorem dL_law_707 : dc cL_law 707 .iadd 1 708 := ⟨by decide +kernel, rfl⟩
theorem dL_law_708 : dc cL_law 708 .iaload 1 709 := ⟨by decide +kernel, rfl⟩
theorem dL_law_709 : dAl cL_law 709 0 710 := Or.inl ⟨0, rfl, by decide +kernel, rfl⟩
theorem dL_law_710 : dIl cL_law 710 3 711 := Or.inl ⟨3, rfl, by decide +kernel, rfl⟩
theorem dL_law_711 : dKc cL_law 711 2 712 := Or.inl ⟨2, by decide +kernel, by decide +kernel, rfl⟩
theorem dL_law_712 : dc cL_law 712 .iadd 1 713 := ⟨by decide +kernel, rfl⟩
theorem dL_law_713 : dc cL_law 713 .iaload 1 714 := ⟨by decide +kernel, rfl⟩
theorem dL_law_714 : dc cL_law 714 (.invokevirtual 68) 3 717 := ⟨by decide +kernel, rfl⟩
theorem dL_law_717 : dj cL_law 717 (.if_icmp .eq) 1237 720 := ⟨520, by decide +kernel, by decide, rfl⟩
theorem dL_law_720 : dKc cL_law 720 0 721 := Or.inl ⟨0, by decide +kernel, by decide +kernel, rfl⟩
theorem dL_law_721 : dc cL_law 721 .ireturn 1 722 := ⟨by decide +kernel, rfl⟩
theorem dL_law_722 : dAl cL_law 722 1 723 := Or.inl ⟨1, rfl, by decide +kernel, rfl⟩
theorem dL_law_723 : dAl cL_law 723 0 724 := Or.inl ⟨0, rfl, by decide +kernel, rfl⟩
theorem dL_law_724 : dIl cL_law 724 3 725 := Or.inl ⟨3, rfl, by decide +kernel, rfl⟩
theorem dL_law_725 : dKc cL_law 725 1 726 := Or.inl ⟨1, by decide +kernel, by decide +kernel, rfl⟩
theorem dL_law_726 : dc cL_law 726 .iadd 1 727 := ⟨by decide +kernel, rfl⟩
theorem dL_law_727 : dc cL_law 727 .iaload 1 728 := ⟨by decide +kernel, rfl⟩
theorem dL_law_728 : dAl cL_law 728 0 729 := Or.inl ⟨0, rfl, by decide +kernel, rfl⟩
theorem dL_law_729 : dIl cL_law 729 3 730 := Or.inl ⟨3, rfl, by decide +kernel, rfl⟩
theorem dL_law_730 : dKc cL_law 730 2 731 := Or.inl ⟨2, by decide +kernel, by decide +kernel, rfl⟩
theorem dL_law_731 : dc cL_law 731 .iadd 1 732 := ⟨by decide +kernel, rfl⟩
theorem dL_law_732 : dc cL_law 732 .iaload 1 733 := ⟨by decide +kernel, rfl⟩
theorem dL_law_733 : dc cL_law 733 (.invokevirtual 69) 3 736 := ⟨by decide +kernel, rfl⟩
theorem dL_law_736 : dAl cL_law 736 2 737 := Or.inl ⟨2, rfl, by decide +kernel, rfl⟩
theorem dL_law_737 : dAl cL_law 737 0 738 := Or.inl ⟨0, rfl, by decide +kernel, rfl⟩
theorem dL_law_738 : dIl cL_law 738 3 739 := Or.inl ⟨3, rfl, by decide +kernel, rfl⟩
theorem dL_law_739 : dKc cL_law 739 1 740 := Or.inl ⟨1, by decide +kernel, by decide +kernel, rfl⟩
theorem dL_law_740 : dc cL_law 740 .iadd 1 741 := ⟨by decide +kernel, rfl⟩
theorem dL_law_741 : dc cL_law 741 .iaload 1 742 := ⟨by decide +kernel, rfl⟩
theorem dL_law_742 : dAl cL_law 742 0 743 := Or.inl ⟨0, rfl, by decide +kernel, rfl⟩
theorem dL_law_743 : dIl cL_law 743 3 744 := Or.inl ⟨3, rfl, by decide +kernel, rfl⟩
theorem dL_law_744 : dKc cL_law 744 2 745 := Or.inl ⟨2, by decide +kernel, by decide +kernel, rfl⟩
theorem dL_law_745 : dc cL_law 745 .iadd 1 746 := ⟨by decide +kernel, rfl⟩
theorem dL_law_746 : dc cL_law 746 .iaload 1 747 := ⟨by decide +kernel, rfl⟩
theorem dL_law_747 : dc cL_law 747 (.invokevirtual 72) 3 750 := ⟨by decide +kernel, rfl⟩
theorem dL_law_750 : dj cL_law 750 (.if_icmp .eq) 1237 753 := ⟨487, by decide +kernel, by decide, rfl⟩
theorem dL_law_753 : dKc cL_law 753 0 754 := Or.inl ⟨0, by decide +kernel, by decide +kernel, rfl⟩
theorem dL_law_754 : dc cL_law 754 .ireturn 1 755 := ⟨by decide +kernel, rfl⟩
theorem dL_law_755 : dAl cL_law 755 1 756 := Or.inl ⟨1, rfl, by decide +kernel, rfl⟩
theorem dL_law_756 : dAl cL_law 756 0 757 := Or.inl ⟨0, rfl, by decide +kernel, rfl⟩
theorem dL_law_757 : dIl cL_law 757 3 758 := Or.inl ⟨3, rfl, by decide +kernel, rfl⟩
theorem dL_law_758 : dKc cL_law 758 1 759 := Or.inl ⟨1, by decide +kernel, by decide +kernel, rfl⟩
theorem dL_law_759 : dc cL_law 759 .iadd 1 760 := ⟨by decide +kernel, rfl⟩
theorem dL_law_760 : dc cL_law 760 .iaload 1 761 := ⟨by decide +kernel, rfl⟩
theorem dL_law_761 : dAl cL_law 761 0 762 := Or.inl ⟨0, rfl, by decide +kernel, rfl⟩
theorem dL_law_762 : dIl cL_law 762 3 763 := Or.inl ⟨3, rfl, by decide +kernel, rfl⟩
theorem dL_law_763 : dKc cL_law 763 2 764 := Or.inl ⟨2, by decide +kernel, by decide +kernel, rfl⟩
theorem dL_law_764 : dc cL_law 764 .iadd 1 765 := ⟨by decide +kernel, rfl⟩
theorem dL_law_765 : dc cL_law 765 .iaload 1 766 := ⟨by decide +kernel, rfl⟩
theorem dL_law_766 : dAl cL_law 766 0 767 := Or.inl ⟨0, rfl, by decide +kernel, rfl⟩
theorem dL_law_767 : dIl cL_law 767 3 768 := Or.inl ⟨3, rfl, by decide +kernel, rfl⟩
theorem dL_law_768 : dKc cL_law 768 3 769 := Or.inl ⟨3, by decide +kernel, by decide +kernel, rfl⟩
theorem dL_law_769 : dc cL_law 769 .iadd 1 770 := ⟨by decide +kernel, rfl⟩
theorem dL_law_770 : dc cL_law 770 .iaload 1 771 := ⟨by decide +kernel, rfl⟩
theorem dL_law_771 : dc cL_law 771 (.invokevirtual 73) 3 774 := ⟨by decide +kernel, rfl⟩
theorem dL_law_774 : dAl cL_law 774 2 775 := Or.inl ⟨2, rfl, by decide +kernel, rfl⟩
theorem dL_law_775 : dAl cL_law 775 0 776 := Or.inl ⟨0, rfl, by decide +kernel, rfl⟩
theorem dL_law_776 : dIl cL_law 776 3 777 := Or.inl ⟨3, rfl, by decide +kernel, rfl⟩
theorem dL_law_777 : dKc cL_law 777 1 778 := Or.inl ⟨1, by decide +kernel, by decide +kernel, rfl⟩
theorem dL_law_778 : dc cL_law 778 .iadd 1 779 := ⟨by decide +kernel, rfl⟩
theorem dL_law_779 : dc cL_law 779 .iaload 1 780 := ⟨by decide +kernel, rfl⟩
theorem dL_law_780 : dAl cL_law 780 0 781 := Or.inl ⟨0, rfl, by decide +kernel, rfl⟩
theorem dL_law_781 : dIl cL_law 781 3 782 := Or.inl ⟨3, rfl, by decide +kernel, rfl⟩
theorem dL_law_782 : dKc cL_law 782 2 783 := Or.inl ⟨2, by decide +kernel, by decide +kernel, rfl⟩
theorem dL_law_783 : dc cL_law 783 .iadd 1 784 := ⟨by decide +kernel, rfl⟩
theorem dL_law_784 : dc cL_law 784 .iaload 1 785 := ⟨by decide +kernel, rfl⟩
theorem dL_law_785 : dAl cL_law 785 0 786 := Or.inl ⟨0, rfl, by decide +kernel, rfl⟩
theorem dL_law_786 : dIl cL_law 786 3 787 := Or.inl ⟨3, rfl, by decide +kernel, rfl⟩
theorem dL_law_787 : dKc cL_law 787 3 788 := Or.inl ⟨3, by decide +kernel, by decide +kernel, rfl⟩
theorem dL_law_788 : dc cL_law 788 .iadd 1 789 := ⟨by decide +kernel, rfl⟩
theorem dL_law_789 : dc cL_law 789 .iaload 1 790 := ⟨by decide +kernel, rfl⟩
theorem dL_law_790 : dc cL_law 790 (.invokevirtual 76) 3 793 := ⟨by decide +kernel, rfl⟩
theorem dL_law_793 : dj cL_law 793 (.if_icmp .eq) 1237 796 := ⟨444, by decide +kernel, by decide, rfl⟩
theorem dL_law_796 : dKc cL_law 796 0 797 := Or.inl ⟨0, by decide +kernel, by decide +kernel, rfl⟩
theorem dL_law_797 : dc cL_law 797 .ireturn 1 798 := ⟨by decide +kernel, rfl⟩
theorem dL_law_798 : dAl cL_law 798 1 799 := Or.inl ⟨1, rfl, by decide +kernel, rfl⟩
theorem dL_law_799 : dAl cL_law 799 0 800 := Or.inl ⟨0, rfl, by decide +kernel, rfl⟩
theorem dL_law_800 : dIl cL_law 800 3 801 := Or.inl ⟨3, rfl, by decide +kernel, rfl⟩
theorem dL_law_801 : dKc cL_law 801 1 802 := Or.inl ⟨1, by decide +kernel, by decide +kernel, rfl⟩
theorem dL_law_802 : dc cL_law 802 .iadd 1 803 := ⟨by decide +kernel, rfl⟩
theorem dL_law_803 : dc cL_law 803 .iaload 1 804 := ⟨by decide +kernel, rfl⟩
theorem dL_law_804 : dAl cL_law 804 0 805 := Or.inl ⟨0, rfl, by decide +kernel, rfl⟩
theorem dL_law_805 : dIl cL_law 805 3 806 := Or.inl ⟨3, rfl, by decide +kernel, rfl⟩
theorem dL_law_806 : dKc cL_law 806 2 807 := Or.inl ⟨2, by decide +kernel, by decide +kernel, rfl⟩
theorem dL_law_807 : dc cL_law 807 .iadd 1 808 := ⟨by decide +kernel, rfl⟩
theorem dL_law_808 : dc cL_law 808 .iaload 1 809 := ⟨by decide +kernel, rfl⟩
theorem dL_law_809 : dc cL_law 809 (.invokevirtual 77) 3 812 := ⟨by decide +kernel, rfl⟩
theorem dL_law_812 : dAl cL_law 812 2 813 := Or.inl ⟨2, rfl, by decide +kernel, rfl⟩
theorem dL_law_813 : dAl cL_law 813 0 814 := Or.inl ⟨0, rfl, by decide +kernel, rfl⟩
theorem dL_law_814 : dIl cL_law 814 3 815 := Or.inl ⟨3, rfl, by decide +kernel, rfl⟩
theorem dL_law_815 : dKc cL_law 815 1 816 := Or.inl ⟨1, by decide +kernel, by decide +kernel, rfl⟩
theorem dL_law_816 : dc cL_law 816 .iadd 1 817 := ⟨by decide +kernel, rfl⟩
theorem dL_law_817 : dc cL_law 817 .iaload 1 818 := ⟨by decide +kernel, rfl⟩
theorem dL_law_818 : dAl cL_law 818 0 819 := Or.inl ⟨0, rfl, by decide +kernel, rfl⟩
theorem dL_law_819 : dIl cL_law 819 3 820 := Or.inl ⟨3, rfl, by decide +kernel, rfl⟩
theorem dL_law_820 : dKc cL_law 820 2 821 := Or.inl ⟨2, by decide +kernel, by decide +kernel, rfl⟩
theorem dL_law_821 : dc cL_law 821 .iadd 1 822 := ⟨by decide +kernel, rfl⟩
theorem dL_law_822 : dc cL_law 822 .iaload 1 823 := ⟨by decide +kernel, rfl⟩
theorem dL_law_823 : dc cL_law 823 (.invokevirtual 80) 3 826 := ⟨by decide +kernel, rfl⟩
theorem dL_law_826 : dj cL_law 826 (.if_icmp .eq) 1237 829 := ⟨411, by decide +kernel, by decide, rfl⟩
theorem dL_law_829 : dKc cL_law 829 0 830 := Or.inl ⟨0, by decide +kernel, by decide +kernel, rfl⟩
theorem dL_law_830 : dc cL_law 830 .ireturn 1 831 := ⟨by decide +kernel, rfl⟩
theorem dL_law_831 : dAl cL_law 831 1 832 := Or.inl ⟨1, rfl, by decide +kernel, rfl⟩
theorem dL_law_832 : dAl cL_law 832 0 833 := Or.inl ⟨0, rfl, by decide +kernel, rfl⟩
theorem dL_law_833 : dIl cL_law 833 3 834 := Or.inl ⟨3, rfl, by decide +kernel, rfl⟩
theorem dL_law_834 : dKc cL_law 834 1 835 := Or.inl ⟨1, by decide +kernel, by decide +kernel, rfl⟩
theorem dL_law_835 : dc cL_law 835 .iadd 1 836 := ⟨by decide +kernel, rfl⟩
theorem dL_law_836 : dc cL_law 836 .iaload 1 837 := ⟨by decide +kernel, rfl⟩
theorem dL_law_837 : dc cL_law 837 (.invokevirtual 81) 3 840 := ⟨by decide +kernel, rfl⟩
theorem dL_law_840 : dAl cL_law 840 2 841 := Or.inl ⟨2, rfl, by decide +kernel, rfl⟩
theorem dL_law_841 : dAl cL_law 841 0 842 := Or.inl ⟨0, rfl, by decide +kernel, rfl⟩
theorem dL_law_842 : dIl cL_law 842 3 843 := Or.inl ⟨3, rfl, by decide +kernel, rfl⟩
theorem dL_law_843 : dKc cL_law 843 1 844 := Or.inl ⟨1, by decide +kernel, by decide +kernel, rfl⟩
theorem dL_law_844 : dc cL_law 844 .iadd 1 845 := ⟨by decide +kernel, rfl⟩
theorem dL_law_845 : dc cL_law 845 .iaload 1 846 := ⟨by decide +kernel, rfl⟩
theorem dL_law_846 : dc cL_law 846 (.invokevirtual 85) 3 849 := ⟨by decide +kernel, rfl⟩
theorem dL_law_849 : dj cL_law 849 (.if_icmp .eq) 1237 852 := ⟨388, by decide +kernel, by decide, rfl⟩
theorem dL_law_852 : dKc cL_law 852 0 853 := Or.inl ⟨0, by decide +kernel, by decide +kernel, rfl⟩
theorem dL_law_853 : dc cL_law 853 .ireturn 1 854 := ⟨by decide +kernel, rfl⟩
theorem dL_law_854 : dAl cL_law 854 1 855 := Or.inl ⟨1, rfl, by decide +kernel, rfl⟩
theorem dL_law_855 : dAl cL_law 855 0 856 := Or.inl ⟨0, rfl, by decide +kernel, rfl⟩
theorem dL_law_856 : dIl cL_law 856 3 857 := Or.inl ⟨3, rfl, by decide +kernel, rfl⟩
theorem dL_law_857 : dKc cL_law 857 1 858 := Or.inl ⟨1, by decide +kernel, by decide +kernel, rfl⟩
theorem dL_law_858 : dc cL_law 858 .iadd 1 859 := ⟨by decide +kernel, rfl⟩
theorem dL_law_859 : dc cL_law 859 .iaload 1 860 := ⟨by decide +kernel, rfl⟩
theorem dL_law_860 : dAl cL_law 860 0 861 := Or.inl ⟨0, rfl, by decide +kernel, rfl⟩
theorem dL_law_861 : dIl cL_law 861 3 862 := Or.inl ⟨3, rfl, by decide +kernel, rfl⟩
theorem dL_law_862 : dKc cL_law 862 2 863 := Or.inl ⟨2, by decide +kernel, by decide +kernel, rfl⟩
theorem dL_law_863 : dc cL_law 863 .iadd 1 864 := ⟨by decide +kernel, rfl⟩
theorem dL_law_864 : dc cL_law 864 .iaload 1 865 := ⟨by decide +kernel, rfl⟩
theorem dL_law_865 : dc cL_law 865 (.invokevirtual 86) 3 868 := ⟨by decide +kernel, rfl⟩
theorem dL_law_868 : dAl cL_law 868 2 869 := Or.inl ⟨2, rfl, by decide +kernel, rfl⟩
theorem dL_law_869 : dAl cL_law 869 0 870 := Or.inl ⟨0, rfl, by decide +kernel, rfl⟩
theorem dL_law_870 : dIl cL_law 870 3 871 := Or.inl ⟨3, rfl, by decide +kernel, rfl⟩
theorem dL_law_871 : dKc cL_law 871 1 872 := Or.inl ⟨1, by decide +kernel, by decide +kernel, rfl⟩
theorem dL_law_872 : dc cL_law 872 .iadd 1 873 := ⟨by decide +kernel, rfl⟩
theorem dL_law_873 : dc cL_law 873 .iaload 1 874 := ⟨by decide +kernel, rfl⟩
theorem dL_law_874 : dAl cL_law 874 0 875 := Or.inl ⟨0, rfl, by decide +kernel, rfl⟩
theorem dL_law_875 : dIl cL_law 875 3 876 := Or.inl ⟨3, rfl, by decide +kernel, rfl⟩
theorem dL_law_876 : dKc cL_law 876 2 877 := Or.inl ⟨2, by decide +kernel, by decide +kernel, rfl⟩
theorem dL_law_877 : dc cL_law 877 .iadd 1 878 := ⟨by decide +kernel, rfl⟩
theorem dL_law_878 : dc cL_law 878 .iaload 1 879 := ⟨by decide +kernel, rfl⟩
theorem dL_law_879 : dc cL_law 879 (.invokevirtual 89) 3 882 := ⟨by decide +kernel, rfl⟩
theorem dL_law_882 : dj cL_law 882 (.if_icmp .eq) 1237 885 := ⟨355, by decide +kernel, by decide, rfl⟩
theorem dL_law_885 : dKc cL_law 885 0 886 := Or.inl ⟨0, by decide +kernel, by decide +kernel, rfl⟩
theorem dL_law_886 : dc cL_law 886 .ireturn 1 887 := ⟨by decide +kernel, rfl⟩
theorem dL_law_887 : dAl cL_law 887 1 888 := Or.inl ⟨1, rfl, by decide +kernel, rfl⟩
theorem dL_law_888 : dAl cL_law 888 0 889 := Or.inl ⟨0, rfl, by decide +kernel, rfl⟩
theorem dL_law_889 : dIl cL_law 889 3 890 := Or.inl ⟨3, rfl, by decide +kernel, rfl⟩
theorem dL_law_890 : dKc cL_law 890 1 891 := Or.inl ⟨1, by decide +kernel, by decide +kernel, rfl⟩
theorem dL_law_891 : dc cL_law 891 .iadd 1 892 := ⟨by decide +kernel, rfl⟩
theorem dL_law_892 : dc cL_law 892 .iaload 1 893 := ⟨by decide +kernel, rfl⟩
theorem dL_law_893 : dAl cL_law 893 0 894 := Or.inl ⟨0, rfl, by decide +kernel, rfl⟩
theorem dL_law_894 : dIl cL_law 894 3 895 := Or.inl ⟨3, rfl, by decide +kernel, rfl⟩
theorem dL_law_895 : dKc cL_law 895 2 896 := Or.inl ⟨2, by decide +kernel, by decide +kernel, rfl⟩
theorem dL_law_896 : dc cL_law 896 .iadd 1 897 := ⟨by decide +kernel, rfl⟩
theorem dL_law_897 : dc cL_law 897 .iaload 1 898 := ⟨by decide +kernel, rfl⟩
theorem dL_law_898 : dc cL_law 898 (.invokevirtual 90) 3 901 := ⟨by decide +kernel, rfl⟩
theorem dL_law_901 : dAl cL_law 901 2 902 := Or.inl ⟨2, rfl, by decide +kernel, rfl⟩
theorem dL_law_902 : dAl cL_law 902 0 903 := Or.inl ⟨0, rfl, by decide +kernel, rfl⟩
theorem dL_law_903 : dIl cL_law 903 3 904 := Or.inl ⟨3, rfl, by decide +kernel, rfl⟩
theorem dL_law_904 : dKc cL_law 904 1 905 := Or.inl ⟨1, by decide +kernel, by decide +kernel, rfl⟩
theorem dL_law_905 : dc cL_law 905 .iadd 1 906 := ⟨by decide +kernel, rfl⟩
theorem dL_law_906 : dc cL_law 906 .iaload 1 907 := ⟨by decide +kernel, rfl⟩
theorem dL_law_907 : dAl cL_law 907 0 908 := Or.inl ⟨0, rfl, by decide +kernel, rfl⟩
theorem dL_law_908 : dIl cL_law 908 3 909 := Or.inl ⟨3, rfl, by decide +kernel, rfl⟩
theorem dL_law_909 : dKc cL_law 909 2 910 := Or.inl ⟨2, by decide +kernel, by decide +kernel, rfl⟩
theorem dL_law_910 : dc cL_law 910 .iadd 1 911 := ⟨by decide +kernel, rfl⟩
theorem dL_law_911 : dc cL_law 911 .iaload 1 912 := ⟨by decide +kernel, rfl⟩
theorem dL_law_912 : dc cL_law 912 (.invokevirtual 93) 3 915 := ⟨by decide +kernel, rfl⟩
theorem dL_law_915 : dj cL_law 915 (.if_icmp .eq) 1237 918 := ⟨322, by decide +kernel, by decide, rfl⟩
theorem dL_law_918 : dKc cL_law 918 0 919 := Or.inl ⟨0, by decide +kernel, by decide +kernel, rfl⟩
theorem dL_law_919 : dc cL_law 919 .ireturn 1 920 := ⟨by decide +kernel, rfl⟩
theorem dL_law_920 : dAl cL_law 920 1 921 := Or.inl ⟨1, rfl, by decide +kernel, rfl⟩
theorem dL_law_921 : dAl cL_law 921 0 922 := Or.inl ⟨0, rfl, by decide +kernel, rfl⟩
theorem dL_law_922 : dIl cL_law 922 3 923 := Or.inl ⟨3, rfl, by decide +kernel, rfl⟩
theorem dL_law_923 : dKc cL_law 923 1 924 := Or.inl ⟨1, by decide +kernel, by decide +kernel, rfl⟩
theorem dL_law_924 : dc cL_law 924 .iadd 1 925 := ⟨by decide +kernel, rfl⟩
theorem dL_law_925 : dc cL_law 925 .iaload 1 926 := ⟨by decide +kernel, rfl⟩
theorem dL_law_926 : dAl cL_law 926 0 927 := Or.inl ⟨0, rfl, by decide +kernel, rfl⟩
theorem dL_law_927 : dIl cL_law 927 3 928 := Or.inl ⟨3, rfl, by decide +kernel, rfl⟩
theorem dL_law_928 : dKc cL_law 928 2 929 := Or.inl ⟨2, by decide +kernel, by decide +kernel, rfl⟩
theorem dL_law_929 : dc cL_law 929 .iadd 1 930 := ⟨by decide +kernel, rfl⟩
theorem dL_law_930 : dc cL_law 930 .iaload 1 931 := ⟨by decide +kernel, rfl⟩
theorem dL_law_931 : dAl cL_law 931 0 932 := Or.inl ⟨0, rfl, by decide +kernel, rfl⟩
theorem dL_law_932 : dIl cL_law 932 3 933 := Or.inl ⟨3, rfl, by decide +kernel, rfl⟩
theorem dL_law_933 : dKc cL_law 933 3 934 := Or.inl ⟨3, by decide +kernel, by decide +kernel, rfl⟩
theorem dL_law_934 : dc cL_law 934 .iadd 1 935 := ⟨by decide +kernel, rfl⟩
theorem dL_law_935 : dc cL_law 935 .iaload 1 936 := ⟨by decide +kernel, rfl⟩
theorem dL_law_936 : dc cL_law 936 (.invokevirtual 94) 3 939 := ⟨by decide +kernel, rfl⟩
theorem dL_law_939 : dAl cL_law 939 2 940 := Or.inl ⟨2, rfl, by decide +kernel, rfl⟩
theorem dL_law_940 : dAl cL_law 940 0 941 := Or.inl ⟨0, rfl, by decide +kernel, rfl⟩
theorem dL_law_941 : dIl cL_law 941 3 942 := Or.inl ⟨3, rfl, by decide +kernel, rfl⟩
theorem dL_law_942 : dKc cL_law 942 1 943 := Or.inl ⟨1, by decide +kernel, by decide +kernel, rfl⟩
theorem dL_law_943 : dc cL_law 943 .iadd 1 944 := ⟨by decide +kernel, rfl⟩
theorem dL_law_944 : dc cL_law 944 .iaload 1 945 := ⟨by decide +kernel, rfl⟩
theorem dL_law_945 : dAl cL_law 945 0 946 := Or.inl ⟨0, rfl, by decide +kernel, rfl⟩
theorem dL_law_946 : dIl cL_law 946 3 947 := Or.inl ⟨3, rfl, by decide +kernel, rfl⟩
theorem dL_law_947 : dKc cL_law 947 2 948 := Or.inl ⟨2, by decide +kernel, by decide +kernel, rfl⟩
theorem dL_law_948 : dc cL_law 948 .iadd 1 949 := ⟨by decide +kernel, rfl⟩
theorem dL_law_949 : dc cL_law 949 .iaload 1 950 := ⟨by decide +kernel, rfl⟩
theorem dL_law_950 : dAl cL_law 950 0 951 := Or.inl ⟨0, rfl, by decide +kernel, rfl⟩
theorem dL_law_951 : dIl cL_law 951 3 952 := Or.inl ⟨3, rfl, by decide +kernel, rfl⟩
theorem dL_law_952 : dKc cL_law 952 3 953 := Or.inl ⟨3, by decide +kernel, by decide +kernel, rfl⟩
theorem dL_law_953 : dc cL_law 953 .iadd 1 954 := ⟨by decide +kernel, rfl⟩
theorem dL_law_954 : dc cL_law 954 .iaload 1 955 := ⟨by decide +kernel, rfl⟩
theorem dL_law_955 : dc cL_law 955 (.invokevirtual 97) 3 958 := ⟨by decide +kernel, rfl⟩
theorem dL_law_958 : dj cL_law 958 (.if_icmp .eq) 1237 961 := ⟨279, by decide +kernel, by decide, rfl⟩
theorem dL_law_961 : dKc cL_law 961 0 962 := Or.inl ⟨0, by decide +kernel, by decide +kernel, rfl⟩
theorem dL_law_962 : dc cL_law 962 .ireturn 1 963 := ⟨by decide +kernel, rfl⟩
theorem dL_law_963 : dAl cL_law 963 1 964 := Or.inl ⟨1, rfl, by decide +kernel, rfl⟩
theorem dL_law_964 : dAl cL_law 964 0 965 := Or.inl ⟨0, rfl, by decide +kernel, rfl⟩
theorem dL_law_965 : dIl cL_law 965 3 966 := Or.inl ⟨3, rfl, by decide +kernel, rfl⟩
theorem dL_law_966 : dKc cL_law 966 1 967 := Or.inl ⟨1, by decide +kernel, by decide +kernel, rfl⟩
theorem dL_law_967 : dc cL_law 967 .iadd 1 968 := ⟨by decide +kernel, rfl⟩
theorem dL_law_968 : dc cL_law 968 .iaload 1 969 := ⟨by decide +kernel, rfl⟩
theorem dL_law_969 : dAl cL_law 969 0 970 := Or.inl ⟨0, rfl, by decide +kernel, rfl⟩
theorem dL_law_970 : dIl cL_law 970 3 971 := Or.inl ⟨3, rfl, by decide +kernel, rfl⟩
theorem dL_law_971 : dKc cL_law 971 2 972 := Or.inl ⟨2, by decide +kernel, by decide +kernel, rfl⟩
theorem dL_law_972 : dc cL_law 972 .iadd 1 973 := ⟨by decide +kernel, rfl⟩
theorem dL_law_973 : dc cL_law 973 .iaload 1 974 := ⟨by decide +kernel, rfl⟩
theorem dL_law_974 : dAl cL_law 974 0 975 := Or.inl ⟨0, rfl, by decide +kernel, rfl⟩
theorem dL_law_975 : dIl cL_law 975 3 976 := Or.inl ⟨3, rfl, by decide +kernel, rfl⟩
theorem dL_law_976 : dKc cL_law 976 3 977 := Or.inl ⟨3, by decide +kernel, by decide +kernel, rfl⟩
theorem dL_law_977 : dc cL_law 977 .iadd 1 978 := ⟨by decide +kernel, rfl⟩
theorem dL_law_978 : dc cL_law 978 .iaload 1 979 := ⟨by decide +kernel, rfl⟩
theorem dL_law_979 : dAl cL_law 979 0 980 := Or.inl ⟨0, rfl, by decide +kernel, rfl⟩
theorem dL_law_980 : dIl cL_law 980 3 981 := Or.inl ⟨3, rfl, by decide +kernel, rfl⟩
theorem dL_law_981 : dKc cL_law 981 4 982 := Or.inl ⟨4, by decide +kernel, by decide +kernel, rfl⟩
theorem dL_law_982 : dc cL_law 982 .iadd 1 983 := ⟨by decide +kernel, rfl⟩
theorem dL_law_983 : dc cL_law 983 .iaload 1 984 := ⟨by decide +kernel, rfl⟩
theorem dL_law_984 : dc cL_law 984 (.invokevirtual 98) 3 987 := ⟨by decide +kernel, rfl⟩
theorem dL_law_987 : dAl cL_law 987 2 988 := Or.inl ⟨2, rfl, by decide +kernel, rfl⟩
theorem dL_law_988 : dAl cL_law 988 0 989 := Or.inl ⟨0, rfl, by decide +kernel, rfl⟩
theorem dL_law_989 : dIl cL_law 989 3 990 := Or.inl ⟨3, rfl, by decide +kernel, rfl⟩
theorem dL_law_990 : dKc cL_law 990 1 991 := Or.inl ⟨1, by decide +kernel, by decide +kernel, rfl⟩
theorem dL_law_991 : dc cL_law 991 .iadd 1 992 := ⟨by decide +kernel, rfl⟩
theorem dL_law_992 : dc cL_law 992 .iaload 1 993 := ⟨by decide +kernel, rfl⟩
theorem dL_law_993 : dAl cL_law 993 0 994 := Or.inl ⟨0, rfl, by decide +kernel, rfl⟩
theorem dL_law_994 : dIl cL_law 994 3 995 := Or.inl ⟨3, rfl, by decide +kernel, rfl⟩
theorem dL_law_995 : dKc cL_law 995 2 996 := Or.inl ⟨2, by decide +kernel, by decide +kernel, rfl⟩
theorem dL_law_996 : dc cL_law 996 .iadd 1 997 := ⟨by decide +kernel, rfl⟩
theorem dL_law_997 : dc cL_law 997 .iaload 1 998 := ⟨by decide +kernel, rfl⟩
theorem dL_law_998 : dAl cL_law 998 0 999 := Or.inl ⟨0, rfl, by decide +kernel, rfl⟩
theorem dL_law_999 : dIl cL_law 999 3 1000 := Or.inl ⟨3, rfl, by decide +kernel, rfl⟩
theorem dL_law_1000 : dKc cL_law 1000 3 1001 := Or.inl ⟨3, by decide +kernel, by decide +kernel, rfl⟩
theorem dL_law_1001 : dc cL_law 1001 .iadd 1 1002 := ⟨by decide +kernel, rfl⟩
theorem dL_law_1002 : dc cL_law 1002 .iaload 1 1003 := ⟨by decide +kernel, rfl⟩
theorem dL_law_1003 : dAl cL_law 1003 0 1004 := Or.inl ⟨0, rfl, by decide +kernel, rfl⟩
theorem dL_law_1004 : dIl cL_law 1004 3 1005 := Or.inl ⟨3, rfl, by decide +kernel, rfl⟩
theorem dL_law_1005 : dKc cL_law 1005 4 1006 := Or.inl ⟨4, by decide +kernel, by decide +kernel, rfl⟩
theorem dL_law_1006 : dc cL_law 1006 .iadd 1 1007 := ⟨by decide +kernel, rfl⟩
theorem dL_law_1007 : dc cL_law 1007 .iaload 1 1008 := ⟨by decide +kernel, rfl⟩
theorem dL_law_1008 : dc cL_law 1008 (.invokevirtual 102) 3 1011 := ⟨by decide +kernel, rfl⟩
theorem dL_law_1011 : dj cL_law 1011 (.if_icmp .eq) 1237 1014 := ⟨226, by decide +kernel, by decide, rfl⟩
theorem dL_law_1014 : dKc cL_law 1014 0 1015 := Or.inl ⟨0, by decide +kernel, by decide +kernel, rfl⟩
theorem dL_law_1015 : dc cL_law 1015 .ireturn 1 1016 := ⟨by decide +kernel, rfl⟩
theorem dL_law_1016 : dAl cL_law 1016 1 1017 := Or.inl ⟨1, rfl, by decide +kernel, rfl⟩
theorem dL_law_1017 : dAl cL_law 1017 0 1018 := Or.inl ⟨0, rfl, by decide +kernel, rfl⟩
theorem dL_law_1018 : dIl cL_law 1018 3 1019 := Or.inl ⟨3, rfl, by decide +kernel, rfl⟩
theorem dL_law_1019 : dKc cL_law 1019 1 1020 := Or.inl ⟨1, by decide +kernel, by decide +kernel, rfl⟩
theorem dL_law_1020 : dc cL_law 1020 .iadd 1 1021 := ⟨by decide +kernel, rfl⟩
theorem dL_law_1021 : dc cL_law 1021 .iaload 1 1022 := ⟨by decide +kernel, rfl⟩
theorem dL_law_1022 : dAl cL_law 1022 0 1023 := Or.inl ⟨0, rfl, by decide +kernel, rfl⟩
theorem dL_law_1023 : dIl cL_law 1023 3 1024 := Or.inl ⟨3, rfl, by decide +kernel, rfl⟩
theorem dL_law_1024 : dKc cL_law 1024 2 1025 := Or.inl ⟨2, by decide +kernel, by decide +kernel, rfl⟩
theorem dL_law_1025 : dc cL_law 1025 .iadd 1 1026 := ⟨by decide +kernel, rfl⟩
theorem dL_law_1026 : dc cL_law 1026 .iaload 1 1027 := ⟨by decide +kernel, rfl⟩
theorem dL_law_1027 : dAl cL_law 1027 0 1028 := Or.inl ⟨0, rfl, by decide +kernel, rfl⟩
theorem dL_law_1028 : dIl cL_law 1028 3 1029 := Or.inl ⟨3, rfl, by decide +kernel, rfl⟩
theorem dL_law_1029 : dKc cL_law 1029 3 1030 := Or.inl ⟨3, by decide +kernel, by decide +kernel, rfl⟩
theorem dL_law_1030 : dc cL_law 1030 .iadd 1 1031 := ⟨by decide +kernel, rfl⟩
theorem dL_law_1031 : dc cL_law 1031 .iaload 1 1032 := ⟨by decide +kernel, rfl⟩
theorem dL_law_1032 : dc cL_law 1032 (.invokevirtual 103) 3 1035 := ⟨by decide +kernel, rfl⟩
theorem dL_law_1035 : dAl cL_law 1035 2 1036 := Or.inl ⟨2, rfl, by decide +kernel, rfl⟩
theorem dL_law_1036 : dAl cL_law 1036 0 1037 := Or.inl ⟨0, rfl, by decide +kernel, rfl⟩
theorem dL_law_1037 : dIl cL_law 1037 3 1038 := Or.inl ⟨3, rfl, by decide +kernel, rfl⟩
theorem dL_law_1038 : dKc cL_law 1038 1 1039 := Or.inl ⟨1, by decide +kernel, by decide +kernel, rfl⟩
theorem dL_law_1039 : dc cL_law 1039 .iadd 1 1040 := ⟨by decide +kernel, rfl⟩
theorem dL_law_1040 : dc cL_law 1040 .iaload 1 1041 := ⟨by decide +kernel, rfl⟩
theorem dL_law_1041 : dAl cL_law 1041 0 1042 := Or.inl ⟨0, rfl, by decide +kernel, rfl⟩
theorem dL_law_1042 : dIl cL_law 1042 3 1043 := Or.inl ⟨3, rfl, by decide +kernel, rfl⟩
theorem dL_law_1043 : dKc cL_law 1043 2 1044 := Or.inl ⟨2, by decide +kernel, by decide +kernel, rfl⟩
theorem dL_law_1044 : dc cL_law 1044 .iadd 1 1045 := ⟨by decide +kernel, rfl⟩
theorem dL_law_1045 : dc cL_law 1045 .iaload 1 1046 := ⟨by decide +kernel, rfl⟩
theorem dL_law_1046 : dAl cL_law 1046 0 1047 := Or.inl ⟨0, rfl, by decide +kernel, rfl⟩
theorem dL_law_1047 : dIl cL_law 1047 3 1048 := Or.inl ⟨3, rfl, by decide +kernel, rfl⟩
theorem dL_law_1048 : dKc cL_law 1048 3 1049 := Or.inl ⟨3, by decide +kernel, by decide +kernel, rfl⟩
theorem dL_law_1049 : dc cL_law 1049 .iadd 1 1050 := ⟨by decide +kernel, rfl⟩
theorem dL_law_1050 : dc cL_law 1050 .iaload 1 1051 := ⟨by decide +kernel, rfl⟩
theorem dL_law_1051 : dc cL_law 1051 (.invokevirtual 106) 3 1054 := ⟨by decide +kernel, rfl⟩
theorem dL_law_1054 : dj cL_law 1054 (.if_icmp .eq) 1237 1057 := ⟨183, by decide +kernel, by decide, rfl⟩
theorem dL_law_1057 : dKc cL_law 1057 0 1058 := Or.inl ⟨0, by decide +kernel, by decide +kernel, rfl⟩
theorem dL_law_1058 : dc cL_law 1058 .ireturn 1 1059 := ⟨by decide +kernel, rfl⟩
theorem dL_law_1059 : dAl cL_law 1059 1 1060 := Or.inl ⟨1, rfl, by decide +kernel, rfl⟩
theorem dL_law_1060 : dAl cL_law 1060 0 1061 := Or.inl ⟨0, rfl, by decide +kernel, rfl⟩
theorem dL_law_1061 : dIl cL_law 1061 3 1062 := Or.inl ⟨3, rfl, by decide +kernel, rfl⟩
theorem dL_law_1062 : dKc cL_law 1062 1 1063 := Or.inl ⟨1, by decide +kernel, by decide +kernel, rfl⟩
theorem dL_law_1063 : dc cL_law 1063 .iadd 1 1064 := ⟨by decide +kernel, rfl⟩
theorem dL_law_1064 : dc cL_law 1064 .iaload 1 1065 := ⟨by decide +kernel, rfl⟩
theorem dL_law_1065 : dAl cL_law 1065 0 1066 := Or.inl ⟨0, rfl, by decide +kernel, rfl⟩
theorem dL_law_1066 : dIl cL_law 1066 3 1067 := Or.inl ⟨3, rfl, by decide +kernel, rfl⟩
theorem dL_law_1067 : dKc cL_law 1067 2 1068 := Or.inl ⟨2, by decide +kernel, by decide +kernel, rfl⟩
theorem dL_law_1068 : dc cL_law 1068 .iadd 1 1069 := ⟨by decide +kernel, rfl⟩
theorem dL_law_1069 : dc cL_law 1069 .iaload 1 1070 := ⟨by decide +kernel, rfl⟩
theorem dL_law_1070 : dc cL_law 1070 (.invokevirtual 107) 3 1073 := ⟨by decide +kernel, rfl⟩
theorem dL_law_1073 : dAl cL_law 1073 2 1074 := Or.inl ⟨2, rfl, by decide +kernel, rfl⟩
theorem dL_law_1074 : dAl cL_law 1074 0 1075 := Or.inl ⟨0, rfl, by decide +kernel, rfl⟩
theorem dL_law_1075 : dIl cL_law 1075 3 1076 := Or.inl ⟨3, rfl, by decide +kernel, rfl⟩
theorem dL_law_1076 : dKc cL_law 1076 1 1077 := Or.inl ⟨1, by decide +kernel, by decide +kernel, rfl⟩
theorem dL_law_1077 : dc cL_law 1077 .iadd 1 1078 := ⟨by decide +kernel, rfl⟩
theorem dL_law_1078 : dc cL_law 1078 .iaload 1 1079 := ⟨by decide +kernel, rfl⟩
theorem dL_law_1079 : dAl cL_law 1079 0 1080 := Or.inl ⟨0, rfl, by decide +kernel, rfl⟩
theorem dL_law_1080 : dIl cL_law 1080 3 1081 := Or.inl ⟨3, rfl, by decide +kernel, rfl⟩
theorem dL_law_1081 : dKc cL_law 1081 2 1082 := Or.inl ⟨2, by decide +kernel, by decide +kernel, rfl⟩
theorem dL_law_1082 : dc cL_law 1082 .iadd 1 1083 := ⟨by decide +kernel, rfl⟩
theorem dL_law_1083 : dc cL_law 1083 .iaload 1 1084 := ⟨by decide +kernel, rfl⟩
theorem dL_law_1084 : dc cL_law 1084 (.invokevirtual 110) 3 1087 := ⟨by decide +kernel, rfl⟩
theorem dL_law_1087 : dj cL_law 1087 (.if_icmp .eq) 1237 1090 := ⟨150, by decide +kernel, by decide, rfl⟩
theorem dL_law_1090 : dKc cL_law 1090 0 1091 := Or.inl ⟨0, by decide +kernel, by decide +kernel, rfl⟩
theorem dL_law_1091 : dc cL_law 1091 .ireturn 1 1092 := ⟨by decide +kernel, rfl⟩
theorem dL_law_1092 : dAl cL_law 1092 1 1093 := Or.inl ⟨1, rfl, by decide +kernel, rfl⟩
theorem dL_law_1093 : dAl cL_law 1093 0 1094 := Or.inl ⟨0, rfl, by decide +kernel, rfl⟩
theorem dL_law_1094 : dIl cL_law 1094 3 1095 := Or.inl ⟨3, rfl, by decide +kernel, rfl⟩
theorem dL_law_1095 : dKc cL_law 1095 1 1096 := Or.inl ⟨1, by decide +kernel, by decide +kernel, rfl⟩
theorem dL_law_1096 : dc cL_law 1096 .iadd 1 1097 := ⟨by decide +kernel, rfl⟩
theorem dL_law_1097 : dc cL_law 1097 .iaload 1 1098 := ⟨by decide +kernel, rfl⟩
theorem dL_law_1098 : dc cL_law 1098 (.invokevirtual 111) 3 1101 := ⟨by decide +kernel, rfl⟩
theorem dL_law_1101 : dAl cL_law 1101 2 1102 := Or.inl ⟨2, rfl, by decide +kernel, rfl⟩
theorem dL_law_1102 : dAl cL_law 1102 0 1103 := Or.inl ⟨0, rfl, by decide +kernel, rfl⟩
theorem dL_law_1103 : dIl cL_law 1103 3 1104 := Or.inl ⟨3, rfl, by decide +kernel, rfl⟩
theorem dL_law_1104 : dKc cL_law 1104 1 1105 := Or.inl ⟨1, by decide +kernel, by decide +kernel, rfl⟩
theorem dL_law_1105 : dc cL_law 1105 .iadd 1 1106 := ⟨by decide +kernel, rfl⟩
theorem dL_law_1106 : dc cL_law 1106 .iaload 1 1107 := ⟨by decide +kernel, rfl⟩
theorem dL_law_1107 : dc cL_law 1107 (.invokevirtual 114) 3 1110 := ⟨by decide +kernel, rfl⟩
theorem dL_law_1110 : dj cL_law 1110 (.if_icmp .eq) 1237 1113 := ⟨127, by decide +kernel, by decide, rfl⟩
theorem dL_law_1113 : dKc cL_law 1113 0 1114 := Or.inl ⟨0, by decide +kernel, by decide +kernel, rfl⟩
theorem dL_law_1114 : dc cL_law 1114 .ireturn 1 1115 := ⟨by decide +kernel, rfl⟩
theorem dL_law_1115 : dAl cL_law 1115 1 1116 := Or.inl ⟨1, rfl, by decide +kernel, rfl⟩
theorem dL_law_1116 : dAl cL_law 1116 0 1117 := Or.inl ⟨0, rfl, by decide +kernel, rfl⟩
theorem dL_law_1117 : dIl cL_law 1117 3 1118 := Or.inl ⟨3, rfl, by decide +kernel, rfl⟩
theorem dL_law_1118 : dKc cL_law 1118 1 1119 := Or.inl ⟨1, by decide +kernel, by decide +kernel, rfl⟩
theorem dL_law_1119 : dc cL_law 1119 .iadd 1 1120 := ⟨by decide +kernel, rfl⟩
theorem dL_law_1120 : dc cL_law 1120 .iaload 1 1121 := ⟨by decide +kernel, rfl⟩
theorem dL_law_1121 : dAl cL_law 1121 0 1122 := Or.inl ⟨0, rfl, by decide +kernel, rfl⟩
theorem dL_law_1122 : dIl cL_law 1122 3 1123 := Or.inl ⟨3, rfl, by decide +kernel, rfl⟩
theorem dL_law_1123 : dKc cL_law 1123 2 1124 := Or.inl ⟨2, by decide +kernel, by decide +kernel, rfl⟩
theorem dL_law_1124 : dc cL_law 1124 .iadd 1 1125 := ⟨by decide +kernel, rfl⟩
theorem dL_law_1125 : dc cL_law 1125 .iaload 1 1126 := ⟨by decide +kernel, rfl⟩
theorem dL_law_1126 : dc cL_law 1126 (.invokevirtual 115) 3 1129 := ⟨by decide +kernel, rfl⟩
theorem dL_law_1129 : dAl cL_law 1129 2 1130 := Or.inl ⟨2, rfl, by decide +kernel, rfl⟩
theorem dL_law_1130 : dAl cL_law 1130 0 1131 := Or.inl ⟨0, rfl, by decide +kernel, rfl⟩
theorem dL_law_1131 : dIl cL_law 1131 3 1132 := Or.inl ⟨3, rfl, by decide +kernel, rfl⟩
theorem dL_law_1132 : dKc cL_law 1132 1 1133 := Or.inl ⟨1, by decide +kernel, by decide +kernel, rfl⟩
theorem dL_law_1133 : dc cL_law 1133 .iadd 1 1134 := ⟨by decide +kernel, rfl⟩
theorem dL_law_1134 : dc cL_law 1134 .iaload 1 1135 := ⟨by decide +kernel, rfl⟩
theorem dL_law_1135 : dAl cL_law 1135 0 1136 := Or.inl ⟨0, rfl, by decide +kernel, rfl⟩
theorem dL_law_1136 : dIl cL_law 1136 3 1137 := Or.inl ⟨3, rfl, by decide +kernel, rfl⟩
theorem dL_law_1137 : dKc cL_law 1137 2 1138 := Or.inl ⟨2, by decide +kernel, by decide +kernel, rfl⟩
theorem dL_law_1138 : dc cL_law 1138 .iadd 1 1139 := ⟨by decide +kernel, rfl⟩
theorem dL_law_1139 : dc cL_law 1139 .iaload 1 1140 := ⟨by decide +kernel, rfl⟩
theorem dL_law_1140 : dc cL_law 1140 (.invokevirtual 118) 3 1143 := ⟨by decide +kernel, rfl⟩
theorem dL_law_1143 : dj cL_law 1143 (.if_icmp .eq) 1237 1146 := ⟨94, by decide +kernel, by decide, rfl⟩
theorem dL_law_1146 : dKc cL_law 1146 0 1147 := Or.inl ⟨0, by decide +kernel, by decide +kernel, rfl⟩
theorem dL_law_1147 : dc cL_law 1147 .ireturn 1 1148 := ⟨by decide +kernel, rfl⟩
theorem dL_law_1148 : dAl cL_law 1148 1 1149 := Or.inl ⟨1, rfl, by decide +kernel, rfl⟩
theorem dL_law_1149 : dAl cL_law 1149 0 1150 := Or.inl ⟨0, rfl, by decide +kernel, rfl⟩
theorem dL_law_1150 : dIl cL_law 1150 3 1151 := Or.inl ⟨3, rfl, by decide +kernel, rfl⟩
theorem dL_law_1151 : dKc cL_law 1151 1 1152 := Or.inl ⟨1, by decide +kernel, by decide +kernel, rfl⟩
theorem dL_law_1152 : dc cL_law 1152 .iadd 1 1153 := ⟨by decide +kernel, rfl⟩
theorem dL_law_1153 : dc cL_law 1153 .iaload 1 1154 := ⟨by decide +kernel, rfl⟩
theorem dL_law_1154 : dAl cL_law 1154 0 1155 := Or.inl ⟨0, rfl, by decide +kernel, rfl⟩
theorem dL_law_1155 : dIl cL_law 1155 3 1156 := Or.inl ⟨3, rfl, by decide +kernel, rfl⟩
theorem dL_law_1156 : dKc cL_law 1156 2 1157 := Or.inl ⟨2, by decide +kernel, by decide +kernel, rfl⟩
theorem dL_law_1157 : dc cL_law 1157 .iadd 1 1158 := ⟨by decide +kernel, rfl⟩
theorem dL_law_1158 : dc cL_law 1158 .iaload 1 1159 := ⟨by decide +kernel, rfl⟩
theorem dL_law_1159 : dAl cL_law 1159 0 1160 := Or.inl ⟨0, rfl, by decide +kernel, rfl⟩
theorem dL_law_1160 : dIl cL_law 1160 3 1161 := Or.inl ⟨3, rfl, by decide +kernel, rfl⟩
theorem dL_law_1161 : dKc cL_law 1161 3 1162 := Or.inl ⟨3, by decide +kernel, by decide +kernel, rfl⟩
theorem dL_law_1162 : dc cL_law 1162 .iadd 1 1163 := ⟨by decide +kernel, rfl⟩
theorem dL_law_1163 : dc cL_law 1163 .iaload 1 1164 := ⟨by decide +kernel, rfl⟩
theorem dL_law_1164 : dc cL_law 1164 (.invokevirtual 119) 3 1167 := ⟨by decide +kernel, rfl⟩
theorem dL_law_1167 : dAl cL_law 1167 2 1168 := Or.inl ⟨2, rfl, by decide +kernel, rfl⟩
theorem dL_law_1168 : dAl cL_law 1168 0 1169 := Or.inl ⟨0, rfl, by decide +kernel, rfl⟩
theorem dL_law_1169 : dIl cL_law 1169 3 1170 := Or.inl ⟨3, rfl, by decide +kernel, rfl⟩
theorem dL_law_1170 : dKc cL_law 1170 1 1171 := Or.inl ⟨1, by decide +kernel, by decide +kernel, rfl⟩
theorem dL_law_1171 : dc cL_law 1171 .iadd 1 1172 := ⟨by decide +kernel, rfl⟩
theorem dL_law_1172 : dc cL_law 1172 .iaload 1 1173 := ⟨by decide +kernel, rfl⟩
theorem dL_law_1173 : dAl cL_law 1173 0 1174 := Or.inl ⟨0, rfl, by decide +kernel, rfl⟩
theorem dL_law_1174 : dIl cL_law 1174 3 1175 := Or.inl ⟨3, rfl, by decide +kernel, rfl⟩
theorem dL_law_1175 : dKc cL_law 1175 2 1176 := Or.inl ⟨2, by decide +kernel, by decide +kernel, rfl⟩
theorem dL_law_1176 : dc cL_law 1176 .iadd 1 1177 := ⟨by decide +kernel, rfl⟩
theorem dL_law_1177 : dc cL_law 1177 .iaload 1 1178 := ⟨by decide +kernel, rfl⟩
theorem dL_law_1178 : dAl cL_law 1178 0 1179 := Or.inl ⟨0, rfl, by decide +kernel, rfl⟩
theorem dL_law_1179 : dIl cL_law 1179 3 1180 := Or.inl ⟨3, rfl, by decide +kernel, rfl⟩
theorem dL_law_1180 : dKc cL_law 1180 3 1181 := Or.inl ⟨3, by decide +kernel, by decide +kernel, rfl⟩
theorem dL_law_1181 : dc cL_law 1181 .iadd 1 1182 := ⟨by decide +kernel, rfl⟩
theorem dL_law_1182 : dc cL_law 1182 .iaload 1 1183 := ⟨by decide +kernel, rfl⟩
theorem dL_law_1183 : dc cL_law 1183 (.invokevirtual 122) 3 1186 := ⟨by decide +kernel, rfl⟩
theorem dL_law_1186 : dj cL_law 1186 (.if_icmp .eq) 1237 1189 := ⟨51, by decide +kernel, by decide, rfl⟩
theorem dL_law_1189 : dKc cL_law 1189 0 1190 := Or.inl ⟨0, by decide +kernel, by decide +kernel, rfl⟩
theorem dL_law_1190 : dc cL_law 1190 .ireturn 1 1191 := ⟨by decide +kernel, rfl⟩
theorem dL_law_1191 : dAl cL_law 1191 1 1192 := Or.inl ⟨1, rfl, by decide +kernel, rfl⟩
theorem dL_law_1192 : dAl cL_law 1192 0 1193 := Or.inl ⟨0, rfl, by decide +kernel, rfl⟩
theorem dL_law_1193 : dIl cL_law 1193 3 1194 := Or.inl ⟨3, rfl, by decide +kernel, rfl⟩
theorem dL_law_1194 : dKc cL_law 1194 1 1195 := Or.inl ⟨1, by decide +kernel, by decide +kernel, rfl⟩
theorem dL_law_1195 : dc cL_law 1195 .iadd 1 1196 := ⟨by decide +kernel, rfl⟩
theorem dL_law_1196 : dc cL_law 1196 .iaload 1 1197 := ⟨by decide +kernel, rfl⟩
theorem dL_law_1197 : dc cL_law 1197 (.invokevirtual 123) 3 1200 := ⟨by decide +kernel, rfl⟩
theorem dL_law_1200 : dAl cL_law 1200 2 1201 := Or.inl ⟨2, rfl, by decide +kernel, rfl⟩
theorem dL_law_1201 : dAl cL_law 1201 0 1202 := Or.inl ⟨0, rfl, by decide +kernel, rfl⟩
theorem dL_law_1202 : dIl cL_law 1202 3 1203 := Or.inl ⟨3, rfl, by decide +kernel, rfl⟩
theorem dL_law_1203 : dKc cL_law 1203 1 1204 := Or.inl ⟨1, by decide +kernel, by decide +kernel, rfl⟩
theorem dL_law_1204 : dc cL_law 1204 .iadd 1 1205 := ⟨by decide +kernel, rfl⟩
theorem dL_law_1205 : dc cL_law 1205 .iaload 1 1206 := ⟨by decide +kernel, rfl⟩
theorem dL_law_1206 : dc cL_law 1206 (.invokevirtual 126) 3 1209 := ⟨by decide +kernel, rfl⟩
theorem dL_law_1209 : dj cL_law 1209 (.if_icmp .eq) 1237 1212 := ⟨28, by decide +kernel, by decide, rfl⟩
theorem dL_law_1212 : dKc cL_law 1212 0 1213 := Or.inl ⟨0, by decide +kernel, by decide +kernel, rfl⟩
theorem dL_law_1213 : dc cL_law 1213 .ireturn 1 1214 := ⟨by decide +kernel, rfl⟩
theorem dL_law_1214 : dAl cL_law 1214 1 1215 := Or.inl ⟨1, rfl, by decide +kernel, rfl⟩
theorem dL_law_1215 : dAl cL_law 1215 0 1216 := Or.inl ⟨0, rfl, by decide +kernel, rfl⟩
theorem dL_law_1216 : dIl cL_law 1216 3 1217 := Or.inl ⟨3, rfl, by decide +kernel, rfl⟩
theorem dL_law_1217 : dKc cL_law 1217 1 1218 := Or.inl ⟨1, by decide +kernel, by decide +kernel, rfl⟩
theorem dL_law_1218 : dc cL_law 1218 .iadd 1 1219 := ⟨by decide +kernel, rfl⟩
theorem dL_law_1219 : dc cL_law 1219 .iaload 1 1220 := ⟨by decide +kernel, rfl⟩
theorem dL_law_1220 : dc cL_law 1220 (.invokevirtual 127) 3 1223 := ⟨by decide +kernel, rfl⟩
theorem dL_law_1223 : dAl cL_law 1223 2 1224 := Or.inl ⟨2, rfl, by decide +kernel, rfl⟩
theorem dL_law_1224 : dAl cL_law 1224 0 1225 := Or.inl ⟨0, rfl, by decide +kernel, rfl⟩
theorem dL_law_1225 : dIl cL_law 1225 3 1226 := Or.inl ⟨3, rfl, by decide +kernel, rfl⟩
theorem dL_law_1226 : dKc cL_law 1226 1 1227 := Or.inl ⟨1, by decide +kernel, by decide +kernel, rfl⟩
theorem dL_law_1227 : dc cL_law 1227 .iadd 1 1228 := ⟨by decide +kernel, rfl⟩
theorem dL_law_1228 : dc cL_law 1228 .iaload 1 1229 := ⟨by decide +kernel, rfl⟩
theorem dL_law_1229 : dc cL_law 1229 (.invokevirtual 130) 3 1232 := ⟨by decide +kernel, rfl⟩
theorem dL_law_1232 : dj cL_law 1232 (.if_icmp .eq) 1237 1235 := ⟨5, by decide +kernel, by decide, rfl⟩
theorem dL_law_1235 : dKc cL_law 1235 0 1236 := Or.inl ⟨0, by decide +kernel, by decide +kernel, rfl⟩
theorem dL_law_1236 : dc cL_law 1236 .ireturn 1 1237 := ⟨by decide +kernel, rfl⟩
theorem dL_law_1237 : dc cL_law 1237 (.iinc 3 6) 3 1240 := ⟨by decide +kernel, rfl⟩
theorem dL_law_1240 : dj cL_law 1240 .goto 18 1243 := ⟨(-1222), by decide +kernel, by decide, rfl⟩
theorem dL_law_1243 : dKc cL_law 1243 1 1244 := Or.inl ⟨1, by decide +kernel, by decide +kernel, rfl⟩
theorem dL_law_1244 : dc cL_law 1244 .ireturn 1 1245 := ⟨by decide +kernel, rfl⟩
end
section
/-! ===== the layer E: a frame of a method over a pool of cells (pool k, number i): which are there (dm), where (ad), what they hold (ct) ===== -/
abbrev eCl : List vw_C := [(RX0, TX0, 2), (RX1, TX1, 3), (RX3, TX3, 4), (RX4, TX4, 3), (RX5, TX5, 4), (RX6, TX6, 3), (RX7, TX7, 1), (RX8, TX8, 6), (RX10, TX10, 3), (RX11, TX11, 13), (RX12, TX12, 34)]
def eTs (dA : Nat → ClassId) : List (ClassId × FieldType) := [(dA 0, .int), (dA 1, .long), (dA 2, .object "ConstantKinds$Constant"), (dA 3, .object "ConstantKinds$Build"), (dA 4, .object "ConstantKinds$Thing"), (dA 5, .object "ConstantKinds$Shape"), (dA 6, .object "ConstantKinds$Check")]
def gT : List Cond := lw_tbl.filter goodWord
theorem gT_in {w : Cond} (h : w ∈ lw_tbl) (hg : goodWord w = true) : w ∈ gT := List.mem_filter.mpr ⟨h, hg⟩
/-- words that are not good in themselves: links to a nest mate's private members, declared abstract methods, arrays of a class, casts that hold and that don't -/
def eNL : List (String × Nat × MethodName × String) := [(RX11, 62, yX0_init, RX11), (RX0, 21, yX11_isIn, RX11), (RX2, 1, yX9_init, RX11), (RX5, 3, yX9_init, RX11), (RX5, 32, yX11_isIn, RX11), (RX7, 3, yX9_init, RX11), (RX7, 9, yX11_isIn, RX11), (RX8, 34, yX11_isIn, RX11)]
def eDc : List MethodName := [⟨RX2, "bodyNumber", "()I"⟩, ⟨RX2, "worthFor", "(I)I"⟩, ⟨RX9, "familyNumber", "()I"⟩]
def eAO : List String := ["ConstantKinds$Constant", "ConstantKinds$Build", "ConstantKinds$Thing", "ConstantKinds$Shape", "ConstantKinds$Check"]
def eCa : List (String × String) := [(RX4, RX2), (RX6, RX2), (RX10, RX2), (RX4, RX4), (RX5, RX5), (RX4, RX10), (RX10, RX10), (RX5, RX9), (RX6, RX9), (RX7, RX7), (RX6, RX6), (RX7, RX9), (RX10, RX9), (RX4, RX9)]
def eNc : List (String × String) := [(RX10, RX7), (RX4, RX7), (RX6, RX7), (RX5, RX7), (RX10, RX6), (RX4, RX6), (RX7, RX6), (RX5, RX6), (RX6, RX10), (RX7, RX10), (RX5, RX10), (RX10, RX4), (RX6, RX4), (RX7, RX4), (RX5, RX4), (RX10, RX5), (RX4, RX5), (RX6, RX5), (RX7, RX5), (RX7, RX2), (RX5, RX2)]
def KK (D : va_G) (dA : Nat → ClassId) (U : State) : Prop := va_K D eCl (eTs dA) U ∧ (∀ q ∈ eNL, va_Nw (.methodLinkNest q.1 q.2.1 q.2.2.1 q.2.2.2) U) ∧ (∀ x ∈ eDc, va_Nw (.declares x) U) ∧ (∀ C ∈ eAO, va_AO C U) ∧ (∀ q ∈ eCa, va_Nw (.castable q.1 q.2) U) ∧ (∀ q ∈ eNc, va_Nc q.1 q.2 U)
theorem KK.warm {D : va_G} {dA : Nat → ClassId} {s U : State} (hW : s.WarmedH U.vm) (h : KK D dA s) : KK D dA U :=
  ⟨va_K.moved hW.alike h.1, fun q hq => va_Nw.warmM hW (h.2.1 q hq), fun x hx => va_Nw.warmD hW (h.2.2.1 x hx), fun C hC => va_AO.moved hW.alike (h.2.2.2.1 C hC), fun q hq => va_Nw.warmC hW (h.2.2.2.2.1 q hq), fun q hq => va_Nc.moved hW.alike (h.2.2.2.2.2 q hq)⟩
theorem KK.same {D : va_G} {dA : Nat → ClassId} {s U : State} (hv : s.vm = U.vm) (h : KK D dA s) : KK D dA U := by
  have ha : s.vm.Alike U.vm := by rw [hv]; exact Vm.Alike.refl _
  exact ⟨va_K.moved ha h.1, fun q hq => va_Nw.same rfl hv (h.2.1 q hq), fun x hx => va_Nw.same rfl hv (h.2.2.1 x hx), fun C hC => va_AO.moved ha (h.2.2.2.1 C hC), fun q hq => va_Nw.same rfl hv (h.2.2.2.2.1 q hq), fun q hq => va_Nc.moved ha (h.2.2.2.2.2 q hq)⟩
/-- the heap holds the pool: every cell at its place, from b0 on, no two at one -/
def Rl (b0 : Nat) (D : va_G) (dm : Nat → Nat → Prop) (ad : Nat → Nat → Nat) (ct : Nat → Nat → va_E) (H : Heap) : Prop :=
  b0 ≤ H.size ∧ (∀ k i, dm k i → va_at D eCl (ad k i, ct k i) H ∧ b0 ≤ ad k i) ∧ ∀ k i k' i', dm k i → dm k' i' → ad k i = ad k' i' → k = k' ∧ i = i'
/-- locals as a function -/
def lf_has (ls : Array Slot) (nL : Nat) (f : Nat → Option Value) : Prop := ls.size = nL ∧ lv_wf ls ∧ ∀ (i : Nat) (v : Value), f i = some v → ls[i]? = some (.val v)
def lf_L (f : Nat → Option Value) (nL : Nat) : List (Nat × Value) := (List.range nL).filterMap (fun j => (f j).map (fun v => (j, v)))
theorem lf_L_in {f : Nat → Option Value} {nL j : Nat} {v : Value} (hj : j < nL) (h : f j = some v) : (j, v) ∈ lf_L f nL := List.mem_filterMap.mpr ⟨j, List.mem_range.mpr hj, by rw [h]; rfl⟩
theorem lf_to {ls : Array Slot} {nL : Nat} {f : Nat → Option Value} (h : lf_has ls nL f) : lv_has ls nL (lf_L f nL) := by
  refine ⟨h.1, h.2.1, fun q hq => ?_⟩
  obtain ⟨j, -, hj⟩ := List.mem_filterMap.mp hq
  cases hf : f j with
  | none => rw [hf] at hj; cases hj
  | some v => rw [hf] at hj; cases hj; exact h.2.2 j v hf
def lst (f : Nat → Option Value) (i : Nat) (v : Value) : Nat → Option Value := fun j => match Nat.beq j i with
  | true => some v
  | false => match Nat.beq (j + 1) i with
    | true => (match f j with
      | some w => (match w.category with
        | 2 => none
        | _ => some w)
      | none => none)
    | false => f j
def lst2 (f : Nat → Option Value) (i : Nat) (v : Value) : Nat → Option Value := fun j => match Nat.beq j (i + 1) with
  | true => none
  | false => lst f i v j
theorem lst_spec {f : Nat → Option Value} {i j : Nat} {v w : Value} (h : lst f i v j = some w) : (j = i ∧ w = v) ∨ (j ≠ i ∧ f j = some w ∧ ¬ (j + 1 = i ∧ w.category = 2)) := by
  unfold lst at h
  split at h
  · rename_i hb
    exact Or.inl ⟨Nat.eq_of_beq_eq_true hb, (Option.some.inj h).symm⟩
  · rename_i hb
    have hne : j ≠ i := Nat.ne_of_beq_eq_false hb
    split at h
    · rename_i hb2
      split at h
      · rename_i w0 hw0
        split at h
        · cases h
        · rename_i hc
          cases h
          exact Or.inr ⟨hne, hw0, fun q => hc q.2⟩
      · cases h
    · rename_i hb2
      exact Or.inr ⟨hne, h, fun q => Nat.ne_of_beq_eq_false hb2 q.1⟩
theorem lf_lt {ls : Array Slot} {nL : Nat} {f : Nat → Option Value} (h : lf_has ls nL f) {j : Nat} {w : Value} (hj : f j = some w) : j < nL := by
  rw [← h.1]; exact lv_lt (h.2.2 j w hj)
theorem lf_st {ls ls' : Array Slot} {nL i : Nat} {f : Nat → Option Value} {v : Value} (h : lf_has ls nL f) (h' : lv_has ls' nL ((i, v) :: (lf_L f nL).filter (fun q => !(q.1 == i) && !(q.1 + 1 == i && q.2.category == 2)))) : lf_has ls' nL (lst f i v) := by
  refine ⟨h'.1, h'.2.1, fun j w hj => ?_⟩
  rcases lst_spec hj with ⟨rfl, rfl⟩ | ⟨hne, hf, hc⟩
  · exact h'.2.2 (j, w) List.mem_cons_self
  · refine h'.2.2 (j, w) (List.mem_cons_of_mem _ (List.mem_filter.mpr ⟨lf_L_in (lf_lt h hf) hf, ?_⟩))
    have h1 : (j == i) = false := by simpa using hne
    have h2 : (j + 1 == i && w.category == 2) = false := by
      cases hq : (j + 1 == i && w.category == 2) with
      | false => rfl
      | true => simp at hq; exact absurd hq hc
    simp [h1, h2]
theorem lf_st2 {ls ls' : Array Slot} {nL i : Nat} {f : Nat → Option Value} {v : Value} (h : lf_has ls nL f) (h' : lv_has ls' nL ((i, v) :: (lf_L f nL).filter (fun q => !(q.1 == i) && (!(q.1 == i + 1) && !(q.1 + 1 == i && q.2.category == 2))))) : lf_has ls' nL (lst2 f i v) := by
  refine ⟨h'.1, h'.2.1, fun j w hj => ?_⟩
  unfold lst2 at hj
  split at hj
  · cases hj
  · rename_i hb
    have hn1 : j ≠ i + 1 := Nat.ne_of_beq_eq_false hb
    rcases lst_spec hj with ⟨rfl, rfl⟩ | ⟨hne, hf, hc⟩
    · exact h'.2.2 (j, w) List.mem_cons_self
    · refine h'.2.2 (j, w) (List.mem_cons_of_mem _ (List.mem_filter.mpr ⟨lf_L_in (lf_lt h hf) hf, ?_⟩))
      have h1 : (j == i) = false := by simpa using hne
      have h3 : (j == i + 1) = false := by simpa using hn1
      have h2 : (j + 1 == i && w.category == 2) = false := by
        cases hq : (j + 1 == i && w.category == 2) with
        | false => rfl
        | true => simp at hq; exact absurd hq hc
      simp [h1, h2, h3]
def isR : Value → Bool
  | .null => true
  | .ref _ => true
  | _ => false
theorem isR_or {v : Value} (h : isR v = true) : v = .null ∨ ∃ a, v = .ref a := by
  cases v <;> first | exact Or.inl rfl | exact Or.inr ⟨_, rfl⟩ | cases h
theorem isR_rf (r : Option Nat) : isR (va_rf r) = true := by cases r <;> rfl
/-- what stands fixed in a method's frame -/
def Cx (b0 : Nat) (D : va_G) (dA : Nat → ClassId) (y : MethodName) (cc : ByteArray) (nL : Nat) (ret : Option FieldType) (EX : Array Value → State → Prop) (p : Program) (s : State) (m : MethodId) (args : Array Value) (meth : Method) (c : Code) : Prop :=
  p.tables.exec = Jvm.exec ∧ c.code = cc ∧ meth.sig.returnType = ret ∧ c.maxLocals = nL ∧ s.vm.findClass y.cls = some m.cls ∧ (∀ w ∈ gT, w.before args s = true) ∧ meth.locks = false ∧ meth.name = y.name ∧ KK D dA s ∧ b0 ≤ s.heap.size ∧ EX args s
def E (b0 : Nat) (D : va_G) (dA : Nat → ClassId) (y : MethodName) (cc : ByteArray) (nL : Nat) (ret : Option FieldType) (R : Room) (EX : Array Value → State → Prop) (QF : List Frame → Array Value → State → State → Prop) (pc : Nat) (lv : Nat → Option Value) (st : List Value) (dm : Nat → Nat → Prop) (ad : Nat → Nat → Nat) (ct : Nat → Nat → va_E) (cells slots : Nat) : Prop :=
  ∀ (p : Program) (l : Launch) (e : Env) (s : State) (m : MethodId) (args : Array Value) (below : List Frame) (meth : Method) (c : Code), Cx b0 D dA y cc nL ret EX p s m args meth c →
    ∀ (H : Heap) (locs : List Loc) (ls : Array Slot), lf_has ls nL lv → Rl b0 D dm ad ct H → va_S (fun q => b0 ≤ q) s.heap H locs →
      W p l e R s m args below meth c H locs cells slots (QF below args s) (F0 m pc ls st)
section ER
variable {b0 : Nat} {D : va_G} {dA : Nat → ClassId} {y : MethodName} {cc : ByteArray} {nL : Nat} {ret : Option FieldType} {R : Room} {EX : Array Value → State → Prop} {QF : List Frame → Array Value → State → State → Prop} {pc n t : Nat} {lv : Nat → Option Value} {st : List Value} {dm : Nat → Nat → Prop} {ad : Nat → Nat → Nat} {ct : Nat → Nat → va_E} {cells slots : Nat}
theorem e_push {v : Int32} (hd : dKc cc pc v n) (k : E b0 D dA y cc nL ret R EX QF n lv (.int v :: st) dm ad ct cells slots) : E b0 D dA y cc nL ret R EX QF pc lv (st) dm ad ct cells slots := by
  intro p l e s m args below meth c C H locs ls hl hR hS
  rcases hd with ⟨i, hv, hd, rfl⟩ | ⟨i, hv, hd, rfl⟩ | ⟨i, hv, hd, rfl⟩
  · exact lv_iconst C.1 C.2.1 hd hv (k p l e s m args below meth c C H locs ls hl hR hS)
  · exact lv_bipush C.1 C.2.1 hd hv (k p l e s m args below meth c C H locs ls hl hR hS)
  · exact lv_sipush C.1 C.2.1 hd hv (k p l e s m args below meth c C H locs ls hl hR hS)
theorem e_lconst {i : Fin 2} {v : Int64} (hd : dc cc pc (.lconst i) 1 n) (hv : Int64.ofNat (i : Nat) = v) (k : E b0 D dA y cc nL ret R EX QF n lv (.long v :: st) dm ad ct cells slots) : E b0 D dA y cc nL ret R EX QF pc lv (st) dm ad ct cells slots := by
  obtain ⟨hd, rfl⟩ := hd
  intro p l e s m args below meth c C H locs ls hl hR hS
  exact lv_lconst C.1 C.2.1 hd hv (k p l e s m args below meth c C H locs ls hl hR hS)
theorem e_iload {i : Nat} {x : Int32} (hd : dIl cc pc i n) (hv : lv i = some (.int x)) (k : E b0 D dA y cc nL ret R EX QF n lv (.int x :: st) dm ad ct cells slots) : E b0 D dA y cc nL ret R EX QF pc lv (st) dm ad ct cells slots := by
  intro p l e s m args below meth c C H locs ls hl hR hS
  have hq := hl.2.2 i _ hv
  rcases hd with ⟨j, hj, hd, rfl⟩ | ⟨hd, rfl⟩
  · exact lv_iload_n C.1 C.2.1 hd hj hq (k p l e s m args below meth c C H locs ls hl hR hS)
  · exact lv_iload C.1 C.2.1 hd hq (k p l e s m args below meth c C H locs ls hl hR hS)
theorem e_lload {i : Nat} {x : Int64} (hd : dLl cc pc i n) (hv : lv i = some (.long x)) (k : E b0 D dA y cc nL ret R EX QF n lv (.long x :: st) dm ad ct cells slots) : E b0 D dA y cc nL ret R EX QF pc lv (st) dm ad ct cells slots := by
  intro p l e s m args below meth c C H locs ls hl hR hS
  have hq := hl.2.2 i _ hv
  obtain ⟨j, hj, hd, rfl⟩ := hd
  exact lv_lload_n C.1 C.2.1 hd hj hq (k p l e s m args below meth c C H locs ls hl hR hS)
theorem e_aload {i : Nat} {v : Value} (hd : dAl cc pc i n) (hv : lv i = some v) (k : E b0 D dA y cc nL ret R EX QF n lv (v :: st) dm ad ct cells slots) (hr : isR v = true := by first | rfl | exact isR_rf _) : E b0 D dA y cc nL ret R EX QF pc lv (st) dm ad ct cells slots := by
  intro p l e s m args below meth c C H locs ls hl hR hS
  have hq := hl.2.2 i _ hv
  rcases isR_or hr with rfl | ⟨a, rfl⟩ <;> rcases hd with ⟨j, hj, hd, rfl⟩ | ⟨hd, rfl⟩
  · exact lv_aload_nN C.1 C.2.1 hd hj hq (k p l e s m args below meth c C H locs ls hl hR hS)
  · exact lv_aloadN C.1 C.2.1 hd hq (k p l e s m args below meth c C H locs ls hl hR hS)
  · exact lv_aload_n C.1 C.2.1 hd hj hq (k p l e s m args below meth c C H locs ls hl hR hS)
  · exact lv_aload C.1 C.2.1 hd hq (k p l e s m args below meth c C H locs ls hl hR hS)
theorem e_istore {i : Nat} {x : Int32} (hd : dIs cc pc i n) (k : E b0 D dA y cc nL ret R EX QF n (lst lv i (.int x)) (st) dm ad ct cells slots) (hi : i < nL := by decide) : E b0 D dA y cc nL ret R EX QF pc lv (.int x :: st) dm ad ct cells slots := by
  intro p l e s m args below meth c C H locs ls hl hR hS
  rcases hd with ⟨j, hj, hd, rfl⟩ | ⟨hd, rfl⟩
  · exact lv_istore_n C.1 C.2.1 hd hj (lf_to hl) hi rfl (fun ls' hl' => k p l e s m args below meth c C H locs ls' (lf_st hl hl') hR hS)
  · exact lv_istore C.1 C.2.1 hd (lf_to hl) hi rfl (fun ls' hl' => k p l e s m args below meth c C H locs ls' (lf_st hl hl') hR hS)
theorem e_lstore {i : Nat} {x : Int64} (hd : dLs cc pc i n) (k : E b0 D dA y cc nL ret R EX QF n (lst2 lv i (.long x)) (st) dm ad ct cells slots) (hi : i + 1 < nL := by decide) : E b0 D dA y cc nL ret R EX QF pc lv (.long x :: st) dm ad ct cells slots := by
  intro p l e s m args below meth c C H locs ls hl hR hS
  obtain ⟨j, hj, hd, rfl⟩ := hd
  exact lv_lstore_n C.1 C.2.1 hd hj (lf_to hl) hi rfl (fun ls' hl' => k p l e s m args below meth c C H locs ls' (lf_st2 hl hl') hR hS)
theorem e_astore {i : Nat} {v : Value} (hd : dAs cc pc i n) (k : E b0 D dA y cc nL ret R EX QF n (lst lv i v) (st) dm ad ct cells slots) (hi : i < nL := by decide) (hr : isR v = true := by first | rfl | exact isR_rf _) : E b0 D dA y cc nL ret R EX QF pc lv (v :: st) dm ad ct cells slots := by
  intro p l e s m args below meth c C H locs ls hl hR hS
  rcases isR_or hr with rfl | ⟨a, rfl⟩ <;> rcases hd with ⟨j, hj, hd, rfl⟩ | ⟨hd, rfl⟩
  · exact lv_astore_nN C.1 C.2.1 hd hj (lf_to hl) hi rfl (fun ls' hl' => k p l e s m args below meth c C H locs ls' (lf_st hl hl') hR hS)
  · exact lv_astoreN C.1 C.2.1 hd (lf_to hl) hi rfl (fun ls' hl' => k p l e s m args below meth c C H locs ls' (lf_st hl hl') hR hS)
  · exact lv_astore_n C.1 C.2.1 hd hj (lf_to hl) hi rfl (fun ls' hl' => k p l e s m args below meth c C H locs ls' (lf_st hl hl') hR hS)
  · exact lv_astore C.1 C.2.1 hd (lf_to hl) hi rfl (fun ls' hl' => k p l e s m args below meth c C H locs ls' (lf_st hl hl') hR hS)
theorem e_iinc {i : Nat} {d : Int} {x v : Int32} (hd : dc cc pc (.iinc i d) 3 n) (hv : lv i = some (.int x)) (he : x + Int32.ofInt d = v) (k : E b0 D dA y cc nL ret R EX QF n (lst lv i (.int v)) (st) dm ad ct cells slots) : E b0 D dA y cc nL ret R EX QF pc lv (st) dm ad ct cells slots := by
  obtain ⟨hd, rfl⟩ := hd
  intro p l e s m args below meth c C H locs ls hl hR hS
  have hlt := lf_lt hl hv
  obtain ⟨q, hq⟩ := List.getElem?_of_mem (lf_L_in hlt hv)
  exact lv_iinc C.1 C.2.1 hd (lf_to hl) (k := q) hq he hlt rfl (fun ls' hl' => k p l e s m args below meth c C H locs ls' (lf_st hl hl') hR hS)
theorem e_iadd {x1 x2 : Int32} (hd : dc cc pc .iadd 1 n) (k : E b0 D dA y cc nL ret R EX QF n lv (.int (x1 + x2) :: st) dm ad ct cells slots) : E b0 D dA y cc nL ret R EX QF pc lv (.int x2 :: .int x1 :: st) dm ad ct cells slots := by
  obtain ⟨hd, rfl⟩ := hd
  intro p l e s m args below meth c C H locs ls hl hR hS
  exact lv_iadd C.1 C.2.1 hd  (k p l e s m args below meth c C H locs ls hl hR hS)
theorem e_isub {x1 x2 : Int32} (hd : dc cc pc .isub 1 n) (k : E b0 D dA y cc nL ret R EX QF n lv (.int (x1 - x2) :: st) dm ad ct cells slots) : E b0 D dA y cc nL ret R EX QF pc lv (.int x2 :: .int x1 :: st) dm ad ct cells slots := by
  obtain ⟨hd, rfl⟩ := hd
  intro p l e s m args below meth c C H locs ls hl hR hS
  exact lv_isub C.1 C.2.1 hd  (k p l e s m args below meth c C H locs ls hl hR hS)
theorem e_imul {x1 x2 : Int32} (hd : dc cc pc .imul 1 n) (k : E b0 D dA y cc nL ret R EX QF n lv (.int (x1 * x2) :: st) dm ad ct cells slots) : E b0 D dA y cc nL ret R EX QF pc lv (.int x2 :: .int x1 :: st) dm ad ct cells slots := by
  obtain ⟨hd, rfl⟩ := hd
  intro p l e s m args below meth c C H locs ls hl hR hS
  exact lv_imul C.1 C.2.1 hd  (k p l e s m args below meth c C H locs ls hl hR hS)
theorem e_iand {x1 x2 : Int32} (hd : dc cc pc .iand 1 n) (k : E b0 D dA y cc nL ret R EX QF n lv (.int (x1 &&& x2) :: st) dm ad ct cells slots) : E b0 D dA y cc nL ret R EX QF pc lv (.int x2 :: .int x1 :: st) dm ad ct cells slots := by
  obtain ⟨hd, rfl⟩ := hd
  intro p l e s m args below meth c C H locs ls hl hR hS
  exact lv_iand C.1 C.2.1 hd  (k p l e s m args below meth c C H locs ls hl hR hS)
theorem e_ior {x1 x2 : Int32} (hd : dc cc pc .ior 1 n) (k : E b0 D dA y cc nL ret R EX QF n lv (.int (x1 ||| x2) :: st) dm ad ct cells slots) : E b0 D dA y cc nL ret R EX QF pc lv (.int x2 :: .int x1 :: st) dm ad ct cells slots := by
  obtain ⟨hd, rfl⟩ := hd
  intro p l e s m args below meth c C H locs ls hl hR hS
  exact lv_ior C.1 C.2.1 hd  (k p l e s m args below meth c C H locs ls hl hR hS)
theorem e_ladd {x1 x2 : Int64} (hd : dc cc pc .ladd 1 n) (k : E b0 D dA y cc nL ret R EX QF n lv (.long (x1 + x2) :: st) dm ad ct cells slots) : E b0 D dA y cc nL ret R EX QF pc lv (.long x2 :: .long x1 :: st) dm ad ct cells slots := by
  obtain ⟨hd, rfl⟩ := hd
  intro p l e s m args below meth c C H locs ls hl hR hS
  exact lv_ladd C.1 C.2.1 hd  (k p l e s m args below meth c C H locs ls hl hR hS)
theorem e_lmul {x1 x2 : Int64} (hd : dc cc pc .lmul 1 n) (k : E b0 D dA y cc nL ret R EX QF n lv (.long (x1 * x2) :: st) dm ad ct cells slots) : E b0 D dA y cc nL ret R EX QF pc lv (.long x2 :: .long x1 :: st) dm ad ct cells slots := by
  obtain ⟨hd, rfl⟩ := hd
  intro p l e s m args below meth c C H locs ls hl hR hS
  exact lv_lmul C.1 C.2.1 hd  (k p l e s m args below meth c C H locs ls hl hR hS)
theorem e_land {x1 x2 : Int64} (hd : dc cc pc .land 1 n) (k : E b0 D dA y cc nL ret R EX QF n lv (.long (x1 &&& x2) :: st) dm ad ct cells slots) : E b0 D dA y cc nL ret R EX QF pc lv (.long x2 :: .long x1 :: st) dm ad ct cells slots := by
  obtain ⟨hd, rfl⟩ := hd
  intro p l e s m args below meth c C H locs ls hl hR hS
  exact lv_land C.1 C.2.1 hd  (k p l e s m args below meth c C H locs ls hl hR hS)
theorem e_lor {x1 x2 : Int64} (hd : dc cc pc .lor 1 n) (k : E b0 D dA y cc nL ret R EX QF n lv (.long (x1 ||| x2) :: st) dm ad ct cells slots) : E b0 D dA y cc nL ret R EX QF pc lv (.long x2 :: .long x1 :: st) dm ad ct cells slots := by
  obtain ⟨hd, rfl⟩ := hd
  intro p l e s m args below meth c C H locs ls hl hR hS
  exact lv_lor C.1 C.2.1 hd  (k p l e s m args below meth c C H locs ls hl hR hS)
theorem e_lxor {x1 x2 : Int64} (hd : dc cc pc .lxor 1 n) (k : E b0 D dA y cc nL ret R EX QF n lv (.long (x1 ^^^ x2) :: st) dm ad ct cells slots) : E b0 D dA y cc nL ret R EX QF pc lv (.long x2 :: .long x1 :: st) dm ad ct cells slots := by
  obtain ⟨hd, rfl⟩ := hd
  intro p l e s m args below meth c C H locs ls hl hR hS
  exact lv_lxor C.1 C.2.1 hd  (k p l e s m args below meth c C H locs ls hl hR hS)
theorem e_irem {x1 x2 : Int32} (hd : dc cc pc .irem 1 n) (hne : ¬ x2 = 0) (k : E b0 D dA y cc nL ret R EX QF n lv (.int (x1 - x1 / x2 * x2) :: st) dm ad ct cells slots) : E b0 D dA y cc nL ret R EX QF pc lv (.int x2 :: .int x1 :: st) dm ad ct cells slots := by
  obtain ⟨hd, rfl⟩ := hd
  intro p l e s m args below meth c C H locs ls hl hR hS
  exact lv_irem C.1 C.2.1 hd hne (k p l e s m args below meth c C H locs ls hl hR hS)
theorem e_lrem {x1 x2 : Int64} (hd : dc cc pc .lrem 1 n) (hne : ¬ x2 = 0) (k : E b0 D dA y cc nL ret R EX QF n lv (.long (x1 - x1 / x2 * x2) :: st) dm ad ct cells slots) : E b0 D dA y cc nL ret R EX QF pc lv (.long x2 :: .long x1 :: st) dm ad ct cells slots := by
  obtain ⟨hd, rfl⟩ := hd
  intro p l e s m args below meth c C H locs ls hl hR hS
  exact lv_lrem C.1 C.2.1 hd hne (k p l e s m args below meth c C H locs ls hl hR hS)
theorem e_i2l {x1 : Int32} (hd : dc cc pc .i2l 1 n) (k : E b0 D dA y cc nL ret R EX QF n lv (.long x1.toInt64 :: st) dm ad ct cells slots) : E b0 D dA y cc nL ret R EX QF pc lv (.int x1 :: st) dm ad ct cells slots := by
  obtain ⟨hd, rfl⟩ := hd
  intro p l e s m args below meth c C H locs ls hl hR hS
  exact lv_i2l C.1 C.2.1 hd rfl (k p l e s m args below meth c C H locs ls hl hR hS)
theorem e_l2i {x1 : Int64} (hd : dc cc pc .l2i 1 n) (k : E b0 D dA y cc nL ret R EX QF n lv (.int x1.toInt32 :: st) dm ad ct cells slots) : E b0 D dA y cc nL ret R EX QF pc lv (.long x1 :: st) dm ad ct cells slots := by
  obtain ⟨hd, rfl⟩ := hd
  intro p l e s m args below meth c C H locs ls hl hR hS
  exact lv_l2i C.1 C.2.1 hd rfl (k p l e s m args below meth c C H locs ls hl hR hS)
theorem e_lushr {x1 : Int64} {x2 : Int32} (hd : dc cc pc .lushr 1 n) (k : E b0 D dA y cc nL ret R EX QF n lv (.long (x1.toUInt64 >>> (x2.toInt64.toUInt64 &&& Int64.toUInt64 63)).toInt64 :: st) dm ad ct cells slots) : E b0 D dA y cc nL ret R EX QF pc lv (.int x2 :: .long x1 :: st) dm ad ct cells slots := by
  obtain ⟨hd, rfl⟩ := hd
  intro p l e s m args below meth c C H locs ls hl hR hS
  exact lv_lushr C.1 C.2.1 hd rfl (k p l e s m args below meth c C H locs ls hl hR hS)
theorem e_lshl {x1 : Int64} {x2 : Int32} (hd : dc cc pc .lshl 1 n) (k : E b0 D dA y cc nL ret R EX QF n lv (.long (x1 <<< (x2.toInt64 &&& 63)) :: st) dm ad ct cells slots) : E b0 D dA y cc nL ret R EX QF pc lv (.int x2 :: .long x1 :: st) dm ad ct cells slots := by
  obtain ⟨hd, rfl⟩ := hd
  intro p l e s m args below meth c C H locs ls hl hR hS
  exact lv_lshl C.1 C.2.1 hd rfl (k p l e s m args below meth c C H locs ls hl hR hS)
theorem e_lcmp {x1 x2 : Int64} (hd : dc cc pc .lcmp 1 n) (k : E b0 D dA y cc nL ret R EX QF n lv (.int (lg_cmp x1 x2) :: st) dm ad ct cells slots) : E b0 D dA y cc nL ret R EX QF pc lv (.long x2 :: .long x1 :: st) dm ad ct cells slots := by
  obtain ⟨hd, rfl⟩ := hd
  intro p l e s m args below meth c C H locs ls hl hR hS
  exact W.lcmp C.1 C.2.1 hd  (k p l e s m args below meth c C H locs ls hl hR hS)
theorem e_dup {v : Value} (hd : dc cc pc .dup 1 n) (k : E b0 D dA y cc nL ret R EX QF n lv (v :: v :: st) dm ad ct cells slots) (hv : v.category = 1 := by rfl) : E b0 D dA y cc nL ret R EX QF pc lv (v :: st) dm ad ct cells slots := by
  obtain ⟨hd, rfl⟩ := hd
  intro p l e s m args below meth c C H locs ls hl hR hS
  exact lv_dup C.1 C.2.1 hd hv (k p l e s m args below meth c C H locs ls hl hR hS)
theorem e_pop {v : Value} (hd : dc cc pc .pop 1 n) (k : E b0 D dA y cc nL ret R EX QF n lv (st) dm ad ct cells slots) (hv : v.category = 1 := by rfl) : E b0 D dA y cc nL ret R EX QF pc lv (v :: st) dm ad ct cells slots := by
  obtain ⟨hd, rfl⟩ := hd
  intro p l e s m args below meth c C H locs ls hl hR hS
  exact lv_pop C.1 C.2.1 hd hv (k p l e s m args below meth c C H locs ls hl hR hS)
theorem e_dup2 {v w : Value} (hd : dc cc pc .dup2 1 n) (k : E b0 D dA y cc nL ret R EX QF n lv (v :: w :: v :: w :: st) dm ad ct cells slots) (hv : v.category = 1 := by rfl) (hw : w.category = 1 := by rfl) : E b0 D dA y cc nL ret R EX QF pc lv (v :: w :: st) dm ad ct cells slots := by
  obtain ⟨hd, rfl⟩ := hd
  intro p l e s m args below meth c C H locs ls hl hR hS
  exact lv_dup2_11 C.1 C.2.1 hd hv hw (k p l e s m args below meth c C H locs ls hl hR hS)
theorem e_null (hd : dc cc pc .aconst_null 1 n) (k : E b0 D dA y cc nL ret R EX QF n lv (.null :: st) dm ad ct cells slots) : E b0 D dA y cc nL ret R EX QF pc lv (st) dm ad ct cells slots := by
  obtain ⟨hd, rfl⟩ := hd
  intro p l e s m args below meth c C H locs ls hl hR hS
  exact lv_null C.1 C.2.1 hd (k p l e s m args below meth c C H locs ls hl hR hS)
theorem e_goto (hd : dj cc pc .goto t n) (k : E b0 D dA y cc nL ret R EX QF t lv (st) dm ad ct cells slots) : E b0 D dA y cc nL ret R EX QF pc lv (st) dm ad ct cells slots := by
  obtain ⟨off, hd, ht, rfl⟩ := hd
  intro p l e s m args below meth c C H locs ls hl hR hS
  exact lv_goto C.1 C.2.1 hd ht (k p l e s m args below meth c C H locs ls hl hR hS)
theorem e_icmp_eq {x1 x2 : Int32} (hd : dj cc pc (.if_icmp .eq) t n) (kt : x1 = x2 → E b0 D dA y cc nL ret R EX QF t lv (st) dm ad ct cells slots) (kf : ¬ x1 = x2 → E b0 D dA y cc nL ret R EX QF n lv (st) dm ad ct cells slots) : E b0 D dA y cc nL ret R EX QF pc lv (.int x2 :: .int x1 :: st) dm ad ct cells slots := by
  obtain ⟨off, hd, ht, rfl⟩ := hd
  intro p l e s m args below meth c C H locs ls hl hR hS
  exact lv_icmp_eq C.1 C.2.1 hd ht (fun q => kt q p l e s m args below meth c C H locs ls hl hR hS) (fun q => kf q p l e s m args below meth c C H locs ls hl hR hS)
theorem e_if_eq {x1 : Int32} (hd : dj cc pc (.ifCond .eq) t n) (kt : x1 = 0 → E b0 D dA y cc nL ret R EX QF t lv (st) dm ad ct cells slots) (kf : ¬ x1 = 0 → E b0 D dA y cc nL ret R EX QF n lv (st) dm ad ct cells slots) : E b0 D dA y cc nL ret R EX QF pc lv (.int x1 :: st) dm ad ct cells slots := by
  obtain ⟨off, hd, ht, rfl⟩ := hd
  intro p l e s m args below meth c C H locs ls hl hR hS
  exact lv_if_eq C.1 C.2.1 hd ht (fun q => kt q p l e s m args below meth c C H locs ls hl hR hS) (fun q => kf q p l e s m args below meth c C H locs ls hl hR hS)
theorem e_icmp_ne {x1 x2 : Int32} (hd : dj cc pc (.if_icmp .ne) t n) (kt : ¬ x1 = x2 → E b0 D dA y cc nL ret R EX QF t lv (st) dm ad ct cells slots) (kf : x1 = x2 → E b0 D dA y cc nL ret R EX QF n lv (st) dm ad ct cells slots) : E b0 D dA y cc nL ret R EX QF pc lv (.int x2 :: .int x1 :: st) dm ad ct cells slots := by
  obtain ⟨off, hd, ht, rfl⟩ := hd
  intro p l e s m args below meth c C H locs ls hl hR hS
  exact lv_icmp_ne C.1 C.2.1 hd ht (fun q => kt q p l e s m args below meth c C H locs ls hl hR hS) (fun q => kf q p l e s m args below meth c C H locs ls hl hR hS)
theorem e_if_ne {x1 : Int32} (hd : dj cc pc (.ifCond .ne) t n) (kt : ¬ x1 = 0 → E b0 D dA y cc nL ret R EX QF t lv (st) dm ad ct cells slots) (kf : x1 = 0 → E b0 D dA y cc nL ret R EX QF n lv (st) dm ad ct cells slots) : E b0 D dA y cc nL ret R EX QF pc lv (.int x1 :: st) dm ad ct cells slots := by
  obtain ⟨off, hd, ht, rfl⟩ := hd
  intro p l e s m args below meth c C H locs ls hl hR hS
  exact lv_if_ne C.1 C.2.1 hd ht (fun q => kt q p l e s m args below meth c C H locs ls hl hR hS) (fun q => kf q p l e s m args below meth c C H locs ls hl hR hS)
theorem e_icmp_lt {x1 x2 : Int32} (hd : dj cc pc (.if_icmp .lt) t n) (kt : x1 < x2 → E b0 D dA y cc nL ret R EX QF t lv (st) dm ad ct cells slots) (kf : ¬ x1 < x2 → E b0 D dA y cc nL ret R EX QF n lv (st) dm ad ct cells slots) : E b0 D dA y cc nL ret R EX QF pc lv (.int x2 :: .int x1 :: st) dm ad ct cells slots := by
  obtain ⟨off, hd, ht, rfl⟩ := hd
  intro p l e s m args below meth c C H locs ls hl hR hS
  exact lv_icmp_lt C.1 C.2.1 hd ht (fun q => kt q p l e s m args below meth c C H locs ls hl hR hS) (fun q => kf q p l e s m args below meth c C H locs ls hl hR hS)
theorem e_if_lt {x1 : Int32} (hd : dj cc pc (.ifCond .lt) t n) (kt : x1 < 0 → E b0 D dA y cc nL ret R EX QF t lv (st) dm ad ct cells slots) (kf : ¬ x1 < 0 → E b0 D dA y cc nL ret R EX QF n lv (st) dm ad ct cells slots) : E b0 D dA y cc nL ret R EX QF pc lv (.int x1 :: st) dm ad ct cells slots := by
  obtain ⟨off, hd, ht, rfl⟩ := hd
  intro p l e s m args below meth c C H locs ls hl hR hS
  exact lv_if_lt C.1 C.2.1 hd ht (fun q => kt q p l e s m args below meth c C H locs ls hl hR hS) (fun q => kf q p l e s m args below meth c C H locs ls hl hR hS)
theorem e_icmp_ge {x1 x2 : Int32} (hd : dj cc pc (.if_icmp .ge) t n) (kt : x2 ≤ x1 → E b0 D dA y cc nL ret R EX QF t lv (st) dm ad ct cells slots) (kf : ¬ x2 ≤ x1 → E b0 D dA y cc nL ret R EX QF n lv (st) dm ad ct cells slots) : E b0 D dA y cc nL ret R EX QF pc lv (.int x2 :: .int x1 :: st) dm ad ct cells slots := by
  obtain ⟨off, hd, ht, rfl⟩ := hd
  intro p l e s m args below meth c C H locs ls hl hR hS
  exact lv_icmp_ge C.1 C.2.1 hd ht (fun q => kt q p l e s m args below meth c C H locs ls hl hR hS) (fun q => kf q p l e s m args below meth c C H locs ls hl hR hS)
theorem e_if_ge {x1 : Int32} (hd : dj cc pc (.ifCond .ge) t n) (kt : 0 ≤ x1 → E b0 D dA y cc nL ret R EX QF t lv (st) dm ad ct cells slots) (kf : ¬ 0 ≤ x1 → E b0 D dA y cc nL ret R EX QF n lv (st) dm ad ct cells slots) : E b0 D dA y cc nL ret R EX QF pc lv (.int x1 :: st) dm ad ct cells slots := by
  obtain ⟨off, hd, ht, rfl⟩ := hd
  intro p l e s m args below meth c C H locs ls hl hR hS
  exact lv_if_ge C.1 C.2.1 hd ht (fun q => kt q p l e s m args below meth c C H locs ls hl hR hS) (fun q => kf q p l e s m args below meth c C H locs ls hl hR hS)
theorem e_icmp_gt {x1 x2 : Int32} (hd : dj cc pc (.if_icmp .gt) t n) (kt : x2 < x1 → E b0 D dA y cc nL ret R EX QF t lv (st) dm ad ct cells slots) (kf : ¬ x2 < x1 → E b0 D dA y cc nL ret R EX QF n lv (st) dm ad ct cells slots) : E b0 D dA y cc nL ret R EX QF pc lv (.int x2 :: .int x1 :: st) dm ad ct cells slots := by
  obtain ⟨off, hd, ht, rfl⟩ := hd
  intro p l e s m args below meth c C H locs ls hl hR hS
  exact lv_icmp_gt C.1 C.2.1 hd ht (fun q => kt q p l e s m args below meth c C H locs ls hl hR hS) (fun q => kf q p l e s m args below meth c C H locs ls hl hR hS)
theorem e_if_gt {x1 : Int32} (hd : dj cc pc (.ifCond .gt) t n) (kt : 0 < x1 → E b0 D dA y cc nL ret R EX QF t lv (st) dm ad ct cells slots) (kf : ¬ 0 < x1 → E b0 D dA y cc nL ret R EX QF n lv (st) dm ad ct cells slots) : E b0 D dA y cc nL ret R EX QF pc lv (.int x1 :: st) dm ad ct cells slots := by
  obtain ⟨off, hd, ht, rfl⟩ := hd
  intro p l e s m args below meth c C H locs ls hl hR hS
  exact lv_if_gt C.1 C.2.1 hd ht (fun q => kt q p l e s m args below meth c C H locs ls hl hR hS) (fun q => kf q p l e s m args below meth c C H locs ls hl hR hS)
theorem e_icmp_le {x1 x2 : Int32} (hd : dj cc pc (.if_icmp .le) t n) (kt : x1 ≤ x2 → E b0 D dA y cc nL ret R EX QF t lv (st) dm ad ct cells slots) (kf : ¬ x1 ≤ x2 → E b0 D dA y cc nL ret R EX QF n lv (st) dm ad ct cells slots) : E b0 D dA y cc nL ret R EX QF pc lv (.int x2 :: .int x1 :: st) dm ad ct cells slots := by
  obtain ⟨off, hd, ht, rfl⟩ := hd
  intro p l e s m args below meth c C H locs ls hl hR hS
  exact lv_icmp_le C.1 C.2.1 hd ht (fun q => kt q p l e s m args below meth c C H locs ls hl hR hS) (fun q => kf q p l e s m args below meth c C H locs ls hl hR hS)
theorem e_if_le {x1 : Int32} (hd : dj cc pc (.ifCond .le) t n) (kt : x1 ≤ 0 → E b0 D dA y cc nL ret R EX QF t lv (st) dm ad ct cells slots) (kf : ¬ x1 ≤ 0 → E b0 D dA y cc nL ret R EX QF n lv (st) dm ad ct cells slots) : E b0 D dA y cc nL ret R EX QF pc lv (.int x1 :: st) dm ad ct cells slots := by
  obtain ⟨off, hd, ht, rfl⟩ := hd
  intro p l e s m args below meth c C H locs ls hl hR hS
  exact lv_if_le C.1 C.2.1 hd ht (fun q => kt q p l e s m args below meth c C H locs ls hl hR hS) (fun q => kf q p l e s m args below meth c C H locs ls hl hR hS)
theorem e_acmp_ne {r1 r2 : Option Nat} (hd : dj cc pc (.if_acmp .ne) t n) (kt : ¬ r1 = r2 → E b0 D dA y cc nL ret R EX QF t lv (st) dm ad ct cells slots) (kf : r1 = r2 → E b0 D dA y cc nL ret R EX QF n lv (st) dm ad ct cells slots) : E b0 D dA y cc nL ret R EX QF pc lv (va_rf r2 :: va_rf r1 :: st) dm ad ct cells slots := by
  obtain ⟨off, hd, ht, rfl⟩ := hd
  intro p l e s m args below meth c C H locs ls hl hR hS
  exact lv_acmp_ne C.1 C.2.1 hd ht (fun q => kt q p l e s m args below meth c C H locs ls hl hR hS) (fun q => kf q p l e s m args below meth c C H locs ls hl hR hS)
theorem e_ifnull {r : Option Nat} (hd : dj cc pc .ifnull t n) (kt : r = none → E b0 D dA y cc nL ret R EX QF t lv (st) dm ad ct cells slots) (kf : ∀ a, r = some a → E b0 D dA y cc nL ret R EX QF n lv (st) dm ad ct cells slots) : E b0 D dA y cc nL ret R EX QF pc lv (va_rf r :: st) dm ad ct cells slots := by
  obtain ⟨off, hd, ht, rfl⟩ := hd
  intro p l e s m args below meth c C H locs ls hl hR hS
  cases r with
  | none => exact lv_ifnullN C.1 C.2.1 hd ht (kt rfl p l e s m args below meth c C H locs ls hl hR hS)
  | some a => exact lv_ifnull C.1 C.2.1 hd (kf a rfl p l e s m args below meth c C H locs ls hl hR hS)
theorem e_ifnonnull {r : Option Nat} (hd : dj cc pc .ifnonnull t n) (kt : ∀ a, r = some a → E b0 D dA y cc nL ret R EX QF t lv (st) dm ad ct cells slots) (kf : r = none → E b0 D dA y cc nL ret R EX QF n lv (st) dm ad ct cells slots) : E b0 D dA y cc nL ret R EX QF pc lv (va_rf r :: st) dm ad ct cells slots := by
  obtain ⟨off, hd, ht, rfl⟩ := hd
  intro p l e s m args below meth c C H locs ls hl hR hS
  cases r with
  | none => exact lv_ifnonnullN C.1 C.2.1 hd (kf rfl p l e s m args below meth c C H locs ls hl hR hS)
  | some a => exact lv_ifnonnull C.1 C.2.1 hd ht (kt a rfl p l e s m args below meth c C H locs ls hl hR hS)
theorem e_tab {dflt lo hi : Int} {offs : Array Int} {len : Nat} {x : Int32} {off : Int} (hd : dc cc pc (.tableswitch dflt lo hi offs) len n) (h1 : lo ≤ x.toInt) (h2 : x.toInt ≤ hi) (ho : offs[(x.toInt - lo).toNat]? = some off) (ht : (pc : Int) + off = (t : Int)) (k : E b0 D dA y cc nL ret R EX QF t lv (st) dm ad ct cells slots) : E b0 D dA y cc nL ret R EX QF pc lv (.int x :: st) dm ad ct cells slots := by
  obtain ⟨hd, rfl⟩ := hd
  intro p l e s m args below meth c C H locs ls hl hR hS
  exact lv_tableIn C.1 C.2.1 hd (by omega) (by omega) ho ht (k p l e s m args below meth c C H locs ls hl hR hS)
theorem e_tabD {dflt lo hi : Int} {offs : Array Int} {len : Nat} {x : Int32} (hd : dc cc pc (.tableswitch dflt lo hi offs) len n) (h : x.toInt < lo ∨ hi < x.toInt) (ht : (pc : Int) + dflt = (t : Int)) (k : E b0 D dA y cc nL ret R EX QF t lv (st) dm ad ct cells slots) : E b0 D dA y cc nL ret R EX QF pc lv (.int x :: st) dm ad ct cells slots := by
  obtain ⟨hd, rfl⟩ := hd
  intro p l e s m args below meth c C H locs ls hl hR hS
  exact lv_tableOut C.1 C.2.1 hd h ht (k p l e s m args below meth c C H locs ls hl hR hS)
theorem e_look {dflt : Int} {ps : Array (Int × Int)} {len : Nat} {x : Int32} {off : Int} (hd : dc cc pc (.lookupswitch dflt ps) len n) (hp : (ps.toList.zip (ps.toList.drop 1)).all (fun (a, next) => a.1 < next.1) = true) (ho : Op.lookupswitch.offset ps.toList dflt x.toInt = off) (ht : (pc : Int) + off = (t : Int)) (k : E b0 D dA y cc nL ret R EX QF t lv (st) dm ad ct cells slots) : E b0 D dA y cc nL ret R EX QF pc lv (.int x :: st) dm ad ct cells slots := by
  obtain ⟨hd, rfl⟩ := hd
  intro p l e s m args below meth c C H locs ls hl hR hS
  exact lv_lookup C.1 C.2.1 hd hp ho ht (k p l e s m args below meth c C H locs ls hl hR hS)
theorem e_ldc {idx : Nat} {v : Int32} (hd : dc cc pc (.ldc idx) 2 n) (hw : Cond.constant y.cls idx v ∈ gT) (k : E b0 D dA y cc nL ret R EX QF n lv (.int v :: st) dm ad ct cells slots) : E b0 D dA y cc nL ret R EX QF pc lv (st) dm ad ct cells slots := by
  obtain ⟨hd, rfl⟩ := hd
  intro p l e s m args below meth c C H locs ls hl hR hS
  exact lv_ldc C.1 C.2.1 C.2.2.2.2.1 (C.2.2.2.2.2.1 _ hw) hd (k p l e s m args below meth c C H locs ls hl hR hS)
theorem e_ldc2 {idx : Nat} {v : Int64} (hd : dc cc pc (.ldc2_w idx) 3 n) (hw : Cond.constantLong y.cls idx v ∈ gT) (k : E b0 D dA y cc nL ret R EX QF n lv (.long v :: st) dm ad ct cells slots) : E b0 D dA y cc nL ret R EX QF pc lv (st) dm ad ct cells slots := by
  obtain ⟨hd, rfl⟩ := hd
  intro p l e s m args below meth c C H locs ls hl hR hS
  exact lv_ldc2 C.1 C.2.1 C.2.2.2.2.1 (C.2.2.2.2.2.1 _ hw) hd (k p l e s m args below meth c C H locs ls hl hR hS)
end ER
end
section
/-! ===== cells of the pool: reading, writing, making ===== -/
def u2 {α : Type} (f : Nat → Nat → α) (k i : Nat) (v : α) : Nat → Nat → α := fun k' i' => match Nat.beq k' k with
  | true => (match Nat.beq i' i with
    | true => v
    | false => f k' i')
  | false => f k' i'
theorem u2_s {α : Type} {f : Nat → Nat → α} {k i : Nat} {v : α} : u2 f k i v k i = v := by
  unfold u2
  rw [Nat.beq_refl, Nat.beq_refl]
theorem u2_n {α : Type} {f : Nat → Nat → α} {k i k' i' : Nat} {v : α} (h : ¬ (k' = k ∧ i' = i)) : u2 f k i v k' i' = f k' i' := by
  unfold u2
  split
  · rename_i hb
    split
    · rename_i hb2
      exact absurd ⟨Nat.eq_of_beq_eq_true hb, Nat.eq_of_beq_eq_true hb2⟩ h
    · rfl
  · rfl
def dmU (dm : Nat → Nat → Prop) (k i : Nat) : Nat → Nat → Prop := fun k' i' => dm k' i' ∨ (k' = k ∧ i' = i)
theorem Rl.put {b0 : Nat} {D : va_G} {dm : Nat → Nat → Prop} {ad : Nat → Nat → Nat} {ct ct' : Nat → Nat → va_E} {H H1 : Heap} {k i : Nat} (h : Rl b0 D dm ad ct H) (hk : dm k i) (hz : H1.size = H.size) (ha : va_at D eCl (ad k i, ct' k i) H1) (oq : ∀ q : Nat, q ≠ ad k i → H1[q]? = H[q]?) (ho : ∀ k' i', dm k' i' → ¬ (k' = k ∧ i' = i) → ct' k' i' = ct k' i') : Rl b0 D dm ad ct' H1 := by
  refine ⟨by rw [hz]; exact h.1, fun k' i' hd => ?_, h.2.2⟩
  obtain ⟨h1, h2⟩ := h.2.1 k' i' hd
  by_cases hq : k' = k ∧ i' = i
  · obtain ⟨rfl, rfl⟩ := hq
    exact ⟨ha, h2⟩
  · refine ⟨?_, h2⟩
    rw [ho k' i' hd hq]
    exact h1.kept (oq _ (fun z => hq (h.2.2 k' i' k i hd hk z)))
theorem Rl.new {b0 : Nat} {D : va_G} {dm : Nat → Nat → Prop} {ad : Nat → Nat → Nat} {ct : Nat → Nat → va_E} {H H1 : Heap} {e : va_E} (k i : Nat) (h : Rl b0 D dm ad ct H) (hz : H1.size = H.size + 1) (ha : va_at D eCl (H.size, e) H1) (oq : ∀ q : Nat, q < H.size → H1[q]? = H[q]?) : Rl b0 D (dmU dm k i) (u2 ad k i H.size) (u2 ct k i e) H1 := by
  have hlt : ∀ k' i', dm k' i' → ad k' i' < H.size := fun k' i' hd => (h.2.1 k' i' hd).1.lt
  have hold : ∀ k' i', dmU dm k i k' i' → ¬ (k' = k ∧ i' = i) → dm k' i' := fun k' i' hd hn => hd.elim id (fun q => absurd q hn)
  refine ⟨by rw [hz]; exact Nat.le_succ_of_le h.1, fun k' i' hd => ?_, fun k1 i1 k2 i2 h1 h2 he => ?_⟩
  · by_cases hq : k' = k ∧ i' = i
    · obtain ⟨rfl, rfl⟩ := hq
      rw [u2_s, u2_s]
      exact ⟨ha, h.1⟩
    · rw [u2_n hq, u2_n hq]
      have hd' := hold k' i' hd hq
      exact ⟨(h.2.1 k' i' hd').1.kept (oq _ (hlt k' i' hd')), (h.2.1 k' i' hd').2⟩
  · by_cases q1 : k1 = k ∧ i1 = i <;> by_cases q2 : k2 = k ∧ i2 = i
    · obtain ⟨rfl, rfl⟩ := q1
      obtain ⟨rfl, rfl⟩ := q2
      exact ⟨rfl, rfl⟩
    · obtain ⟨rfl, rfl⟩ := q1
      rw [u2_s, u2_n q2] at he
      have := hlt k2 i2 (hold k2 i2 h2 q2)
      omega
    · obtain ⟨rfl, rfl⟩ := q2
      rw [u2_s, u2_n q1] at he
      have := hlt k1 i1 (hold k1 i1 h1 q1)
      omega
    · rw [u2_n q1, u2_n q2] at he
      exact h.2.2 k1 i1 k2 i2 (hold k1 i1 h1 q1) (hold k2 i2 h2 q2) he
theorem Rl.conv {b0 : Nat} {D : va_G} {dm dm' : Nat → Nat → Prop} {ad ad' : Nat → Nat → Nat} {ct ct' : Nat → Nat → va_E} {H : Heap} (h : Rl b0 D dm ad ct H) (hc : ∀ k i, dm' k i → dm k i ∧ ad k i = ad' k i ∧ ct k i = ct' k i) : Rl b0 D dm' ad' ct' H := by
  refine ⟨h.1, fun k i hd => ?_, fun k1 i1 k2 i2 h1 h2 he => ?_⟩
  · obtain ⟨g1, g2, g3⟩ := hc k i hd
    rw [← g2, ← g3]
    exact h.2.1 k i g1
  · obtain ⟨g1, g2, -⟩ := hc k1 i1 h1
    obtain ⟨f1, f2, -⟩ := hc k2 i2 h2
    exact h.2.2 k1 i1 k2 i2 g1 f1 (by rw [g2, f2]; exact he)
/-- a field of class number ci, slot j, as the constant pool of class own names it at idx -/
def FG (own : String) (idx ci j : Nat) : Prop := ∃ (C : String) (T : u_T) (N : Nat) (ref : String), eCl[ci]? = some (C, T, N) ∧ j < N ∧ (∀ w ∈ u_ws C T N, w ∈ gT) ∧ Cond.fieldLink own idx ref (T j).2.1 (T j).2.2.1 ∈ gT ∧ (ref = (T j).1 ∨ Cond.sameField ref (T j).1 (T j).2.1 (T j).2.2.1 ∈ gT)
def FP (own : String) (idx ci j : Nat) (ty : FieldType) (fin : Bool) : Prop := ∃ (C : String) (T : u_T) (N : Nat) (ref : String) (ty0 : Nat → FieldType), eCl[ci]? = some (C, T, N) ∧ j < N ∧ (∀ w ∈ u_ws C T N, w ∈ gT) ∧ Cond.fieldLink own idx ref (T j).2.1 (T j).2.2.1 ∈ gT ∧ ref = (T j).1 ∧ (∀ k, k < N → parseFieldDescriptor (T k).2.2.1 = some (ty0 k)) ∧ (∀ a, a < N → ∀ b, b < N → a ≠ b → (T a).2.1 ≠ (T b).2.1) ∧ (T j).2.2.2 = fin ∧ parseFieldDescriptor (T j).2.2.1 = some ty ∧ (fin = true → (T j).1 = own)
/-- a class that 'new' at idx makes: N fields, fs at first -/
def FN (own : String) (idx ci N : Nat) (fs : List Value) : Prop := ∃ (C : String) (T : u_T) (ty0 : Nat → FieldType), eCl[ci]? = some (C, T, N) ∧ (∀ w ∈ u_ws C T N, w ∈ gT) ∧ (∀ k, k < N → parseFieldDescriptor (T k).2.2.1 = some (ty0 k)) ∧ Cond.classLink own idx C ∈ gT ∧ Cond.instantiable C N ∈ gT ∧ Cond.initialized C ∈ gT ∧ (∀ j, j < N → defaultValue (ty0 j) = vp_V fs j)
section EH
variable {b0 : Nat} {D : va_G} {dA : Nat → ClassId} {y : MethodName} {cc : ByteArray} {nL : Nat} {ret : Option FieldType} {R : Room} {EX : Array Value → State → Prop} {QF : List Frame → Array Value → State → State → Prop} {pc n t : Nat} {lv : Nat → Option Value} {st : List Value} {dm dm' : Nat → Nat → Prop} {ad ad' : Nat → Nat → Nat} {ct ct' : Nat → Nat → va_E} {cells slots : Nat}
theorem e_conv (hc : ∀ k i, dm' k i → dm k i ∧ ad k i = ad' k i ∧ ct k i = ct' k i) (kk : E b0 D dA y cc nL ret R EX QF pc lv (st) dm' ad' ct' cells slots) : E b0 D dA y cc nL ret R EX QF pc lv (st) dm ad ct cells slots := by
  intro p l e s m args below meth c C H locs ls hl hR hS
  exact kk p l e s m args below meth c C H locs ls hl (hR.conv hc) hS
theorem e_lv {lv' : Nat → Option Value} (h : ∀ i v, lv' i = some v → lv i = some v) (kk : E b0 D dA y cc nL ret R EX QF pc lv' (st) dm ad ct cells slots) : E b0 D dA y cc nL ret R EX QF pc lv (st) dm ad ct cells slots := by
  intro p l e s m args below meth c C H locs ls hl hR hS
  exact kk p l e s m args below meth c C H locs ls ⟨hl.1, hl.2.1, fun i v q => hl.2.2 i v (h i v q)⟩ hR hS
theorem e_wide {c' s' : Nat} (h1 : cells ≤ c') (h2 : slots ≤ s') (kk : E b0 D dA y cc nL ret R EX QF pc lv (st) dm ad ct c' s') : E b0 D dA y cc nL ret R EX QF pc lv (st) dm ad ct cells slots := by
  intro p l e s m args below meth c C H locs ls hl hR hS
  exact W.widen h1 h2 (kk p l e s m args below meth c C H locs ls hl hR hS)
/-- what is known of the pool may be used: two cells at one address are one -/
theorem e_inj (kk : (∀ k i k' i', dm k i → dm k' i' → ad k i = ad k' i' → k = k' ∧ i = i') → E b0 D dA y cc nL ret R EX QF pc lv (st) dm ad ct cells slots) : E b0 D dA y cc nL ret R EX QF pc lv (st) dm ad ct cells slots := by
  intro p l e s m args below meth c C H locs ls hl hR hS
  exact kk hR.2.2 p l e s m args below meth c C H locs ls hl hR hS
theorem e_getf {idx k i ci j : Nat} {fs : List Value} {v : Value} (hd : dc cc pc (.getfield idx) 3 n) (hg : FG y.cls idx ci j) (hk : dm k i) (he : ct k i = .inr (ci, fs)) (hv : fs[j]? = some v) (kk : E b0 D dA y cc nL ret R EX QF n lv (v :: st) dm ad ct cells slots) : E b0 D dA y cc nL ret R EX QF pc lv (.ref (ad k i) :: st) dm ad ct cells slots := by
  obtain ⟨hd, rfl⟩ := hd
  intro p l e s m args below meth c C H locs ls hl hR hS
  obtain ⟨Cn, T, N, ref, hc, hj, hin, hlink, hsame⟩ := hg
  obtain ⟨ha, -⟩ := hR.2.1 k i hk
  rw [he] at ha
  have hts := C.2.2.2.2.2.1
  have hP : va_P D eCl [(ad k i, .inr (ci, fs))] H := fun z q hz => by
    have hz0 : z < 1 := (List.getElem?_eq_some_iff.mp hz).1
    rw [show z = 0 by omega] at hz
    cases hz
    exact ha
  refine va_get C.1 C.2.1 hts hin C.2.2.2.2.1 C.2.2.2.2.2.2.2.2.1.1 hP 0 rfl hc j hj (hts _ hlink) ?_ hv hd (kk p l e s m args below meth c C H locs ls hl hR hS)
  rcases hsame with rfl | hsame
  · exact fun _ h => h
  · exact u_same (hts _ hsame)
theorem e_putf {idx k i ci j : Nat} {fs : List Value} {v : Value} {ty : FieldType} (ct' : Nat → Nat → va_E) (hd : dc cc pc (.putfield idx) 3 n) (hg : FP y.cls idx ci j ty false) (hk : dm k i) (he : ct k i = .inr (ci, fs)) (hn : narrow ty v = v) (hf : fits ty v = true) (hl0 : j < fs.length) (hs : ct' k i = .inr (ci, fs.set j v)) (ho : ∀ k' i', dm k' i' → ¬ (k' = k ∧ i' = i) → ct' k' i' = ct k' i') (kk : E b0 D dA y cc nL ret R EX QF n lv (st) dm ad ct' cells slots) : E b0 D dA y cc nL ret R EX QF pc lv (v :: .ref (ad k i) :: st) dm ad ct cells slots := by
  obtain ⟨hd, rfl⟩ := hd
  intro p l e s m args below meth c C H locs ls hl hR hS
  obtain ⟨Cn, T, N, ref, ty0, hc, hj, hin, hlink, rfl, hty, hnm, hfin, hd0, -⟩ := hg
  obtain ⟨ha, hb0⟩ := hR.2.1 k i hk
  rw [he] at ha
  have hts := C.2.2.2.2.2.1
  have hK := C.2.2.2.2.2.2.2.2.1.1
  have hap := va_apart (own := y.cls) hts hin ty0 hty hnm hK hc
  obtain ⟨r, h1, cell, q1, q2, q3, q4⟩ := ha
  have hr : r = (Cn, T, N) := Option.some.inj (h1.symm.trans hc)
  subst hr
  obtain ⟨hS0, hfc, kC, hkC, hkind⟩ := hK.1 ci _ hc
  obtain ⟨cf, kf, fi, f, hi, hsl⟩ := hS0 j hj
  have hlay := hts _ (hin _ (u_in_lay hj))
  unfold u_lay at hlay
  rw [if_neg (by rw [hfin]; decide)] at hlay
  have hst := (u_facts hfc hkC (u_lays hts hin hj) hi).1
  have h6 := u_store hfc hkC hkind hlay hi hd0 hn hf
  refine W.putK C.1 C.2.1 (f := f) ⟨C.2.2.2.2.1, hts _ hlink, ⟨_, _, _, hi⟩, hst⟩ (by rw [q2]; exact h6) q1 q3 (by rw [hsl]; exact k2_hasslot (q4 j hj)) rfl rfl hd fun H' e1 e2 e3 => ?_
  rw [hsl] at e1 ⊢
  refine kk p l e s m args below meth c C H' _ ls hl (hR.put hk e2 ?_ e3 ho) (hS.put e2 e3 hb0)
  rw [hs]
  exact ⟨_, hc, t_OB.to (V := updV (vp_V fs) j v) ⟨_, e1, q2, q3, t_set q4 hap hj v⟩ (fun z _ => vp_updV_set hl0 v z)⟩
theorem e_putF {idx k i ci j : Nat} {fs : List Value} {v : Value} {ty : FieldType} (ct' : Nat → Nat → va_E) (hd : dc cc pc (.putfield idx) 3 n) (hg : FP y.cls idx ci j ty true) (hini : y.name = "<init>") (hk : dm k i) (he : ct k i = .inr (ci, fs)) (hn : narrow ty v = v) (hf : fits ty v = true) (hl0 : j < fs.length) (hs : ct' k i = .inr (ci, fs.set j v)) (ho : ∀ k' i', dm k' i' → ¬ (k' = k ∧ i' = i) → ct' k' i' = ct k' i') (kk : E b0 D dA y cc nL ret R EX QF n lv (st) dm ad ct' cells slots) : E b0 D dA y cc nL ret R EX QF pc lv (v :: .ref (ad k i) :: st) dm ad ct cells slots := by
  obtain ⟨hd, rfl⟩ := hd
  intro p l e s m args below meth c C H locs ls hl hR hS
  obtain ⟨Cn, T, N, ref, ty0, hc, hj, hin, hlink, rfl, hty, hnm, hfin, hd0, hdecl⟩ := hg
  have hdecl := hdecl rfl
  obtain ⟨ha, hb0⟩ := hR.2.1 k i hk
  rw [he] at ha
  have hts := C.2.2.2.2.2.1
  have hown := C.2.2.2.2.1
  have hin2 : meth.name = "<init>" := C.2.2.2.2.2.2.2.1.trans hini
  have hK := C.2.2.2.2.2.2.2.2.1.1
  have hap := va_apart (own := y.cls) hts hin ty0 hty hnm hK hc
  obtain ⟨r, h1, cell, q1, q2, q3, q4⟩ := ha
  have hr : r = (Cn, T, N) := Option.some.inj (h1.symm.trans hc)
  subst hr
  obtain ⟨hS0, hfc, kC, hkC, hkind⟩ := hK.1 ci _ hc
  obtain ⟨cf, kf, fi, f, hi, hsl⟩ := hS0 j hj
  have hlay := hts _ (hin _ (u_in_lay hj))
  unfold u_lay at hlay
  rw [if_pos hfin] at hlay
  have hst := (u_facts hfc hkC (u_lays hts hin hj) hi).1
  have hcf : m.cls = cf := by
    obtain ⟨_, _, c', _, _, _, -, -, hf', -, -, -, hown2, -⟩ := Cond.laysFinal_spec hlay
    have e1 : c' = cf := by have := hi.symm.trans hf'; simp at this; exact this.1.symm
    rw [hdecl] at hown2
    rw [← e1]; exact Option.some.inj (hown.symm.trans hown2)
  have h6 := u_fits hfc hkC hkind (Or.inr hlay) hi hd0 hn hf
  refine W.putFinK C.1 C.2.1 hown (hts _ hlink) hi hst hcf hin2 (by rw [q2]; exact h6) q1 q3 (by rw [hsl]; exact k2_hasslot (q4 j hj)) rfl rfl hd fun H' e1 e2 e3 => ?_
  rw [hsl] at e1 ⊢
  refine kk p l e s m args below meth c C H' _ ls hl (hR.put hk e2 ?_ e3 ho) (hS.put e2 e3 hb0)
  rw [hs]
  exact ⟨_, hc, t_OB.to (V := updV (vp_V fs) j v) ⟨_, e1, q2, q3, t_set q4 hap hj v⟩ (fun z _ => vp_updV_set hl0 v z)⟩
theorem e_iald {k i N : Nat} {f : Nat → Int32} {x : Int32} (hd : dc cc pc .iaload 1 n) (hk : dm k i) (he : ct k i = .inl (dA 0, N, .inl f)) (hin : vp_in x N) (kk : E b0 D dA y cc nL ret R EX QF n lv (.int (f x.toNatClampNeg) :: st) dm ad ct cells slots) : E b0 D dA y cc nL ret R EX QF pc lv (.int x :: .ref (ad k i) :: st) dm ad ct cells slots := by
  obtain ⟨hd, rfl⟩ := hd
  intro p l e s m args below meth c C H locs ls hl hR hS
  have ha := (hR.2.1 k i hk).1
  rw [he] at ha
  have hlt : x.toNatClampNeg < N := Nat.not_le.mp fun q => hin (Or.inr q)
  exact W.iald (v := .int (f x.toNatClampNeg)) C.1 C.2.1 ha ((C.2.2.2.2.2.2.2.2.1.1.2 0 _ rfl).1 N (fun j => .int (f j))) (fun q => by cases q) (by show ¬ (x < 0 ∨ (arrV _ _ _).slots.size ≤ _); rw [arrV_size]; exact hin) (by show (arrV _ _ _).slots[_]? = _; rw [arrV_read _ _ hlt]) rfl rfl hd (kk p l e s m args below meth c C H locs ls hl hR hS)
theorem e_lald {k i N : Nat} {f : Nat → Int64} {x : Int32} (hd : dc cc pc .laload 1 n) (hk : dm k i) (he : ct k i = .inl (dA 1, N, .inr (.inl f))) (hin : vp_in x N) (kk : E b0 D dA y cc nL ret R EX QF n lv (.long (f x.toNatClampNeg) :: st) dm ad ct cells slots) : E b0 D dA y cc nL ret R EX QF pc lv (.int x :: .ref (ad k i) :: st) dm ad ct cells slots := by
  obtain ⟨hd, rfl⟩ := hd
  intro p l e s m args below meth c C H locs ls hl hR hS
  have ha := (hR.2.1 k i hk).1
  rw [he] at ha
  have hlt : x.toNatClampNeg < N := Nat.not_le.mp fun q => hin (Or.inr q)
  exact W.lald (v := .long (f x.toNatClampNeg)) C.1 C.2.1 ha ((C.2.2.2.2.2.2.2.2.1.1.2 1 _ rfl).1 N (fun j => .long (f j))) (fun q => by cases q) (by show ¬ (x < 0 ∨ (arrV _ _ _).slots.size ≤ _); rw [arrV_size]; exact hin) (by show (arrV _ _ _).slots[_]? = _; rw [arrV_read _ _ hlt]) rfl rfl hd (kk p l e s m args below meth c C H locs ls hl hR hS)
theorem e_aald {k i N t0 : Nat} {Cn : String} {f : Nat → Option Nat} {x : Int32} {r : Option Nat} (hd : dc cc pc .aaload 1 n) (hk : dm k i) (he : ct k i = .inl (dA t0, N, .inr (.inr (.inr (.inr f))))) (ht : (eTs dA)[t0]? = some (dA t0, .object Cn)) (hin : vp_in x N) (hr : f x.toNatClampNeg = r) (kk : E b0 D dA y cc nL ret R EX QF n lv (va_rf r :: st) dm ad ct cells slots) : E b0 D dA y cc nL ret R EX QF pc lv (.int x :: .ref (ad k i) :: st) dm ad ct cells slots := by
  obtain ⟨hd, rfl⟩ := hd
  intro p l e s m args below meth c C H locs ls hl hR hS
  subst hr
  have ha := (hR.2.1 k i hk).1
  rw [he] at ha
  have hlt : x.toNatClampNeg < N := Nat.not_le.mp fun q => hin (Or.inr q)
  exact W.aald (v := va_rf (f x.toNatClampNeg)) (ty := .object Cn) C.1 C.2.1 ha ((C.2.2.2.2.2.2.2.2.1.1.2 t0 _ ht).1 N (fun j => va_rf (f j))) rfl (fun q => by cases q) (by show ¬ (x < 0 ∨ (arrV _ _ _).slots.size ≤ _); rw [arrV_size]; exact hin) (by show (arrV _ _ _).slots[_]? = _; rw [arrV_read _ _ hlt]) rfl rfl hd (kk p l e s m args below meth c C H locs ls hl hR hS)
theorem e_iast {k i N : Nat} {f : Nat → Int32} {x v : Int32} (ct' : Nat → Nat → va_E) (hd : dc cc pc .iastore 1 n) (hk : dm k i) (he : ct k i = .inl (dA 0, N, .inl f)) (hin : vp_in x N) (hs : ct' k i = .inl (dA 0, N, .inl (upd f x.toNatClampNeg v))) (ho : ∀ k' i', dm k' i' → ¬ (k' = k ∧ i' = i) → ct' k' i' = ct k' i') (kk : E b0 D dA y cc nL ret R EX QF n lv (st) dm ad ct' cells slots) : E b0 D dA y cc nL ret R EX QF pc lv (.int v :: .int x :: .ref (ad k i) :: st) dm ad ct cells slots := by
  obtain ⟨hd, rfl⟩ := hd
  intro p l e s m args below meth c C H locs ls hl hR hS
  obtain ⟨ha, hb0⟩ := hR.2.1 k i hk
  rw [he] at ha
  refine W.iast C.1 C.2.1 ha ((C.2.2.2.2.2.2.2.2.1.1.2 0 _ rfl).1 N (fun j => .int (f j))) (fun q => by cases q) (by show ¬ (x < 0 ∨ (arrV _ _ _).slots.size ≤ _); rw [arrV_size]; exact hin) rfl rfl hd fun H1 e1 z oq => ?_
  refine kk p l e s m args below meth c C H1 _ ls hl (hR.put hk z ?_ oq ho) (hS.put z oq hb0)
  rw [hs]
  show H1[_]? = some (vp_cell _ _)
  rw [e1, vp_cell_i, vp_cell_i, arrV_store]
  congr 2
  funext q
  by_cases hq : q = x.toNatClampNeg
  · subst hq
    simp [updV, upd]
  · simp [updV, upd, hq]
theorem e_last {k i N : Nat} {f : Nat → Int64} {x : Int32} {v : Int64} (ct' : Nat → Nat → va_E) (hd : dc cc pc .lastore 1 n) (hk : dm k i) (he : ct k i = .inl (dA 1, N, .inr (.inl f))) (hin : vp_in x N) (hs : ct' k i = .inl (dA 1, N, .inr (.inl (vp_updL f x.toNatClampNeg v)))) (ho : ∀ k' i', dm k' i' → ¬ (k' = k ∧ i' = i) → ct' k' i' = ct k' i') (kk : E b0 D dA y cc nL ret R EX QF n lv (st) dm ad ct' cells slots) : E b0 D dA y cc nL ret R EX QF pc lv (.long v :: .int x :: .ref (ad k i) :: st) dm ad ct cells slots := by
  obtain ⟨hd, rfl⟩ := hd
  intro p l e s m args below meth c C H locs ls hl hR hS
  obtain ⟨ha, hb0⟩ := hR.2.1 k i hk
  rw [he] at ha
  refine W.last C.1 C.2.1 ha ((C.2.2.2.2.2.2.2.2.1.1.2 1 _ rfl).1 N (fun j => .long (f j))) (fun q => by cases q) (by show ¬ (x < 0 ∨ (arrV _ _ _).slots.size ≤ _); rw [arrV_size]; exact hin) rfl rfl hd fun H1 e1 z oq => ?_
  refine kk p l e s m args below meth c C H1 _ ls hl (hR.put hk z ?_ oq ho) (hS.put z oq hb0)
  rw [hs]
  show H1[_]? = some (vp_cell _ _)
  rw [e1, vp_cell_l, vp_cell_l, arrV_store]
  congr 2
  funext q
  by_cases hq : q = x.toNatClampNeg
  · subst hq
    simp [updV, vp_updL]
  · simp [updV, vp_updL, hq]
/-- a cell of class number ci may stand in an array of Cn -/
def FA (ci : Nat) (Cn : String) : Prop := ∃ (C : String) (T : u_T) (N : Nat), eCl[ci]? = some (C, T, N) ∧ (C = Cn ∨ (C, Cn) ∈ eCa)
theorem w_any {s : State} {H : Heap} {k i ci : Nat} {fs : List Value} {Cn : String} (hK : KK D dA s) (hR : Rl b0 D dm ad ct H) (hk : dm k i) (he : ct k i = .inr (ci, fs)) (hA : FA ci Cn) : va_Any Cn s H (ad k i) := by
  obtain ⟨C0, T, N, hc, hca⟩ := hA
  have ha := (hR.2.1 k i hk).1
  rw [he] at ha
  obtain ⟨r, h1, cell, q1, q2, q3, -⟩ := ha
  have hr : r = (C0, T, N) := Option.some.inj (h1.symm.trans hc)
  subst hr
  obtain ⟨-, hcls⟩ := hK.1.1 ci _ hc
  obtain ⟨kC, hkC, -⟩ := hcls.2
  refine ⟨cell, q1, by rw [q3]; rfl, ⟨kC, by rw [q2]; exact hkC⟩, fun comp hcomp => ?_⟩
  rcases hca with rfl | hca
  · have : comp = D.1 ci := Option.some.inj (hcomp.symm.trans hcls.1)
    rw [q2, this]
    exact va_assign hcls
  · obtain ⟨c0, t0, f1, f2, f3⟩ := Cond.castable_spec (va_Nw.use (A := #[]) rfl (hK.2.2.2.2.1 _ hca))
    have e1 : D.1 ci = c0 := Option.some.inj (hcls.1.symm.trans f1)
    have e2 : comp = t0 := Option.some.inj (hcomp.symm.trans f2)
    rw [q2, e1, e2]
    exact f3
theorem e_aast {k i N t0 k2 i2 ci : Nat} {Cn : String} {f : Nat → Option Nat} {x : Int32} {fs : List Value} (ct' : Nat → Nat → va_E) (hd : dc cc pc .aastore 1 n) (hk : dm k i) (he : ct k i = .inl (dA t0, N, .inr (.inr (.inr (.inr f))))) (ht : (eTs dA)[t0]? = some (dA t0, .object Cn)) (hin : vp_in x N) (hk2 : dm k2 i2) (he2 : ct k2 i2 = .inr (ci, fs)) (hA : FA ci Cn) (hs : ct' k i = .inl (dA t0, N, .inr (.inr (.inr (.inr (va_up f x.toNatClampNeg (some (ad k2 i2)))))))) (ho : ∀ k' i', dm k' i' → ¬ (k' = k ∧ i' = i) → ct' k' i' = ct k' i') (kk : E b0 D dA y cc nL ret R EX QF n lv (st) dm ad ct' cells slots) : E b0 D dA y cc nL ret R EX QF pc lv (.ref (ad k2 i2) :: .int x :: .ref (ad k i) :: st) dm ad ct cells slots := by
  obtain ⟨hd, rfl⟩ := hd
  intro p l e s m args below meth c C H locs ls hl hR hS
  obtain ⟨ha, hb0⟩ := hR.2.1 k i hk
  rw [he] at ha
  have hK := C.2.2.2.2.2.2.2.2.1
  have hlt : x.toNatClampNeg < N := Nat.not_le.mp fun q => hin (Or.inr q)
  have h0 : ¬ x < 0 := fun q => hin (Or.inl q)
  obtain ⟨cellV, g1, g3, ⟨kC, hkC⟩, hasg⟩ := w_any hK hR hk2 he2 hA
  obtain ⟨kA, comp, k1, k2', k3, -⟩ := (hK.1.2 t0 _ ht).2
  obtain ⟨kE, hkE, -⟩ := Vm.findClass_spec k3
  refine W.aast C.1 C.2.1 ha (fun q h => by cases h) (fun h => by cases h) k1 k2' rfl hkE ⟨h0, by show _ < (arrV _ _ _).slots.size; rw [arrV_size]; exact hlt⟩ g1 (fun q h => by rw [h] at g3; cases g3) hkC (hasg _ k3) rfl rfl hd fun H1 e1 z oq => ?_
  refine kk p l e s m args below meth c C H1 _ ls hl (hR.put hk z ?_ oq ho) (hS.put z oq hb0)
  rw [hs]
  show H1[_]? = some (vp_cell _ _)
  rw [e1, vp_cell_q, vp_cell_q, arrV_store]
  congr 2
  funext q
  by_cases hq : q = x.toNatClampNeg
  · subst hq
    simp [updV, va_up, va_rf]
  · simp [updV, va_up, hq]
theorem e_aastN {k i N t0 : Nat} {Cn : String} {f : Nat → Option Nat} {x : Int32} (ct' : Nat → Nat → va_E) (hd : dc cc pc .aastore 1 n) (hk : dm k i) (he : ct k i = .inl (dA t0, N, .inr (.inr (.inr (.inr f))))) (ht : (eTs dA)[t0]? = some (dA t0, .object Cn)) (hin : vp_in x N) (hs : ct' k i = .inl (dA t0, N, .inr (.inr (.inr (.inr (va_up f x.toNatClampNeg none)))))) (ho : ∀ k' i', dm k' i' → ¬ (k' = k ∧ i' = i) → ct' k' i' = ct k' i') (kk : E b0 D dA y cc nL ret R EX QF n lv (st) dm ad ct' cells slots) : E b0 D dA y cc nL ret R EX QF pc lv (.null :: .int x :: .ref (ad k i) :: st) dm ad ct cells slots := by
  obtain ⟨hd, rfl⟩ := hd
  intro p l e s m args below meth c C H locs ls hl hR hS
  obtain ⟨ha, hb0⟩ := hR.2.1 k i hk
  rw [he] at ha
  refine va_WaastN (C := Cn) C.1 C.2.1 ha ((C.2.2.2.2.2.2.2.2.1.1.2 t0 _ ht).1 N (fun j => va_rf (f j))) (fun h => by cases h) (by show ¬ (x < 0 ∨ (arrV _ _ _).slots.size ≤ _); rw [arrV_size]; exact hin) rfl rfl hd fun H1 e1 z oq => ?_
  refine kk p l e s m args below meth c C H1 _ ls hl (hR.put hk z ?_ oq ho) (hS.put z oq hb0)
  rw [hs]
  show H1[_]? = some (vp_cell _ _)
  rw [e1, vp_cell_q, vp_cell_q, arrV_store]
  congr 2
  funext q
  by_cases hq : q = x.toNatClampNeg
  · subst hq
    simp [updV, va_up, va_rf]
  · simp [updV, va_up, hq]
theorem e_alen {k i t0 : Nat} {a0 : vp_A} {ty : FieldType} (hd : dc cc pc .arraylength 1 n) (hk : dm k i) (he : ct k i = .inl (dA t0, a0)) (ht : (eTs dA)[t0]? = some (dA t0, ty)) (kk : E b0 D dA y cc nL ret R EX QF n lv (.int (nI a0.1) :: st) dm ad ct cells slots) : E b0 D dA y cc nL ret R EX QF pc lv (.ref (ad k i) :: st) dm ad ct cells slots := by
  obtain ⟨hd, rfl⟩ := hd
  intro p l e s m args below meth c C H locs ls hl hR hS
  have ha := (hR.2.1 k i hk).1
  rw [he] at ha
  have hP : va_P D eCl [(ad k i, .inl (dA t0, a0))] H := fun z q hz => by
    have hz0 : z < 1 := (List.getElem?_eq_some_iff.mp hz).1
    rw [show z = 0 by omega] at hz
    cases hz
    exact ha
  exact va_alen C.1 C.2.1 C.2.2.2.2.2.2.2.2.1.1 hP 0 t0 rfl ht rfl hd (kk p l e s m args below meth c C H locs ls hl hR hS)
theorem e_new {idx ci N : Nat} {fs : List Value} (k i : Nat) (hd : dc cc pc (.new idx) 3 n) (hN : FN y.cls idx ci N fs) (h1 : cells + 1 ≤ R.cells) (h2 : slots + N ≤ R.slots) (kk : ∀ a : Nat, E b0 D dA y cc nL ret R EX QF n lv (.ref a :: st) (dmU dm k i) (u2 ad k i a) (u2 ct k i (.inr (ci, fs))) (cells + 1) (slots + N)) : E b0 D dA y cc nL ret R EX QF pc lv (st) dm ad ct cells slots := by
  obtain ⟨hd, rfl⟩ := hd
  intro p l e s m args below meth c C H locs ls hl hR hS
  obtain ⟨Cn, T, ty0, hc, hin, hty, hcl, hinst, hini, hfs⟩ := hN
  have hts := C.2.2.2.2.2.1
  have hK := C.2.2.2.2.2.2.2.2.1.1
  have hKn := hK.1 ci _ hc
  refine W.newcK C.1 C.2.1 C.2.2.2.2.1 (hts _ hcl) (hts _ hinst) (hts _ hini) rfl hd h1 h2 hKn.2.1 rfl fun H1 kC hkC e1 z1 o1 => ?_
  exact kk H.size p l e s m args below meth c C H1 locs ls hl (hR.new k i z1 ⟨_, hc, (u_born ty0 hts hin hKn hkC e1 hty).to hfs⟩ o1) ⟨Nat.le_trans hS.1 (by omega), fun x g1 g2 => (o1 x (Nat.lt_of_lt_of_le g1 hS.1)).trans (hS.2.1 x g1 g2), hS.2.2⟩
theorem e_newi {x : Int32} {N : Nat} (k i : Nat) (hd : dc cc pc (.newarray .int) 2 n) (hx : x = nI N) (hN : N ≤ 10000) (h1 : cells + 1 ≤ R.cells) (h2 : slots + N ≤ R.slots) (hw : Cond.arrayClass .int ∈ gT) (kk : ∀ a : Nat, E b0 D dA y cc nL ret R EX QF n lv (.ref a :: st) (dmU dm k i) (u2 ad k i a) (u2 ct k i (.inl (dA 0, N, .inl (fun _ => 0)))) (cells + 1) (slots + N)) : E b0 D dA y cc nL ret R EX QF pc lv (.int x :: st) dm ad ct cells slots := by
  obtain ⟨hd, rfl⟩ := hd
  intro p l e s m args below meth c C H locs ls hl hR hS
  subst hx
  have hK := C.2.2.2.2.2.2.2.2.1.1
  refine va_newaK (atype := .int) C.1 C.2.1 (C.2.2.2.2.2.1 _ hw) rfl hd rfl (nI_pos (by omega)) (nI_clamp (by omega)) (by show N * 4 ≤ _; omega) h1 h2 rfl fun H1 cA e1 z1 o1 hAr hNm => ?_
  have hcA : cA = dA 0 := Option.some.inj (hNm.symm.trans (hK.2 0 _ rfl).2)
  subst hcA
  exact kk H.size p l e s m args below meth c C H1 locs ls hl (hR.new k i z1 e1 o1) ⟨Nat.le_trans hS.1 (by omega), fun x g1 g2 => (o1 x (Nat.lt_of_lt_of_le g1 hS.1)).trans (hS.2.1 x g1 g2), hS.2.2⟩
theorem e_newl {x : Int32} {N : Nat} (k i : Nat) (hd : dc cc pc (.newarray .long) 2 n) (hx : x = nI N) (hN : N ≤ 10000) (h1 : cells + 1 ≤ R.cells) (h2 : slots + N ≤ R.slots) (hw : Cond.arrayClass .long ∈ gT) (kk : ∀ a : Nat, E b0 D dA y cc nL ret R EX QF n lv (.ref a :: st) (dmU dm k i) (u2 ad k i a) (u2 ct k i (.inl (dA 1, N, .inr (.inl (fun _ => 0))))) (cells + 1) (slots + N)) : E b0 D dA y cc nL ret R EX QF pc lv (.int x :: st) dm ad ct cells slots := by
  obtain ⟨hd, rfl⟩ := hd
  intro p l e s m args below meth c C H locs ls hl hR hS
  subst hx
  have hK := C.2.2.2.2.2.2.2.2.1.1
  refine va_newaK (atype := .long) C.1 C.2.1 (C.2.2.2.2.2.1 _ hw) rfl hd rfl (nI_pos (by omega)) (nI_clamp (by omega)) (by show N * 8 ≤ _; omega) h1 h2 rfl fun H1 cA e1 z1 o1 hAr hNm => ?_
  have hcA : cA = dA 1 := Option.some.inj (hNm.symm.trans (hK.2 1 _ rfl).2)
  subst hcA
  exact kk H.size p l e s m args below meth c C H1 locs ls hl (hR.new k i z1 e1 o1) ⟨Nat.le_trans hS.1 (by omega), fun x g1 g2 => (o1 x (Nat.lt_of_lt_of_le g1 hS.1)).trans (hS.2.1 x g1 g2), hS.2.2⟩
theorem e_newq {idx t0 : Nat} {Cn : String} {x : Int32} {N : Nat} (k i : Nat) (hd : dc cc pc (.anewarray idx) 3 n) (hx : x = nI N) (hN : N ≤ 10000) (h1 : cells + 1 ≤ R.cells) (h2 : slots + N ≤ R.slots) (hw : Cond.classLink y.cls idx Cn ∈ gT) (ht : (eTs dA)[t0]? = some (dA t0, .object Cn)) (hao : Cn ∈ eAO) (kk : ∀ a : Nat, E b0 D dA y cc nL ret R EX QF n lv (.ref a :: st) (dmU dm k i) (u2 ad k i a) (u2 ct k i (.inl (dA t0, N, .inr (.inr (.inr (.inr (fun _ => none))))))) (cells + 1) (slots + N)) : E b0 D dA y cc nL ret R EX QF pc lv (.int x :: st) dm ad ct cells slots := by
  obtain ⟨hd, rfl⟩ := hd
  intro p l e s m args below meth c C H locs ls hl hR hS
  subst hx
  have hK := C.2.2.2.2.2.2.2.2.1
  have hcl : (nI N).toNatClampNeg = N := nI_clamp (by omega)
  refine W.anew C.1 C.2.1 C.2.2.2.2.1 (C.2.2.2.2.2.1 _ hw) (va_AO.use (hK.2.2.2.1 _ hao)) rfl hd rfl (nI_pos (by omega)) (by rw [hcl]; omega) h1 (by rw [hcl]; exact h2) fun cA kA comp f1 f2 f3 f4 => ?_
  have hcA : cA = dA t0 := by
    obtain ⟨kA', comp', g1, g2, g3, g4⟩ := (hK.1.2 t0 _ ht).2
    first | exact Option.some.inj (f1.symm.trans g4) | exact Option.some.inj (f4.symm.trans g4)
  subst hcA
  generalize hH1 : H.push ({ cls := dA t0, slots := Array.replicate (nI N).toNatClampNeg .null, vm := .none } : Cell) = H1
  have z1 : H1.size = H.size + 1 := by rw [← hH1, Array.size_push]
  have e1 : H1[H.size]? = some (arrV (dA t0) N (fun _ => .null)) := by rw [← hH1, Array.getElem?_push_size, ← arrV_new, hcl]
  have o1 : ∀ q : Nat, q < H.size → H1[q]? = H[q]? := fun q hq => by rw [← hH1, Array.getElem?_push, if_neg (Nat.ne_of_lt hq)]
  refine W.cs rfl (by rw [hcl]) ?_
  exact kk H.size p l e s m args below meth c C H1 locs ls hl (hR.new k i z1 e1 o1) ⟨Nat.le_trans hS.1 (by omega), fun x g1 g2 => (o1 x (Nat.lt_of_lt_of_le g1 hS.1)).trans (hS.2.1 x g1 g2), hS.2.2⟩
/-- the receiver's class -/
theorem w_recv {s : State} {H : Heap} {k i ci : Nat} {fs : List Value} {r : vw_C} (hK : KK D dA s) (hR : Rl b0 D dm ad ct H) (hk : dm k i) (he : ct k i = .inr (ci, fs)) (hc : eCl[ci]? = some r) : ∃ cell : Cell, H[ad k i]? = some cell ∧ cell.vm.isStatics = false ∧ s.vm.findClass r.1 = some cell.cls := by
  have ha := (hR.2.1 k i hk).1
  rw [he] at ha
  obtain ⟨r', h1, cell, q1, q2, q3, -⟩ := ha
  exact ⟨cell, q1, by rw [q3]; rfl, by rw [q2]; exact (hK.1.1 ci r hc).2.1⟩
/-- instanceof, checkcast: class number ci against the class that own names at idx -/
def FI (own : String) (idx ci : Nat) (b : Int32) : Prop := ∃ (C : String) (T : u_T) (N : Nat) (nm : String), eCl[ci]? = some (C, T, N) ∧ Cond.classLink own idx nm ∈ gT ∧ ((b = 1 ∧ (C, nm) ∈ eCa) ∨ (b = 0 ∧ (C, nm) ∈ eNc))
theorem e_inst {idx k i ci : Nat} {fs : List Value} {b : Int32} (hd : dc cc pc (.instanceof idx) 3 n) (hg : FI y.cls idx ci b) (hk : dm k i) (he : ct k i = .inr (ci, fs)) (kk : E b0 D dA y cc nL ret R EX QF n lv (.int b :: st) dm ad ct cells slots) : E b0 D dA y cc nL ret R EX QF pc lv (.ref (ad k i) :: st) dm ad ct cells slots := by
  obtain ⟨hd, rfl⟩ := hd
  intro p l e s m args below meth c C H locs ls hl hR hS
  obtain ⟨Cn, T, N, nm, hc, hw, hb⟩ := hg
  have hK := C.2.2.2.2.2.2.2.2.1
  have hr := w_recv hK hR hk he hc
  rcases hb with ⟨rfl, hb⟩ | ⟨rfl, hb⟩
  · exact va_instY C.1 C.2.1 C.2.2.2.2.1 (C.2.2.2.2.2.1 _ hw) (hK.2.2.2.2.1 _ hb) hr hd (kk p l e s m args below meth c C H locs ls hl hR hS)
  · exact va_instNo C.1 C.2.1 C.2.2.2.2.1 (C.2.2.2.2.2.1 _ hw) (hK.2.2.2.2.2 _ hb) hr hd (kk p l e s m args below meth c C H locs ls hl hR hS)
theorem e_instN {idx : Nat} (hd : dc cc pc (.instanceof idx) 3 n) (kk : E b0 D dA y cc nL ret R EX QF n lv (.int 0 :: st) dm ad ct cells slots) : E b0 D dA y cc nL ret R EX QF pc lv (.null :: st) dm ad ct cells slots := by
  obtain ⟨hd, rfl⟩ := hd
  intro p l e s m args below meth c C H locs ls hl hR hS
  exact lv_instN C.1 C.2.1 hd (kk p l e s m args below meth c C H locs ls hl hR hS)
theorem e_cast {idx k i ci : Nat} {fs : List Value} (hd : dc cc pc (.checkcast idx) 3 n) (hg : FI y.cls idx ci 1) (hk : dm k i) (he : ct k i = .inr (ci, fs)) (kk : E b0 D dA y cc nL ret R EX QF n lv (.ref (ad k i) :: st) dm ad ct cells slots) : E b0 D dA y cc nL ret R EX QF pc lv (.ref (ad k i) :: st) dm ad ct cells slots := by
  obtain ⟨hd, rfl⟩ := hd
  intro p l e s m args below meth c C H locs ls hl hR hS
  obtain ⟨Cn, T, N, nm, hc, hw, hb⟩ := hg
  have hK := C.2.2.2.2.2.2.2.2.1
  have hr := w_recv hK hR hk he hc
  rcases hb with ⟨-, hb⟩ | ⟨h10, -⟩
  · exact va_castY C.1 C.2.1 C.2.2.2.2.1 (C.2.2.2.2.2.1 _ hw) (hK.2.2.2.2.1 _ hb) hr hd (kk p l e s m args below meth c C H locs ls hl hR hS)
  · exact absurd h10 (by decide)
end EH
end
section
/-! ===== contracts, calls, returns ===== -/
abbrev PQ : Type := Option Value → (Nat → Nat → Prop) → (Nat → Nat → Nat) → (Nat → Nat → va_E) → Prop
def Qk (b0 : Nat) (D : va_G) (dA : Nat → ClassId) (Q : PQ) : Array Value → State → Outcome → State → Prop := fun _ st oc t =>
  (∃ (v : Option Value) (dm : Nat → Nat → Prop) (ad : Nat → Nat → Nat) (ct : Nat → Nat → va_E), oc = .returned v ∧ Q v dm ad ct ∧ Rl b0 D dm ad ct t.heap ∧ KK D dA t) ∧ va_F (fun q => b0 ≤ q) st t
def Pk (b0 : Nat) (D : va_G) (dA : Nat → ClassId) (as : List Value) (dm : Nat → Nat → Prop) (ad : Nat → Nat → Nat) (ct : Nat → Nat → va_E) : Array Value → State → Prop := va_Pc as (fun U => Rl b0 D dm ad ct U.heap ∧ KK D dA U)
/-- method y, called with as over the pool (dm, ad, ct): it returns, and Q holds of its answer and the pool then -/
def Ct (b0 : Nat) (D : va_G) (dA : Nat → ClassId) (y : MethodName) (cc : ByteArray) (nL : Nat) (ret : Option FieldType) (R : Room) (as : List Value) (dm : Nat → Nat → Prop) (ad : Nat → Nat → Nat) (ct : Nat → Nat → va_E) (Q : PQ) : Prop :=
  ∀ l : Launch, Met l y (.code y cc nL ret :: gT) R (Pk b0 D dA as dm ad ct) (Qk b0 D dA Q) R.cells R.slots (fun q => b0 ≤ q)
abbrev QFm (b0 : Nat) (D : va_G) (dA : Nat → ClassId) (R : Room) (Q : PQ) : List Frame → Array Value → State → State → Prop := fun below args s => MQ below (Qk b0 D dA Q) args s R.cells R.slots (fun q => b0 ≤ q)
abbrev E0 : Array Value → State → Prop := fun _ _ => True
def lfA : List (Option Value) → Nat → Option Value
  | [], _ => none
  | a :: _, 0 => a
  | _ :: l, j + 1 => lfA l j
def lfO : List Value → List (Option Value)
  | [] => []
  | v :: l => match v.category with
    | 2 => some v :: none :: lfO l
    | _ => some v :: lfO l
theorem lfA_in : ∀ (vs : List Value) (b j : Nat) (v : Value), lfA (lfO vs) j = some v → (b + j, v) ∈ lv_args b vs := by
  intro vs
  induction vs with
  | nil => intro b j v h; simp [lfO, lfA] at h
  | cons w vs ih =>
    intro b j v h
    by_cases hc : w.category = 2
    · simp only [lfO, hc] at h
      simp only [lv_args, hc, if_true]
      match j, h with
      | 0, h => simp [lfA] at h; subst h; exact List.mem_cons_self
      | 1, h => simp [lfA] at h
      | j + 2, h =>
        simp only [lfA] at h
        have := ih (b + 2) j v h
        rw [show b + (j + 2) = b + 2 + j by omega]
        exact List.mem_cons_of_mem _ this
    · have hc1 : w.category = 1 := by rcases lv_cat w with h1 | h1; exact h1; exact absurd h1 hc
      simp only [lfO, hc1] at h
      simp only [lv_args, hc, if_false]
      match j, h with
      | 0, h => simp [lfA] at h; subst h; exact List.mem_cons_self
      | j + 1, h =>
        simp only [lfA] at h
        have := ih (b + 1) j v h
        rw [show b + (j + 1) = b + 1 + j by omega]
        exact List.mem_cons_of_mem _ this
def lfL (vs : List Value) : Nat → Option Value := lfA (lfO vs)
theorem ct_of {b0 : Nat} {D : va_G} {dA : Nat → ClassId} {y : MethodName} {cc : ByteArray} {nL : Nat} {ret : Option FieldType} {R : Room} {as : List Value} {dm : Nat → Nat → Prop} {ad : Nat → Nat → Nat} {ct : Nat → Nat → va_E} {Q : PQ} (hy : plainName y.cls = true) (hn : (lg_sl as).length ≤ nL)
    (h : E b0 D dA y cc nL ret R E0 (QFm b0 D dA R Q) 0 (lfL as) [] dm ad ct 0 0) : Ct b0 D dA y cc nL ret R as dm ad ct Q := by
  intro l
  refine Met.ofW (cc := cc) (maxL := nL) (ret := ret) hy rfl ?_
  intro p e s m args below meth c s₁ B hml hv
  obtain ⟨rfl, hR, hK⟩ := hv
  have hts := atoms_spec (ws := .code y cc nL ret :: gT) B.pre
  have hl := lv_entry as (n := nL) hn
  rw [lg_entry_eq]
  refine h p l e s m _ below meth c ⟨B.exec, B.bytes, B.returns, hml, findClass_of_methodNamed B.named, fun w hw => hts w (List.mem_cons_of_mem _ hw), B.notSynchronized, (name_of_methodNamed B.named B.method).1, hK, hR.1, trivial⟩ s.heap [] _ ⟨hl.1, hl.2.1, fun i v hi => ?_⟩ hR va_S.rf
  have := lfA_in as 0 i v hi
  rw [Nat.zero_add] at this
  exact hl.2.2 (i, v) this
theorem gT_good {y : MethodName} {cc : ByteArray} {nL : Nat} {ret : Option FieldType} (h : Cond.code y cc nL ret ∈ gT) : GoodIn gT (.code y cc nL ret :: gT) := by
  intro w hw
  have hm : w ∈ gT := by
    rcases List.mem_cons.mp hw with rfl | hw
    · exact h
    · exact hw
  exact ⟨hm, good_of_word (List.mem_filter.mp hm).2⟩
theorem pk_blind {b0 : Nat} {D : va_G} {dA : Nat → ClassId} {as : List Value} {dm : Nat → Nat → Prop} {ad : Nat → Nat → Nat} {ct : Nat → Nat → va_E} : FrameBlind (Pk b0 D dA as dm ad ct) := fun _ _ _ _ h => ⟨h.1, h.2.1, KK.same rfl h.2.2⟩
def vl : Option Value → List Value → List Value
  | some v, r => v :: r
  | none, r => r
theorem vl_eq (v : Option Value) (r : List Value) : v.toList ++ r = vl v r := by cases v <;> rfl
/-- what a call's row names: the method, its code, how many arguments -/
def CL (own : String) (idx : Nat) (y : MethodName) (cc : ByteArray) (nL : Nat) (ret : Option FieldType) (na : Nat) : Prop := Cond.methodLink own idx y ∈ gT ∧ Cond.code y cc nL ret ∈ gT ∧ Cond.initialized y.cls ∈ gT ∧ (y.cls ≠ "java/lang/invoke/MethodHandle" ∧ y.cls ≠ "java/lang/invoke/VarHandle" ∧ (parseMethodDescriptor y.desc).map (fun d => d.parameters.length) = some na)
def CLS (own : String) (idx : Nat) (y : MethodName) (cc : ByteArray) (nL : Nat) (ret : Option FieldType) (na : Nat) : Prop := CL own idx y cc nL ret na ∧ Cond.static y ∈ gT
def CLV (own : String) (idx : Nat) (y : MethodName) (cc : ByteArray) (nL : Nat) (ret : Option FieldType) (na ci : Nat) : Prop := CL own idx y cc nL ret na ∧ Cond.instanceMethod y ∈ gT ∧ Cond.selects y.cls y y ∈ gT ∧ ∃ (T : u_T) (N : Nat), eCl[ci]? = some (y.cls, T, N)
def CLI (own : String) (idx : Nat) (y : MethodName) (cc : ByteArray) (nL : Nat) (na : Nat) : Prop := CL own idx y cc nL none na ∧ y.name = "<init>" ∧ Cond.instanceMethod y ∈ gT
/-- the same of a nest mate's private member -/
def CN (own : String) (idx : Nat) (y : MethodName) (cc : ByteArray) (nL : Nat) (ret : Option FieldType) (na : Nat) : Prop := (∃ host, (own, idx, y, host) ∈ eNL) ∧ Cond.code y cc nL ret ∈ gT ∧ Cond.initialized y.cls ∈ gT ∧ (y.cls ≠ "java/lang/invoke/MethodHandle" ∧ y.cls ≠ "java/lang/invoke/VarHandle" ∧ (parseMethodDescriptor y.desc).map (fun d => d.parameters.length) = some na)
def CNS (own : String) (idx : Nat) (y : MethodName) (cc : ByteArray) (nL : Nat) (ret : Option FieldType) (na : Nat) : Prop := CN own idx y cc nL ret na ∧ Cond.static y ∈ gT
def CNI (own : String) (idx : Nat) (y : MethodName) (cc : ByteArray) (nL : Nat) (na : Nat) : Prop := CN own idx y cc nL none na ∧ y.name = "<init>" ∧ Cond.instanceMethod y ∈ gT
/-- an abstract method x, which class number ci answers with y -/
def CLU (own : String) (idx : Nat) (x y : MethodName) (cc : ByteArray) (nL : Nat) (ret : Option FieldType) (na ci : Nat) : Prop := Cond.methodLink own idx x ∈ gT ∧ Cond.sameMethod x.cls x.cls x.name x.desc ∈ gT ∧ (⟨x.cls, x.name, x.desc⟩ : MethodName) ∈ eDc ∧ Cond.instanceMethod y ∈ gT ∧ Cond.initialized y.cls ∈ gT ∧ Cond.code y cc nL ret ∈ gT ∧ (x.cls ≠ "java/lang/invoke/MethodHandle" ∧ x.cls ≠ "java/lang/invoke/VarHandle" ∧ (parseMethodDescriptor x.desc).map (fun d => d.parameters.length) = some na) ∧ ∃ (C : String) (T : u_T) (N : Nat), eCl[ci]? = some (C, T, N) ∧ Cond.selects C x y ∈ gT
/-- super.y() -/
def CLP (own : String) (idx : Nat) (y : MethodName) (cc : ByteArray) (nL : Nat) (ret : Option FieldType) (na ci : Nat) : Prop := Cond.methodLink own idx y ∈ gT ∧ Cond.sameMethod y.cls y.cls y.name y.desc ∈ gT ∧ Cond.superclass own y.cls ∈ gT ∧ Cond.instanceMethod y ∈ gT ∧ Cond.initialized y.cls ∈ gT ∧ Cond.code y cc nL ret ∈ gT ∧ (y.name ≠ "<init>" ∧ (parseMethodDescriptor y.desc).map (fun d => d.parameters.length) = some na) ∧ ∃ (C : String) (T : u_T) (N : Nat), eCl[ci]? = some (C, T, N)
section EC
variable {b0 : Nat} {D : va_G} {dA : Nat → ClassId} {y : MethodName} {cc : ByteArray} {nL : Nat} {ret : Option FieldType} {R : Room} {EX : Array Value → State → Prop} {QF : List Frame → Array Value → State → State → Prop} {pc n t : Nat} {lv : Nat → Option Value} {st : List Value} {dm dm' : Nat → Nat → Prop} {ad ad' : Nat → Nat → Nat} {ct ct' : Nat → Nat → va_E} {cells slots : Nat}
theorem w_call {p : Program} {l : Launch} {e : Env} {s : State} {m : MethodId} {args : Array Value} {below : List Frame} {meth : Method} {c : Code} {H : Heap} {locs : List Loc} {Q0 : State → Prop} {mc ms : Nat} {ls : Array Slot} {st0 rest : List Value} {a : Array Value} {Q : PQ}
    (hr : va_Run p l e R s m args below meth c H locs cells slots mc ms (F0 m pc ls st0) rest (Qk b0 D dA Q a) (fun q => b0 ≤ q)) (hS : va_S (fun q => b0 ≤ q) s.heap H locs)
    (kk : ∀ (v : Option Value) (dm : Nat → Nat → Prop) (ad : Nat → Nat → Nat) (ct : Nat → Nat → va_E) (H1 : Heap) (locs1 : List Loc), Q v dm ad ct → Rl b0 D dm ad ct H1 → va_S (fun q => b0 ≤ q) s.heap H1 locs1 → W p l e R s m args below meth c H1 locs1 (cells + mc) (slots + ms) Q0 (F0 m (pc + 3) ls (vl v rest))) : W p l e R s m args below meth c H locs cells slots Q0 (F0 m pc ls st0) := by
  intro T hT X
  obtain ⟨v, st₀, t, T', L, h0, X', hL, e1, e2, ⟨⟨v', dm, ad, ct, hv, hq, hRl, -⟩, hz, hk⟩, stp⟩ := hr T hT X
  cases hv
  rw [h0] at hz hk
  obtain ⟨t2, a1, b1⟩ := kk v dm ad ct T'.heap (locs ++ L) hq (by rw [e1]; exact hRl)
    ⟨Nat.le_trans hS.1 (by rw [e1]; exact hz), fun q h1 h2 => by rw [e1, hk q (Nat.lt_of_lt_of_le h1 hS.1) h2]; exact hS.2.1 q h1 h2, fun q hq => by
      rcases List.mem_append.mp hq with h | h
      · exact hS.2.2 q h
      · exact hL q h⟩ T' rfl X'
  rw [← vl_eq] at a1
  exact ⟨t2, stp t2 a1, b1⟩
theorem e_callS0 {idx : Nat} {y' : MethodName} {cc' : ByteArray} {nL' : Nat} {ret' : Option FieldType} {R' : Room} (hd : dc cc pc (.invokestatic idx) 3 n) (hcl : CLS y.cls idx y' cc' nL' ret' 0) (hrm : R'.frames + 1 ≤ R.frames ∧ 8 + (nL' + 11) + R'.locals ≤ R.locals ∧ cells + R'.cells ≤ R.cells ∧ slots + R'.slots ≤ R.slots) (hC : Ct b0 D dA y' cc' nL' ret' R' [] dm ad ct (fun v dm ad ct => E b0 D dA y cc nL ret R EX QF n lv (vl v st) dm ad ct (cells + R'.cells) (slots + R'.slots))) (hst : (st.map fun v => v.category).sum ≤ 8 := by decide) : E b0 D dA y cc nL ret R EX QF pc lv (st) dm ad ct cells slots := by
  obtain ⟨hd, rfl⟩ := hd
  intro p l e s m args below meth c C H locs ls hl hR hS
  have hts := C.2.2.2.2.2.1
  exact w_call (va_runS (As := []) (rest := st) ⟨C.1, C.2.1, C.2.2.2.1, C.2.2.2.2.1, C.2.2.2.2.2.1⟩ (hC l) ⟨callB_of _ hts (gT_good hcl.1.2.1) rfl rfl rfl (hts _ hcl.1.2.2.1) (hts _ hcl.1.1) hcl.1.2.2.2 ⟨hrm.1, hrm.2.1⟩, hts _ hcl.2⟩ ⟨pk_blind, fun U hU hW => ⟨rfl, by rw [hU]; exact hR, KK.warm hW C.2.2.2.2.2.2.2.2.1⟩⟩ rfl rfl hl.1 rfl (lv_room hst) hd ⟨hrm.2.2.1, hrm.2.2.2⟩) hS (fun v dm ad ct H1 locs1 hq hR1 hS1 => hq p l e s m args below meth c C H1 locs1 ls hl hR1 hS1)
theorem e_callSN0 {idx : Nat} {y' : MethodName} {cc' : ByteArray} {nL' : Nat} {ret' : Option FieldType} {R' : Room} (hd : dc cc pc (.invokestatic idx) 3 n) (hcl : CNS y.cls idx y' cc' nL' ret' 0) (hrm : R'.frames + 1 ≤ R.frames ∧ 8 + (nL' + 11) + R'.locals ≤ R.locals ∧ cells + R'.cells ≤ R.cells ∧ slots + R'.slots ≤ R.slots) (hC : Ct b0 D dA y' cc' nL' ret' R' [] dm ad ct (fun v dm ad ct => E b0 D dA y cc nL ret R EX QF n lv (vl v st) dm ad ct (cells + R'.cells) (slots + R'.slots))) (hst : (st.map fun v => v.category).sum ≤ 8 := by decide) : E b0 D dA y cc nL ret R EX QF pc lv (st) dm ad ct cells slots := by
  obtain ⟨hd, rfl⟩ := hd
  intro p l e s m args below meth c C H locs ls hl hR hS
  have hts := C.2.2.2.2.2.1
  obtain ⟨host, hcl0⟩ := hcl.1.1
  exact w_call (va_runSN (As := []) (rest := st) ⟨C.1, C.2.1, C.2.2.2.1, C.2.2.2.2.1, C.2.2.2.2.2.1⟩ (hC l) ⟨va_cnB _ hts (gT_good hcl.1.2.1) rfl rfl rfl (C.2.2.2.2.2.2.2.2.1.2.1 _ hcl0) (hts _ hcl.1.2.2.1) hcl.1.2.2.2 ⟨hrm.1, hrm.2.1⟩, hts _ hcl.2, trivial⟩ ⟨pk_blind, fun U hU hW => ⟨rfl, by rw [hU]; exact hR, KK.warm hW C.2.2.2.2.2.2.2.2.1⟩⟩ rfl rfl hl.1 rfl (lv_room hst) hd ⟨hrm.2.2.1, hrm.2.2.2⟩) hS (fun v dm ad ct H1 locs1 hq hR1 hS1 => hq p l e s m args below meth c C H1 locs1 ls hl hR1 hS1)
theorem e_callV0 {idx k i ci : Nat} {fs : List Value} {y' : MethodName} {cc' : ByteArray} {nL' : Nat} {ret' : Option FieldType} {R' : Room} (hd : dc cc pc (.invokevirtual idx) 3 n) (hcl : CLV y.cls idx y' cc' nL' ret' 0 ci) (hk : dm k i) (he : ct k i = .inr (ci, fs)) (hrm : R'.frames + 1 ≤ R.frames ∧ 8 + (nL' + 11) + R'.locals ≤ R.locals ∧ cells + R'.cells ≤ R.cells ∧ slots + R'.slots ≤ R.slots) (hC : Ct b0 D dA y' cc' nL' ret' R' [.ref (ad k i)] dm ad ct (fun v dm ad ct => E b0 D dA y cc nL ret R EX QF n lv (vl v st) dm ad ct (cells + R'.cells) (slots + R'.slots))) (hst : (st.map fun v => v.category).sum ≤ 8 := by decide) : E b0 D dA y cc nL ret R EX QF pc lv (.ref (ad k i) :: st) dm ad ct cells slots := by
  obtain ⟨hd, rfl⟩ := hd
  intro p l e s m args below meth c C H locs ls hl hR hS
  have hts := C.2.2.2.2.2.1
  obtain ⟨T0, N0, hci⟩ := hcl.2.2.2
  exact w_call (va_runV (As := []) (rest := st) ⟨C.1, C.2.1, C.2.2.2.1, C.2.2.2.2.1, C.2.2.2.2.2.1⟩ (hC l) ⟨callB_of _ hts (gT_good hcl.1.2.1) rfl rfl rfl (hts _ hcl.1.2.2.1) (hts _ hcl.1.1) hcl.1.2.2.2 ⟨hrm.1, hrm.2.1⟩, hts _ hcl.2.1, hts _ hcl.2.2.1⟩ ⟨pk_blind, w_recv C.2.2.2.2.2.2.2.2.1 hR hk he hci, fun U hU hW => ⟨rfl, by rw [hU]; exact hR, KK.warm hW C.2.2.2.2.2.2.2.2.1⟩⟩ rfl rfl hl.1 rfl (lv_room hst) hd ⟨hrm.2.2.1, hrm.2.2.2⟩) hS (fun v dm ad ct H1 locs1 hq hR1 hS1 => hq p l e s m args below meth c C H1 locs1 ls hl hR1 hS1)
theorem e_callU0 {idx k i ci : Nat} {fs : List Value} {x : MethodName} {y' : MethodName} {cc' : ByteArray} {nL' : Nat} {ret' : Option FieldType} {R' : Room} (hd : dc cc pc (.invokevirtual idx) 3 n) (hcl : CLU y.cls idx x y' cc' nL' ret' 0 ci) (hk : dm k i) (he : ct k i = .inr (ci, fs)) (hrm : R'.frames + 1 ≤ R.frames ∧ 8 + (nL' + 11) + R'.locals ≤ R.locals ∧ cells + R'.cells ≤ R.cells ∧ slots + R'.slots ≤ R.slots) (hC : Ct b0 D dA y' cc' nL' ret' R' [.ref (ad k i)] dm ad ct (fun v dm ad ct => E b0 D dA y cc nL ret R EX QF n lv (vl v st) dm ad ct (cells + R'.cells) (slots + R'.slots))) (hst : (st.map fun v => v.category).sum ≤ 8 := by decide) : E b0 D dA y cc nL ret R EX QF pc lv (.ref (ad k i) :: st) dm ad ct cells slots := by
  obtain ⟨hd, rfl⟩ := hd
  intro p l e s m args below meth c C H locs ls hl hR hS
  have hts := C.2.2.2.2.2.1
  obtain ⟨c1, c2, c3, c4, c5, c6, c7, Cn, T0, N0, hci, c8⟩ := hcl
  have hG : GoodIn gT (va_wsU y.cls idx Cn x.cls x y' (.code y' cc' nL' ret' :: gT)) := by
    intro w hw
    have hm : w ∈ gT := by
      simp only [va_wsU, List.mem_append, List.mem_cons, List.not_mem_nil, or_false] at hw
      rcases hw with (rfl | rfl | rfl | rfl | rfl) | rfl | hw
      · exact c1
      · exact c2
      · exact c8
      · exact c4
      · exact c5
      · exact c6
      · exact hw
    exact ⟨hm, good_of_word (List.mem_filter.mp hm).2⟩
  exact w_call (va_runU (C := Cn) (owner := x.cls) (As := []) (rest := st) ⟨C.1, C.2.1, C.2.2.2.1, C.2.2.2.2.1, C.2.2.2.2.2.1⟩ (hC l) (va_cwA 0 hts hG rfl rfl rfl (C.2.2.2.2.2.2.2.2.1.2.2.1 _ c3) c7 ⟨hrm.1, hrm.2.1⟩) ⟨pk_blind, w_recv C.2.2.2.2.2.2.2.2.1 hR hk he hci, fun U hU hW => ⟨rfl, by rw [hU]; exact hR, KK.warm hW C.2.2.2.2.2.2.2.2.1⟩⟩ rfl rfl hl.1 rfl (lv_room hst) hd ⟨hrm.2.2.1, hrm.2.2.2⟩) hS (fun v dm ad ct H1 locs1 hq hR1 hS1 => hq p l e s m args below meth c C H1 locs1 ls hl hR1 hS1)
theorem e_callI0 {idx a : Nat} {y' : MethodName} {cc' : ByteArray} {nL' : Nat} {R' : Room} (hd : dc cc pc (.invokespecial idx) 3 n) (hcl : CLI y.cls idx y' cc' nL' 0) (hrm : R'.frames + 1 ≤ R.frames ∧ 8 + (nL' + 11) + R'.locals ≤ R.locals ∧ cells + R'.cells ≤ R.cells ∧ slots + R'.slots ≤ R.slots) (hC : Ct b0 D dA y' cc' nL' none R' [.ref a] dm ad ct (fun v dm ad ct => E b0 D dA y cc nL ret R EX QF n lv (vl v st) dm ad ct (cells + R'.cells) (slots + R'.slots))) (hst : (st.map fun v => v.category).sum ≤ 8 := by decide) : E b0 D dA y cc nL ret R EX QF pc lv (.ref a :: st) dm ad ct cells slots := by
  obtain ⟨hd, rfl⟩ := hd
  intro p l e s m args below meth c C H locs ls hl hR hS
  have hts := C.2.2.2.2.2.1
  exact w_call (va_runI (As := []) (rest := st) ⟨C.1, C.2.1, C.2.2.2.1, C.2.2.2.2.1, C.2.2.2.2.2.1⟩ (hC l) ⟨callB_of _ hts (gT_good hcl.1.2.1) rfl rfl rfl (hts _ hcl.1.2.2.1) (hts _ hcl.1.1) hcl.1.2.2.2 ⟨hrm.1, hrm.2.1⟩, hcl.2.1, hts _ hcl.2.2⟩ ⟨pk_blind, fun U hU hW => ⟨rfl, by rw [hU]; exact hR, KK.warm hW C.2.2.2.2.2.2.2.2.1⟩⟩ rfl rfl hl.1 rfl (lv_room hst) hd ⟨hrm.2.2.1, hrm.2.2.2⟩) hS (fun v dm ad ct H1 locs1 hq hR1 hS1 => hq p l e s m args below meth c C H1 locs1 ls hl hR1 hS1)
theorem e_callIN0 {idx a : Nat} {y' : MethodName} {cc' : ByteArray} {nL' : Nat} {R' : Room} (hd : dc cc pc (.invokespecial idx) 3 n) (hcl : CNI y.cls idx y' cc' nL' 0) (hrm : R'.frames + 1 ≤ R.frames ∧ 8 + (nL' + 11) + R'.locals ≤ R.locals ∧ cells + R'.cells ≤ R.cells ∧ slots + R'.slots ≤ R.slots) (hC : Ct b0 D dA y' cc' nL' none R' [.ref a] dm ad ct (fun v dm ad ct => E b0 D dA y cc nL ret R EX QF n lv (vl v st) dm ad ct (cells + R'.cells) (slots + R'.slots))) (hst : (st.map fun v => v.category).sum ≤ 8 := by decide) : E b0 D dA y cc nL ret R EX QF pc lv (.ref a :: st) dm ad ct cells slots := by
  obtain ⟨hd, rfl⟩ := hd
  intro p l e s m args below meth c C H locs ls hl hR hS
  have hts := C.2.2.2.2.2.1
  obtain ⟨host, hcl0⟩ := hcl.1.1
  exact w_call (va_runIN (As := []) (rest := st) ⟨C.1, C.2.1, C.2.2.2.1, C.2.2.2.2.1, C.2.2.2.2.2.1⟩ (hC l) ⟨va_cnB _ hts (gT_good hcl.1.2.1) rfl rfl rfl (C.2.2.2.2.2.2.2.2.1.2.1 _ hcl0) (hts _ hcl.1.2.2.1) hcl.1.2.2.2 ⟨hrm.1, hrm.2.1⟩, hcl.2.1, hts _ hcl.2.2⟩ ⟨pk_blind, fun U hU hW => ⟨rfl, by rw [hU]; exact hR, KK.warm hW C.2.2.2.2.2.2.2.2.1⟩⟩ rfl rfl hl.1 rfl (lv_room hst) hd ⟨hrm.2.2.1, hrm.2.2.2⟩) hS (fun v dm ad ct H1 locs1 hq hR1 hS1 => hq p l e s m args below meth c C H1 locs1 ls hl hR1 hS1)
theorem e_callS1 {idx : Nat} {y' : MethodName} {cc' : ByteArray} {nL' : Nat} {ret' : Option FieldType} {R' : Room} {v1 : Value} (hd : dc cc pc (.invokestatic idx) 3 n) (hcl : CLS y.cls idx y' cc' nL' ret' 1) (hrm : R'.frames + 1 ≤ R.frames ∧ 8 + (nL' + 11) + R'.locals ≤ R.locals ∧ cells + R'.cells ≤ R.cells ∧ slots + R'.slots ≤ R.slots) (hC : Ct b0 D dA y' cc' nL' ret' R' [v1] dm ad ct (fun v dm ad ct => E b0 D dA y cc nL ret R EX QF n lv (vl v st) dm ad ct (cells + R'.cells) (slots + R'.slots))) (hst : (st.map fun v => v.category).sum ≤ 8 := by decide) : E b0 D dA y cc nL ret R EX QF pc lv (v1 :: st) dm ad ct cells slots := by
  obtain ⟨hd, rfl⟩ := hd
  intro p l e s m args below meth c C H locs ls hl hR hS
  have hts := C.2.2.2.2.2.1
  exact w_call (va_runS (As := [v1]) (rest := st) ⟨C.1, C.2.1, C.2.2.2.1, C.2.2.2.2.1, C.2.2.2.2.2.1⟩ (hC l) ⟨callB_of _ hts (gT_good hcl.1.2.1) rfl rfl rfl (hts _ hcl.1.2.2.1) (hts _ hcl.1.1) hcl.1.2.2.2 ⟨hrm.1, hrm.2.1⟩, hts _ hcl.2⟩ ⟨pk_blind, fun U hU hW => ⟨rfl, by rw [hU]; exact hR, KK.warm hW C.2.2.2.2.2.2.2.2.1⟩⟩ rfl rfl hl.1 rfl (lv_room hst) hd ⟨hrm.2.2.1, hrm.2.2.2⟩) hS (fun v dm ad ct H1 locs1 hq hR1 hS1 => hq p l e s m args below meth c C H1 locs1 ls hl hR1 hS1)
theorem e_callSN1 {idx : Nat} {y' : MethodName} {cc' : ByteArray} {nL' : Nat} {ret' : Option FieldType} {R' : Room} {v1 : Value} (hd : dc cc pc (.invokestatic idx) 3 n) (hcl : CNS y.cls idx y' cc' nL' ret' 1) (hrm : R'.frames + 1 ≤ R.frames ∧ 8 + (nL' + 11) + R'.locals ≤ R.locals ∧ cells + R'.cells ≤ R.cells ∧ slots + R'.slots ≤ R.slots) (hC : Ct b0 D dA y' cc' nL' ret' R' [v1] dm ad ct (fun v dm ad ct => E b0 D dA y cc nL ret R EX QF n lv (vl v st) dm ad ct (cells + R'.cells) (slots + R'.slots))) (hst : (st.map fun v => v.category).sum ≤ 8 := by decide) : E b0 D dA y cc nL ret R EX QF pc lv (v1 :: st) dm ad ct cells slots := by
  obtain ⟨hd, rfl⟩ := hd
  intro p l e s m args below meth c C H locs ls hl hR hS
  have hts := C.2.2.2.2.2.1
  obtain ⟨host, hcl0⟩ := hcl.1.1
  exact w_call (va_runSN (As := [v1]) (rest := st) ⟨C.1, C.2.1, C.2.2.2.1, C.2.2.2.2.1, C.2.2.2.2.2.1⟩ (hC l) ⟨va_cnB _ hts (gT_good hcl.1.2.1) rfl rfl rfl (C.2.2.2.2.2.2.2.2.1.2.1 _ hcl0) (hts _ hcl.1.2.2.1) hcl.1.2.2.2 ⟨hrm.1, hrm.2.1⟩, hts _ hcl.2, trivial⟩ ⟨pk_blind, fun U hU hW => ⟨rfl, by rw [hU]; exact hR, KK.warm hW C.2.2.2.2.2.2.2.2.1⟩⟩ rfl rfl hl.1 rfl (lv_room hst) hd ⟨hrm.2.2.1, hrm.2.2.2⟩) hS (fun v dm ad ct H1 locs1 hq hR1 hS1 => hq p l e s m args below meth c C H1 locs1 ls hl hR1 hS1)
theorem e_callV1 {idx k i ci : Nat} {fs : List Value} {y' : MethodName} {cc' : ByteArray} {nL' : Nat} {ret' : Option FieldType} {R' : Room} {v1 : Value} (hd : dc cc pc (.invokevirtual idx) 3 n) (hcl : CLV y.cls idx y' cc' nL' ret' 1 ci) (hk : dm k i) (he : ct k i = .inr (ci, fs)) (hrm : R'.frames + 1 ≤ R.frames ∧ 8 + (nL' + 11) + R'.locals ≤ R.locals ∧ cells + R'.cells ≤ R.cells ∧ slots + R'.slots ≤ R.slots) (hC : Ct b0 D dA y' cc' nL' ret' R' [.ref (ad k i), v1] dm ad ct (fun v dm ad ct => E b0 D dA y cc nL ret R EX QF n lv (vl v st) dm ad ct (cells + R'.cells) (slots + R'.slots))) (hst : (st.map fun v => v.category).sum ≤ 8 := by decide) : E b0 D dA y cc nL ret R EX QF pc lv (v1 :: .ref (ad k i) :: st) dm ad ct cells slots := by
  obtain ⟨hd, rfl⟩ := hd
  intro p l e s m args below meth c C H locs ls hl hR hS
  have hts := C.2.2.2.2.2.1
  obtain ⟨T0, N0, hci⟩ := hcl.2.2.2
  exact w_call (va_runV (As := [v1]) (rest := st) ⟨C.1, C.2.1, C.2.2.2.1, C.2.2.2.2.1, C.2.2.2.2.2.1⟩ (hC l) ⟨callB_of _ hts (gT_good hcl.1.2.1) rfl rfl rfl (hts _ hcl.1.2.2.1) (hts _ hcl.1.1) hcl.1.2.2.2 ⟨hrm.1, hrm.2.1⟩, hts _ hcl.2.1, hts _ hcl.2.2.1⟩ ⟨pk_blind, w_recv C.2.2.2.2.2.2.2.2.1 hR hk he hci, fun U hU hW => ⟨rfl, by rw [hU]; exact hR, KK.warm hW C.2.2.2.2.2.2.2.2.1⟩⟩ rfl rfl hl.1 rfl (lv_room hst) hd ⟨hrm.2.2.1, hrm.2.2.2⟩) hS (fun v dm ad ct H1 locs1 hq hR1 hS1 => hq p l e s m args below meth c C H1 locs1 ls hl hR1 hS1)
theorem e_callU1 {idx k i ci : Nat} {fs : List Value} {x : MethodName} {y' : MethodName} {cc' : ByteArray} {nL' : Nat} {ret' : Option FieldType} {R' : Room} {v1 : Value} (hd : dc cc pc (.invokevirtual idx) 3 n) (hcl : CLU y.cls idx x y' cc' nL' ret' 1 ci) (hk : dm k i) (he : ct k i = .inr (ci, fs)) (hrm : R'.frames + 1 ≤ R.frames ∧ 8 + (nL' + 11) + R'.locals ≤ R.locals ∧ cells + R'.cells ≤ R.cells ∧ slots + R'.slots ≤ R.slots) (hC : Ct b0 D dA y' cc' nL' ret' R' [.ref (ad k i), v1] dm ad ct (fun v dm ad ct => E b0 D dA y cc nL ret R EX QF n lv (vl v st) dm ad ct (cells + R'.cells) (slots + R'.slots))) (hst : (st.map fun v => v.category).sum ≤ 8 := by decide) : E b0 D dA y cc nL ret R EX QF pc lv (v1 :: .ref (ad k i) :: st) dm ad ct cells slots := by
  obtain ⟨hd, rfl⟩ := hd
  intro p l e s m args below meth c C H locs ls hl hR hS
  have hts := C.2.2.2.2.2.1
  obtain ⟨c1, c2, c3, c4, c5, c6, c7, Cn, T0, N0, hci, c8⟩ := hcl
  have hG : GoodIn gT (va_wsU y.cls idx Cn x.cls x y' (.code y' cc' nL' ret' :: gT)) := by
    intro w hw
    have hm : w ∈ gT := by
      simp only [va_wsU, List.mem_append, List.mem_cons, List.not_mem_nil, or_false] at hw
      rcases hw with (rfl | rfl | rfl | rfl | rfl) | rfl | hw
      · exact c1
      · exact c2
      · exact c8
      · exact c4
      · exact c5
      · exact c6
      · exact hw
    exact ⟨hm, good_of_word (List.mem_filter.mp hm).2⟩
  exact w_call (va_runU (C := Cn) (owner := x.cls) (As := [v1]) (rest := st) ⟨C.1, C.2.1, C.2.2.2.1, C.2.2.2.2.1, C.2.2.2.2.2.1⟩ (hC l) (va_cwA 1 hts hG rfl rfl rfl (C.2.2.2.2.2.2.2.2.1.2.2.1 _ c3) c7 ⟨hrm.1, hrm.2.1⟩) ⟨pk_blind, w_recv C.2.2.2.2.2.2.2.2.1 hR hk he hci, fun U hU hW => ⟨rfl, by rw [hU]; exact hR, KK.warm hW C.2.2.2.2.2.2.2.2.1⟩⟩ rfl rfl hl.1 rfl (lv_room hst) hd ⟨hrm.2.2.1, hrm.2.2.2⟩) hS (fun v dm ad ct H1 locs1 hq hR1 hS1 => hq p l e s m args below meth c C H1 locs1 ls hl hR1 hS1)
theorem e_callP1 {idx k i ci : Nat} {fs : List Value} {y' : MethodName} {cc' : ByteArray} {nL' : Nat} {ret' : Option FieldType} {R' : Room} {v1 : Value} (hd : dc cc pc (.invokespecial idx) 3 n) (hcl : CLP y.cls idx y' cc' nL' ret' 1 ci) (hk : dm k i) (he : ct k i = .inr (ci, fs)) (hrm : R'.frames + 1 ≤ R.frames ∧ 8 + (nL' + 11) + R'.locals ≤ R.locals ∧ cells + R'.cells ≤ R.cells ∧ slots + R'.slots ≤ R.slots) (hC : Ct b0 D dA y' cc' nL' ret' R' [.ref (ad k i), v1] dm ad ct (fun v dm ad ct => E b0 D dA y cc nL ret R EX QF n lv (vl v st) dm ad ct (cells + R'.cells) (slots + R'.slots))) (hst : (st.map fun v => v.category).sum ≤ 8 := by decide) : E b0 D dA y cc nL ret R EX QF pc lv (v1 :: .ref (ad k i) :: st) dm ad ct cells slots := by
  obtain ⟨hd, rfl⟩ := hd
  intro p l e s m args below meth c C H locs ls hl hR hS
  have hts := C.2.2.2.2.2.1
  obtain ⟨c1, c2, c3, c4, c5, c6, c7, Cn, T0, N0, hci⟩ := hcl
  have hG : GoodIn gT (va_wsSU y.cls idx y' (.code y' cc' nL' ret' :: gT)) := by
    intro w hw
    have hm : w ∈ gT := by
      simp only [va_wsSU, List.mem_append, List.mem_cons, List.not_mem_nil, or_false] at hw
      rcases hw with (rfl | rfl | rfl | rfl | rfl) | rfl | hw
      · exact c1
      · exact c2
      · exact c3
      · exact c4
      · exact c5
      · exact c6
      · exact hw
    exact ⟨hm, good_of_word (List.mem_filter.mp hm).2⟩
  exact w_call (va_runSU (C := Cn) (C.2.2.2.2.2.2.2.2.1.1.1 ci _ hci).2 (As := [v1]) (rest := st) ⟨C.1, C.2.1, C.2.2.2.1, C.2.2.2.2.1, C.2.2.2.2.2.1⟩ (hC l) (va_cwSU 1 hts hG rfl rfl rfl c7 ⟨hrm.1, hrm.2.1⟩) ⟨pk_blind, w_recv C.2.2.2.2.2.2.2.2.1 hR hk he hci, fun U hU hW => ⟨rfl, by rw [hU]; exact hR, KK.warm hW C.2.2.2.2.2.2.2.2.1⟩⟩ rfl rfl hl.1 rfl (lv_room hst) hd ⟨hrm.2.2.1, hrm.2.2.2⟩) hS (fun v dm ad ct H1 locs1 hq hR1 hS1 => hq p l e s m args below meth c C H1 locs1 ls hl hR1 hS1)
theorem e_callI1 {idx a : Nat} {y' : MethodName} {cc' : ByteArray} {nL' : Nat} {R' : Room} {v1 : Value} (hd : dc cc pc (.invokespecial idx) 3 n) (hcl : CLI y.cls idx y' cc' nL' 1) (hrm : R'.frames + 1 ≤ R.frames ∧ 8 + (nL' + 11) + R'.locals ≤ R.locals ∧ cells + R'.cells ≤ R.cells ∧ slots + R'.slots ≤ R.slots) (hC : Ct b0 D dA y' cc' nL' none R' [.ref a, v1] dm ad ct (fun v dm ad ct => E b0 D dA y cc nL ret R EX QF n lv (vl v st) dm ad ct (cells + R'.cells) (slots + R'.slots))) (hst : (st.map fun v => v.category).sum ≤ 8 := by decide) : E b0 D dA y cc nL ret R EX QF pc lv (v1 :: .ref a :: st) dm ad ct cells slots := by
  obtain ⟨hd, rfl⟩ := hd
  intro p l e s m args below meth c C H locs ls hl hR hS
  have hts := C.2.2.2.2.2.1
  exact w_call (va_runI (As := [v1]) (rest := st) ⟨C.1, C.2.1, C.2.2.2.1, C.2.2.2.2.1, C.2.2.2.2.2.1⟩ (hC l) ⟨callB_of _ hts (gT_good hcl.1.2.1) rfl rfl rfl (hts _ hcl.1.2.2.1) (hts _ hcl.1.1) hcl.1.2.2.2 ⟨hrm.1, hrm.2.1⟩, hcl.2.1, hts _ hcl.2.2⟩ ⟨pk_blind, fun U hU hW => ⟨rfl, by rw [hU]; exact hR, KK.warm hW C.2.2.2.2.2.2.2.2.1⟩⟩ rfl rfl hl.1 rfl (lv_room hst) hd ⟨hrm.2.2.1, hrm.2.2.2⟩) hS (fun v dm ad ct H1 locs1 hq hR1 hS1 => hq p l e s m args below meth c C H1 locs1 ls hl hR1 hS1)
theorem e_callIN1 {idx a : Nat} {y' : MethodName} {cc' : ByteArray} {nL' : Nat} {R' : Room} {v1 : Value} (hd : dc cc pc (.invokespecial idx) 3 n) (hcl : CNI y.cls idx y' cc' nL' 1) (hrm : R'.frames + 1 ≤ R.frames ∧ 8 + (nL' + 11) + R'.locals ≤ R.locals ∧ cells + R'.cells ≤ R.cells ∧ slots + R'.slots ≤ R.slots) (hC : Ct b0 D dA y' cc' nL' none R' [.ref a, v1] dm ad ct (fun v dm ad ct => E b0 D dA y cc nL ret R EX QF n lv (vl v st) dm ad ct (cells + R'.cells) (slots + R'.slots))) (hst : (st.map fun v => v.category).sum ≤ 8 := by decide) : E b0 D dA y cc nL ret R EX QF pc lv (v1 :: .ref a :: st) dm ad ct cells slots := by
  obtain ⟨hd, rfl⟩ := hd
  intro p l e s m args below meth c C H locs ls hl hR hS
  have hts := C.2.2.2.2.2.1
  obtain ⟨host, hcl0⟩ := hcl.1.1
  exact w_call (va_runIN (As := [v1]) (rest := st) ⟨C.1, C.2.1, C.2.2.2.1, C.2.2.2.2.1, C.2.2.2.2.2.1⟩ (hC l) ⟨va_cnB _ hts (gT_good hcl.1.2.1) rfl rfl rfl (C.2.2.2.2.2.2.2.2.1.2.1 _ hcl0) (hts _ hcl.1.2.2.1) hcl.1.2.2.2 ⟨hrm.1, hrm.2.1⟩, hcl.2.1, hts _ hcl.2.2⟩ ⟨pk_blind, fun U hU hW => ⟨rfl, by rw [hU]; exact hR, KK.warm hW C.2.2.2.2.2.2.2.2.1⟩⟩ rfl rfl hl.1 rfl (lv_room hst) hd ⟨hrm.2.2.1, hrm.2.2.2⟩) hS (fun v dm ad ct H1 locs1 hq hR1 hS1 => hq p l e s m args below meth c C H1 locs1 ls hl hR1 hS1)
theorem e_callS2 {idx : Nat} {y' : MethodName} {cc' : ByteArray} {nL' : Nat} {ret' : Option FieldType} {R' : Room} {v1 v2 : Value} (hd : dc cc pc (.invokestatic idx) 3 n) (hcl : CLS y.cls idx y' cc' nL' ret' 2) (hrm : R'.frames + 1 ≤ R.frames ∧ 8 + (nL' + 11) + R'.locals ≤ R.locals ∧ cells + R'.cells ≤ R.cells ∧ slots + R'.slots ≤ R.slots) (hC : Ct b0 D dA y' cc' nL' ret' R' [v1, v2] dm ad ct (fun v dm ad ct => E b0 D dA y cc nL ret R EX QF n lv (vl v st) dm ad ct (cells + R'.cells) (slots + R'.slots))) (hst : (st.map fun v => v.category).sum ≤ 8 := by decide) : E b0 D dA y cc nL ret R EX QF pc lv (v2 :: v1 :: st) dm ad ct cells slots := by
  obtain ⟨hd, rfl⟩ := hd
  intro p l e s m args below meth c C H locs ls hl hR hS
  have hts := C.2.2.2.2.2.1
  exact w_call (va_runS (As := [v1, v2]) (rest := st) ⟨C.1, C.2.1, C.2.2.2.1, C.2.2.2.2.1, C.2.2.2.2.2.1⟩ (hC l) ⟨callB_of _ hts (gT_good hcl.1.2.1) rfl rfl rfl (hts _ hcl.1.2.2.1) (hts _ hcl.1.1) hcl.1.2.2.2 ⟨hrm.1, hrm.2.1⟩, hts _ hcl.2⟩ ⟨pk_blind, fun U hU hW => ⟨rfl, by rw [hU]; exact hR, KK.warm hW C.2.2.2.2.2.2.2.2.1⟩⟩ rfl rfl hl.1 rfl (lv_room hst) hd ⟨hrm.2.2.1, hrm.2.2.2⟩) hS (fun v dm ad ct H1 locs1 hq hR1 hS1 => hq p l e s m args below meth c C H1 locs1 ls hl hR1 hS1)
theorem e_callSN2 {idx : Nat} {y' : MethodName} {cc' : ByteArray} {nL' : Nat} {ret' : Option FieldType} {R' : Room} {v1 v2 : Value} (hd : dc cc pc (.invokestatic idx) 3 n) (hcl : CNS y.cls idx y' cc' nL' ret' 2) (hrm : R'.frames + 1 ≤ R.frames ∧ 8 + (nL' + 11) + R'.locals ≤ R.locals ∧ cells + R'.cells ≤ R.cells ∧ slots + R'.slots ≤ R.slots) (hC : Ct b0 D dA y' cc' nL' ret' R' [v1, v2] dm ad ct (fun v dm ad ct => E b0 D dA y cc nL ret R EX QF n lv (vl v st) dm ad ct (cells + R'.cells) (slots + R'.slots))) (hst : (st.map fun v => v.category).sum ≤ 8 := by decide) : E b0 D dA y cc nL ret R EX QF pc lv (v2 :: v1 :: st) dm ad ct cells slots := by
  obtain ⟨hd, rfl⟩ := hd
  intro p l e s m args below meth c C H locs ls hl hR hS
  have hts := C.2.2.2.2.2.1
  obtain ⟨host, hcl0⟩ := hcl.1.1
  exact w_call (va_runSN (As := [v1, v2]) (rest := st) ⟨C.1, C.2.1, C.2.2.2.1, C.2.2.2.2.1, C.2.2.2.2.2.1⟩ (hC l) ⟨va_cnB _ hts (gT_good hcl.1.2.1) rfl rfl rfl (C.2.2.2.2.2.2.2.2.1.2.1 _ hcl0) (hts _ hcl.1.2.2.1) hcl.1.2.2.2 ⟨hrm.1, hrm.2.1⟩, hts _ hcl.2, trivial⟩ ⟨pk_blind, fun U hU hW => ⟨rfl, by rw [hU]; exact hR, KK.warm hW C.2.2.2.2.2.2.2.2.1⟩⟩ rfl rfl hl.1 rfl (lv_room hst) hd ⟨hrm.2.2.1, hrm.2.2.2⟩) hS (fun v dm ad ct H1 locs1 hq hR1 hS1 => hq p l e s m args below meth c C H1 locs1 ls hl hR1 hS1)
theorem e_callV2 {idx k i ci : Nat} {fs : List Value} {y' : MethodName} {cc' : ByteArray} {nL' : Nat} {ret' : Option FieldType} {R' : Room} {v1 v2 : Value} (hd : dc cc pc (.invokevirtual idx) 3 n) (hcl : CLV y.cls idx y' cc' nL' ret' 2 ci) (hk : dm k i) (he : ct k i = .inr (ci, fs)) (hrm : R'.frames + 1 ≤ R.frames ∧ 8 + (nL' + 11) + R'.locals ≤ R.locals ∧ cells + R'.cells ≤ R.cells ∧ slots + R'.slots ≤ R.slots) (hC : Ct b0 D dA y' cc' nL' ret' R' [.ref (ad k i), v1, v2] dm ad ct (fun v dm ad ct => E b0 D dA y cc nL ret R EX QF n lv (vl v st) dm ad ct (cells + R'.cells) (slots + R'.slots))) (hst : (st.map fun v => v.category).sum ≤ 8 := by decide) : E b0 D dA y cc nL ret R EX QF pc lv (v2 :: v1 :: .ref (ad k i) :: st) dm ad ct cells slots := by
  obtain ⟨hd, rfl⟩ := hd
  intro p l e s m args below meth c C H locs ls hl hR hS
  have hts := C.2.2.2.2.2.1
  obtain ⟨T0, N0, hci⟩ := hcl.2.2.2
  exact w_call (va_runV (As := [v1, v2]) (rest := st) ⟨C.1, C.2.1, C.2.2.2.1, C.2.2.2.2.1, C.2.2.2.2.2.1⟩ (hC l) ⟨callB_of _ hts (gT_good hcl.1.2.1) rfl rfl rfl (hts _ hcl.1.2.2.1) (hts _ hcl.1.1) hcl.1.2.2.2 ⟨hrm.1, hrm.2.1⟩, hts _ hcl.2.1, hts _ hcl.2.2.1⟩ ⟨pk_blind, w_recv C.2.2.2.2.2.2.2.2.1 hR hk he hci, fun U hU hW => ⟨rfl, by rw [hU]; exact hR, KK.warm hW C.2.2.2.2.2.2.2.2.1⟩⟩ rfl rfl hl.1 rfl (lv_room hst) hd ⟨hrm.2.2.1, hrm.2.2.2⟩) hS (fun v dm ad ct H1 locs1 hq hR1 hS1 => hq p l e s m args below meth c C H1 locs1 ls hl hR1 hS1)
theorem e_callU2 {idx k i ci : Nat} {fs : List Value} {x : MethodName} {y' : MethodName} {cc' : ByteArray} {nL' : Nat} {ret' : Option FieldType} {R' : Room} {v1 v2 : Value} (hd : dc cc pc (.invokevirtual idx) 3 n) (hcl : CLU y.cls idx x y' cc' nL' ret' 2 ci) (hk : dm k i) (he : ct k i = .inr (ci, fs)) (hrm : R'.frames + 1 ≤ R.frames ∧ 8 + (nL' + 11) + R'.locals ≤ R.locals ∧ cells + R'.cells ≤ R.cells ∧ slots + R'.slots ≤ R.slots) (hC : Ct b0 D dA y' cc' nL' ret' R' [.ref (ad k i), v1, v2] dm ad ct (fun v dm ad ct => E b0 D dA y cc nL ret R EX QF n lv (vl v st) dm ad ct (cells + R'.cells) (slots + R'.slots))) (hst : (st.map fun v => v.category).sum ≤ 8 := by decide) : E b0 D dA y cc nL ret R EX QF pc lv (v2 :: v1 :: .ref (ad k i) :: st) dm ad ct cells slots := by
  obtain ⟨hd, rfl⟩ := hd
  intro p l e s m args below meth c C H locs ls hl hR hS
  have hts := C.2.2.2.2.2.1
  obtain ⟨c1, c2, c3, c4, c5, c6, c7, Cn, T0, N0, hci, c8⟩ := hcl
  have hG : GoodIn gT (va_wsU y.cls idx Cn x.cls x y' (.code y' cc' nL' ret' :: gT)) := by
    intro w hw
    have hm : w ∈ gT := by
      simp only [va_wsU, List.mem_append, List.mem_cons, List.not_mem_nil, or_false] at hw
      rcases hw with (rfl | rfl | rfl | rfl | rfl) | rfl | hw
      · exact c1
      · exact c2
      · exact c8
      · exact c4
      · exact c5
      · exact c6
      · exact hw
    exact ⟨hm, good_of_word (List.mem_filter.mp hm).2⟩
  exact w_call (va_runU (C := Cn) (owner := x.cls) (As := [v1, v2]) (rest := st) ⟨C.1, C.2.1, C.2.2.2.1, C.2.2.2.2.1, C.2.2.2.2.2.1⟩ (hC l) (va_cwA 2 hts hG rfl rfl rfl (C.2.2.2.2.2.2.2.2.1.2.2.1 _ c3) c7 ⟨hrm.1, hrm.2.1⟩) ⟨pk_blind, w_recv C.2.2.2.2.2.2.2.2.1 hR hk he hci, fun U hU hW => ⟨rfl, by rw [hU]; exact hR, KK.warm hW C.2.2.2.2.2.2.2.2.1⟩⟩ rfl rfl hl.1 rfl (lv_room hst) hd ⟨hrm.2.2.1, hrm.2.2.2⟩) hS (fun v dm ad ct H1 locs1 hq hR1 hS1 => hq p l e s m args below meth c C H1 locs1 ls hl hR1 hS1)
theorem e_callI2 {idx a : Nat} {y' : MethodName} {cc' : ByteArray} {nL' : Nat} {R' : Room} {v1 v2 : Value} (hd : dc cc pc (.invokespecial idx) 3 n) (hcl : CLI y.cls idx y' cc' nL' 2) (hrm : R'.frames + 1 ≤ R.frames ∧ 8 + (nL' + 11) + R'.locals ≤ R.locals ∧ cells + R'.cells ≤ R.cells ∧ slots + R'.slots ≤ R.slots) (hC : Ct b0 D dA y' cc' nL' none R' [.ref a, v1, v2] dm ad ct (fun v dm ad ct => E b0 D dA y cc nL ret R EX QF n lv (vl v st) dm ad ct (cells + R'.cells) (slots + R'.slots))) (hst : (st.map fun v => v.category).sum ≤ 8 := by decide) : E b0 D dA y cc nL ret R EX QF pc lv (v2 :: v1 :: .ref a :: st) dm ad ct cells slots := by
  obtain ⟨hd, rfl⟩ := hd
  intro p l e s m args below meth c C H locs ls hl hR hS
  have hts := C.2.2.2.2.2.1
  exact w_call (va_runI (As := [v1, v2]) (rest := st) ⟨C.1, C.2.1, C.2.2.2.1, C.2.2.2.2.1, C.2.2.2.2.2.1⟩ (hC l) ⟨callB_of _ hts (gT_good hcl.1.2.1) rfl rfl rfl (hts _ hcl.1.2.2.1) (hts _ hcl.1.1) hcl.1.2.2.2 ⟨hrm.1, hrm.2.1⟩, hcl.2.1, hts _ hcl.2.2⟩ ⟨pk_blind, fun U hU hW => ⟨rfl, by rw [hU]; exact hR, KK.warm hW C.2.2.2.2.2.2.2.2.1⟩⟩ rfl rfl hl.1 rfl (lv_room hst) hd ⟨hrm.2.2.1, hrm.2.2.2⟩) hS (fun v dm ad ct H1 locs1 hq hR1 hS1 => hq p l e s m args below meth c C H1 locs1 ls hl hR1 hS1)
theorem e_callIN2 {idx a : Nat} {y' : MethodName} {cc' : ByteArray} {nL' : Nat} {R' : Room} {v1 v2 : Value} (hd : dc cc pc (.invokespecial idx) 3 n) (hcl : CNI y.cls idx y' cc' nL' 2) (hrm : R'.frames + 1 ≤ R.frames ∧ 8 + (nL' + 11) + R'.locals ≤ R.locals ∧ cells + R'.cells ≤ R.cells ∧ slots + R'.slots ≤ R.slots) (hC : Ct b0 D dA y' cc' nL' none R' [.ref a, v1, v2] dm ad ct (fun v dm ad ct => E b0 D dA y cc nL ret R EX QF n lv (vl v st) dm ad ct (cells + R'.cells) (slots + R'.slots))) (hst : (st.map fun v => v.category).sum ≤ 8 := by decide) : E b0 D dA y cc nL ret R EX QF pc lv (v2 :: v1 :: .ref a :: st) dm ad ct cells slots := by
  obtain ⟨hd, rfl⟩ := hd
  intro p l e s m args below meth c C H locs ls hl hR hS
  have hts := C.2.2.2.2.2.1
  obtain ⟨host, hcl0⟩ := hcl.1.1
  exact w_call (va_runIN (As := [v1, v2]) (rest := st) ⟨C.1, C.2.1, C.2.2.2.1, C.2.2.2.2.1, C.2.2.2.2.2.1⟩ (hC l) ⟨va_cnB _ hts (gT_good hcl.1.2.1) rfl rfl rfl (C.2.2.2.2.2.2.2.2.1.2.1 _ hcl0) (hts _ hcl.1.2.2.1) hcl.1.2.2.2 ⟨hrm.1, hrm.2.1⟩, hcl.2.1, hts _ hcl.2.2⟩ ⟨pk_blind, fun U hU hW => ⟨rfl, by rw [hU]; exact hR, KK.warm hW C.2.2.2.2.2.2.2.2.1⟩⟩ rfl rfl hl.1 rfl (lv_room hst) hd ⟨hrm.2.2.1, hrm.2.2.2⟩) hS (fun v dm ad ct H1 locs1 hq hR1 hS1 => hq p l e s m args below meth c C H1 locs1 ls hl hR1 hS1)
theorem e_callS3 {idx : Nat} {y' : MethodName} {cc' : ByteArray} {nL' : Nat} {ret' : Option FieldType} {R' : Room} {v1 v2 v3 : Value} (hd : dc cc pc (.invokestatic idx) 3 n) (hcl : CLS y.cls idx y' cc' nL' ret' 3) (hrm : R'.frames + 1 ≤ R.frames ∧ 8 + (nL' + 11) + R'.locals ≤ R.locals ∧ cells + R'.cells ≤ R.cells ∧ slots + R'.slots ≤ R.slots) (hC : Ct b0 D dA y' cc' nL' ret' R' [v1, v2, v3] dm ad ct (fun v dm ad ct => E b0 D dA y cc nL ret R EX QF n lv (vl v st) dm ad ct (cells + R'.cells) (slots + R'.slots))) (hst : (st.map fun v => v.category).sum ≤ 8 := by decide) : E b0 D dA y cc nL ret R EX QF pc lv (v3 :: v2 :: v1 :: st) dm ad ct cells slots := by
  obtain ⟨hd, rfl⟩ := hd
  intro p l e s m args below meth c C H locs ls hl hR hS
  have hts := C.2.2.2.2.2.1
  exact w_call (va_runS (As := [v1, v2, v3]) (rest := st) ⟨C.1, C.2.1, C.2.2.2.1, C.2.2.2.2.1, C.2.2.2.2.2.1⟩ (hC l) ⟨callB_of _ hts (gT_good hcl.1.2.1) rfl rfl rfl (hts _ hcl.1.2.2.1) (hts _ hcl.1.1) hcl.1.2.2.2 ⟨hrm.1, hrm.2.1⟩, hts _ hcl.2⟩ ⟨pk_blind, fun U hU hW => ⟨rfl, by rw [hU]; exact hR, KK.warm hW C.2.2.2.2.2.2.2.2.1⟩⟩ rfl rfl hl.1 rfl (lv_room hst) hd ⟨hrm.2.2.1, hrm.2.2.2⟩) hS (fun v dm ad ct H1 locs1 hq hR1 hS1 => hq p l e s m args below meth c C H1 locs1 ls hl hR1 hS1)
theorem e_callSN3 {idx : Nat} {y' : MethodName} {cc' : ByteArray} {nL' : Nat} {ret' : Option FieldType} {R' : Room} {v1 v2 v3 : Value} (hd : dc cc pc (.invokestatic idx) 3 n) (hcl : CNS y.cls idx y' cc' nL' ret' 3) (hrm : R'.frames + 1 ≤ R.frames ∧ 8 + (nL' + 11) + R'.locals ≤ R.locals ∧ cells + R'.cells ≤ R.cells ∧ slots + R'.slots ≤ R.slots) (hC : Ct b0 D dA y' cc' nL' ret' R' [v1, v2, v3] dm ad ct (fun v dm ad ct => E b0 D dA y cc nL ret R EX QF n lv (vl v st) dm ad ct (cells + R'.cells) (slots + R'.slots))) (hst : (st.map fun v => v.category).sum ≤ 8 := by decide) : E b0 D dA y cc nL ret R EX QF pc lv (v3 :: v2 :: v1 :: st) dm ad ct cells slots := by
  obtain ⟨hd, rfl⟩ := hd
  intro p l e s m args below meth c C H locs ls hl hR hS
  have hts := C.2.2.2.2.2.1
  obtain ⟨host, hcl0⟩ := hcl.1.1
  exact w_call (va_runSN (As := [v1, v2, v3]) (rest := st) ⟨C.1, C.2.1, C.2.2.2.1, C.2.2.2.2.1, C.2.2.2.2.2.1⟩ (hC l) ⟨va_cnB _ hts (gT_good hcl.1.2.1) rfl rfl rfl (C.2.2.2.2.2.2.2.2.1.2.1 _ hcl0) (hts _ hcl.1.2.2.1) hcl.1.2.2.2 ⟨hrm.1, hrm.2.1⟩, hts _ hcl.2, trivial⟩ ⟨pk_blind, fun U hU hW => ⟨rfl, by rw [hU]; exact hR, KK.warm hW C.2.2.2.2.2.2.2.2.1⟩⟩ rfl rfl hl.1 rfl (lv_room hst) hd ⟨hrm.2.2.1, hrm.2.2.2⟩) hS (fun v dm ad ct H1 locs1 hq hR1 hS1 => hq p l e s m args below meth c C H1 locs1 ls hl hR1 hS1)
theorem e_callV3 {idx k i ci : Nat} {fs : List Value} {y' : MethodName} {cc' : ByteArray} {nL' : Nat} {ret' : Option FieldType} {R' : Room} {v1 v2 v3 : Value} (hd : dc cc pc (.invokevirtual idx) 3 n) (hcl : CLV y.cls idx y' cc' nL' ret' 3 ci) (hk : dm k i) (he : ct k i = .inr (ci, fs)) (hrm : R'.frames + 1 ≤ R.frames ∧ 8 + (nL' + 11) + R'.locals ≤ R.locals ∧ cells + R'.cells ≤ R.cells ∧ slots + R'.slots ≤ R.slots) (hC : Ct b0 D dA y' cc' nL' ret' R' [.ref (ad k i), v1, v2, v3] dm ad ct (fun v dm ad ct => E b0 D dA y cc nL ret R EX QF n lv (vl v st) dm ad ct (cells + R'.cells) (slots + R'.slots))) (hst : (st.map fun v => v.category).sum ≤ 8 := by decide) : E b0 D dA y cc nL ret R EX QF pc lv (v3 :: v2 :: v1 :: .ref (ad k i) :: st) dm ad ct cells slots := by
  obtain ⟨hd, rfl⟩ := hd
  intro p l e s m args below meth c C H locs ls hl hR hS
  have hts := C.2.2.2.2.2.1
  obtain ⟨T0, N0, hci⟩ := hcl.2.2.2
  exact w_call (va_runV (As := [v1, v2, v3]) (rest := st) ⟨C.1, C.2.1, C.2.2.2.1, C.2.2.2.2.1, C.2.2.2.2.2.1⟩ (hC l) ⟨callB_of _ hts (gT_good hcl.1.2.1) rfl rfl rfl (hts _ hcl.1.2.2.1) (hts _ hcl.1.1) hcl.1.2.2.2 ⟨hrm.1, hrm.2.1⟩, hts _ hcl.2.1, hts _ hcl.2.2.1⟩ ⟨pk_blind, w_recv C.2.2.2.2.2.2.2.2.1 hR hk he hci, fun U hU hW => ⟨rfl, by rw [hU]; exact hR, KK.warm hW C.2.2.2.2.2.2.2.2.1⟩⟩ rfl rfl hl.1 rfl (lv_room hst) hd ⟨hrm.2.2.1, hrm.2.2.2⟩) hS (fun v dm ad ct H1 locs1 hq hR1 hS1 => hq p l e s m args below meth c C H1 locs1 ls hl hR1 hS1)
theorem e_callU3 {idx k i ci : Nat} {fs : List Value} {x : MethodName} {y' : MethodName} {cc' : ByteArray} {nL' : Nat} {ret' : Option FieldType} {R' : Room} {v1 v2 v3 : Value} (hd : dc cc pc (.invokevirtual idx) 3 n) (hcl : CLU y.cls idx x y' cc' nL' ret' 3 ci) (hk : dm k i) (he : ct k i = .inr (ci, fs)) (hrm : R'.frames + 1 ≤ R.frames ∧ 8 + (nL' + 11) + R'.locals ≤ R.locals ∧ cells + R'.cells ≤ R.cells ∧ slots + R'.slots ≤ R.slots) (hC : Ct b0 D dA y' cc' nL' ret' R' [.ref (ad k i), v1, v2, v3] dm ad ct (fun v dm ad ct => E b0 D dA y cc nL ret R EX QF n lv (vl v st) dm ad ct (cells + R'.cells) (slots + R'.slots))) (hst : (st.map fun v => v.category).sum ≤ 8 := by decide) : E b0 D dA y cc nL ret R EX QF pc lv (v3 :: v2 :: v1 :: .ref (ad k i) :: st) dm ad ct cells slots := by
  obtain ⟨hd, rfl⟩ := hd
  intro p l e s m args below meth c C H locs ls hl hR hS
  have hts := C.2.2.2.2.2.1
  obtain ⟨c1, c2, c3, c4, c5, c6, c7, Cn, T0, N0, hci, c8⟩ := hcl
  have hG : GoodIn gT (va_wsU y.cls idx Cn x.cls x y' (.code y' cc' nL' ret' :: gT)) := by
    intro w hw
    have hm : w ∈ gT := by
      simp only [va_wsU, List.mem_append, List.mem_cons, List.not_mem_nil, or_false] at hw
      rcases hw with (rfl | rfl | rfl | rfl | rfl) | rfl | hw
      · exact c1
      · exact c2
      · exact c8
      · exact c4
      · exact c5
      · exact c6
      · exact hw
    exact ⟨hm, good_of_word (List.mem_filter.mp hm).2⟩
  exact w_call (va_runU (C := Cn) (owner := x.cls) (As := [v1, v2, v3]) (rest := st) ⟨C.1, C.2.1, C.2.2.2.1, C.2.2.2.2.1, C.2.2.2.2.2.1⟩ (hC l) (va_cwA 3 hts hG rfl rfl rfl (C.2.2.2.2.2.2.2.2.1.2.2.1 _ c3) c7 ⟨hrm.1, hrm.2.1⟩) ⟨pk_blind, w_recv C.2.2.2.2.2.2.2.2.1 hR hk he hci, fun U hU hW => ⟨rfl, by rw [hU]; exact hR, KK.warm hW C.2.2.2.2.2.2.2.2.1⟩⟩ rfl rfl hl.1 rfl (lv_room hst) hd ⟨hrm.2.2.1, hrm.2.2.2⟩) hS (fun v dm ad ct H1 locs1 hq hR1 hS1 => hq p l e s m args below meth c C H1 locs1 ls hl hR1 hS1)
theorem e_callI3 {idx a : Nat} {y' : MethodName} {cc' : ByteArray} {nL' : Nat} {R' : Room} {v1 v2 v3 : Value} (hd : dc cc pc (.invokespecial idx) 3 n) (hcl : CLI y.cls idx y' cc' nL' 3) (hrm : R'.frames + 1 ≤ R.frames ∧ 8 + (nL' + 11) + R'.locals ≤ R.locals ∧ cells + R'.cells ≤ R.cells ∧ slots + R'.slots ≤ R.slots) (hC : Ct b0 D dA y' cc' nL' none R' [.ref a, v1, v2, v3] dm ad ct (fun v dm ad ct => E b0 D dA y cc nL ret R EX QF n lv (vl v st) dm ad ct (cells + R'.cells) (slots + R'.slots))) (hst : (st.map fun v => v.category).sum ≤ 8 := by decide) : E b0 D dA y cc nL ret R EX QF pc lv (v3 :: v2 :: v1 :: .ref a :: st) dm ad ct cells slots := by
  obtain ⟨hd, rfl⟩ := hd
  intro p l e s m args below meth c C H locs ls hl hR hS
  have hts := C.2.2.2.2.2.1
  exact w_call (va_runI (As := [v1, v2, v3]) (rest := st) ⟨C.1, C.2.1, C.2.2.2.1, C.2.2.2.2.1, C.2.2.2.2.2.1⟩ (hC l) ⟨callB_of _ hts (gT_good hcl.1.2.1) rfl rfl rfl (hts _ hcl.1.2.2.1) (hts _ hcl.1.1) hcl.1.2.2.2 ⟨hrm.1, hrm.2.1⟩, hcl.2.1, hts _ hcl.2.2⟩ ⟨pk_blind, fun U hU hW => ⟨rfl, by rw [hU]; exact hR, KK.warm hW C.2.2.2.2.2.2.2.2.1⟩⟩ rfl rfl hl.1 rfl (lv_room hst) hd ⟨hrm.2.2.1, hrm.2.2.2⟩) hS (fun v dm ad ct H1 locs1 hq hR1 hS1 => hq p l e s m args below meth c C H1 locs1 ls hl hR1 hS1)
theorem e_callIN3 {idx a : Nat} {y' : MethodName} {cc' : ByteArray} {nL' : Nat} {R' : Room} {v1 v2 v3 : Value} (hd : dc cc pc (.invokespecial idx) 3 n) (hcl : CNI y.cls idx y' cc' nL' 3) (hrm : R'.frames + 1 ≤ R.frames ∧ 8 + (nL' + 11) + R'.locals ≤ R.locals ∧ cells + R'.cells ≤ R.cells ∧ slots + R'.slots ≤ R.slots) (hC : Ct b0 D dA y' cc' nL' none R' [.ref a, v1, v2, v3] dm ad ct (fun v dm ad ct => E b0 D dA y cc nL ret R EX QF n lv (vl v st) dm ad ct (cells + R'.cells) (slots + R'.slots))) (hst : (st.map fun v => v.category).sum ≤ 8 := by decide) : E b0 D dA y cc nL ret R EX QF pc lv (v3 :: v2 :: v1 :: .ref a :: st) dm ad ct cells slots := by
  obtain ⟨hd, rfl⟩ := hd
  intro p l e s m args below meth c C H locs ls hl hR hS
  have hts := C.2.2.2.2.2.1
  obtain ⟨host, hcl0⟩ := hcl.1.1
  exact w_call (va_runIN (As := [v1, v2, v3]) (rest := st) ⟨C.1, C.2.1, C.2.2.2.1, C.2.2.2.2.1, C.2.2.2.2.2.1⟩ (hC l) ⟨va_cnB _ hts (gT_good hcl.1.2.1) rfl rfl rfl (C.2.2.2.2.2.2.2.2.1.2.1 _ hcl0) (hts _ hcl.1.2.2.1) hcl.1.2.2.2 ⟨hrm.1, hrm.2.1⟩, hcl.2.1, hts _ hcl.2.2⟩ ⟨pk_blind, fun U hU hW => ⟨rfl, by rw [hU]; exact hR, KK.warm hW C.2.2.2.2.2.2.2.2.1⟩⟩ rfl rfl hl.1 rfl (lv_room hst) hd ⟨hrm.2.2.1, hrm.2.2.2⟩) hS (fun v dm ad ct H1 locs1 hq hR1 hS1 => hq p l e s m args below meth c C H1 locs1 ls hl hR1 hS1)
theorem e_callS4 {idx : Nat} {y' : MethodName} {cc' : ByteArray} {nL' : Nat} {ret' : Option FieldType} {R' : Room} {v1 v2 v3 v4 : Value} (hd : dc cc pc (.invokestatic idx) 3 n) (hcl : CLS y.cls idx y' cc' nL' ret' 4) (hrm : R'.frames + 1 ≤ R.frames ∧ 8 + (nL' + 11) + R'.locals ≤ R.locals ∧ cells + R'.cells ≤ R.cells ∧ slots + R'.slots ≤ R.slots) (hC : Ct b0 D dA y' cc' nL' ret' R' [v1, v2, v3, v4] dm ad ct (fun v dm ad ct => E b0 D dA y cc nL ret R EX QF n lv (vl v st) dm ad ct (cells + R'.cells) (slots + R'.slots))) (hst : (st.map fun v => v.category).sum ≤ 8 := by decide) : E b0 D dA y cc nL ret R EX QF pc lv (v4 :: v3 :: v2 :: v1 :: st) dm ad ct cells slots := by
  obtain ⟨hd, rfl⟩ := hd
  intro p l e s m args below meth c C H locs ls hl hR hS
  have hts := C.2.2.2.2.2.1
  exact w_call (va_runS (As := [v1, v2, v3, v4]) (rest := st) ⟨C.1, C.2.1, C.2.2.2.1, C.2.2.2.2.1, C.2.2.2.2.2.1⟩ (hC l) ⟨callB_of _ hts (gT_good hcl.1.2.1) rfl rfl rfl (hts _ hcl.1.2.2.1) (hts _ hcl.1.1) hcl.1.2.2.2 ⟨hrm.1, hrm.2.1⟩, hts _ hcl.2⟩ ⟨pk_blind, fun U hU hW => ⟨rfl, by rw [hU]; exact hR, KK.warm hW C.2.2.2.2.2.2.2.2.1⟩⟩ rfl rfl hl.1 rfl (lv_room hst) hd ⟨hrm.2.2.1, hrm.2.2.2⟩) hS (fun v dm ad ct H1 locs1 hq hR1 hS1 => hq p l e s m args below meth c C H1 locs1 ls hl hR1 hS1)
theorem e_callSN4 {idx : Nat} {y' : MethodName} {cc' : ByteArray} {nL' : Nat} {ret' : Option FieldType} {R' : Room} {v1 v2 v3 v4 : Value} (hd : dc cc pc (.invokestatic idx) 3 n) (hcl : CNS y.cls idx y' cc' nL' ret' 4) (hrm : R'.frames + 1 ≤ R.frames ∧ 8 + (nL' + 11) + R'.locals ≤ R.locals ∧ cells + R'.cells ≤ R.cells ∧ slots + R'.slots ≤ R.slots) (hC : Ct b0 D dA y' cc' nL' ret' R' [v1, v2, v3, v4] dm ad ct (fun v dm ad ct => E b0 D dA y cc nL ret R EX QF n lv (vl v st) dm ad ct (cells + R'.cells) (slots + R'.slots))) (hst : (st.map fun v => v.category).sum ≤ 8 := by decide) : E b0 D dA y cc nL ret R EX QF pc lv (v4 :: v3 :: v2 :: v1 :: st) dm ad ct cells slots := by
  obtain ⟨hd, rfl⟩ := hd
  intro p l e s m args below meth c C H locs ls hl hR hS
  have hts := C.2.2.2.2.2.1
  obtain ⟨host, hcl0⟩ := hcl.1.1
  exact w_call (va_runSN (As := [v1, v2, v3, v4]) (rest := st) ⟨C.1, C.2.1, C.2.2.2.1, C.2.2.2.2.1, C.2.2.2.2.2.1⟩ (hC l) ⟨va_cnB _ hts (gT_good hcl.1.2.1) rfl rfl rfl (C.2.2.2.2.2.2.2.2.1.2.1 _ hcl0) (hts _ hcl.1.2.2.1) hcl.1.2.2.2 ⟨hrm.1, hrm.2.1⟩, hts _ hcl.2, trivial⟩ ⟨pk_blind, fun U hU hW => ⟨rfl, by rw [hU]; exact hR, KK.warm hW C.2.2.2.2.2.2.2.2.1⟩⟩ rfl rfl hl.1 rfl (lv_room hst) hd ⟨hrm.2.2.1, hrm.2.2.2⟩) hS (fun v dm ad ct H1 locs1 hq hR1 hS1 => hq p l e s m args below meth c C H1 locs1 ls hl hR1 hS1)
theorem e_callV4 {idx k i ci : Nat} {fs : List Value} {y' : MethodName} {cc' : ByteArray} {nL' : Nat} {ret' : Option FieldType} {R' : Room} {v1 v2 v3 v4 : Value} (hd : dc cc pc (.invokevirtual idx) 3 n) (hcl : CLV y.cls idx y' cc' nL' ret' 4 ci) (hk : dm k i) (he : ct k i = .inr (ci, fs)) (hrm : R'.frames + 1 ≤ R.frames ∧ 8 + (nL' + 11) + R'.locals ≤ R.locals ∧ cells + R'.cells ≤ R.cells ∧ slots + R'.slots ≤ R.slots) (hC : Ct b0 D dA y' cc' nL' ret' R' [.ref (ad k i), v1, v2, v3, v4] dm ad ct (fun v dm ad ct => E b0 D dA y cc nL ret R EX QF n lv (vl v st) dm ad ct (cells + R'.cells) (slots + R'.slots))) (hst : (st.map fun v => v.category).sum ≤ 8 := by decide) : E b0 D dA y cc nL ret R EX QF pc lv (v4 :: v3 :: v2 :: v1 :: .ref (ad k i) :: st) dm ad ct cells slots := by
  obtain ⟨hd, rfl⟩ := hd
  intro p l e s m args below meth c C H locs ls hl hR hS
  have hts := C.2.2.2.2.2.1
  obtain ⟨T0, N0, hci⟩ := hcl.2.2.2
  exact w_call (va_runV (As := [v1, v2, v3, v4]) (rest := st) ⟨C.1, C.2.1, C.2.2.2.1, C.2.2.2.2.1, C.2.2.2.2.2.1⟩ (hC l) ⟨callB_of _ hts (gT_good hcl.1.2.1) rfl rfl rfl (hts _ hcl.1.2.2.1) (hts _ hcl.1.1) hcl.1.2.2.2 ⟨hrm.1, hrm.2.1⟩, hts _ hcl.2.1, hts _ hcl.2.2.1⟩ ⟨pk_blind, w_recv C.2.2.2.2.2.2.2.2.1 hR hk he hci, fun U hU hW => ⟨rfl, by rw [hU]; exact hR, KK.warm hW C.2.2.2.2.2.2.2.2.1⟩⟩ rfl rfl hl.1 rfl (lv_room hst) hd ⟨hrm.2.2.1, hrm.2.2.2⟩) hS (fun v dm ad ct H1 locs1 hq hR1 hS1 => hq p l e s m args below meth c C H1 locs1 ls hl hR1 hS1)
theorem e_callU4 {idx k i ci : Nat} {fs : List Value} {x : MethodName} {y' : MethodName} {cc' : ByteArray} {nL' : Nat} {ret' : Option FieldType} {R' : Room} {v1 v2 v3 v4 : Value} (hd : dc cc pc (.invokevirtual idx) 3 n) (hcl : CLU y.cls idx x y' cc' nL' ret' 4 ci) (hk : dm k i) (he : ct k i = .inr (ci, fs)) (hrm : R'.frames + 1 ≤ R.frames ∧ 8 + (nL' + 11) + R'.locals ≤ R.locals ∧ cells + R'.cells ≤ R.cells ∧ slots + R'.slots ≤ R.slots) (hC : Ct b0 D dA y' cc' nL' ret' R' [.ref (ad k i), v1, v2, v3, v4] dm ad ct (fun v dm ad ct => E b0 D dA y cc nL ret R EX QF n lv (vl v st) dm ad ct (cells + R'.cells) (slots + R'.slots))) (hst : (st.map fun v => v.category).sum ≤ 8 := by decide) : E b0 D dA y cc nL ret R EX QF pc lv (v4 :: v3 :: v2 :: v1 :: .ref (ad k i) :: st) dm ad ct cells slots := by
  obtain ⟨hd, rfl⟩ := hd
  intro p l e s m args below meth c C H locs ls hl hR hS
  have hts := C.2.2.2.2.2.1
  obtain ⟨c1, c2, c3, c4, c5, c6, c7, Cn, T0, N0, hci, c8⟩ := hcl
  have hG : GoodIn gT (va_wsU y.cls idx Cn x.cls x y' (.code y' cc' nL' ret' :: gT)) := by
    intro w hw
    have hm : w ∈ gT := by
      simp only [va_wsU, List.mem_append, List.mem_cons, List.not_mem_nil, or_false] at hw
      rcases hw with (rfl | rfl | rfl | rfl | rfl) | rfl | hw
      · exact c1
      · exact c2
      · exact c8
      · exact c4
      · exact c5
      · exact c6
      · exact hw
    exact ⟨hm, good_of_word (List.mem_filter.mp hm).2⟩
  exact w_call (va_runU (C := Cn) (owner := x.cls) (As := [v1, v2, v3, v4]) (rest := st) ⟨C.1, C.2.1, C.2.2.2.1, C.2.2.2.2.1, C.2.2.2.2.2.1⟩ (hC l) (va_cwA 4 hts hG rfl rfl rfl (C.2.2.2.2.2.2.2.2.1.2.2.1 _ c3) c7 ⟨hrm.1, hrm.2.1⟩) ⟨pk_blind, w_recv C.2.2.2.2.2.2.2.2.1 hR hk he hci, fun U hU hW => ⟨rfl, by rw [hU]; exact hR, KK.warm hW C.2.2.2.2.2.2.2.2.1⟩⟩ rfl rfl hl.1 rfl (lv_room hst) hd ⟨hrm.2.2.1, hrm.2.2.2⟩) hS (fun v dm ad ct H1 locs1 hq hR1 hS1 => hq p l e s m args below meth c C H1 locs1 ls hl hR1 hS1)
theorem e_callI4 {idx a : Nat} {y' : MethodName} {cc' : ByteArray} {nL' : Nat} {R' : Room} {v1 v2 v3 v4 : Value} (hd : dc cc pc (.invokespecial idx) 3 n) (hcl : CLI y.cls idx y' cc' nL' 4) (hrm : R'.frames + 1 ≤ R.frames ∧ 8 + (nL' + 11) + R'.locals ≤ R.locals ∧ cells + R'.cells ≤ R.cells ∧ slots + R'.slots ≤ R.slots) (hC : Ct b0 D dA y' cc' nL' none R' [.ref a, v1, v2, v3, v4] dm ad ct (fun v dm ad ct => E b0 D dA y cc nL ret R EX QF n lv (vl v st) dm ad ct (cells + R'.cells) (slots + R'.slots))) (hst : (st.map fun v => v.category).sum ≤ 8 := by decide) : E b0 D dA y cc nL ret R EX QF pc lv (v4 :: v3 :: v2 :: v1 :: .ref a :: st) dm ad ct cells slots := by
  obtain ⟨hd, rfl⟩ := hd
  intro p l e s m args below meth c C H locs ls hl hR hS
  have hts := C.2.2.2.2.2.1
  exact w_call (va_runI (As := [v1, v2, v3, v4]) (rest := st) ⟨C.1, C.2.1, C.2.2.2.1, C.2.2.2.2.1, C.2.2.2.2.2.1⟩ (hC l) ⟨callB_of _ hts (gT_good hcl.1.2.1) rfl rfl rfl (hts _ hcl.1.2.2.1) (hts _ hcl.1.1) hcl.1.2.2.2 ⟨hrm.1, hrm.2.1⟩, hcl.2.1, hts _ hcl.2.2⟩ ⟨pk_blind, fun U hU hW => ⟨rfl, by rw [hU]; exact hR, KK.warm hW C.2.2.2.2.2.2.2.2.1⟩⟩ rfl rfl hl.1 rfl (lv_room hst) hd ⟨hrm.2.2.1, hrm.2.2.2⟩) hS (fun v dm ad ct H1 locs1 hq hR1 hS1 => hq p l e s m args below meth c C H1 locs1 ls hl hR1 hS1)
theorem e_callIN4 {idx a : Nat} {y' : MethodName} {cc' : ByteArray} {nL' : Nat} {R' : Room} {v1 v2 v3 v4 : Value} (hd : dc cc pc (.invokespecial idx) 3 n) (hcl : CNI y.cls idx y' cc' nL' 4) (hrm : R'.frames + 1 ≤ R.frames ∧ 8 + (nL' + 11) + R'.locals ≤ R.locals ∧ cells + R'.cells ≤ R.cells ∧ slots + R'.slots ≤ R.slots) (hC : Ct b0 D dA y' cc' nL' none R' [.ref a, v1, v2, v3, v4] dm ad ct (fun v dm ad ct => E b0 D dA y cc nL ret R EX QF n lv (vl v st) dm ad ct (cells + R'.cells) (slots + R'.slots))) (hst : (st.map fun v => v.category).sum ≤ 8 := by decide) : E b0 D dA y cc nL ret R EX QF pc lv (v4 :: v3 :: v2 :: v1 :: .ref a :: st) dm ad ct cells slots := by
  obtain ⟨hd, rfl⟩ := hd
  intro p l e s m args below meth c C H locs ls hl hR hS
  have hts := C.2.2.2.2.2.1
  obtain ⟨host, hcl0⟩ := hcl.1.1
  exact w_call (va_runIN (As := [v1, v2, v3, v4]) (rest := st) ⟨C.1, C.2.1, C.2.2.2.1, C.2.2.2.2.1, C.2.2.2.2.2.1⟩ (hC l) ⟨va_cnB _ hts (gT_good hcl.1.2.1) rfl rfl rfl (C.2.2.2.2.2.2.2.2.1.2.1 _ hcl0) (hts _ hcl.1.2.2.1) hcl.1.2.2.2 ⟨hrm.1, hrm.2.1⟩, hcl.2.1, hts _ hcl.2.2⟩ ⟨pk_blind, fun U hU hW => ⟨rfl, by rw [hU]; exact hR, KK.warm hW C.2.2.2.2.2.2.2.2.1⟩⟩ rfl rfl hl.1 rfl (lv_room hst) hd ⟨hrm.2.2.1, hrm.2.2.2⟩) hS (fun v dm ad ct H1 locs1 hq hR1 hS1 => hq p l e s m args below meth c C H1 locs1 ls hl hR1 hS1)
theorem e_objInit {idx a : Nat} (hd : dc cc pc (.invokespecial idx) 3 n) (hw : Cond.methodLink y.cls idx objectInit ∈ gT) (hw2 : Cond.instanceMethod objectInit ∈ gT) (hw3 : Cond.code objectInit ⟨#[0xb1]⟩ 1 none ∈ gT) (h1 : 1 ≤ R.frames) (h2 : 20 ≤ R.locals) (kk : E b0 D dA y cc nL ret R EX QF n lv (st) dm ad ct cells slots) (hst : (st.map fun v => v.category).sum ≤ 8 := by decide) : E b0 D dA y cc nL ret R EX QF pc lv (.ref a :: st) dm ad ct cells slots := by
  obtain ⟨hd, rfl⟩ := hd
  intro p l e s m args below meth c C H locs ls hl hR hS
  have hts := C.2.2.2.2.2.1
  have hq : 2 * (F0 m pc ls (Value.ref a :: st)).monitorRoom + (st.map fun v => v.category).sum ≤ 8 := lv_room hst
  refine W.objInit C.1 C.2.1 C.2.2.2.2.1 (hts _ hw) (hts _ hw2) (hts _ hw3) rfl (by rw [C.2.2.2.1]; exact hl.1) rfl hd h1 (by omega) ?_
  exact kk p l e s m args below meth c C H locs ls hl hR hS
theorem e_iret {Q : PQ} {v : Int32} {ty : FieldType} (hd : dc cc pc .ireturn 1 n) (hr : ret = some ty) (hn : narrow ty (.int v) = .int v) (hq : Q (some (.int v)) dm ad ct) (h1 : cells ≤ R.cells) (h2 : slots ≤ R.slots) : E b0 D dA y cc nL ret R EX (QFm b0 D dA R Q) pc lv [.int v] dm ad ct cells slots := by
  obtain ⟨hd, rfl⟩ := hd
  intro p l e s m args below meth c C H locs ls hl hR hS
  subst hr
  have hlocks := C.2.2.2.2.2.2.1
  refine W.widen h1 h2 ?_
  exact W.zret C.1 C.2.1 C.2.2.1 hn (fun t ht hW => ⟨⟨_, dm, ad, ct, rfl, hq, by rw [ht]; exact hR, KK.warm hW C.2.2.2.2.2.2.2.2.1⟩, hS.F ht⟩) hS.2.2 hd
theorem e_lret {Q : PQ} {v : Int64} (hd : dc cc pc .lreturn 1 n) (hr : ret = some .long) (hq : Q (some (.long v)) dm ad ct) (h1 : cells ≤ R.cells) (h2 : slots ≤ R.slots) : E b0 D dA y cc nL ret R EX (QFm b0 D dA R Q) pc lv [.long v] dm ad ct cells slots := by
  obtain ⟨hd, rfl⟩ := hd
  intro p l e s m args below meth c C H locs ls hl hR hS
  subst hr
  have hlocks := C.2.2.2.2.2.2.1
  refine W.widen h1 h2 ?_
  exact W.lret C.1 C.2.1 C.2.2.1 (fun t ht hW => ⟨⟨_, dm, ad, ct, rfl, hq, by rw [ht]; exact hR, KK.warm hW C.2.2.2.2.2.2.2.2.1⟩, hS.F ht⟩) hS.2.2 hd
theorem e_aret {Q : PQ} {v : Value} {Cn : String} (hd : dc cc pc .areturn 1 n) (hr : ret = some (.object Cn)) (hq : Q (some v) dm ad ct) (h1 : cells ≤ R.cells) (h2 : slots ≤ R.slots) (hv : isR v = true := by first | rfl | exact isR_rf _) : E b0 D dA y cc nL ret R EX (QFm b0 D dA R Q) pc lv [v] dm ad ct cells slots := by
  obtain ⟨hd, rfl⟩ := hd
  intro p l e s m args below meth c C H locs ls hl hR hS
  subst hr
  have hlocks := C.2.2.2.2.2.2.1
  refine W.widen h1 h2 ?_
  exact W.aret C.1 C.2.1 C.2.2.1 (Or.inl ⟨_, rfl⟩) (isR_or hv) (fun t ht hW => ⟨⟨_, dm, ad, ct, rfl, hq, by rw [ht]; exact hR, KK.warm hW C.2.2.2.2.2.2.2.2.1⟩, hS.F ht⟩) hS.2.2 hd
theorem e_vret {Q : PQ} (hd : dc cc pc .return_ 1 n) (hr : ret = none) (hq : Q none dm ad ct) (h1 : cells ≤ R.cells) (h2 : slots ≤ R.slots) : E b0 D dA y cc nL ret R EX (QFm b0 D dA R Q) pc lv [] dm ad ct cells slots := by
  obtain ⟨hd, rfl⟩ := hd
  intro p l e s m args below meth c C H locs ls hl hR hS
  subst hr
  have hlocks := C.2.2.2.2.2.2.1
  refine W.widen h1 h2 ?_
  exact W.vret C.1 C.2.1 C.2.2.1 (fun t ht hW => ⟨⟨_, dm, ad, ct, rfl, hq, by rw [ht]; exact hR, KK.warm hW C.2.2.2.2.2.2.2.2.1⟩, hS.F ht⟩) hS.2.2 hd
end EC
end
section
theorem gT_at (i : Nat) {w : Cond} (h : tables_1[i]? = some w) (hg : goodWord w = true) : w ∈ gT := gT_in (List.mem_append_right _ (List.mem_of_getElem? h)) hg
theorem gS_at (i : Nat) {w : Cond} (h : (k2_sels lw_privs)[i]? = some w) (hg : goodWord w = true) : w ∈ gT := gT_in (List.mem_append_left _ (List.mem_of_getElem? h)) hg
theorem inG_X0 : ∀ w ∈ u_ws RX0 TX0 2, w ∈ gT := by decide +kernel
theorem inG_X1 : ∀ w ∈ u_ws RX1 TX1 3, w ∈ gT := by decide +kernel
theorem inG_X3 : ∀ w ∈ u_ws RX3 TX3 4, w ∈ gT := by decide +kernel
theorem inG_X4 : ∀ w ∈ u_ws RX4 TX4 3, w ∈ gT := by decide +kernel
theorem inG_X5 : ∀ w ∈ u_ws RX5 TX5 4, w ∈ gT := by decide +kernel
theorem inG_X6 : ∀ w ∈ u_ws RX6 TX6 3, w ∈ gT := by decide +kernel
theorem inG_X7 : ∀ w ∈ u_ws RX7 TX7 1, w ∈ gT := by decide +kernel
theorem inG_X8 : ∀ w ∈ u_ws RX8 TX8 6, w ∈ gT := by decide +kernel
theorem inG_X10 : ∀ w ∈ u_ws RX10 TX10 3, w ∈ gT := by decide +kernel
theorem inG_X11 : ∀ w ∈ u_ws RX11 TX11 13, w ∈ gT := by decide +kernel
theorem inG_X12 : ∀ w ∈ u_ws RX12 TX12 34, w ∈ gT := by decide +kernel
theorem oi_X0_3 : Cond.methodLink RX0 3 objectInit ∈ gT := gT_at 34 (by decide +kernel) rfl
theorem an_X0_9 : Cond.classLink RX0 9 "ConstantKinds$Constant" ∈ gT := gT_at 35 (by decide +kernel) rfl
theorem fp_X0_11 : FP RX0 11 0 0 (.array (.object "ConstantKinds$Constant")) true := ⟨RX0, TX0, 2, RX0, tyX0, rfl, by decide, inG_X0, gT_at 36 (by decide +kernel) rfl, rfl, tyX0_ok, nmX0, rfl, by decide +kernel, fun h => by first | rfl | cases h⟩
theorem fp_X0_17 : FP RX0 17 0 1 .int false := ⟨RX0, TX0, 2, RX0, tyX0, rfl, by decide, inG_X0, gT_at 37 (by decide +kernel) rfl, rfl, tyX0_ok, nmX0, rfl, by decide +kernel, fun h => by first | rfl | cases h⟩
theorem fg_X0_17 : FG RX0 17 0 1 := ⟨RX0, TX0, 2, RX0, rfl, by decide, inG_X0, gT_at 37 (by decide +kernel) rfl, Or.inl rfl⟩
theorem ca_X0_21 : CNS RX0 21 yX11_isIn cX11_isIn 3 (some .boolean) 3 := ⟨⟨⟨RX11, by decide +kernel⟩, gT_at 128 (by decide +kernel) rfl, gT_at 1 (by decide +kernel) rfl, ⟨by decide +kernel, by decide +kernel, by decide +kernel⟩⟩, gT_at 127 (by decide +kernel) rfl⟩
theorem fg_X0_11 : FG RX0 11 0 0 := ⟨RX0, TX0, 2, RX0, rfl, by decide, inG_X0, gT_at 36 (by decide +kernel) rfl, Or.inl rfl⟩
theorem fg_X0_25 {ci : Nat} (h : ci = 3 ∨ ci = 5 ∨ ci = 8) : FG RX0 25 ci 0 := by
  rcases h with rfl | rfl | rfl
  · exact ⟨RX4, TX4, 3, RX2, rfl, by decide, inG_X4, gT_at 182 (by decide +kernel) rfl, Or.inl rfl⟩
  · exact ⟨RX6, TX6, 3, RX2, rfl, by decide, inG_X6, gT_at 182 (by decide +kernel) rfl, Or.inl rfl⟩
  · exact ⟨RX10, TX10, 3, RX2, rfl, by decide, inG_X10, gT_at 182 (by decide +kernel) rfl, Or.inl rfl⟩
theorem fg_X0_29 : FG RX0 29 2 2 := ⟨RX3, TX3, 4, RX3, rfl, by decide, inG_X3, gT_at 147 (by decide +kernel) rfl, Or.inl rfl⟩
theorem fg_X0_35 {ci : Nat} (h : ci = 3 ∨ ci = 5 ∨ ci = 8) : FG RX0 35 ci 1 := by
  rcases h with rfl | rfl | rfl
  · exact ⟨RX4, TX4, 3, RX2, rfl, by decide, inG_X4, gT_at 185 (by decide +kernel) rfl, Or.inl rfl⟩
  · exact ⟨RX6, TX6, 3, RX2, rfl, by decide, inG_X6, gT_at 185 (by decide +kernel) rfl, Or.inl rfl⟩
  · exact ⟨RX10, TX10, 3, RX2, rfl, by decide, inG_X10, gT_at 185 (by decide +kernel) rfl, Or.inl rfl⟩
theorem ca_X0_38 : CLV RX0 38 yX0_firstWithoutWeight cX0_firstWithoutWeight 2 (some (.object "ConstantKinds$Constant")) 0 0 := ⟨⟨gT_at 324 (by decide +kernel) rfl, gT_at 315 (by decide +kernel) rfl, gT_at 2 (by decide +kernel) rfl, ⟨by decide +kernel, by decide +kernel, by decide +kernel⟩⟩, gT_at 313 (by decide +kernel) rfl, gT_at 314 (by decide +kernel) rfl, TX0, 2, rfl⟩
theorem oi_X1_3 : Cond.methodLink RX1 3 objectInit ∈ gT := gT_at 454 (by decide +kernel) rfl
theorem fp_X1_9 : FP RX1 9 1 0 .int true := ⟨RX1, TX1, 3, RX1, tyX1, rfl, by decide, inG_X1, gT_at 455 (by decide +kernel) rfl, rfl, tyX1_ok, nmX1, rfl, by decide +kernel, fun h => by first | rfl | cases h⟩
theorem fp_X1_15 : FP RX1 15 1 1 .int true := ⟨RX1, TX1, 3, RX1, tyX1, rfl, by decide, inG_X1, gT_at 456 (by decide +kernel) rfl, rfl, tyX1_ok, nmX1, rfl, by decide +kernel, fun h => by first | rfl | cases h⟩
theorem fp_X1_18 : FP RX1 18 1 2 .int true := ⟨RX1, TX1, 3, RX1, tyX1, rfl, by decide, inG_X1, gT_at 457 (by decide +kernel) rfl, rfl, tyX1_ok, nmX1, rfl, by decide +kernel, fun h => by first | rfl | cases h⟩
theorem fg_X1_15 : FG RX1 15 1 1 := ⟨RX1, TX1, 3, RX1, rfl, by decide, inG_X1, gT_at 456 (by decide +kernel) rfl, Or.inl rfl⟩
theorem ca_X1_21 : CLV RX1 21 yX5_has cX5_has 2 (some .boolean) 1 4 := ⟨⟨gT_at 533 (by decide +kernel) rfl, gT_at 509 (by decide +kernel) rfl, gT_at 13 (by decide +kernel) rfl, ⟨by decide +kernel, by decide +kernel, by decide +kernel⟩⟩, gT_at 507 (by decide +kernel) rfl, gT_at 508 (by decide +kernel) rfl, TX5, 4, rfl⟩
theorem fg_X1_18 : FG RX1 18 1 2 := ⟨RX1, TX1, 3, RX1, rfl, by decide, inG_X1, gT_at 457 (by decide +kernel) rfl, Or.inl rfl⟩
theorem fg_X1_27 : FG RX1 27 4 2 := ⟨RX5, TX5, 4, RX5, rfl, by decide, inG_X5, gT_at 484 (by decide +kernel) rfl, Or.inl rfl⟩
theorem fg_X1_9 : FG RX1 9 1 0 := ⟨RX1, TX1, 3, RX1, rfl, by decide, inG_X1, gT_at 455 (by decide +kernel) rfl, Or.inl rfl⟩
theorem ca_X1_31 : CLS RX1 31 yX1_ownUnless cX1_ownUnless 1 (some .int) 1 := ⟨⟨gT_at 534 (by decide +kernel) rfl, gT_at 536 (by decide +kernel) rfl, gT_at 12 (by decide +kernel) rfl, ⟨by decide +kernel, by decide +kernel, by decide +kernel⟩⟩, gT_at 535 (by decide +kernel) rfl⟩
theorem ca_X1_35 : CLS RX1 35 yX1_divisionFailure cX1_divisionFailure 2 (some .int) 2 := ⟨⟨gT_at 537 (by decide +kernel) rfl, gT_at 539 (by decide +kernel) rfl, gT_at 12 (by decide +kernel) rfl, ⟨by decide +kernel, by decide +kernel, by decide +kernel⟩⟩, gT_at 538 (by decide +kernel) rfl⟩
theorem fg_X1_39 : FG RX1 39 4 3 := ⟨RX5, TX5, 4, RX5, rfl, by decide, inG_X5, gT_at 487 (by decide +kernel) rfl, Or.inl rfl⟩
theorem ca_X1_43 : CLS RX1 43 yX1_itemFailure cX1_itemFailure 3 (some .int) 2 := ⟨⟨gT_at 540 (by decide +kernel) rfl, gT_at 542 (by decide +kernel) rfl, gT_at 12 (by decide +kernel) rfl, ⟨by decide +kernel, by decide +kernel, by decide +kernel⟩⟩, gT_at 541 (by decide +kernel) rfl⟩
theorem ca_X1_47 : CLS RX1 47 yX1_lengthFailure cX1_lengthFailure 3 (some .int) 2 := ⟨⟨gT_at 545 (by decide +kernel) rfl, gT_at 547 (by decide +kernel) rfl, gT_at 12 (by decide +kernel) rfl, ⟨by decide +kernel, by decide +kernel, by decide +kernel⟩⟩, gT_at 546 (by decide +kernel) rfl⟩
theorem ca_X1_50 : CLS RX1 50 yX1_orderFailure cX1_orderFailure 3 (some .int) 2 := ⟨⟨gT_at 548 (by decide +kernel) rfl, gT_at 550 (by decide +kernel) rfl, gT_at 12 (by decide +kernel) rfl, ⟨by decide +kernel, by decide +kernel, by decide +kernel⟩⟩, gT_at 549 (by decide +kernel) rfl⟩
theorem ca_X1_53 : CLS RX1 53 yX1_firstFailure cX1_firstFailure 3 (some .int) 2 := ⟨⟨gT_at 552 (by decide +kernel) rfl, gT_at 554 (by decide +kernel) rfl, gT_at 12 (by decide +kernel) rfl, ⟨by decide +kernel, by decide +kernel, by decide +kernel⟩⟩, gT_at 553 (by decide +kernel) rfl⟩
theorem fi_X1_56_3 : FI RX1 56 3 0 := ⟨RX4, TX4, 3, RX7, rfl, gT_at 543 (by decide +kernel) rfl, Or.inr ⟨rfl, by decide +kernel⟩⟩
theorem fi_X1_56_4 : FI RX1 56 4 0 := ⟨RX5, TX5, 4, RX7, rfl, gT_at 543 (by decide +kernel) rfl, Or.inr ⟨rfl, by decide +kernel⟩⟩
theorem fi_X1_56_5 : FI RX1 56 5 0 := ⟨RX6, TX6, 3, RX7, rfl, gT_at 543 (by decide +kernel) rfl, Or.inr ⟨rfl, by decide +kernel⟩⟩
theorem fi_X1_56_6 : FI RX1 56 6 1 := ⟨RX7, TX7, 1, RX7, rfl, gT_at 543 (by decide +kernel) rfl, Or.inl ⟨rfl, by decide +kernel⟩⟩
theorem fi_X1_56_8 : FI RX1 56 8 0 := ⟨RX10, TX10, 3, RX7, rfl, gT_at 543 (by decide +kernel) rfl, Or.inr ⟨rfl, by decide +kernel⟩⟩
theorem ca_X1_58 : CLV RX1 58 yX7_has cX7_has 2 (some .boolean) 1 6 := ⟨⟨gT_at 544 (by decide +kernel) rfl, gT_at 368 (by decide +kernel) rfl, gT_at 11 (by decide +kernel) rfl, ⟨by decide +kernel, by decide +kernel, by decide +kernel⟩⟩, gT_at 366 (by decide +kernel) rfl, gT_at 367 (by decide +kernel) rfl, TX7, 1, rfl⟩
theorem fg_X1_59 : FG RX1 59 6 0 := ⟨RX7, TX7, 1, RX7, rfl, by decide, inG_X7, gT_at 352 (by decide +kernel) rfl, Or.inl rfl⟩
theorem fi_X1_62_3 : FI RX1 62 3 1 := ⟨RX4, TX4, 3, RX2, rfl, gT_at 551 (by decide +kernel) rfl, Or.inl ⟨rfl, by decide +kernel⟩⟩
theorem fi_X1_62_4 : FI RX1 62 4 0 := ⟨RX5, TX5, 4, RX2, rfl, gT_at 551 (by decide +kernel) rfl, Or.inr ⟨rfl, by decide +kernel⟩⟩
theorem fi_X1_62_5 : FI RX1 62 5 1 := ⟨RX6, TX6, 3, RX2, rfl, gT_at 551 (by decide +kernel) rfl, Or.inl ⟨rfl, by decide +kernel⟩⟩
theorem fi_X1_62_6 : FI RX1 62 6 0 := ⟨RX7, TX7, 1, RX2, rfl, gT_at 551 (by decide +kernel) rfl, Or.inr ⟨rfl, by decide +kernel⟩⟩
theorem fi_X1_62_8 : FI RX1 62 8 1 := ⟨RX10, TX10, 3, RX2, rfl, gT_at 551 (by decide +kernel) rfl, Or.inl ⟨rfl, by decide +kernel⟩⟩
theorem fg_X1_64 {ci : Nat} (h : ci = 3 ∨ ci = 5 ∨ ci = 8) : FG RX1 64 ci 0 := by
  rcases h with rfl | rfl | rfl
  · exact ⟨RX4, TX4, 3, RX2, rfl, by decide, inG_X4, gT_at 183 (by decide +kernel) rfl, Or.inl rfl⟩
  · exact ⟨RX6, TX6, 3, RX2, rfl, by decide, inG_X6, gT_at 183 (by decide +kernel) rfl, Or.inl rfl⟩
  · exact ⟨RX10, TX10, 3, RX2, rfl, by decide, inG_X10, gT_at 183 (by decide +kernel) rfl, Or.inl rfl⟩
theorem fg_X1_68 : FG RX1 68 2 3 := ⟨RX3, TX3, 4, RX3, rfl, by decide, inG_X3, gT_at 151 (by decide +kernel) rfl, Or.inl rfl⟩
theorem fi_X1_22_3 : FI RX1 22 3 0 := ⟨RX4, TX4, 3, RX5, rfl, gT_at 555 (by decide +kernel) rfl, Or.inr ⟨rfl, by decide +kernel⟩⟩
theorem fi_X1_22_4 : FI RX1 22 4 1 := ⟨RX5, TX5, 4, RX5, rfl, gT_at 555 (by decide +kernel) rfl, Or.inl ⟨rfl, by decide +kernel⟩⟩
theorem fi_X1_22_5 : FI RX1 22 5 0 := ⟨RX6, TX6, 3, RX5, rfl, gT_at 555 (by decide +kernel) rfl, Or.inr ⟨rfl, by decide +kernel⟩⟩
theorem fi_X1_22_6 : FI RX1 22 6 0 := ⟨RX7, TX7, 1, RX5, rfl, gT_at 555 (by decide +kernel) rfl, Or.inr ⟨rfl, by decide +kernel⟩⟩
theorem fi_X1_22_8 : FI RX1 22 8 0 := ⟨RX10, TX10, 3, RX5, rfl, gT_at 555 (by decide +kernel) rfl, Or.inr ⟨rfl, by decide +kernel⟩⟩
theorem ca_X1_73 : CLV RX1 73 yX5_isNumber cX5_isNumber 2 (some .boolean) 1 4 := ⟨⟨gT_at 556 (by decide +kernel) rfl, gT_at 505 (by decide +kernel) rfl, gT_at 13 (by decide +kernel) rfl, ⟨by decide +kernel, by decide +kernel, by decide +kernel⟩⟩, gT_at 503 (by decide +kernel) rfl, gT_at 504 (by decide +kernel) rfl, TX5, 4, rfl⟩
theorem ca_X2_1 : CNI RX2 1 yX9_init cX9_init 1 0 := ⟨⟨⟨RX11, by decide +kernel⟩, gT_at 174 (by decide +kernel) rfl, gT_at 6 (by decide +kernel) rfl, ⟨by decide +kernel, by decide +kernel, by decide +kernel⟩⟩, rfl, gT_at 173 (by decide +kernel) rfl⟩
theorem fp_X2_7 {ci : Nat} (h : ci = 3 ∨ ci = 5 ∨ ci = 8) : FP RX2 7 ci 1 .int false := by
  rcases h with rfl | rfl | rfl
  · exact ⟨RX4, TX4, 3, RX2, tyX4, rfl, by decide, inG_X4, gT_at 184 (by decide +kernel) rfl, rfl, tyX4_ok, nmX4, rfl, by decide +kernel, fun h => by first | rfl | cases h⟩
  · exact ⟨RX6, TX6, 3, RX2, tyX6, rfl, by decide, inG_X6, gT_at 184 (by decide +kernel) rfl, rfl, tyX6_ok, nmX6, rfl, by decide +kernel, fun h => by first | rfl | cases h⟩
  · exact ⟨RX10, TX10, 3, RX2, tyX10, rfl, by decide, inG_X10, gT_at 184 (by decide +kernel) rfl, rfl, tyX10_ok, nmX10, rfl, by decide +kernel, fun h => by first | rfl | cases h⟩
theorem fp_X2_13 {ci : Nat} (h : ci = 3 ∨ ci = 5 ∨ ci = 8) : FP RX2 13 ci 2 .int false := by
  rcases h with rfl | rfl | rfl
  · exact ⟨RX4, TX4, 3, RX2, tyX4, rfl, by decide, inG_X4, gT_at 187 (by decide +kernel) rfl, rfl, tyX4_ok, nmX4, rfl, by decide +kernel, fun h => by first | rfl | cases h⟩
  · exact ⟨RX6, TX6, 3, RX2, tyX6, rfl, by decide, inG_X6, gT_at 187 (by decide +kernel) rfl, rfl, tyX6_ok, nmX6, rfl, by decide +kernel, fun h => by first | rfl | cases h⟩
  · exact ⟨RX10, TX10, 3, RX2, tyX10, rfl, by decide, inG_X10, gT_at 187 (by decide +kernel) rfl, rfl, tyX10_ok, nmX10, rfl, by decide +kernel, fun h => by first | rfl | cases h⟩
theorem fp_X2_16 {ci : Nat} (h : ci = 3 ∨ ci = 5 ∨ ci = 8) : FP RX2 16 ci 0 (.object "ConstantKinds$Label") true := by
  rcases h with rfl | rfl | rfl
  · exact ⟨RX4, TX4, 3, RX2, tyX4, rfl, by decide, inG_X4, gT_at 176 (by decide +kernel) rfl, rfl, tyX4_ok, nmX4, rfl, by decide +kernel, fun h => by first | rfl | cases h⟩
  · exact ⟨RX6, TX6, 3, RX2, tyX6, rfl, by decide, inG_X6, gT_at 176 (by decide +kernel) rfl, rfl, tyX6_ok, nmX6, rfl, by decide +kernel, fun h => by first | rfl | cases h⟩
  · exact ⟨RX10, TX10, 3, RX2, tyX10, rfl, by decide, inG_X10, gT_at 176 (by decide +kernel) rfl, rfl, tyX10_ok, nmX10, rfl, by decide +kernel, fun h => by first | rfl | cases h⟩
theorem oi_X3_1 : Cond.methodLink RX3 1 objectInit ∈ gT := gT_at 141 (by decide +kernel) rfl
theorem fp_X3_7 : FP RX3 7 2 0 .int true := ⟨RX3, TX3, 4, RX3, tyX3, rfl, by decide, inG_X3, gT_at 142 (by decide +kernel) rfl, rfl, tyX3_ok, nmX3, rfl, by decide +kernel, fun h => by first | rfl | cases h⟩
theorem fp_X3_13 : FP RX3 13 2 1 .int true := ⟨RX3, TX3, 4, RX3, tyX3, rfl, by decide, inG_X3, gT_at 144 (by decide +kernel) rfl, rfl, tyX3_ok, nmX3, rfl, by decide +kernel, fun h => by first | rfl | cases h⟩
theorem fp_X3_16 : FP RX3 16 2 2 .long true := ⟨RX3, TX3, 4, RX3, tyX3, rfl, by decide, inG_X3, gT_at 146 (by decide +kernel) rfl, rfl, tyX3_ok, nmX3, rfl, by decide +kernel, fun h => by first | rfl | cases h⟩
theorem fp_X3_20 : FP RX3 20 2 3 .int true := ⟨RX3, TX3, 4, RX3, tyX3, rfl, by decide, inG_X3, gT_at 148 (by decide +kernel) rfl, rfl, tyX3_ok, nmX3, rfl, by decide +kernel, fun h => by first | rfl | cases h⟩
theorem ca_X4_3 : CLI RX4 3 yX10_init cX10_init 2 1 := ⟨⟨gT_at 201 (by decide +kernel) rfl, gT_at 168 (by decide +kernel) rfl, gT_at 8 (by decide +kernel) rfl, ⟨by decide +kernel, by decide +kernel, by decide +kernel⟩⟩, rfl, gT_at 167 (by decide +kernel) rfl⟩
theorem ca_X4_9 : CLP RX4 9 yX10_worthFor cX10_worthFor 2 (some .int) 1 3 := ⟨gT_at 297 (by decide +kernel) rfl, gT_at 883 (by decide +kernel) rfl, gT_at 205 (by decide +kernel) rfl, gT_at 298 (by decide +kernel) rfl, gT_at 8 (by decide +kernel) rfl, gT_at 299 (by decide +kernel) rfl, ⟨by decide +kernel, by decide +kernel⟩, RX4, TX4, 3, rfl⟩
theorem ca_X5_3 : CNI RX5 3 yX9_init cX9_init 1 0 := ⟨⟨⟨RX11, by decide +kernel⟩, gT_at 174 (by decide +kernel) rfl, gT_at 6 (by decide +kernel) rfl, ⟨by decide +kernel, by decide +kernel, by decide +kernel⟩⟩, rfl, gT_at 173 (by decide +kernel) rfl⟩
theorem fp_X5_9 : FP RX5 9 4 0 (.object "ConstantKinds$Shape") true := ⟨RX5, TX5, 4, RX5, tyX5, rfl, by decide, inG_X5, gT_at 479 (by decide +kernel) rfl, rfl, tyX5_ok, nmX5, rfl, by decide +kernel, fun h => by first | rfl | cases h⟩
theorem fg_X5_15 : FG RX5 15 7 3 := ⟨RX8, TX8, 6, RX8, rfl, by decide, inG_X8, gT_at 59 (by decide +kernel) rfl, Or.inl rfl⟩
theorem fp_X5_21 : FP RX5 21 4 1 .int true := ⟨RX5, TX5, 4, RX5, tyX5, rfl, by decide, inG_X5, gT_at 481 (by decide +kernel) rfl, rfl, tyX5_ok, nmX5, rfl, by decide +kernel, fun h => by first | rfl | cases h⟩
theorem fg_X5_21 : FG RX5 21 4 1 := ⟨RX5, TX5, 4, RX5, rfl, by decide, inG_X5, gT_at 481 (by decide +kernel) rfl, Or.inl rfl⟩
theorem fp_X5_24 : FP RX5 24 4 2 (.array .int) true := ⟨RX5, TX5, 4, RX5, tyX5, rfl, by decide, inG_X5, gT_at 483 (by decide +kernel) rfl, rfl, tyX5_ok, nmX5, rfl, by decide +kernel, fun h => by first | rfl | cases h⟩
theorem an_X5_4 : Cond.classLink RX5 4 "ConstantKinds$Thing" ∈ gT := gT_at 478 (by decide +kernel) rfl
theorem fp_X5_28 : FP RX5 28 4 3 (.array (.object "ConstantKinds$Thing")) true := ⟨RX5, TX5, 4, RX5, tyX5, rfl, by decide, inG_X5, gT_at 486 (by decide +kernel) rfl, rfl, tyX5_ok, nmX5, rfl, by decide +kernel, fun h => by first | rfl | cases h⟩
theorem ca_X5_32 : CNS RX5 32 yX11_isIn cX11_isIn 3 (some .boolean) 3 := ⟨⟨⟨RX11, by decide +kernel⟩, gT_at 128 (by decide +kernel) rfl, gT_at 1 (by decide +kernel) rfl, ⟨by decide +kernel, by decide +kernel, by decide +kernel⟩⟩, gT_at 127 (by decide +kernel) rfl⟩
theorem ca_X5_36 : CLV RX5 36 yX5_has cX5_has 2 (some .boolean) 1 4 := ⟨⟨gT_at 506 (by decide +kernel) rfl, gT_at 509 (by decide +kernel) rfl, gT_at 13 (by decide +kernel) rfl, ⟨by decide +kernel, by decide +kernel, by decide +kernel⟩⟩, gT_at 507 (by decide +kernel) rfl, gT_at 508 (by decide +kernel) rfl, TX5, 4, rfl⟩
theorem fg_X5_9 : FG RX5 9 4 0 := ⟨RX5, TX5, 4, RX5, rfl, by decide, inG_X5, gT_at 479 (by decide +kernel) rfl, Or.inl rfl⟩
theorem fg_X5_40 : FG RX5 40 7 1 := ⟨RX8, TX8, 6, RX8, rfl, by decide, inG_X8, gT_at 55 (by decide +kernel) rfl, Or.inl rfl⟩
theorem ca_X6_3 : CLI RX6 3 yX2_init cX2_init 2 1 := ⟨⟨gT_at 211 (by decide +kernel) rfl, gT_at 171 (by decide +kernel) rfl, gT_at 7 (by decide +kernel) rfl, ⟨by decide +kernel, by decide +kernel, by decide +kernel⟩⟩, rfl, gT_at 170 (by decide +kernel) rfl⟩
theorem fg_X6_9 {ci : Nat} (h : ci = 3 ∨ ci = 5 ∨ ci = 8) : FG RX6 9 ci 0 := by
  rcases h with rfl | rfl | rfl
  · exact ⟨RX4, TX4, 3, RX6, rfl, by decide, inG_X4, gT_at 178 (by decide +kernel) rfl, Or.inr (gT_at 179 (by decide +kernel) rfl)⟩
  · exact ⟨RX6, TX6, 3, RX6, rfl, by decide, inG_X6, gT_at 178 (by decide +kernel) rfl, Or.inr (gT_at 179 (by decide +kernel) rfl)⟩
  · exact ⟨RX10, TX10, 3, RX6, rfl, by decide, inG_X10, gT_at 178 (by decide +kernel) rfl, Or.inr (gT_at 179 (by decide +kernel) rfl)⟩
theorem fg_X6_15 : FG RX6 15 2 3 := ⟨RX3, TX3, 4, RX3, rfl, by decide, inG_X3, gT_at 149 (by decide +kernel) rfl, Or.inl rfl⟩
theorem ca_X7_3 : CNI RX7 3 yX9_init cX9_init 1 0 := ⟨⟨⟨RX11, by decide +kernel⟩, gT_at 174 (by decide +kernel) rfl, gT_at 6 (by decide +kernel) rfl, ⟨by decide +kernel, by decide +kernel, by decide +kernel⟩⟩, rfl, gT_at 173 (by decide +kernel) rfl⟩
theorem ca_X7_9 : CNS RX7 9 yX11_isIn cX11_isIn 3 (some .boolean) 3 := ⟨⟨⟨RX11, by decide +kernel⟩, gT_at 128 (by decide +kernel) rfl, gT_at 1 (by decide +kernel) rfl, ⟨by decide +kernel, by decide +kernel, by decide +kernel⟩⟩, gT_at 127 (by decide +kernel) rfl⟩
theorem fp_X7_13 : FP RX7 13 6 0 (.array .int) true := ⟨RX7, TX7, 1, RX7, tyX7, rfl, by decide, inG_X7, gT_at 351 (by decide +kernel) rfl, rfl, tyX7_ok, nmX7, rfl, by decide +kernel, fun h => by first | rfl | cases h⟩
theorem fg_X7_13 : FG RX7 13 6 0 := ⟨RX7, TX7, 1, RX7, rfl, by decide, inG_X7, gT_at 351 (by decide +kernel) rfl, Or.inl rfl⟩
theorem oi_X8_3 : Cond.methodLink RX8 3 objectInit ∈ gT := gT_at 49 (by decide +kernel) rfl
theorem fp_X8_9 : FP RX8 9 7 1 (.array .int) true := ⟨RX8, TX8, 6, RX8, tyX8, rfl, by decide, inG_X8, gT_at 54 (by decide +kernel) rfl, rfl, tyX8_ok, nmX8, rfl, by decide +kernel, fun h => by first | rfl | cases h⟩
theorem fp_X8_15 : FP RX8 15 7 2 (.array .int) true := ⟨RX8, TX8, 6, RX8, tyX8, rfl, by decide, inG_X8, gT_at 57 (by decide +kernel) rfl, rfl, tyX8_ok, nmX8, rfl, by decide +kernel, fun h => by first | rfl | cases h⟩
theorem fp_X8_18 : FP RX8 18 7 3 .int false := ⟨RX8, TX8, 6, RX8, tyX8, rfl, by decide, inG_X8, gT_at 60 (by decide +kernel) rfl, rfl, tyX8_ok, nmX8, rfl, by decide +kernel, fun h => by first | rfl | cases h⟩
theorem an_X8_22 : Cond.classLink RX8 22 "ConstantKinds$Check" ∈ gT := gT_at 50 (by decide +kernel) rfl
theorem fp_X8_24 : FP RX8 24 7 4 (.array (.object "ConstantKinds$Check")) true := ⟨RX8, TX8, 6, RX8, tyX8, rfl, by decide, inG_X8, gT_at 61 (by decide +kernel) rfl, rfl, tyX8_ok, nmX8, rfl, by decide +kernel, fun h => by first | rfl | cases h⟩
theorem fp_X8_28 : FP RX8 28 7 5 .int false := ⟨RX8, TX8, 6, RX8, tyX8, rfl, by decide, inG_X8, gT_at 63 (by decide +kernel) rfl, rfl, tyX8_ok, nmX8, rfl, by decide +kernel, fun h => by first | rfl | cases h⟩
theorem fp_X8_31 : FP RX8 31 7 0 .int true := ⟨RX8, TX8, 6, RX8, tyX8, rfl, by decide, inG_X8, gT_at 52 (by decide +kernel) rfl, rfl, tyX8_ok, nmX8, rfl, by decide +kernel, fun h => by first | rfl | cases h⟩
theorem fg_X8_18 : FG RX8 18 7 3 := ⟨RX8, TX8, 6, RX8, rfl, by decide, inG_X8, gT_at 60 (by decide +kernel) rfl, Or.inl rfl⟩
theorem ca_X8_34 : CNS RX8 34 yX11_isIn cX11_isIn 3 (some .boolean) 3 := ⟨⟨⟨RX11, by decide +kernel⟩, gT_at 128 (by decide +kernel) rfl, gT_at 1 (by decide +kernel) rfl, ⟨by decide +kernel, by decide +kernel, by decide +kernel⟩⟩, gT_at 127 (by decide +kernel) rfl⟩
theorem fg_X8_9 : FG RX8 9 7 1 := ⟨RX8, TX8, 6, RX8, rfl, by decide, inG_X8, gT_at 54 (by decide +kernel) rfl, Or.inl rfl⟩
theorem fg_X8_15 : FG RX8 15 7 2 := ⟨RX8, TX8, 6, RX8, rfl, by decide, inG_X8, gT_at 57 (by decide +kernel) rfl, Or.inl rfl⟩
theorem fg_X8_28 : FG RX8 28 7 5 := ⟨RX8, TX8, 6, RX8, rfl, by decide, inG_X8, gT_at 63 (by decide +kernel) rfl, Or.inl rfl⟩
theorem fg_X8_24 : FG RX8 24 7 4 := ⟨RX8, TX8, 6, RX8, rfl, by decide, inG_X8, gT_at 61 (by decide +kernel) rfl, Or.inl rfl⟩
theorem fn_X8_22 : FN RX8 22 1 3 [.int 0, .int 0, .int 0] := ⟨RX1, TX1, tyX1, rfl, inG_X1, tyX1_ok, gT_at 50 (by decide +kernel) rfl, gT_at 450 (by decide +kernel) rfl, gT_at 12 (by decide +kernel) rfl, by decide +kernel⟩
theorem ca_X8_38 : CLI RX8 38 yX1_init cX1_init 4 3 := ⟨⟨gT_at 451 (by decide +kernel) rfl, gT_at 453 (by decide +kernel) rfl, gT_at 12 (by decide +kernel) rfl, ⟨by decide +kernel, by decide +kernel, by decide +kernel⟩⟩, rfl, gT_at 452 (by decide +kernel) rfl⟩
theorem oi_X9_1 : Cond.methodLink RX9 1 objectInit ∈ gT := gT_at 175 (by decide +kernel) rfl
theorem ca_X10_3 : CLI RX10 3 yX2_init cX2_init 2 1 := ⟨⟨gT_at 169 (by decide +kernel) rfl, gT_at 171 (by decide +kernel) rfl, gT_at 7 (by decide +kernel) rfl, ⟨by decide +kernel, by decide +kernel, by decide +kernel⟩⟩, rfl, gT_at 170 (by decide +kernel) rfl⟩
theorem fg_X10_9 {ci : Nat} (h : ci = 3 ∨ ci = 5 ∨ ci = 8) : FG RX10 9 ci 0 := by
  rcases h with rfl | rfl | rfl
  · exact ⟨RX4, TX4, 3, RX10, rfl, by decide, inG_X4, gT_at 180 (by decide +kernel) rfl, Or.inr (gT_at 181 (by decide +kernel) rfl)⟩
  · exact ⟨RX6, TX6, 3, RX10, rfl, by decide, inG_X6, gT_at 180 (by decide +kernel) rfl, Or.inr (gT_at 181 (by decide +kernel) rfl)⟩
  · exact ⟨RX10, TX10, 3, RX10, rfl, by decide, inG_X10, gT_at 180 (by decide +kernel) rfl, Or.inr (gT_at 181 (by decide +kernel) rfl)⟩
theorem fg_X10_15 : FG RX10 15 2 3 := ⟨RX3, TX3, 4, RX3, rfl, by decide, inG_X3, gT_at 150 (by decide +kernel) rfl, Or.inl rfl⟩
theorem oi_X11_1 : Cond.methodLink RX11 1 objectInit ∈ gT := gT_at 19 (by decide +kernel) rfl
theorem an_X11_9 : Cond.classLink RX11 9 "ConstantKinds$Constant" ∈ gT := gT_at 22 (by decide +kernel) rfl
theorem fp_X11_11 : FP RX11 11 9 0 (.array (.object "ConstantKinds$Constant")) true := ⟨RX11, TX11, 13, RX11, tyX11, rfl, by decide, inG_X11, gT_at 78 (by decide +kernel) rfl, rfl, tyX11_ok, nmX11, rfl, by decide +kernel, fun h => by first | rfl | cases h⟩
theorem fp_X11_15 : FP RX11 15 9 1 .int false := ⟨RX11, TX11, 13, RX11, tyX11, rfl, by decide, inG_X11, gT_at 79 (by decide +kernel) rfl, rfl, tyX11_ok, nmX11, rfl, by decide +kernel, fun h => by first | rfl | cases h⟩
theorem an_X11_19 : Cond.classLink RX11 19 "ConstantKinds$Build" ∈ gT := gT_at 24 (by decide +kernel) rfl
theorem fp_X11_21 : FP RX11 21 9 2 (.array (.object "ConstantKinds$Build")) true := ⟨RX11, TX11, 13, RX11, tyX11, rfl, by decide, inG_X11, gT_at 80 (by decide +kernel) rfl, rfl, tyX11_ok, nmX11, rfl, by decide +kernel, fun h => by first | rfl | cases h⟩
theorem fp_X11_25 : FP RX11 25 9 3 (.array .int) true := ⟨RX11, TX11, 13, RX11, tyX11, rfl, by decide, inG_X11, gT_at 81 (by decide +kernel) rfl, rfl, tyX11_ok, nmX11, rfl, by decide +kernel, fun h => by first | rfl | cases h⟩
theorem fp_X11_29 : FP RX11 29 9 4 .int false := ⟨RX11, TX11, 13, RX11, tyX11, rfl, by decide, inG_X11, gT_at 82 (by decide +kernel) rfl, rfl, tyX11_ok, nmX11, rfl, by decide +kernel, fun h => by first | rfl | cases h⟩
theorem fp_X11_32 : FP RX11 32 9 5 .int false := ⟨RX11, TX11, 13, RX11, tyX11, rfl, by decide, inG_X11, gT_at 83 (by decide +kernel) rfl, rfl, tyX11_ok, nmX11, rfl, by decide +kernel, fun h => by first | rfl | cases h⟩
theorem an_X11_35 : Cond.classLink RX11 35 "ConstantKinds$Thing" ∈ gT := gT_at 26 (by decide +kernel) rfl
theorem fp_X11_37 : FP RX11 37 9 6 (.array (.object "ConstantKinds$Thing")) true := ⟨RX11, TX11, 13, RX11, tyX11, rfl, by decide, inG_X11, gT_at 84 (by decide +kernel) rfl, rfl, tyX11_ok, nmX11, rfl, by decide +kernel, fun h => by first | rfl | cases h⟩
theorem an_X11_41 : Cond.classLink RX11 41 "ConstantKinds$Shape" ∈ gT := gT_at 28 (by decide +kernel) rfl
theorem fp_X11_43 : FP RX11 43 9 7 (.array (.object "ConstantKinds$Shape")) true := ⟨RX11, TX11, 13, RX11, tyX11, rfl, by decide, inG_X11, gT_at 85 (by decide +kernel) rfl, rfl, tyX11_ok, nmX11, rfl, by decide +kernel, fun h => by first | rfl | cases h⟩
theorem fp_X11_47 : FP RX11 47 9 8 (.array .int) true := ⟨RX11, TX11, 13, RX11, tyX11, rfl, by decide, inG_X11, gT_at 86 (by decide +kernel) rfl, rfl, tyX11_ok, nmX11, rfl, by decide +kernel, fun h => by first | rfl | cases h⟩
theorem fp_X11_50 : FP RX11 50 9 9 (.array .int) true := ⟨RX11, TX11, 13, RX11, tyX11, rfl, by decide, inG_X11, gT_at 87 (by decide +kernel) rfl, rfl, tyX11_ok, nmX11, rfl, by decide +kernel, fun h => by first | rfl | cases h⟩
theorem fp_X11_53 : FP RX11 53 9 10 .int false := ⟨RX11, TX11, 13, RX11, tyX11, rfl, by decide, inG_X11, gT_at 88 (by decide +kernel) rfl, rfl, tyX11_ok, nmX11, rfl, by decide +kernel, fun h => by first | rfl | cases h⟩
theorem fp_X11_56 : FP RX11 56 9 11 .int false := ⟨RX11, TX11, 13, RX11, tyX11, rfl, by decide, inG_X11, gT_at 89 (by decide +kernel) rfl, rfl, tyX11_ok, nmX11, rfl, by decide +kernel, fun h => by first | rfl | cases h⟩
theorem fp_X11_59 : FP RX11 59 9 12 .int false := ⟨RX11, TX11, 13, RX11, tyX11, rfl, by decide, inG_X11, gT_at 90 (by decide +kernel) rfl, rfl, tyX11_ok, nmX11, rfl, by decide +kernel, fun h => by first | rfl | cases h⟩
theorem fg_X11_21 : FG RX11 21 9 2 := ⟨RX11, TX11, 13, RX11, rfl, by decide, inG_X11, gT_at 80 (by decide +kernel) rfl, Or.inl rfl⟩
theorem fn_X11_19 : FN RX11 19 0 2 [.null, .int 0] := ⟨RX0, TX0, tyX0, rfl, inG_X0, tyX0_ok, gT_at 24 (by decide +kernel) rfl, gT_at 30 (by decide +kernel) rfl, gT_at 2 (by decide +kernel) rfl, by decide +kernel⟩
theorem ca_X11_62 : CNI RX11 62 yX0_init cX0_init 1 0 := ⟨⟨⟨RX11, by decide +kernel⟩, gT_at 33 (by decide +kernel) rfl, gT_at 2 (by decide +kernel) rfl, ⟨by decide +kernel, by decide +kernel, by decide +kernel⟩⟩, rfl, gT_at 32 (by decide +kernel) rfl⟩
theorem fg_X11_25 : FG RX11 25 9 3 := ⟨RX11, TX11, 13, RX11, rfl, by decide, inG_X11, gT_at 81 (by decide +kernel) rfl, Or.inl rfl⟩
theorem fg_X11_43 : FG RX11 43 9 7 := ⟨RX11, TX11, 13, RX11, rfl, by decide, inG_X11, gT_at 85 (by decide +kernel) rfl, Or.inl rfl⟩
theorem fn_X11_41 : FN RX11 41 7 6 [.int 0, .null, .null, .int 0, .null, .int 0] := ⟨RX8, TX8, tyX8, rfl, inG_X8, tyX8_ok, gT_at 28 (by decide +kernel) rfl, gT_at 45 (by decide +kernel) rfl, gT_at 3 (by decide +kernel) rfl, by decide +kernel⟩
theorem ca_X11_63 : CLI RX11 63 yX8_init cX8_init 2 1 := ⟨⟨gT_at 46 (by decide +kernel) rfl, gT_at 48 (by decide +kernel) rfl, gT_at 3 (by decide +kernel) rfl, ⟨by decide +kernel, by decide +kernel, by decide +kernel⟩⟩, rfl, gT_at 47 (by decide +kernel) rfl⟩
theorem ca_X11_66 : CLV RX11 66 yX11_buildAt cX11_buildAt 3 (some (.object "ConstantKinds$Build")) 2 9 := ⟨⟨gT_at 122 (by decide +kernel) rfl, gT_at 125 (by decide +kernel) rfl, gT_at 1 (by decide +kernel) rfl, ⟨by decide +kernel, by decide +kernel, by decide +kernel⟩⟩, gT_at 124 (by decide +kernel) rfl, gS_at 0 (by decide +kernel) rfl, TX11, 13, rfl⟩
theorem ca_X11_70 : CLS RX11 70 yX11_isName cX11_isName 5 (some .boolean) 1 := ⟨⟨gT_at 129 (by decide +kernel) rfl, gT_at 131 (by decide +kernel) rfl, gT_at 1 (by decide +kernel) rfl, ⟨by decide +kernel, by decide +kernel, by decide +kernel⟩⟩, gT_at 130 (by decide +kernel) rfl⟩
theorem ca_X11_74 : CLV RX11 74 yX0_bearing cX0_bearing 4 (some (.object "ConstantKinds$Constant")) 1 0 := ⟨⟨gT_at 132 (by decide +kernel) rfl, gT_at 135 (by decide +kernel) rfl, gT_at 2 (by decide +kernel) rfl, ⟨by decide +kernel, by decide +kernel, by decide +kernel⟩⟩, gT_at 133 (by decide +kernel) rfl, gT_at 134 (by decide +kernel) rfl, TX0, 2, rfl⟩
theorem ca_X11_78 : CLS RX11 78 yX11_isIn cX11_isIn 3 (some .boolean) 3 := ⟨⟨gT_at 126 (by decide +kernel) rfl, gT_at 128 (by decide +kernel) rfl, gT_at 1 (by decide +kernel) rfl, ⟨by decide +kernel, by decide +kernel, by decide +kernel⟩⟩, gT_at 127 (by decide +kernel) rfl⟩
theorem fg_X11_15 : FG RX11 15 9 1 := ⟨RX11, TX11, 13, RX11, rfl, by decide, inG_X11, gT_at 79 (by decide +kernel) rfl, Or.inl rfl⟩
theorem fn_X11_82 : FN RX11 82 2 4 [.int 0, .int 0, .long 0, .int 0] := ⟨RX3, TX3, tyX3, rfl, inG_X3, tyX3_ok, gT_at 136 (by decide +kernel) rfl, gT_at 137 (by decide +kernel) rfl, gT_at 5 (by decide +kernel) rfl, by decide +kernel⟩
theorem fg_X11_84 : FG RX11 84 0 1 := ⟨RX0, TX0, 2, RX0, rfl, by decide, inG_X0, gT_at 38 (by decide +kernel) rfl, Or.inl rfl⟩
theorem ca_X11_87 : CLI RX11 87 yX3_init cX3_init 6 4 := ⟨⟨gT_at 138 (by decide +kernel) rfl, gT_at 140 (by decide +kernel) rfl, gT_at 5 (by decide +kernel) rfl, ⟨by decide +kernel, by decide +kernel, by decide +kernel⟩⟩, rfl, gT_at 139 (by decide +kernel) rfl⟩
theorem ca_X11_90 : CLS RX11 90 yX11_newConstant cX11_newConstant 2 (some (.object "ConstantKinds$Constant")) 2 := ⟨⟨gT_at 161 (by decide +kernel) rfl, gT_at 163 (by decide +kernel) rfl, gT_at 1 (by decide +kernel) rfl, ⟨by decide +kernel, by decide +kernel, by decide +kernel⟩⟩, gT_at 162 (by decide +kernel) rfl⟩
theorem ca_X11_94 : CLV RX11 94 yX0_append cX0_append 2 (some .int) 1 0 := ⟨⟨gT_at 216 (by decide +kernel) rfl, gT_at 219 (by decide +kernel) rfl, gT_at 2 (by decide +kernel) rfl, ⟨by decide +kernel, by decide +kernel, by decide +kernel⟩⟩, gT_at 217 (by decide +kernel) rfl, gT_at 218 (by decide +kernel) rfl, TX0, 2, rfl⟩
theorem fg_X11_11 : FG RX11 11 9 0 := ⟨RX11, TX11, 13, RX11, rfl, by decide, inG_X11, gT_at 78 (by decide +kernel) rfl, Or.inl rfl⟩
theorem fg_X11_98 {ci : Nat} (h : ci = 3 ∨ ci = 5 ∨ ci = 8) : FG RX11 98 ci 0 := by
  rcases h with rfl | rfl | rfl
  · exact ⟨RX4, TX4, 3, RX2, rfl, by decide, inG_X4, gT_at 177 (by decide +kernel) rfl, Or.inl rfl⟩
  · exact ⟨RX6, TX6, 3, RX2, rfl, by decide, inG_X6, gT_at 177 (by decide +kernel) rfl, Or.inl rfl⟩
  · exact ⟨RX10, TX10, 3, RX2, rfl, by decide, inG_X10, gT_at 177 (by decide +kernel) rfl, Or.inl rfl⟩
theorem fg_X11_102 : FG RX11 102 2 0 := ⟨RX3, TX3, 4, RX3, rfl, by decide, inG_X3, gT_at 143 (by decide +kernel) rfl, Or.inl rfl⟩
theorem ca_X11_105 : CLV RX11 105 yX11_constantAt cX11_constantAt 2 (some (.object "ConstantKinds$Constant")) 1 9 := ⟨⟨gT_at 224 (by decide +kernel) rfl, gT_at 227 (by decide +kernel) rfl, gT_at 1 (by decide +kernel) rfl, ⟨by decide +kernel, by decide +kernel, by decide +kernel⟩⟩, gT_at 226 (by decide +kernel) rfl, gS_at 1 (by decide +kernel) rfl, TX11, 13, rfl⟩
theorem fg_X11_109 : FG RX11 109 2 1 := ⟨RX3, TX3, 4, RX3, rfl, by decide, inG_X3, gT_at 145 (by decide +kernel) rfl, Or.inl rfl⟩
theorem ca_X11_112 : CLV RX11 112 yX0_orderOf cX0_orderOf 3 (some .int) 1 0 := ⟨⟨gT_at 228 (by decide +kernel) rfl, gT_at 231 (by decide +kernel) rfl, gT_at 2 (by decide +kernel) rfl, ⟨by decide +kernel, by decide +kernel, by decide +kernel⟩⟩, gT_at 229 (by decide +kernel) rfl, gT_at 230 (by decide +kernel) rfl, TX0, 2, rfl⟩
theorem ca_X11_115 : CLS RX11 115 yX11_scramble cX11_scramble 5 (some .long) 2 := ⟨⟨gT_at 236 (by decide +kernel) rfl, gT_at 238 (by decide +kernel) rfl, gT_at 1 (by decide +kernel) rfl, ⟨by decide +kernel, by decide +kernel, by decide +kernel⟩⟩, gT_at 237 (by decide +kernel) rfl⟩
theorem ca_X11_119 : CLS RX11 119 yX11_unsignedRemainder cX11_unsignedRemainder 5 (some .int) 2 := ⟨⟨gT_at 242 (by decide +kernel) rfl, gT_at 244 (by decide +kernel) rfl, gT_at 1 (by decide +kernel) rfl, ⟨by decide +kernel, by decide +kernel, by decide +kernel⟩⟩, gT_at 243 (by decide +kernel) rfl⟩
theorem ca_X11_123 : CLV RX11 123 yX0_swap cX0_swap 4 none 2 0 := ⟨⟨gT_at 246 (by decide +kernel) rfl, gT_at 249 (by decide +kernel) rfl, gT_at 2 (by decide +kernel) rfl, ⟨by decide +kernel, by decide +kernel, by decide +kernel⟩⟩, gT_at 247 (by decide +kernel) rfl, gT_at 248 (by decide +kernel) rfl, TX0, 2, rfl⟩
theorem ca_X11_127 : CLV RX11 127 yX0_at cX0_at 2 (some (.object "ConstantKinds$Constant")) 1 0 := ⟨⟨gT_at 255 (by decide +kernel) rfl, gT_at 258 (by decide +kernel) rfl, gT_at 2 (by decide +kernel) rfl, ⟨by decide +kernel, by decide +kernel, by decide +kernel⟩⟩, gT_at 256 (by decide +kernel) rfl, gT_at 257 (by decide +kernel) rfl, TX0, 2, rfl⟩
theorem ca_X11_130_3 : CLU RX11 130 ⟨RX2, "bodyNumber", "()I"⟩ yX4_bodyNumber cX4_bodyNumber 1 (some .int) 0 3 := ⟨gT_at 271 (by decide +kernel) rfl, gT_at 273 (by decide +kernel) rfl, by decide +kernel, gT_at 275 (by decide +kernel) rfl, gT_at 9 (by decide +kernel) rfl, gT_at 276 (by decide +kernel) rfl, ⟨by decide +kernel, by decide +kernel, by decide +kernel⟩, RX4, TX4, 3, rfl, gT_at 274 (by decide +kernel) rfl⟩
theorem ca_X11_130_5 : CLU RX11 130 ⟨RX2, "bodyNumber", "()I"⟩ yX6_bodyNumber cX6_bodyNumber 1 (some .int) 0 5 := ⟨gT_at 271 (by decide +kernel) rfl, gT_at 273 (by decide +kernel) rfl, by decide +kernel, gT_at 278 (by decide +kernel) rfl, gT_at 10 (by decide +kernel) rfl, gT_at 279 (by decide +kernel) rfl, ⟨by decide +kernel, by decide +kernel, by decide +kernel⟩, RX6, TX6, 3, rfl, gT_at 277 (by decide +kernel) rfl⟩
theorem ca_X11_130_8 : CLU RX11 130 ⟨RX2, "bodyNumber", "()I"⟩ yX10_bodyNumber cX10_bodyNumber 1 (some .int) 0 8 := ⟨gT_at 271 (by decide +kernel) rfl, gT_at 273 (by decide +kernel) rfl, by decide +kernel, gT_at 281 (by decide +kernel) rfl, gT_at 8 (by decide +kernel) rfl, gT_at 282 (by decide +kernel) rfl, ⟨by decide +kernel, by decide +kernel, by decide +kernel⟩, RX10, TX10, 3, rfl, gT_at 280 (by decide +kernel) rfl⟩
theorem fg_X11_134 {ci : Nat} (h : ci = 3 ∨ ci = 5 ∨ ci = 8) : FG RX11 134 ci 1 := by
  rcases h with rfl | rfl | rfl
  · exact ⟨RX4, TX4, 3, RX2, rfl, by decide, inG_X4, gT_at 186 (by decide +kernel) rfl, Or.inl rfl⟩
  · exact ⟨RX6, TX6, 3, RX2, rfl, by decide, inG_X6, gT_at 186 (by decide +kernel) rfl, Or.inl rfl⟩
  · exact ⟨RX10, TX10, 3, RX2, rfl, by decide, inG_X10, gT_at 186 (by decide +kernel) rfl, Or.inl rfl⟩
theorem fg_X11_137 {ci : Nat} (h : ci = 3 ∨ ci = 5 ∨ ci = 8) : FG RX11 137 ci 2 := by
  rcases h with rfl | rfl | rfl
  · exact ⟨RX4, TX4, 3, RX2, rfl, by decide, inG_X4, gT_at 188 (by decide +kernel) rfl, Or.inl rfl⟩
  · exact ⟨RX6, TX6, 3, RX2, rfl, by decide, inG_X6, gT_at 188 (by decide +kernel) rfl, Or.inl rfl⟩
  · exact ⟨RX10, TX10, 3, RX2, rfl, by decide, inG_X10, gT_at 188 (by decide +kernel) rfl, Or.inl rfl⟩
theorem ca_X11_140 : CLV RX11 140 yX11_use cX11_use 2 none 1 9 := ⟨⟨gT_at 287 (by decide +kernel) rfl, gT_at 290 (by decide +kernel) rfl, gT_at 1 (by decide +kernel) rfl, ⟨by decide +kernel, by decide +kernel, by decide +kernel⟩⟩, gT_at 289 (by decide +kernel) rfl, gS_at 2 (by decide +kernel) rfl, TX11, 13, rfl⟩
theorem fg_X11_29 : FG RX11 29 9 4 := ⟨RX11, TX11, 13, RX11, rfl, by decide, inG_X11, gT_at 82 (by decide +kernel) rfl, Or.inl rfl⟩
theorem ca_X11_144_3 : CLU RX11 144 ⟨RX2, "worthFor", "(I)I"⟩ yX4_worthFor cX4_worthFor 2 (some .int) 1 3 := ⟨gT_at 291 (by decide +kernel) rfl, gT_at 293 (by decide +kernel) rfl, by decide +kernel, gT_at 295 (by decide +kernel) rfl, gT_at 9 (by decide +kernel) rfl, gT_at 296 (by decide +kernel) rfl, ⟨by decide +kernel, by decide +kernel, by decide +kernel⟩, RX4, TX4, 3, rfl, gT_at 294 (by decide +kernel) rfl⟩
theorem ca_X11_144_5 : CLU RX11 144 ⟨RX2, "worthFor", "(I)I"⟩ yX6_worthFor cX6_worthFor 2 (some .int) 1 5 := ⟨gT_at 291 (by decide +kernel) rfl, gT_at 293 (by decide +kernel) rfl, by decide +kernel, gT_at 301 (by decide +kernel) rfl, gT_at 10 (by decide +kernel) rfl, gT_at 302 (by decide +kernel) rfl, ⟨by decide +kernel, by decide +kernel, by decide +kernel⟩, RX6, TX6, 3, rfl, gT_at 300 (by decide +kernel) rfl⟩
theorem ca_X11_144_8 : CLU RX11 144 ⟨RX2, "worthFor", "(I)I"⟩ yX10_worthFor cX10_worthFor 2 (some .int) 1 8 := ⟨gT_at 291 (by decide +kernel) rfl, gT_at 293 (by decide +kernel) rfl, by decide +kernel, gT_at 298 (by decide +kernel) rfl, gT_at 8 (by decide +kernel) rfl, gT_at 299 (by decide +kernel) rfl, ⟨by decide +kernel, by decide +kernel, by decide +kernel⟩, RX10, TX10, 3, rfl, gT_at 303 (by decide +kernel) rfl⟩
theorem fp_X11_134 {ci : Nat} (h : ci = 3 ∨ ci = 5 ∨ ci = 8) : FP RX11 134 ci 1 .int false := by
  rcases h with rfl | rfl | rfl
  · exact ⟨RX4, TX4, 3, RX2, tyX4, rfl, by decide, inG_X4, gT_at 186 (by decide +kernel) rfl, rfl, tyX4_ok, nmX4, rfl, by decide +kernel, fun h => by first | rfl | cases h⟩
  · exact ⟨RX6, TX6, 3, RX2, tyX6, rfl, by decide, inG_X6, gT_at 186 (by decide +kernel) rfl, rfl, tyX6_ok, nmX6, rfl, by decide +kernel, fun h => by first | rfl | cases h⟩
  · exact ⟨RX10, TX10, 3, RX2, tyX10, rfl, by decide, inG_X10, gT_at 186 (by decide +kernel) rfl, rfl, tyX10_ok, nmX10, rfl, by decide +kernel, fun h => by first | rfl | cases h⟩
theorem ca_X11_148 : CLV RX11 148 yX0_firstWithoutWeight cX0_firstWithoutWeight 2 (some (.object "ConstantKinds$Constant")) 0 0 := ⟨⟨gT_at 312 (by decide +kernel) rfl, gT_at 315 (by decide +kernel) rfl, gT_at 2 (by decide +kernel) rfl, ⟨by decide +kernel, by decide +kernel, by decide +kernel⟩⟩, gT_at 313 (by decide +kernel) rfl, gT_at 314 (by decide +kernel) rfl, TX0, 2, rfl⟩
theorem ca_X11_152 : CLV RX11 152 yX0_isWhole cX0_isWhole 1 (some .boolean) 0 0 := ⟨⟨gT_at 320 (by decide +kernel) rfl, gT_at 323 (by decide +kernel) rfl, gT_at 2 (by decide +kernel) rfl, ⟨by decide +kernel, by decide +kernel, by decide +kernel⟩⟩, gT_at 321 (by decide +kernel) rfl, gT_at 322 (by decide +kernel) rfl, TX0, 2, rfl⟩
theorem ca_X11_156 : CLV RX11 156 yX0_weightSum cX0_weightSum 3 (some .int) 0 0 := ⟨⟨gT_at 325 (by decide +kernel) rfl, gT_at 328 (by decide +kernel) rfl, gT_at 2 (by decide +kernel) rfl, ⟨by decide +kernel, by decide +kernel, by decide +kernel⟩⟩, gT_at 326 (by decide +kernel) rfl, gT_at 327 (by decide +kernel) rfl, TX0, 2, rfl⟩
theorem ca_X11_159 : CLV RX11 159 yX0_reaching cX0_reaching 4 (some (.object "ConstantKinds$Constant")) 1 0 := ⟨⟨gT_at 329 (by decide +kernel) rfl, gT_at 332 (by decide +kernel) rfl, gT_at 2 (by decide +kernel) rfl, ⟨by decide +kernel, by decide +kernel, by decide +kernel⟩⟩, gT_at 330 (by decide +kernel) rfl, gT_at 331 (by decide +kernel) rfl, TX0, 2, rfl⟩
theorem fg_X11_32 : FG RX11 32 9 5 := ⟨RX11, TX11, 13, RX11, rfl, by decide, inG_X11, gT_at 83 (by decide +kernel) rfl, Or.inl rfl⟩
theorem fp_X11_137 {ci : Nat} (h : ci = 3 ∨ ci = 5 ∨ ci = 8) : FP RX11 137 ci 2 .int false := by
  rcases h with rfl | rfl | rfl
  · exact ⟨RX4, TX4, 3, RX2, tyX4, rfl, by decide, inG_X4, gT_at 188 (by decide +kernel) rfl, rfl, tyX4_ok, nmX4, rfl, by decide +kernel, fun h => by first | rfl | cases h⟩
  · exact ⟨RX6, TX6, 3, RX2, tyX6, rfl, by decide, inG_X6, gT_at 188 (by decide +kernel) rfl, rfl, tyX6_ok, nmX6, rfl, by decide +kernel, fun h => by first | rfl | cases h⟩
  · exact ⟨RX10, TX10, 3, RX2, tyX10, rfl, by decide, inG_X10, gT_at 188 (by decide +kernel) rfl, rfl, tyX10_ok, nmX10, rfl, by decide +kernel, fun h => by first | rfl | cases h⟩
theorem ca_X11_162 : CLS RX11 162 yX11_isPlace cX11_isPlace 1 (some .boolean) 1 := ⟨⟨gT_at 337 (by decide +kernel) rfl, gT_at 339 (by decide +kernel) rfl, gT_at 1 (by decide +kernel) rfl, ⟨by decide +kernel, by decide +kernel, by decide +kernel⟩⟩, gT_at 338 (by decide +kernel) rfl⟩
theorem fg_X11_37 : FG RX11 37 9 6 := ⟨RX11, TX11, 13, RX11, rfl, by decide, inG_X11, gT_at 84 (by decide +kernel) rfl, Or.inl rfl⟩
theorem fn_X11_166 : FN RX11 166 6 1 [.null] := ⟨RX7, TX7, tyX7, rfl, inG_X7, tyX7_ok, gT_at 344 (by decide +kernel) rfl, gT_at 345 (by decide +kernel) rfl, gT_at 11 (by decide +kernel) rfl, by decide +kernel⟩
theorem ca_X11_168 : CLI RX11 168 yX7_init cX7_init 2 1 := ⟨⟨gT_at 346 (by decide +kernel) rfl, gT_at 348 (by decide +kernel) rfl, gT_at 11 (by decide +kernel) rfl, ⟨by decide +kernel, by decide +kernel, by decide +kernel⟩⟩, rfl, gT_at 347 (by decide +kernel) rfl⟩
theorem ca_X11_169 : CLV RX11 169 yX11_thingAt cX11_thingAt 2 (some (.object "ConstantKinds$Thing")) 1 9 := ⟨⟨gT_at 361 (by decide +kernel) rfl, gT_at 364 (by decide +kernel) rfl, gT_at 1 (by decide +kernel) rfl, ⟨by decide +kernel, by decide +kernel, by decide +kernel⟩⟩, gT_at 363 (by decide +kernel) rfl, gS_at 3 (by decide +kernel) rfl, TX11, 13, rfl⟩
theorem fi_X11_166_3 : FI RX11 166 3 0 := ⟨RX4, TX4, 3, RX7, rfl, gT_at 344 (by decide +kernel) rfl, Or.inr ⟨rfl, by decide +kernel⟩⟩
theorem fi_X11_166_4 : FI RX11 166 4 0 := ⟨RX5, TX5, 4, RX7, rfl, gT_at 344 (by decide +kernel) rfl, Or.inr ⟨rfl, by decide +kernel⟩⟩
theorem fi_X11_166_5 : FI RX11 166 5 0 := ⟨RX6, TX6, 3, RX7, rfl, gT_at 344 (by decide +kernel) rfl, Or.inr ⟨rfl, by decide +kernel⟩⟩
theorem fi_X11_166_6 : FI RX11 166 6 1 := ⟨RX7, TX7, 1, RX7, rfl, gT_at 344 (by decide +kernel) rfl, Or.inl ⟨rfl, by decide +kernel⟩⟩
theorem fi_X11_166_8 : FI RX11 166 8 0 := ⟨RX10, TX10, 3, RX7, rfl, gT_at 344 (by decide +kernel) rfl, Or.inr ⟨rfl, by decide +kernel⟩⟩
theorem ca_X11_173 : CLV RX11 173 yX7_has cX7_has 2 (some .boolean) 1 6 := ⟨⟨gT_at 365 (by decide +kernel) rfl, gT_at 368 (by decide +kernel) rfl, gT_at 11 (by decide +kernel) rfl, ⟨by decide +kernel, by decide +kernel, by decide +kernel⟩⟩, gT_at 366 (by decide +kernel) rfl, gT_at 367 (by decide +kernel) rfl, TX7, 1, rfl⟩
theorem fg_X11_176 : FG RX11 176 6 0 := ⟨RX7, TX7, 1, RX7, rfl, by decide, inG_X7, gT_at 353 (by decide +kernel) rfl, Or.inl rfl⟩
theorem ca_X11_179 : CLS RX11 179 yX11_familyOf cX11_familyOf 1 (some .int) 1 := ⟨⟨gT_at 373 (by decide +kernel) rfl, gT_at 375 (by decide +kernel) rfl, gT_at 1 (by decide +kernel) rfl, ⟨by decide +kernel, by decide +kernel, by decide +kernel⟩⟩, gT_at 374 (by decide +kernel) rfl⟩
theorem ca_X11_183 : CLS RX11 183 yX11_isOfFamily cX11_isOfFamily 2 (some .boolean) 2 := ⟨⟨gT_at 402 (by decide +kernel) rfl, gT_at 404 (by decide +kernel) rfl, gT_at 1 (by decide +kernel) rfl, ⟨by decide +kernel, by decide +kernel, by decide +kernel⟩⟩, gT_at 403 (by decide +kernel) rfl⟩
theorem ca_X11_187 : CLS RX11 187 yX11_areAlike cX11_areAlike 5 (some .boolean) 3 := ⟨⟨gT_at 410 (by decide +kernel) rfl, gT_at 412 (by decide +kernel) rfl, gT_at 1 (by decide +kernel) rfl, ⟨by decide +kernel, by decide +kernel, by decide +kernel⟩⟩, gT_at 411 (by decide +kernel) rfl⟩
theorem ca_X11_191 : CLV RX11 191 yX11_shapeAt cX11_shapeAt 2 (some (.object "ConstantKinds$Shape")) 1 9 := ⟨⟨gT_at 423 (by decide +kernel) rfl, gT_at 426 (by decide +kernel) rfl, gT_at 1 (by decide +kernel) rfl, ⟨by decide +kernel, by decide +kernel, by decide +kernel⟩⟩, gT_at 425 (by decide +kernel) rfl, gS_at 4 (by decide +kernel) rfl, TX11, 13, rfl⟩
theorem ca_X11_195 : CLS RX11 195 yX11_isPartAllowed cX11_isPartAllowed 2 (some .boolean) 2 := ⟨⟨gT_at 427 (by decide +kernel) rfl, gT_at 429 (by decide +kernel) rfl, gT_at 1 (by decide +kernel) rfl, ⟨by decide +kernel, by decide +kernel, by decide +kernel⟩⟩, gT_at 428 (by decide +kernel) rfl⟩
theorem ca_X11_199 : CLV RX11 199 yX8_addPart cX8_addPart 3 (some .int) 2 7 := ⟨⟨gT_at 430 (by decide +kernel) rfl, gT_at 433 (by decide +kernel) rfl, gT_at 3 (by decide +kernel) rfl, ⟨by decide +kernel, by decide +kernel, by decide +kernel⟩⟩, gT_at 431 (by decide +kernel) rfl, gT_at 432 (by decide +kernel) rfl, TX8, 6, rfl⟩
theorem ca_X11_203 : CLV RX11 203 yX8_hasPart cX8_hasPart 2 (some .boolean) 1 7 := ⟨⟨gT_at 438 (by decide +kernel) rfl, gT_at 441 (by decide +kernel) rfl, gT_at 3 (by decide +kernel) rfl, ⟨by decide +kernel, by decide +kernel, by decide +kernel⟩⟩, gT_at 439 (by decide +kernel) rfl, gT_at 440 (by decide +kernel) rfl, TX8, 6, rfl⟩
theorem fg_X11_206 : FG RX11 206 7 1 := ⟨RX8, TX8, 6, RX8, rfl, by decide, inG_X8, gT_at 56 (by decide +kernel) rfl, Or.inl rfl⟩
theorem ca_X11_209 : CLS RX11 209 yX11_isCheckOver cX11_isCheckOver 2 (some .boolean) 2 := ⟨⟨gT_at 443 (by decide +kernel) rfl, gT_at 445 (by decide +kernel) rfl, gT_at 1 (by decide +kernel) rfl, ⟨by decide +kernel, by decide +kernel, by decide +kernel⟩⟩, gT_at 444 (by decide +kernel) rfl⟩
theorem ca_X11_212 : CLV RX11 212 yX8_addCheck cX8_addCheck 4 (some .int) 3 7 := ⟨⟨gT_at 446 (by decide +kernel) rfl, gT_at 449 (by decide +kernel) rfl, gT_at 3 (by decide +kernel) rfl, ⟨by decide +kernel, by decide +kernel, by decide +kernel⟩⟩, gT_at 447 (by decide +kernel) rfl, gT_at 448 (by decide +kernel) rfl, TX8, 6, rfl⟩
theorem fg_X11_47 : FG RX11 47 9 8 := ⟨RX11, TX11, 13, RX11, rfl, by decide, inG_X11, gT_at 86 (by decide +kernel) rfl, Or.inl rfl⟩
theorem fg_X11_50 : FG RX11 50 9 9 := ⟨RX11, TX11, 13, RX11, rfl, by decide, inG_X11, gT_at 87 (by decide +kernel) rfl, Or.inl rfl⟩
theorem fn_X11_216 : FN RX11 216 4 4 [.null, .int 0, .null, .null] := ⟨RX5, TX5, tyX5, rfl, inG_X5, tyX5_ok, gT_at 405 (by decide +kernel) rfl, gT_at 473 (by decide +kernel) rfl, gT_at 13 (by decide +kernel) rfl, by decide +kernel⟩
theorem ca_X11_218 : CLI RX11 218 yX5_init cX5_init 2 1 := ⟨⟨gT_at 474 (by decide +kernel) rfl, gT_at 476 (by decide +kernel) rfl, gT_at 13 (by decide +kernel) rfl, ⟨by decide +kernel, by decide +kernel, by decide +kernel⟩⟩, rfl, gT_at 475 (by decide +kernel) rfl⟩
theorem ca_X11_221 : CLV RX11 221 yX11_fillParts cX11_fillParts 4 (some .int) 1 9 := ⟨⟨gT_at 498 (by decide +kernel) rfl, gT_at 501 (by decide +kernel) rfl, gT_at 1 (by decide +kernel) rfl, ⟨by decide +kernel, by decide +kernel, by decide +kernel⟩⟩, gT_at 500 (by decide +kernel) rfl, gS_at 5 (by decide +kernel) rfl, TX11, 13, rfl⟩
theorem fg_X11_56 : FG RX11 56 9 11 := ⟨RX11, TX11, 13, RX11, rfl, by decide, inG_X11, gT_at 89 (by decide +kernel) rfl, Or.inl rfl⟩
theorem ca_X11_225 : CLV RX11 225 yX11_runChecks cX11_runChecks 4 (some .int) 1 9 := ⟨⟨gT_at 525 (by decide +kernel) rfl, gT_at 528 (by decide +kernel) rfl, gT_at 1 (by decide +kernel) rfl, ⟨by decide +kernel, by decide +kernel, by decide +kernel⟩⟩, gT_at 527 (by decide +kernel) rfl, gS_at 8 (by decide +kernel) rfl, TX11, 13, rfl⟩
theorem fg_X11_53 : FG RX11 53 9 10 := ⟨RX11, TX11, 13, RX11, rfl, by decide, inG_X11, gT_at 88 (by decide +kernel) rfl, Or.inl rfl⟩
theorem fg_X11_59 : FG RX11 59 9 12 := ⟨RX11, TX11, 13, RX11, rfl, by decide, inG_X11, gT_at 90 (by decide +kernel) rfl, Or.inl rfl⟩
theorem fi_X11_216_3 : FI RX11 216 3 0 := ⟨RX4, TX4, 3, RX5, rfl, gT_at 405 (by decide +kernel) rfl, Or.inr ⟨rfl, by decide +kernel⟩⟩
theorem fi_X11_216_4 : FI RX11 216 4 1 := ⟨RX5, TX5, 4, RX5, rfl, gT_at 405 (by decide +kernel) rfl, Or.inl ⟨rfl, by decide +kernel⟩⟩
theorem fi_X11_216_5 : FI RX11 216 5 0 := ⟨RX6, TX6, 3, RX5, rfl, gT_at 405 (by decide +kernel) rfl, Or.inr ⟨rfl, by decide +kernel⟩⟩
theorem fi_X11_216_6 : FI RX11 216 6 0 := ⟨RX7, TX7, 1, RX5, rfl, gT_at 405 (by decide +kernel) rfl, Or.inr ⟨rfl, by decide +kernel⟩⟩
theorem fi_X11_216_8 : FI RX11 216 8 0 := ⟨RX10, TX10, 3, RX5, rfl, gT_at 405 (by decide +kernel) rfl, Or.inr ⟨rfl, by decide +kernel⟩⟩
theorem fg_X11_228 : FG RX11 228 4 0 := ⟨RX5, TX5, 4, RX5, rfl, by decide, inG_X5, gT_at 480 (by decide +kernel) rfl, Or.inl rfl⟩
theorem fg_X11_232 : FG RX11 232 7 0 := ⟨RX8, TX8, 6, RX8, rfl, by decide, inG_X8, gT_at 53 (by decide +kernel) rfl, Or.inl rfl⟩
theorem ca_X11_233 : CLV RX11 233 yX5_has cX5_has 2 (some .boolean) 1 4 := ⟨⟨gT_at 565 (by decide +kernel) rfl, gT_at 509 (by decide +kernel) rfl, gT_at 13 (by decide +kernel) rfl, ⟨by decide +kernel, by decide +kernel, by decide +kernel⟩⟩, gT_at 507 (by decide +kernel) rfl, gT_at 508 (by decide +kernel) rfl, TX5, 4, rfl⟩
theorem ca_X11_234 : CLV RX11 234 yX5_isNumber cX5_isNumber 2 (some .boolean) 1 4 := ⟨⟨gT_at 502 (by decide +kernel) rfl, gT_at 505 (by decide +kernel) rfl, gT_at 13 (by decide +kernel) rfl, ⟨by decide +kernel, by decide +kernel, by decide +kernel⟩⟩, gT_at 503 (by decide +kernel) rfl, gT_at 504 (by decide +kernel) rfl, TX5, 4, rfl⟩
theorem fg_X11_237 : FG RX11 237 4 2 := ⟨RX5, TX5, 4, RX5, rfl, by decide, inG_X5, gT_at 485 (by decide +kernel) rfl, Or.inl rfl⟩
theorem fg_X11_240 : FG RX11 240 4 3 := ⟨RX5, TX5, 4, RX5, rfl, by decide, inG_X5, gT_at 488 (by decide +kernel) rfl, Or.inl rfl⟩
theorem ca_X11_243 : CLV RX11 243 yX11_placesInUse cX11_placesInUse 3 (some .int) 0 9 := ⟨⟨gT_at 578 (by decide +kernel) rfl, gT_at 581 (by decide +kernel) rfl, gT_at 1 (by decide +kernel) rfl, ⟨by decide +kernel, by decide +kernel, by decide +kernel⟩⟩, gT_at 580 (by decide +kernel) rfl, gS_at 9 (by decide +kernel) rfl, TX11, 13, rfl⟩
theorem ca_X11_246 : CLV RX11 246 yX11_kindsStarted cX11_kindsStarted 3 (some .int) 0 9 := ⟨⟨gT_at 582 (by decide +kernel) rfl, gT_at 585 (by decide +kernel) rfl, gT_at 1 (by decide +kernel) rfl, ⟨by decide +kernel, by decide +kernel, by decide +kernel⟩⟩, gT_at 584 (by decide +kernel) rfl, gS_at 10 (by decide +kernel) rfl, TX11, 13, rfl⟩
theorem fn_X11_249 : FN RX11 249 8 3 [.null, .int 0, .int 0] := ⟨RX10, TX10, tyX10, rfl, inG_X10, tyX10_ok, gT_at 164 (by decide +kernel) rfl, gT_at 165 (by decide +kernel) rfl, gT_at 8 (by decide +kernel) rfl, by decide +kernel⟩
theorem ca_X11_251 : CLI RX11 251 yX10_init cX10_init 2 1 := ⟨⟨gT_at 166 (by decide +kernel) rfl, gT_at 168 (by decide +kernel) rfl, gT_at 8 (by decide +kernel) rfl, ⟨by decide +kernel, by decide +kernel, by decide +kernel⟩⟩, rfl, gT_at 167 (by decide +kernel) rfl⟩
theorem fn_X11_254 : FN RX11 254 3 3 [.null, .int 0, .int 0] := ⟨RX4, TX4, tyX4, rfl, inG_X4, tyX4_ok, gT_at 196 (by decide +kernel) rfl, gT_at 197 (by decide +kernel) rfl, gT_at 9 (by decide +kernel) rfl, by decide +kernel⟩
theorem ca_X11_256 : CLI RX11 256 yX4_init cX4_init 2 1 := ⟨⟨gT_at 198 (by decide +kernel) rfl, gT_at 200 (by decide +kernel) rfl, gT_at 9 (by decide +kernel) rfl, ⟨by decide +kernel, by decide +kernel, by decide +kernel⟩⟩, rfl, gT_at 199 (by decide +kernel) rfl⟩
theorem fn_X11_257 : FN RX11 257 5 3 [.null, .int 0, .int 0] := ⟨RX6, TX6, tyX6, rfl, inG_X6, tyX6_ok, gT_at 206 (by decide +kernel) rfl, gT_at 207 (by decide +kernel) rfl, gT_at 10 (by decide +kernel) rfl, by decide +kernel⟩
theorem ca_X11_259 : CLI RX11 259 yX6_init cX6_init 2 1 := ⟨⟨gT_at 208 (by decide +kernel) rfl, gT_at 210 (by decide +kernel) rfl, gT_at 10 (by decide +kernel) rfl, ⟨by decide +kernel, by decide +kernel, by decide +kernel⟩⟩, rfl, gT_at 209 (by decide +kernel) rfl⟩
theorem kw_X11_260 : Cond.constantLong RX11 260 (-7046029254386353131) ∈ gT := gT_at 239 (by decide +kernel) rfl
theorem kw_X11_262 : Cond.constantLong RX11 262 (-4658895280553007687) ∈ gT := gT_at 240 (by decide +kernel) rfl
theorem kw_X11_264 : Cond.constantLong RX11 264 (-7723592293110705685) ∈ gT := gT_at 241 (by decide +kernel) rfl
theorem kw_X11_266 : Cond.constantLong RX11 266 (2) ∈ gT := gT_at 245 (by decide +kernel) rfl
theorem ca_X11_268_3 : CLU RX11 268 ⟨RX9, "familyNumber", "()I"⟩ yX4_familyNumber cX4_familyNumber 1 (some .int) 0 3 := ⟨gT_at 376 (by decide +kernel) rfl, gT_at 378 (by decide +kernel) rfl, by decide +kernel, gT_at 380 (by decide +kernel) rfl, gT_at 9 (by decide +kernel) rfl, gT_at 381 (by decide +kernel) rfl, ⟨by decide +kernel, by decide +kernel, by decide +kernel⟩, RX4, TX4, 3, rfl, gT_at 379 (by decide +kernel) rfl⟩
theorem ca_X11_268_4 : CLU RX11 268 ⟨RX9, "familyNumber", "()I"⟩ yX5_familyNumber cX5_familyNumber 1 (some .int) 0 4 := ⟨gT_at 376 (by decide +kernel) rfl, gT_at 378 (by decide +kernel) rfl, by decide +kernel, gT_at 383 (by decide +kernel) rfl, gT_at 13 (by decide +kernel) rfl, gT_at 384 (by decide +kernel) rfl, ⟨by decide +kernel, by decide +kernel, by decide +kernel⟩, RX5, TX5, 4, rfl, gT_at 382 (by decide +kernel) rfl⟩
theorem ca_X11_268_5 : CLU RX11 268 ⟨RX9, "familyNumber", "()I"⟩ yX6_familyNumber cX6_familyNumber 1 (some .int) 0 5 := ⟨gT_at 376 (by decide +kernel) rfl, gT_at 378 (by decide +kernel) rfl, by decide +kernel, gT_at 386 (by decide +kernel) rfl, gT_at 10 (by decide +kernel) rfl, gT_at 387 (by decide +kernel) rfl, ⟨by decide +kernel, by decide +kernel, by decide +kernel⟩, RX6, TX6, 3, rfl, gT_at 385 (by decide +kernel) rfl⟩
theorem ca_X11_268_6 : CLU RX11 268 ⟨RX9, "familyNumber", "()I"⟩ yX7_familyNumber cX7_familyNumber 1 (some .int) 0 6 := ⟨gT_at 376 (by decide +kernel) rfl, gT_at 378 (by decide +kernel) rfl, by decide +kernel, gT_at 389 (by decide +kernel) rfl, gT_at 11 (by decide +kernel) rfl, gT_at 390 (by decide +kernel) rfl, ⟨by decide +kernel, by decide +kernel, by decide +kernel⟩, RX7, TX7, 1, rfl, gT_at 388 (by decide +kernel) rfl⟩
theorem ca_X11_268_8 : CLU RX11 268 ⟨RX9, "familyNumber", "()I"⟩ yX10_familyNumber cX10_familyNumber 1 (some .int) 0 8 := ⟨gT_at 376 (by decide +kernel) rfl, gT_at 378 (by decide +kernel) rfl, by decide +kernel, gT_at 392 (by decide +kernel) rfl, gT_at 8 (by decide +kernel) rfl, gT_at 393 (by decide +kernel) rfl, ⟨by decide +kernel, by decide +kernel, by decide +kernel⟩, RX10, TX10, 3, rfl, gT_at 391 (by decide +kernel) rfl⟩
theorem fi_X11_257_3 : FI RX11 257 3 0 := ⟨RX4, TX4, 3, RX6, rfl, gT_at 206 (by decide +kernel) rfl, Or.inr ⟨rfl, by decide +kernel⟩⟩
theorem fi_X11_257_4 : FI RX11 257 4 0 := ⟨RX5, TX5, 4, RX6, rfl, gT_at 206 (by decide +kernel) rfl, Or.inr ⟨rfl, by decide +kernel⟩⟩
theorem fi_X11_257_5 : FI RX11 257 5 1 := ⟨RX6, TX6, 3, RX6, rfl, gT_at 206 (by decide +kernel) rfl, Or.inl ⟨rfl, by decide +kernel⟩⟩
theorem fi_X11_257_6 : FI RX11 257 6 0 := ⟨RX7, TX7, 1, RX6, rfl, gT_at 206 (by decide +kernel) rfl, Or.inr ⟨rfl, by decide +kernel⟩⟩
theorem fi_X11_257_8 : FI RX11 257 8 0 := ⟨RX10, TX10, 3, RX6, rfl, gT_at 206 (by decide +kernel) rfl, Or.inr ⟨rfl, by decide +kernel⟩⟩
theorem fi_X11_249_3 : FI RX11 249 3 1 := ⟨RX4, TX4, 3, RX10, rfl, gT_at 164 (by decide +kernel) rfl, Or.inl ⟨rfl, by decide +kernel⟩⟩
theorem fi_X11_249_4 : FI RX11 249 4 0 := ⟨RX5, TX5, 4, RX10, rfl, gT_at 164 (by decide +kernel) rfl, Or.inr ⟨rfl, by decide +kernel⟩⟩
theorem fi_X11_249_5 : FI RX11 249 5 0 := ⟨RX6, TX6, 3, RX10, rfl, gT_at 164 (by decide +kernel) rfl, Or.inr ⟨rfl, by decide +kernel⟩⟩
theorem fi_X11_249_6 : FI RX11 249 6 0 := ⟨RX7, TX7, 1, RX10, rfl, gT_at 164 (by decide +kernel) rfl, Or.inr ⟨rfl, by decide +kernel⟩⟩
theorem fi_X11_249_8 : FI RX11 249 8 1 := ⟨RX10, TX10, 3, RX10, rfl, gT_at 164 (by decide +kernel) rfl, Or.inl ⟨rfl, by decide +kernel⟩⟩
theorem fi_X11_254_3 : FI RX11 254 3 1 := ⟨RX4, TX4, 3, RX4, rfl, gT_at 196 (by decide +kernel) rfl, Or.inl ⟨rfl, by decide +kernel⟩⟩
theorem fi_X11_254_4 : FI RX11 254 4 0 := ⟨RX5, TX5, 4, RX4, rfl, gT_at 196 (by decide +kernel) rfl, Or.inr ⟨rfl, by decide +kernel⟩⟩
theorem fi_X11_254_5 : FI RX11 254 5 0 := ⟨RX6, TX6, 3, RX4, rfl, gT_at 196 (by decide +kernel) rfl, Or.inr ⟨rfl, by decide +kernel⟩⟩
theorem fi_X11_254_6 : FI RX11 254 6 0 := ⟨RX7, TX7, 1, RX4, rfl, gT_at 196 (by decide +kernel) rfl, Or.inr ⟨rfl, by decide +kernel⟩⟩
theorem fi_X11_254_8 : FI RX11 254 8 0 := ⟨RX10, TX10, 3, RX4, rfl, gT_at 196 (by decide +kernel) rfl, Or.inr ⟨rfl, by decide +kernel⟩⟩
theorem ca_X11_271 : CLS RX11 271 yX11_haveSameItems cX11_haveSameItems 3 (some .boolean) 2 := ⟨⟨gT_at 413 (by decide +kernel) rfl, gT_at 415 (by decide +kernel) rfl, gT_at 1 (by decide +kernel) rfl, ⟨by decide +kernel, by decide +kernel, by decide +kernel⟩⟩, gT_at 414 (by decide +kernel) rfl⟩
theorem ca_X11_275 : CLS RX11 275 yX11_haveLikeParts cX11_haveLikeParts 4 (some .boolean) 3 := ⟨⟨gT_at 416 (by decide +kernel) rfl, gT_at 418 (by decide +kernel) rfl, gT_at 1 (by decide +kernel) rfl, ⟨by decide +kernel, by decide +kernel, by decide +kernel⟩⟩, gT_at 417 (by decide +kernel) rfl⟩
theorem fg_X11_279 : FG RX11 279 4 1 := ⟨RX5, TX5, 4, RX5, rfl, by decide, inG_X5, gT_at 482 (by decide +kernel) rfl, Or.inl rfl⟩
theorem ca_X11_280 : CLV RX11 280 yX11_fillNumber cX11_fillNumber 3 (some .int) 2 9 := ⟨⟨gT_at 511 (by decide +kernel) rfl, gT_at 514 (by decide +kernel) rfl, gT_at 1 (by decide +kernel) rfl, ⟨by decide +kernel, by decide +kernel, by decide +kernel⟩⟩, gT_at 513 (by decide +kernel) rfl, gS_at 6 (by decide +kernel) rfl, TX11, 13, rfl⟩
theorem ca_X11_284 : CLV RX11 284 yX11_fillThing cX11_fillThing 6 (some .int) 2 9 := ⟨⟨gT_at 515 (by decide +kernel) rfl, gT_at 518 (by decide +kernel) rfl, gT_at 1 (by decide +kernel) rfl, ⟨by decide +kernel, by decide +kernel, by decide +kernel⟩⟩, gT_at 517 (by decide +kernel) rfl, gS_at 7 (by decide +kernel) rfl, TX11, 13, rfl⟩
theorem fg_X11_287 : FG RX11 287 7 2 := ⟨RX8, TX8, 6, RX8, rfl, by decide, inG_X8, gT_at 58 (by decide +kernel) rfl, Or.inl rfl⟩
theorem ca_X11_290 : CLS RX11 290 yX11_isOfSort cX11_isOfSort 2 (some .boolean) 2 := ⟨⟨gT_at 519 (by decide +kernel) rfl, gT_at 521 (by decide +kernel) rfl, gT_at 1 (by decide +kernel) rfl, ⟨by decide +kernel, by decide +kernel, by decide +kernel⟩⟩, gT_at 520 (by decide +kernel) rfl⟩
theorem ca_X11_293 : CLS RX11 293 yX11_isForeign cX11_isForeign 4 (some .boolean) 3 := ⟨⟨gT_at 522 (by decide +kernel) rfl, gT_at 524 (by decide +kernel) rfl, gT_at 1 (by decide +kernel) rfl, ⟨by decide +kernel, by decide +kernel, by decide +kernel⟩⟩, gT_at 523 (by decide +kernel) rfl⟩
theorem fi_X11_9_3 : FI RX11 9 3 1 := ⟨RX4, TX4, 3, RX2, rfl, gT_at 22 (by decide +kernel) rfl, Or.inl ⟨rfl, by decide +kernel⟩⟩
theorem fi_X11_9_4 : FI RX11 9 4 0 := ⟨RX5, TX5, 4, RX2, rfl, gT_at 22 (by decide +kernel) rfl, Or.inr ⟨rfl, by decide +kernel⟩⟩
theorem fi_X11_9_5 : FI RX11 9 5 1 := ⟨RX6, TX6, 3, RX2, rfl, gT_at 22 (by decide +kernel) rfl, Or.inl ⟨rfl, by decide +kernel⟩⟩
theorem fi_X11_9_6 : FI RX11 9 6 0 := ⟨RX7, TX7, 1, RX2, rfl, gT_at 22 (by decide +kernel) rfl, Or.inr ⟨rfl, by decide +kernel⟩⟩
theorem fi_X11_9_8 : FI RX11 9 8 1 := ⟨RX10, TX10, 3, RX2, rfl, gT_at 22 (by decide +kernel) rfl, Or.inl ⟨rfl, by decide +kernel⟩⟩
theorem fg_X11_297 : FG RX11 297 7 5 := ⟨RX8, TX8, 6, RX8, rfl, by decide, inG_X8, gT_at 64 (by decide +kernel) rfl, Or.inl rfl⟩
theorem fg_X11_300 : FG RX11 300 7 4 := ⟨RX8, TX8, 6, RX8, rfl, by decide, inG_X8, gT_at 62 (by decide +kernel) rfl, Or.inl rfl⟩
theorem ca_X11_304 : CLV RX11 304 yX1_failureOf cX1_failureOf 3 (some .int) 1 1 := ⟨⟨gT_at 529 (by decide +kernel) rfl, gT_at 532 (by decide +kernel) rfl, gT_at 12 (by decide +kernel) rfl, ⟨by decide +kernel, by decide +kernel, by decide +kernel⟩⟩, gT_at 530 (by decide +kernel) rfl, gT_at 531 (by decide +kernel) rfl, TX1, 3, rfl⟩
theorem oi_X12_1 : Cond.methodLink RX12 1 objectInit ∈ gT := gT_at 591 (by decide +kernel) rfl
theorem fp_X12_7 : FP RX12 7 10 1 (.array .int) true := ⟨RX12, TX12, 34, RX12, tyX12, rfl, by decide, inG_X12, gT_at 593 (by decide +kernel) rfl, rfl, tyX12_ok, nmX12, rfl, by decide +kernel, fun h => by first | rfl | cases h⟩
theorem fp_X12_13 : FP RX12 13 10 2 (.array .long) true := ⟨RX12, TX12, 34, RX12, tyX12, rfl, by decide, inG_X12, gT_at 594 (by decide +kernel) rfl, rfl, tyX12_ok, nmX12, rfl, by decide +kernel, fun h => by first | rfl | cases h⟩
theorem fp_X12_17 : FP RX12 17 10 3 (.array .int) true := ⟨RX12, TX12, 34, RX12, tyX12, rfl, by decide, inG_X12, gT_at 595 (by decide +kernel) rfl, rfl, tyX12_ok, nmX12, rfl, by decide +kernel, fun h => by first | rfl | cases h⟩
theorem fp_X12_20 : FP RX12 20 10 4 (.array .int) true := ⟨RX12, TX12, 34, RX12, tyX12, rfl, by decide, inG_X12, gT_at 596 (by decide +kernel) rfl, rfl, tyX12_ok, nmX12, rfl, by decide +kernel, fun h => by first | rfl | cases h⟩
theorem fp_X12_23 : FP RX12 23 10 5 (.array .int) true := ⟨RX12, TX12, 34, RX12, tyX12, rfl, by decide, inG_X12, gT_at 597 (by decide +kernel) rfl, rfl, tyX12_ok, nmX12, rfl, by decide +kernel, fun h => by first | rfl | cases h⟩
theorem fp_X12_26 : FP RX12 26 10 6 (.array .int) true := ⟨RX12, TX12, 34, RX12, tyX12, rfl, by decide, inG_X12, gT_at 598 (by decide +kernel) rfl, rfl, tyX12_ok, nmX12, rfl, by decide +kernel, fun h => by first | rfl | cases h⟩
theorem fp_X12_29 : FP RX12 29 10 7 (.array .int) true := ⟨RX12, TX12, 34, RX12, tyX12, rfl, by decide, inG_X12, gT_at 599 (by decide +kernel) rfl, rfl, tyX12_ok, nmX12, rfl, by decide +kernel, fun h => by first | rfl | cases h⟩
theorem fp_X12_32 : FP RX12 32 10 9 (.array .int) true := ⟨RX12, TX12, 34, RX12, tyX12, rfl, by decide, inG_X12, gT_at 601 (by decide +kernel) rfl, rfl, tyX12_ok, nmX12, rfl, by decide +kernel, fun h => by first | rfl | cases h⟩
theorem fp_X12_35 : FP RX12 35 10 10 (.array .int) true := ⟨RX12, TX12, 34, RX12, tyX12, rfl, by decide, inG_X12, gT_at 602 (by decide +kernel) rfl, rfl, tyX12_ok, nmX12, rfl, by decide +kernel, fun h => by first | rfl | cases h⟩
theorem fp_X12_38 : FP RX12 38 10 12 (.array .int) true := ⟨RX12, TX12, 34, RX12, tyX12, rfl, by decide, inG_X12, gT_at 604 (by decide +kernel) rfl, rfl, tyX12_ok, nmX12, rfl, by decide +kernel, fun h => by first | rfl | cases h⟩
theorem fp_X12_41 : FP RX12 41 10 13 (.array .int) true := ⟨RX12, TX12, 34, RX12, tyX12, rfl, by decide, inG_X12, gT_at 605 (by decide +kernel) rfl, rfl, tyX12_ok, nmX12, rfl, by decide +kernel, fun h => by first | rfl | cases h⟩
theorem fp_X12_44 : FP RX12 44 10 14 (.array .int) true := ⟨RX12, TX12, 34, RX12, tyX12, rfl, by decide, inG_X12, gT_at 606 (by decide +kernel) rfl, rfl, tyX12_ok, nmX12, rfl, by decide +kernel, fun h => by first | rfl | cases h⟩
theorem fp_X12_47 : FP RX12 47 10 15 (.array .int) true := ⟨RX12, TX12, 34, RX12, tyX12, rfl, by decide, inG_X12, gT_at 607 (by decide +kernel) rfl, rfl, tyX12_ok, nmX12, rfl, by decide +kernel, fun h => by first | rfl | cases h⟩
theorem fp_X12_50 : FP RX12 50 10 16 (.array .int) true := ⟨RX12, TX12, 34, RX12, tyX12, rfl, by decide, inG_X12, gT_at 608 (by decide +kernel) rfl, rfl, tyX12_ok, nmX12, rfl, by decide +kernel, fun h => by first | rfl | cases h⟩
theorem fp_X12_53 : FP RX12 53 10 17 (.array .int) true := ⟨RX12, TX12, 34, RX12, tyX12, rfl, by decide, inG_X12, gT_at 609 (by decide +kernel) rfl, rfl, tyX12_ok, nmX12, rfl, by decide +kernel, fun h => by first | rfl | cases h⟩
theorem fp_X12_56 : FP RX12 56 10 18 (.array .int) true := ⟨RX12, TX12, 34, RX12, tyX12, rfl, by decide, inG_X12, gT_at 610 (by decide +kernel) rfl, rfl, tyX12_ok, nmX12, rfl, by decide +kernel, fun h => by first | rfl | cases h⟩
theorem fp_X12_59 : FP RX12 59 10 19 (.array .int) true := ⟨RX12, TX12, 34, RX12, tyX12, rfl, by decide, inG_X12, gT_at 611 (by decide +kernel) rfl, rfl, tyX12_ok, nmX12, rfl, by decide +kernel, fun h => by first | rfl | cases h⟩
theorem fp_X12_62 : FP RX12 62 10 20 (.array .int) true := ⟨RX12, TX12, 34, RX12, tyX12, rfl, by decide, inG_X12, gT_at 612 (by decide +kernel) rfl, rfl, tyX12_ok, nmX12, rfl, by decide +kernel, fun h => by first | rfl | cases h⟩
theorem fp_X12_65 : FP RX12 65 10 21 (.array .int) true := ⟨RX12, TX12, 34, RX12, tyX12, rfl, by decide, inG_X12, gT_at 613 (by decide +kernel) rfl, rfl, tyX12_ok, nmX12, rfl, by decide +kernel, fun h => by first | rfl | cases h⟩
theorem fp_X12_68 : FP RX12 68 10 22 (.array .int) true := ⟨RX12, TX12, 34, RX12, tyX12, rfl, by decide, inG_X12, gT_at 614 (by decide +kernel) rfl, rfl, tyX12_ok, nmX12, rfl, by decide +kernel, fun h => by first | rfl | cases h⟩
theorem fp_X12_71 : FP RX12 71 10 23 (.array .int) true := ⟨RX12, TX12, 34, RX12, tyX12, rfl, by decide, inG_X12, gT_at 615 (by decide +kernel) rfl, rfl, tyX12_ok, nmX12, rfl, by decide +kernel, fun h => by first | rfl | cases h⟩
theorem fp_X12_74 : FP RX12 74 10 24 (.array .int) true := ⟨RX12, TX12, 34, RX12, tyX12, rfl, by decide, inG_X12, gT_at 616 (by decide +kernel) rfl, rfl, tyX12_ok, nmX12, rfl, by decide +kernel, fun h => by first | rfl | cases h⟩
theorem fp_X12_77 : FP RX12 77 10 26 .int false := ⟨RX12, TX12, 34, RX12, tyX12, rfl, by decide, inG_X12, gT_at 618 (by decide +kernel) rfl, rfl, tyX12_ok, nmX12, rfl, by decide +kernel, fun h => by first | rfl | cases h⟩
theorem fp_X12_81 : FP RX12 81 10 27 (.array .int) true := ⟨RX12, TX12, 34, RX12, tyX12, rfl, by decide, inG_X12, gT_at 619 (by decide +kernel) rfl, rfl, tyX12_ok, nmX12, rfl, by decide +kernel, fun h => by first | rfl | cases h⟩
theorem fp_X12_84 : FP RX12 84 10 31 (.array .int) true := ⟨RX12, TX12, 34, RX12, tyX12, rfl, by decide, inG_X12, gT_at 623 (by decide +kernel) rfl, rfl, tyX12_ok, nmX12, rfl, by decide +kernel, fun h => by first | rfl | cases h⟩
theorem fp_X12_87 : FP RX12 87 10 32 (.array .int) true := ⟨RX12, TX12, 34, RX12, tyX12, rfl, by decide, inG_X12, gT_at 624 (by decide +kernel) rfl, rfl, tyX12_ok, nmX12, rfl, by decide +kernel, fun h => by first | rfl | cases h⟩
theorem fp_X12_90 : FP RX12 90 10 33 (.array .int) true := ⟨RX12, TX12, 34, RX12, tyX12, rfl, by decide, inG_X12, gT_at 625 (by decide +kernel) rfl, rfl, tyX12_ok, nmX12, rfl, by decide +kernel, fun h => by first | rfl | cases h⟩
theorem fg_X12_47 : FG RX12 47 10 15 := ⟨RX12, TX12, 34, RX12, rfl, by decide, inG_X12, gT_at 607 (by decide +kernel) rfl, Or.inl rfl⟩
theorem fg_X12_93 : FG RX12 93 10 0 := ⟨RX12, TX12, 34, RX12, rfl, by decide, inG_X12, gT_at 592 (by decide +kernel) rfl, Or.inl rfl⟩
theorem ca_X12_96 : CLS RX12 96 yX12_in cX12_in 3 (some .boolean) 3 := ⟨⟨gT_at 703 (by decide +kernel) rfl, gT_at 705 (by decide +kernel) rfl, gT_at 4 (by decide +kernel) rfl, ⟨by decide +kernel, by decide +kernel, by decide +kernel⟩⟩, gT_at 704 (by decide +kernel) rfl⟩
theorem fg_X12_7 : FG RX12 7 10 1 := ⟨RX12, TX12, 34, RX12, rfl, by decide, inG_X12, gT_at 593 (by decide +kernel) rfl, Or.inl rfl⟩
theorem fg_X12_13 : FG RX12 13 10 2 := ⟨RX12, TX12, 34, RX12, rfl, by decide, inG_X12, gT_at 594 (by decide +kernel) rfl, Or.inl rfl⟩
theorem ca_X12_100 : CLS RX12 100 yX12_isKind cX12_isKind 1 (some .boolean) 1 := ⟨⟨gT_at 700 (by decide +kernel) rfl, gT_at 702 (by decide +kernel) rfl, gT_at 4 (by decide +kernel) rfl, ⟨by decide +kernel, by decide +kernel, by decide +kernel⟩⟩, gT_at 701 (by decide +kernel) rfl⟩
theorem ca_X12_104 : CLS RX12 104 yX12_isName cX12_isName 7 (some .boolean) 1 := ⟨⟨gT_at 706 (by decide +kernel) rfl, gT_at 708 (by decide +kernel) rfl, gT_at 4 (by decide +kernel) rfl, ⟨by decide +kernel, by decide +kernel, by decide +kernel⟩⟩, gT_at 707 (by decide +kernel) rfl⟩
theorem ca_X12_108 : CLV RX12 108 yX12_byName cX12_byName 5 (some .int) 2 10 := ⟨⟨gT_at 709 (by decide +kernel) rfl, gT_at 712 (by decide +kernel) rfl, gT_at 4 (by decide +kernel) rfl, ⟨by decide +kernel, by decide +kernel, by decide +kernel⟩⟩, gT_at 711 (by decide +kernel) rfl, gS_at 11 (by decide +kernel) rfl, TX12, 34, rfl⟩
theorem fg_X12_17 : FG RX12 17 10 3 := ⟨RX12, TX12, 34, RX12, rfl, by decide, inG_X12, gT_at 595 (by decide +kernel) rfl, Or.inl rfl⟩
theorem fp_X12_93 : FP RX12 93 10 0 .int false := ⟨RX12, TX12, 34, RX12, tyX12, rfl, by decide, inG_X12, gT_at 592 (by decide +kernel) rfl, rfl, tyX12_ok, nmX12, rfl, by decide +kernel, fun h => by first | rfl | cases h⟩
theorem ca_X12_112 : CLV RX12 112 yX12_append cX12_append 4 (some .int) 2 10 := ⟨⟨gT_at 713 (by decide +kernel) rfl, gT_at 716 (by decide +kernel) rfl, gT_at 4 (by decide +kernel) rfl, ⟨by decide +kernel, by decide +kernel, by decide +kernel⟩⟩, gT_at 715 (by decide +kernel) rfl, gS_at 12 (by decide +kernel) rfl, TX12, 34, rfl⟩
theorem fg_X12_29 : FG RX12 29 10 7 := ⟨RX12, TX12, 34, RX12, rfl, by decide, inG_X12, gT_at 599 (by decide +kernel) rfl, Or.inl rfl⟩
theorem fg_X12_26 : FG RX12 26 10 6 := ⟨RX12, TX12, 34, RX12, rfl, by decide, inG_X12, gT_at 598 (by decide +kernel) rfl, Or.inl rfl⟩
theorem ca_X12_116 : CLV RX12 116 yX12_isConstant cX12_isConstant 2 (some .boolean) 1 10 := ⟨⟨gT_at 721 (by decide +kernel) rfl, gT_at 724 (by decide +kernel) rfl, gT_at 4 (by decide +kernel) rfl, ⟨by decide +kernel, by decide +kernel, by decide +kernel⟩⟩, gT_at 723 (by decide +kernel) rfl, gS_at 13 (by decide +kernel) rfl, TX12, 34, rfl⟩
theorem ca_X12_119 : CLV RX12 119 yX12_orderOf cX12_orderOf 5 (some .int) 2 10 := ⟨⟨gT_at 725 (by decide +kernel) rfl, gT_at 728 (by decide +kernel) rfl, gT_at 4 (by decide +kernel) rfl, ⟨by decide +kernel, by decide +kernel, by decide +kernel⟩⟩, gT_at 727 (by decide +kernel) rfl, gS_at 14 (by decide +kernel) rfl, TX12, 34, rfl⟩
theorem kw_X12_122 : Cond.constantLong RX12 122 (-7046029254386353131) ∈ gT := gT_at 736 (by decide +kernel) rfl
theorem kw_X12_124 : Cond.constantLong RX12 124 (-4658895280553007687) ∈ gT := gT_at 737 (by decide +kernel) rfl
theorem kw_X12_126 : Cond.constantLong RX12 126 (-7723592293110705685) ∈ gT := gT_at 738 (by decide +kernel) rfl
theorem kw_X12_128 : Cond.constantLong RX12 128 (2) ∈ gT := gT_at 742 (by decide +kernel) rfl
theorem ca_X12_130 : CLS RX12 130 yX12_drawOf cX12_drawOf 5 (some .long) 2 := ⟨⟨gT_at 733 (by decide +kernel) rfl, gT_at 735 (by decide +kernel) rfl, gT_at 4 (by decide +kernel) rfl, ⟨by decide +kernel, by decide +kernel, by decide +kernel⟩⟩, gT_at 734 (by decide +kernel) rfl⟩
theorem ca_X12_134 : CLS RX12 134 yX12_modulo cX12_modulo 3 (some .int) 2 := ⟨⟨gT_at 739 (by decide +kernel) rfl, gT_at 741 (by decide +kernel) rfl, gT_at 4 (by decide +kernel) rfl, ⟨by decide +kernel, by decide +kernel, by decide +kernel⟩⟩, gT_at 740 (by decide +kernel) rfl⟩
theorem fg_X12_20 : FG RX12 20 10 4 := ⟨RX12, TX12, 34, RX12, rfl, by decide, inG_X12, gT_at 596 (by decide +kernel) rfl, Or.inl rfl⟩
theorem fg_X12_23 : FG RX12 23 10 5 := ⟨RX12, TX12, 34, RX12, rfl, by decide, inG_X12, gT_at 597 (by decide +kernel) rfl, Or.inl rfl⟩
theorem fg_X12_81 : FG RX12 81 10 27 := ⟨RX12, TX12, 34, RX12, rfl, by decide, inG_X12, gT_at 619 (by decide +kernel) rfl, Or.inl rfl⟩
theorem fg_X12_138 : FG RX12 138 10 28 := ⟨RX12, TX12, 34, RX12, rfl, by decide, inG_X12, gT_at 620 (by decide +kernel) rfl, Or.inl rfl⟩
theorem ca_X12_141 : CLV RX12 141 yX12_starts cX12_starts 2 none 1 10 := ⟨⟨gT_at 763 (by decide +kernel) rfl, gT_at 766 (by decide +kernel) rfl, gT_at 4 (by decide +kernel) rfl, ⟨by decide +kernel, by decide +kernel, by decide +kernel⟩⟩, gT_at 765 (by decide +kernel) rfl, gS_at 15 (by decide +kernel) rfl, TX12, 34, rfl⟩
theorem fp_X12_138 : FP RX12 138 10 28 .int false := ⟨RX12, TX12, 34, RX12, tyX12, rfl, by decide, inG_X12, gT_at 620 (by decide +kernel) rfl, rfl, tyX12_ok, nmX12, rfl, by decide +kernel, fun h => by first | rfl | cases h⟩
theorem ca_X12_145 : CLV RX12 145 yX12_lacks cX12_lacks 3 (some .int) 1 10 := ⟨⟨gT_at 775 (by decide +kernel) rfl, gT_at 778 (by decide +kernel) rfl, gT_at 4 (by decide +kernel) rfl, ⟨by decide +kernel, by decide +kernel, by decide +kernel⟩⟩, gT_at 777 (by decide +kernel) rfl, gS_at 16 (by decide +kernel) rfl, TX12, 34, rfl⟩
theorem fg_X12_149 : FG RX12 149 10 29 := ⟨RX12, TX12, 34, RX12, rfl, by decide, inG_X12, gT_at 621 (by decide +kernel) rfl, Or.inl rfl⟩
theorem fp_X12_149 : FP RX12 149 10 29 .int false := ⟨RX12, TX12, 34, RX12, tyX12, rfl, by decide, inG_X12, gT_at 621 (by decide +kernel) rfl, rfl, tyX12_ok, nmX12, rfl, by decide +kernel, fun h => by first | rfl | cases h⟩
theorem kw_X12_152 : Cond.constant RX12 152 (100000) ∈ gT := gT_at 802 (by decide +kernel) rfl
theorem ca_X12_153 : CLS RX12 153 yX12_isPlace cX12_isPlace 1 (some .boolean) 1 := ⟨⟨gT_at 787 (by decide +kernel) rfl, gT_at 789 (by decide +kernel) rfl, gT_at 4 (by decide +kernel) rfl, ⟨by decide +kernel, by decide +kernel, by decide +kernel⟩⟩, gT_at 788 (by decide +kernel) rfl⟩
theorem fg_X12_32 : FG RX12 32 10 9 := ⟨RX12, TX12, 34, RX12, rfl, by decide, inG_X12, gT_at 601 (by decide +kernel) rfl, Or.inl rfl⟩
theorem fg_X12_156 : FG RX12 156 10 8 := ⟨RX12, TX12, 34, RX12, rfl, by decide, inG_X12, gT_at 600 (by decide +kernel) rfl, Or.inl rfl⟩
theorem fg_X12_35 : FG RX12 35 10 10 := ⟨RX12, TX12, 34, RX12, rfl, by decide, inG_X12, gT_at 602 (by decide +kernel) rfl, Or.inl rfl⟩
theorem fp_X12_156 : FP RX12 156 10 8 .int false := ⟨RX12, TX12, 34, RX12, tyX12, rfl, by decide, inG_X12, gT_at 600 (by decide +kernel) rfl, rfl, tyX12_ok, nmX12, rfl, by decide +kernel, fun h => by first | rfl | cases h⟩
theorem ca_X12_159 : CLV RX12 159 yX12_familyOf cX12_familyOf 2 (some .int) 1 10 := ⟨⟨gT_at 798 (by decide +kernel) rfl, gT_at 801 (by decide +kernel) rfl, gT_at 4 (by decide +kernel) rfl, ⟨by decide +kernel, by decide +kernel, by decide +kernel⟩⟩, gT_at 800 (by decide +kernel) rfl, gS_at 17 (by decide +kernel) rfl, TX12, 34, rfl⟩
theorem fg_X12_84 : FG RX12 84 10 31 := ⟨RX12, TX12, 34, RX12, rfl, by decide, inG_X12, gT_at 623 (by decide +kernel) rfl, Or.inl rfl⟩
theorem fg_X12_162 : FG RX12 162 10 30 := ⟨RX12, TX12, 34, RX12, rfl, by decide, inG_X12, gT_at 622 (by decide +kernel) rfl, Or.inl rfl⟩
theorem fg_X12_87 : FG RX12 87 10 32 := ⟨RX12, TX12, 34, RX12, rfl, by decide, inG_X12, gT_at 624 (by decide +kernel) rfl, Or.inl rfl⟩
theorem fg_X12_90 : FG RX12 90 10 33 := ⟨RX12, TX12, 34, RX12, rfl, by decide, inG_X12, gT_at 625 (by decide +kernel) rfl, Or.inl rfl⟩
theorem fp_X12_162 : FP RX12 162 10 30 .int false := ⟨RX12, TX12, 34, RX12, tyX12, rfl, by decide, inG_X12, gT_at 622 (by decide +kernel) rfl, rfl, tyX12_ok, nmX12, rfl, by decide +kernel, fun h => by first | rfl | cases h⟩
theorem ca_X12_165 : CLV RX12 165 yX12_pair cX12_pair 4 none 3 10 := ⟨⟨gT_at 823 (by decide +kernel) rfl, gT_at 826 (by decide +kernel) rfl, gT_at 4 (by decide +kernel) rfl, ⟨by decide +kernel, by decide +kernel, by decide +kernel⟩⟩, gT_at 825 (by decide +kernel) rfl, gS_at 19 (by decide +kernel) rfl, TX12, 34, rfl⟩
theorem ca_X12_169 : CLV RX12 169 yX12_rowsLike cX12_rowsLike 5 (some .boolean) 2 10 := ⟨⟨gT_at 827 (by decide +kernel) rfl, gT_at 830 (by decide +kernel) rfl, gT_at 4 (by decide +kernel) rfl, ⟨by decide +kernel, by decide +kernel, by decide +kernel⟩⟩, gT_at 829 (by decide +kernel) rfl, gS_at 20 (by decide +kernel) rfl, TX12, 34, rfl⟩
theorem ca_X12_173 : CLV RX12 173 yX12_opens cX12_opens 6 (some .boolean) 3 10 := ⟨⟨gT_at 831 (by decide +kernel) rfl, gT_at 834 (by decide +kernel) rfl, gT_at 4 (by decide +kernel) rfl, ⟨by decide +kernel, by decide +kernel, by decide +kernel⟩⟩, gT_at 833 (by decide +kernel) rfl, gS_at 21 (by decide +kernel) rfl, TX12, 34, rfl⟩
theorem fg_X12_38 : FG RX12 38 10 12 := ⟨RX12, TX12, 34, RX12, rfl, by decide, inG_X12, gT_at 604 (by decide +kernel) rfl, Or.inl rfl⟩
theorem fg_X12_41 : FG RX12 41 10 13 := ⟨RX12, TX12, 34, RX12, rfl, by decide, inG_X12, gT_at 605 (by decide +kernel) rfl, Or.inl rfl⟩
theorem fg_X12_53 : FG RX12 53 10 17 := ⟨RX12, TX12, 34, RX12, rfl, by decide, inG_X12, gT_at 609 (by decide +kernel) rfl, Or.inl rfl⟩
theorem fg_X12_44 : FG RX12 44 10 14 := ⟨RX12, TX12, 34, RX12, rfl, by decide, inG_X12, gT_at 606 (by decide +kernel) rfl, Or.inl rfl⟩
theorem ca_X12_176 : CLV RX12 176 yX12_areLike cX12_areLike 8 (some .boolean) 2 10 := ⟨⟨gT_at 819 (by decide +kernel) rfl, gT_at 822 (by decide +kernel) rfl, gT_at 4 (by decide +kernel) rfl, ⟨by decide +kernel, by decide +kernel, by decide +kernel⟩⟩, gT_at 821 (by decide +kernel) rfl, gS_at 18 (by decide +kernel) rfl, TX12, 34, rfl⟩
theorem ca_X12_179 : CLS RX12 179 yX12_isShape cX12_isShape 1 (some .boolean) 1 := ⟨⟨gT_at 839 (by decide +kernel) rfl, gT_at 841 (by decide +kernel) rfl, gT_at 4 (by decide +kernel) rfl, ⟨by decide +kernel, by decide +kernel, by decide +kernel⟩⟩, gT_at 840 (by decide +kernel) rfl⟩
theorem fg_X12_50 : FG RX12 50 10 16 := ⟨RX12, TX12, 34, RX12, rfl, by decide, inG_X12, gT_at 608 (by decide +kernel) rfl, Or.inl rfl⟩
theorem fg_X12_56 : FG RX12 56 10 18 := ⟨RX12, TX12, 34, RX12, rfl, by decide, inG_X12, gT_at 610 (by decide +kernel) rfl, Or.inl rfl⟩
theorem fg_X12_59 : FG RX12 59 10 19 := ⟨RX12, TX12, 34, RX12, rfl, by decide, inG_X12, gT_at 611 (by decide +kernel) rfl, Or.inl rfl⟩
theorem fg_X12_62 : FG RX12 62 10 20 := ⟨RX12, TX12, 34, RX12, rfl, by decide, inG_X12, gT_at 612 (by decide +kernel) rfl, Or.inl rfl⟩
theorem fg_X12_65 : FG RX12 65 10 21 := ⟨RX12, TX12, 34, RX12, rfl, by decide, inG_X12, gT_at 613 (by decide +kernel) rfl, Or.inl rfl⟩
theorem fg_X12_68 : FG RX12 68 10 22 := ⟨RX12, TX12, 34, RX12, rfl, by decide, inG_X12, gT_at 614 (by decide +kernel) rfl, Or.inl rfl⟩
theorem fg_X12_71 : FG RX12 71 10 23 := ⟨RX12, TX12, 34, RX12, rfl, by decide, inG_X12, gT_at 615 (by decide +kernel) rfl, Or.inl rfl⟩
theorem fg_X12_74 : FG RX12 74 10 24 := ⟨RX12, TX12, 34, RX12, rfl, by decide, inG_X12, gT_at 616 (by decide +kernel) rfl, Or.inl rfl⟩
theorem fg_X12_182 : FG RX12 182 10 11 := ⟨RX12, TX12, 34, RX12, rfl, by decide, inG_X12, gT_at 603 (by decide +kernel) rfl, Or.inl rfl⟩
theorem fp_X12_185 : FP RX12 185 10 25 .int false := ⟨RX12, TX12, 34, RX12, tyX12, rfl, by decide, inG_X12, gT_at 617 (by decide +kernel) rfl, rfl, tyX12_ok, nmX12, rfl, by decide +kernel, fun h => by first | rfl | cases h⟩
theorem fg_X12_185 : FG RX12 185 10 25 := ⟨RX12, TX12, 34, RX12, rfl, by decide, inG_X12, gT_at 617 (by decide +kernel) rfl, Or.inl rfl⟩
theorem ca_X12_188 : CLV RX12 188 yX12_taken cX12_taken 9 (some .int) 3 10 := ⟨⟨gT_at 854 (by decide +kernel) rfl, gT_at 857 (by decide +kernel) rfl, gT_at 4 (by decide +kernel) rfl, ⟨by decide +kernel, by decide +kernel, by decide +kernel⟩⟩, gT_at 856 (by decide +kernel) rfl, gS_at 22 (by decide +kernel) rfl, TX12, 34, rfl⟩
theorem ca_X12_192 : CLV RX12 192 yX12_checked cX12_checked 5 (some .int) 3 10 := ⟨⟨gT_at 858 (by decide +kernel) rfl, gT_at 861 (by decide +kernel) rfl, gT_at 4 (by decide +kernel) rfl, ⟨by decide +kernel, by decide +kernel, by decide +kernel⟩⟩, gT_at 860 (by decide +kernel) rfl, gS_at 23 (by decide +kernel) rfl, TX12, 34, rfl⟩
theorem fp_X12_182 : FP RX12 182 10 11 .int false := ⟨RX12, TX12, 34, RX12, tyX12, rfl, by decide, inG_X12, gT_at 603 (by decide +kernel) rfl, rfl, tyX12_ok, nmX12, rfl, by decide +kernel, fun h => by first | rfl | cases h⟩
theorem fg_X12_77 : FG RX12 77 10 26 := ⟨RX12, TX12, 34, RX12, rfl, by decide, inG_X12, gT_at 618 (by decide +kernel) rfl, Or.inl rfl⟩
theorem fn_L_7 : FN RL 7 9 13 [.null, .int 0, .null, .null, .int 0, .int 0, .null, .null, .null, .null, .int 0, .int 0, .int 0] := ⟨RX11, TX11, tyX11, rfl, inG_X11, tyX11_ok, gT_at 14 (by decide +kernel) rfl, gT_at 15 (by decide +kernel) rfl, gT_at 1 (by decide +kernel) rfl, by decide +kernel⟩
theorem ca_L_9 : CLI RL 9 yX11_init cX11_init 2 0 := ⟨⟨gT_at 16 (by decide +kernel) rfl, gT_at 18 (by decide +kernel) rfl, gT_at 1 (by decide +kernel) rfl, ⟨by decide +kernel, by decide +kernel, by decide +kernel⟩⟩, rfl, gT_at 17 (by decide +kernel) rfl⟩
theorem fn_L_10 : FN RL 10 10 34 [.int 0, .null, .null, .null, .null, .null, .null, .null, .int 0, .null, .null, .int 0, .null, .null, .null, .null, .null, .null, .null, .null, .null, .null, .null, .null, .null, .int 0, .int 0, .null, .int 0, .int 0, .int 0, .null, .null, .null] := ⟨RX12, TX12, tyX12, rfl, inG_X12, tyX12_ok, gT_at 586 (by decide +kernel) rfl, gT_at 587 (by decide +kernel) rfl, gT_at 4 (by decide +kernel) rfl, by decide +kernel⟩
theorem ca_L_12 : CLI RL 12 yX12_init cX12_init 2 0 := ⟨⟨gT_at 588 (by decide +kernel) rfl, gT_at 590 (by decide +kernel) rfl, gT_at 4 (by decide +kernel) rfl, ⟨by decide +kernel, by decide +kernel, by decide +kernel⟩⟩, rfl, gT_at 589 (by decide +kernel) rfl⟩
theorem kw_L_13 : Cond.constantLong RL 13 (4294967295) ∈ gT := gT_at 882 (by decide +kernel) rfl
theorem ca_L_15 : CLV RL 15 yX11_constant cX11_constant 7 (some .int) 3 9 := ⟨⟨gT_at 118 (by decide +kernel) rfl, gT_at 121 (by decide +kernel) rfl, gT_at 1 (by decide +kernel) rfl, ⟨by decide +kernel, by decide +kernel, by decide +kernel⟩⟩, gT_at 119 (by decide +kernel) rfl, gT_at 120 (by decide +kernel) rfl, TX11, 13, rfl⟩
theorem ca_L_19 : CLV RL 19 yX12_constant cX12_constant 6 (some .int) 3 10 := ⟨⟨gT_at 696 (by decide +kernel) rfl, gT_at 699 (by decide +kernel) rfl, gT_at 4 (by decide +kernel) rfl, ⟨by decide +kernel, by decide +kernel, by decide +kernel⟩⟩, gT_at 697 (by decide +kernel) rfl, gT_at 698 (by decide +kernel) rfl, TX12, 34, rfl⟩
theorem ca_L_20 : CLV RL 20 yX11_arrange cX11_arrange 5 (some .int) 2 9 := ⟨⟨gT_at 220 (by decide +kernel) rfl, gT_at 223 (by decide +kernel) rfl, gT_at 1 (by decide +kernel) rfl, ⟨by decide +kernel, by decide +kernel, by decide +kernel⟩⟩, gT_at 221 (by decide +kernel) rfl, gT_at 222 (by decide +kernel) rfl, TX11, 13, rfl⟩
theorem ca_L_24 : CLV RL 24 yX12_arrange cX12_arrange 3 (some .int) 2 10 := ⟨⟨gT_at 717 (by decide +kernel) rfl, gT_at 720 (by decide +kernel) rfl, gT_at 4 (by decide +kernel) rfl, ⟨by decide +kernel, by decide +kernel, by decide +kernel⟩⟩, gT_at 718 (by decide +kernel) rfl, gT_at 719 (by decide +kernel) rfl, TX12, 34, rfl⟩
theorem ca_L_25 : CLV RL 25 yX11_shuffle cX11_shuffle 7 (some .int) 3 9 := ⟨⟨gT_at 232 (by decide +kernel) rfl, gT_at 235 (by decide +kernel) rfl, gT_at 1 (by decide +kernel) rfl, ⟨by decide +kernel, by decide +kernel, by decide +kernel⟩⟩, gT_at 233 (by decide +kernel) rfl, gT_at 234 (by decide +kernel) rfl, TX11, 13, rfl⟩
theorem ca_L_29 : CLV RL 29 yX12_shuffle cX12_shuffle 9 (some .int) 3 10 := ⟨⟨gT_at 729 (by decide +kernel) rfl, gT_at 732 (by decide +kernel) rfl, gT_at 4 (by decide +kernel) rfl, ⟨by decide +kernel, by decide +kernel, by decide +kernel⟩⟩, gT_at 730 (by decide +kernel) rfl, gT_at 731 (by decide +kernel) rfl, TX12, 34, rfl⟩
theorem ca_L_30 : CLV RL 30 yX11_kind cX11_kind 6 (some .int) 3 9 := ⟨⟨gT_at 251 (by decide +kernel) rfl, gT_at 254 (by decide +kernel) rfl, gT_at 1 (by decide +kernel) rfl, ⟨by decide +kernel, by decide +kernel, by decide +kernel⟩⟩, gT_at 252 (by decide +kernel) rfl, gT_at 253 (by decide +kernel) rfl, TX11, 13, rfl⟩
theorem ca_L_34 : CLV RL 34 yX12_kind cX12_kind 5 (some .int) 3 10 := ⟨⟨gT_at 743 (by decide +kernel) rfl, gT_at 746 (by decide +kernel) rfl, gT_at 4 (by decide +kernel) rfl, ⟨by decide +kernel, by decide +kernel, by decide +kernel⟩⟩, gT_at 744 (by decide +kernel) rfl, gT_at 745 (by decide +kernel) rfl, TX12, 34, rfl⟩
theorem ca_L_35 : CLV RL 35 yX11_named cX11_named 6 (some .int) 2 9 := ⟨⟨gT_at 259 (by decide +kernel) rfl, gT_at 262 (by decide +kernel) rfl, gT_at 1 (by decide +kernel) rfl, ⟨by decide +kernel, by decide +kernel, by decide +kernel⟩⟩, gT_at 260 (by decide +kernel) rfl, gT_at 261 (by decide +kernel) rfl, TX11, 13, rfl⟩
theorem ca_L_39 : CLV RL 39 yX12_named cX12_named 4 (some .int) 2 10 := ⟨⟨gT_at 747 (by decide +kernel) rfl, gT_at 750 (by decide +kernel) rfl, gT_at 4 (by decide +kernel) rfl, ⟨by decide +kernel, by decide +kernel, by decide +kernel⟩⟩, gT_at 748 (by decide +kernel) rfl, gT_at 749 (by decide +kernel) rfl, TX12, 34, rfl⟩
theorem ca_L_40 : CLV RL 40 yX11_order cX11_order 5 (some .int) 2 9 := ⟨⟨gT_at 263 (by decide +kernel) rfl, gT_at 266 (by decide +kernel) rfl, gT_at 1 (by decide +kernel) rfl, ⟨by decide +kernel, by decide +kernel, by decide +kernel⟩⟩, gT_at 264 (by decide +kernel) rfl, gT_at 265 (by decide +kernel) rfl, TX11, 13, rfl⟩
theorem ca_L_43 : CLV RL 43 yX12_order cX12_order 3 (some .int) 2 10 := ⟨⟨gT_at 751 (by decide +kernel) rfl, gT_at 754 (by decide +kernel) rfl, gT_at 4 (by decide +kernel) rfl, ⟨by decide +kernel, by decide +kernel, by decide +kernel⟩⟩, gT_at 752 (by decide +kernel) rfl, gT_at 753 (by decide +kernel) rfl, TX12, 34, rfl⟩
theorem ca_L_44 : CLV RL 44 yX11_about cX11_about 4 (some .int) 2 9 := ⟨⟨gT_at 267 (by decide +kernel) rfl, gT_at 270 (by decide +kernel) rfl, gT_at 1 (by decide +kernel) rfl, ⟨by decide +kernel, by decide +kernel, by decide +kernel⟩⟩, gT_at 268 (by decide +kernel) rfl, gT_at 269 (by decide +kernel) rfl, TX11, 13, rfl⟩
theorem ca_L_47 : CLV RL 47 yX12_about cX12_about 3 (some .int) 2 10 := ⟨⟨gT_at 755 (by decide +kernel) rfl, gT_at 758 (by decide +kernel) rfl, gT_at 4 (by decide +kernel) rfl, ⟨by decide +kernel, by decide +kernel, by decide +kernel⟩⟩, gT_at 756 (by decide +kernel) rfl, gT_at 757 (by decide +kernel) rfl, TX12, 34, rfl⟩
theorem ca_L_48 : CLV RL 48 yX11_worth cX11_worth 4 (some .int) 2 9 := ⟨⟨gT_at 283 (by decide +kernel) rfl, gT_at 286 (by decide +kernel) rfl, gT_at 1 (by decide +kernel) rfl, ⟨by decide +kernel, by decide +kernel, by decide +kernel⟩⟩, gT_at 284 (by decide +kernel) rfl, gT_at 285 (by decide +kernel) rfl, TX11, 13, rfl⟩
theorem ca_L_51 : CLV RL 51 yX12_worth cX12_worth 4 (some .int) 2 10 := ⟨⟨gT_at 759 (by decide +kernel) rfl, gT_at 762 (by decide +kernel) rfl, gT_at 4 (by decide +kernel) rfl, ⟨by decide +kernel, by decide +kernel, by decide +kernel⟩⟩, gT_at 760 (by decide +kernel) rfl, gT_at 761 (by decide +kernel) rfl, TX12, 34, rfl⟩
theorem ca_L_52 : CLV RL 52 yX11_weigh cX11_weigh 5 (some .int) 2 9 := ⟨⟨gT_at 304 (by decide +kernel) rfl, gT_at 307 (by decide +kernel) rfl, gT_at 1 (by decide +kernel) rfl, ⟨by decide +kernel, by decide +kernel, by decide +kernel⟩⟩, gT_at 305 (by decide +kernel) rfl, gT_at 306 (by decide +kernel) rfl, TX11, 13, rfl⟩
theorem ca_L_55 : CLV RL 55 yX12_weigh cX12_weigh 4 (some .int) 2 10 := ⟨⟨gT_at 767 (by decide +kernel) rfl, gT_at 770 (by decide +kernel) rfl, gT_at 4 (by decide +kernel) rfl, ⟨by decide +kernel, by decide +kernel, by decide +kernel⟩⟩, gT_at 768 (by decide +kernel) rfl, gT_at 769 (by decide +kernel) rfl, TX12, 34, rfl⟩
theorem ca_L_56 : CLV RL 56 yX11_table cX11_table 5 (some .int) 2 9 := ⟨⟨gT_at 308 (by decide +kernel) rfl, gT_at 311 (by decide +kernel) rfl, gT_at 1 (by decide +kernel) rfl, ⟨by decide +kernel, by decide +kernel, by decide +kernel⟩⟩, gT_at 309 (by decide +kernel) rfl, gT_at 310 (by decide +kernel) rfl, TX11, 13, rfl⟩
theorem ca_L_59 : CLV RL 59 yX12_table cX12_table 3 (some .int) 2 10 := ⟨⟨gT_at 771 (by decide +kernel) rfl, gT_at 774 (by decide +kernel) rfl, gT_at 4 (by decide +kernel) rfl, ⟨by decide +kernel, by decide +kernel, by decide +kernel⟩⟩, gT_at 772 (by decide +kernel) rfl, gT_at 773 (by decide +kernel) rfl, TX12, 34, rfl⟩
theorem ca_L_60 : CLV RL 60 yX11_draw cX11_draw 8 (some .int) 4 9 := ⟨⟨gT_at 316 (by decide +kernel) rfl, gT_at 319 (by decide +kernel) rfl, gT_at 1 (by decide +kernel) rfl, ⟨by decide +kernel, by decide +kernel, by decide +kernel⟩⟩, gT_at 317 (by decide +kernel) rfl, gT_at 318 (by decide +kernel) rfl, TX11, 13, rfl⟩
theorem ca_L_64 : CLV RL 64 yX12_draw cX12_draw 11 (some .int) 4 10 := ⟨⟨gT_at 779 (by decide +kernel) rfl, gT_at 782 (by decide +kernel) rfl, gT_at 4 (by decide +kernel) rfl, ⟨by decide +kernel, by decide +kernel, by decide +kernel⟩⟩, gT_at 780 (by decide +kernel) rfl, gT_at 781 (by decide +kernel) rfl, TX12, 34, rfl⟩
theorem ca_L_65 : CLV RL 65 yX11_hold cX11_hold 4 (some .int) 2 9 := ⟨⟨gT_at 333 (by decide +kernel) rfl, gT_at 336 (by decide +kernel) rfl, gT_at 1 (by decide +kernel) rfl, ⟨by decide +kernel, by decide +kernel, by decide +kernel⟩⟩, gT_at 334 (by decide +kernel) rfl, gT_at 335 (by decide +kernel) rfl, TX11, 13, rfl⟩
theorem ca_L_68 : CLV RL 68 yX12_hold cX12_hold 3 (some .int) 2 10 := ⟨⟨gT_at 783 (by decide +kernel) rfl, gT_at 786 (by decide +kernel) rfl, gT_at 4 (by decide +kernel) rfl, ⟨by decide +kernel, by decide +kernel, by decide +kernel⟩⟩, gT_at 784 (by decide +kernel) rfl, gT_at 785 (by decide +kernel) rfl, TX12, 34, rfl⟩
theorem ca_L_69 : CLV RL 69 yX11_row cX11_row 3 (some .int) 2 9 := ⟨⟨gT_at 340 (by decide +kernel) rfl, gT_at 343 (by decide +kernel) rfl, gT_at 1 (by decide +kernel) rfl, ⟨by decide +kernel, by decide +kernel, by decide +kernel⟩⟩, gT_at 341 (by decide +kernel) rfl, gT_at 342 (by decide +kernel) rfl, TX11, 13, rfl⟩
theorem ca_L_72 : CLV RL 72 yX12_row cX12_row 4 (some .int) 2 10 := ⟨⟨gT_at 790 (by decide +kernel) rfl, gT_at 793 (by decide +kernel) rfl, gT_at 4 (by decide +kernel) rfl, ⟨by decide +kernel, by decide +kernel, by decide +kernel⟩⟩, gT_at 791 (by decide +kernel) rfl, gT_at 792 (by decide +kernel) rfl, TX12, 34, rfl⟩
theorem ca_L_73 : CLV RL 73 yX11_item cX11_item 6 (some .int) 3 9 := ⟨⟨gT_at 357 (by decide +kernel) rfl, gT_at 360 (by decide +kernel) rfl, gT_at 1 (by decide +kernel) rfl, ⟨by decide +kernel, by decide +kernel, by decide +kernel⟩⟩, gT_at 358 (by decide +kernel) rfl, gT_at 359 (by decide +kernel) rfl, TX11, 13, rfl⟩
theorem ca_L_76 : CLV RL 76 yX12_item cX12_item 6 (some .int) 3 10 := ⟨⟨gT_at 794 (by decide +kernel) rfl, gT_at 797 (by decide +kernel) rfl, gT_at 4 (by decide +kernel) rfl, ⟨by decide +kernel, by decide +kernel, by decide +kernel⟩⟩, gT_at 795 (by decide +kernel) rfl, gT_at 796 (by decide +kernel) rfl, TX12, 34, rfl⟩
theorem ca_L_77 : CLV RL 77 yX11_share cX11_share 3 (some .int) 2 9 := ⟨⟨gT_at 369 (by decide +kernel) rfl, gT_at 372 (by decide +kernel) rfl, gT_at 1 (by decide +kernel) rfl, ⟨by decide +kernel, by decide +kernel, by decide +kernel⟩⟩, gT_at 370 (by decide +kernel) rfl, gT_at 371 (by decide +kernel) rfl, TX11, 13, rfl⟩
theorem ca_L_80 : CLV RL 80 yX12_share cX12_share 3 (some .int) 2 10 := ⟨⟨gT_at 803 (by decide +kernel) rfl, gT_at 806 (by decide +kernel) rfl, gT_at 4 (by decide +kernel) rfl, ⟨by decide +kernel, by decide +kernel, by decide +kernel⟩⟩, gT_at 804 (by decide +kernel) rfl, gT_at 805 (by decide +kernel) rfl, TX12, 34, rfl⟩
theorem ca_L_81 : CLV RL 81 yX11_family cX11_family 2 (some .int) 1 9 := ⟨⟨gT_at 394 (by decide +kernel) rfl, gT_at 397 (by decide +kernel) rfl, gT_at 1 (by decide +kernel) rfl, ⟨by decide +kernel, by decide +kernel, by decide +kernel⟩⟩, gT_at 395 (by decide +kernel) rfl, gT_at 396 (by decide +kernel) rfl, TX11, 13, rfl⟩
theorem ca_L_85 : CLV RL 85 yX12_family cX12_family 2 (some .int) 1 10 := ⟨⟨gT_at 807 (by decide +kernel) rfl, gT_at 810 (by decide +kernel) rfl, gT_at 4 (by decide +kernel) rfl, ⟨by decide +kernel, by decide +kernel, by decide +kernel⟩⟩, gT_at 808 (by decide +kernel) rfl, gT_at 809 (by decide +kernel) rfl, TX12, 34, rfl⟩
theorem ca_L_86 : CLV RL 86 yX11_is cX11_is 3 (some .int) 2 9 := ⟨⟨gT_at 398 (by decide +kernel) rfl, gT_at 401 (by decide +kernel) rfl, gT_at 1 (by decide +kernel) rfl, ⟨by decide +kernel, by decide +kernel, by decide +kernel⟩⟩, gT_at 399 (by decide +kernel) rfl, gT_at 400 (by decide +kernel) rfl, TX11, 13, rfl⟩
theorem ca_L_89 : CLV RL 89 yX12_is cX12_is 4 (some .int) 2 10 := ⟨⟨gT_at 811 (by decide +kernel) rfl, gT_at 814 (by decide +kernel) rfl, gT_at 4 (by decide +kernel) rfl, ⟨by decide +kernel, by decide +kernel, by decide +kernel⟩⟩, gT_at 812 (by decide +kernel) rfl, gT_at 813 (by decide +kernel) rfl, TX12, 34, rfl⟩
theorem ca_L_90 : CLV RL 90 yX11_like cX11_like 3 (some .int) 2 9 := ⟨⟨gT_at 406 (by decide +kernel) rfl, gT_at 409 (by decide +kernel) rfl, gT_at 1 (by decide +kernel) rfl, ⟨by decide +kernel, by decide +kernel, by decide +kernel⟩⟩, gT_at 407 (by decide +kernel) rfl, gT_at 408 (by decide +kernel) rfl, TX11, 13, rfl⟩
theorem ca_L_93 : CLV RL 93 yX12_like cX12_like 3 (some .int) 2 10 := ⟨⟨gT_at 815 (by decide +kernel) rfl, gT_at 818 (by decide +kernel) rfl, gT_at 4 (by decide +kernel) rfl, ⟨by decide +kernel, by decide +kernel, by decide +kernel⟩⟩, gT_at 816 (by decide +kernel) rfl, gT_at 817 (by decide +kernel) rfl, TX12, 34, rfl⟩
theorem ca_L_94 : CLV RL 94 yX11_part cX11_part 5 (some .int) 3 9 := ⟨⟨gT_at 419 (by decide +kernel) rfl, gT_at 422 (by decide +kernel) rfl, gT_at 1 (by decide +kernel) rfl, ⟨by decide +kernel, by decide +kernel, by decide +kernel⟩⟩, gT_at 420 (by decide +kernel) rfl, gT_at 421 (by decide +kernel) rfl, TX11, 13, rfl⟩
theorem ca_L_97 : CLV RL 97 yX12_part cX12_part 5 (some .int) 3 10 := ⟨⟨gT_at 835 (by decide +kernel) rfl, gT_at 838 (by decide +kernel) rfl, gT_at 4 (by decide +kernel) rfl, ⟨by decide +kernel, by decide +kernel, by decide +kernel⟩⟩, gT_at 836 (by decide +kernel) rfl, gT_at 837 (by decide +kernel) rfl, TX12, 34, rfl⟩
theorem ca_L_98 : CLV RL 98 yX11_check cX11_check 6 (some .int) 4 9 := ⟨⟨gT_at 434 (by decide +kernel) rfl, gT_at 437 (by decide +kernel) rfl, gT_at 1 (by decide +kernel) rfl, ⟨by decide +kernel, by decide +kernel, by decide +kernel⟩⟩, gT_at 435 (by decide +kernel) rfl, gT_at 436 (by decide +kernel) rfl, TX11, 13, rfl⟩
theorem ca_L_102 : CLV RL 102 yX12_check cX12_check 8 (some .int) 4 10 := ⟨⟨gT_at 842 (by decide +kernel) rfl, gT_at 845 (by decide +kernel) rfl, gT_at 4 (by decide +kernel) rfl, ⟨by decide +kernel, by decide +kernel, by decide +kernel⟩⟩, gT_at 843 (by decide +kernel) rfl, gT_at 844 (by decide +kernel) rfl, TX12, 34, rfl⟩
theorem ca_L_103 : CLV RL 103 yX11_give cX11_give 4 (some .int) 3 9 := ⟨⟨gT_at 465 (by decide +kernel) rfl, gT_at 468 (by decide +kernel) rfl, gT_at 1 (by decide +kernel) rfl, ⟨by decide +kernel, by decide +kernel, by decide +kernel⟩⟩, gT_at 466 (by decide +kernel) rfl, gT_at 467 (by decide +kernel) rfl, TX11, 13, rfl⟩
theorem ca_L_106 : CLV RL 106 yX12_give cX12_give 4 (some .int) 3 10 := ⟨⟨gT_at 846 (by decide +kernel) rfl, gT_at 849 (by decide +kernel) rfl, gT_at 4 (by decide +kernel) rfl, ⟨by decide +kernel, by decide +kernel, by decide +kernel⟩⟩, gT_at 847 (by decide +kernel) rfl, gT_at 848 (by decide +kernel) rfl, TX12, 34, rfl⟩
theorem ca_L_107 : CLV RL 107 yX11_make cX11_make 5 (some .int) 2 9 := ⟨⟨gT_at 469 (by decide +kernel) rfl, gT_at 472 (by decide +kernel) rfl, gT_at 1 (by decide +kernel) rfl, ⟨by decide +kernel, by decide +kernel, by decide +kernel⟩⟩, gT_at 470 (by decide +kernel) rfl, gT_at 471 (by decide +kernel) rfl, TX11, 13, rfl⟩
theorem ca_L_110 : CLV RL 110 yX12_make cX12_make 5 (some .int) 2 10 := ⟨⟨gT_at 850 (by decide +kernel) rfl, gT_at 853 (by decide +kernel) rfl, gT_at 4 (by decide +kernel) rfl, ⟨by decide +kernel, by decide +kernel, by decide +kernel⟩⟩, gT_at 851 (by decide +kernel) rfl, gT_at 852 (by decide +kernel) rfl, TX12, 34, rfl⟩
theorem ca_L_111 : CLV RL 111 yX11_cause cX11_cause 2 (some .int) 1 9 := ⟨⟨gT_at 557 (by decide +kernel) rfl, gT_at 560 (by decide +kernel) rfl, gT_at 1 (by decide +kernel) rfl, ⟨by decide +kernel, by decide +kernel, by decide +kernel⟩⟩, gT_at 558 (by decide +kernel) rfl, gT_at 559 (by decide +kernel) rfl, TX11, 13, rfl⟩
theorem ca_L_114 : CLV RL 114 yX12_cause cX12_cause 2 (some .int) 1 10 := ⟨⟨gT_at 862 (by decide +kernel) rfl, gT_at 865 (by decide +kernel) rfl, gT_at 4 (by decide +kernel) rfl, ⟨by decide +kernel, by decide +kernel, by decide +kernel⟩⟩, gT_at 863 (by decide +kernel) rfl, gT_at 864 (by decide +kernel) rfl, TX12, 34, rfl⟩
theorem ca_L_115 : CLV RL 115 yX11_told cX11_told 5 (some .int) 2 9 := ⟨⟨gT_at 561 (by decide +kernel) rfl, gT_at 564 (by decide +kernel) rfl, gT_at 1 (by decide +kernel) rfl, ⟨by decide +kernel, by decide +kernel, by decide +kernel⟩⟩, gT_at 562 (by decide +kernel) rfl, gT_at 563 (by decide +kernel) rfl, TX11, 13, rfl⟩
theorem ca_L_118 : CLV RL 118 yX12_told cX12_told 4 (some .int) 2 10 := ⟨⟨gT_at 866 (by decide +kernel) rfl, gT_at 869 (by decide +kernel) rfl, gT_at 4 (by decide +kernel) rfl, ⟨by decide +kernel, by decide +kernel, by decide +kernel⟩⟩, gT_at 867 (by decide +kernel) rfl, gT_at 868 (by decide +kernel) rfl, TX12, 34, rfl⟩
theorem ca_L_119 : CLV RL 119 yX11_take cX11_take 6 (some .int) 3 9 := ⟨⟨gT_at 566 (by decide +kernel) rfl, gT_at 569 (by decide +kernel) rfl, gT_at 1 (by decide +kernel) rfl, ⟨by decide +kernel, by decide +kernel, by decide +kernel⟩⟩, gT_at 567 (by decide +kernel) rfl, gT_at 568 (by decide +kernel) rfl, TX11, 13, rfl⟩
theorem ca_L_122 : CLV RL 122 yX12_take cX12_take 5 (some .int) 3 10 := ⟨⟨gT_at 870 (by decide +kernel) rfl, gT_at 873 (by decide +kernel) rfl, gT_at 4 (by decide +kernel) rfl, ⟨by decide +kernel, by decide +kernel, by decide +kernel⟩⟩, gT_at 871 (by decide +kernel) rfl, gT_at 872 (by decide +kernel) rfl, TX12, 34, rfl⟩
theorem ca_L_123 : CLV RL 123 yX11_started cX11_started 2 (some .int) 1 9 := ⟨⟨gT_at 570 (by decide +kernel) rfl, gT_at 573 (by decide +kernel) rfl, gT_at 1 (by decide +kernel) rfl, ⟨by decide +kernel, by decide +kernel, by decide +kernel⟩⟩, gT_at 571 (by decide +kernel) rfl, gT_at 572 (by decide +kernel) rfl, TX11, 13, rfl⟩
theorem ca_L_126 : CLV RL 126 yX12_started cX12_started 2 (some .int) 1 10 := ⟨⟨gT_at 874 (by decide +kernel) rfl, gT_at 877 (by decide +kernel) rfl, gT_at 4 (by decide +kernel) rfl, ⟨by decide +kernel, by decide +kernel, by decide +kernel⟩⟩, gT_at 875 (by decide +kernel) rfl, gT_at 876 (by decide +kernel) rfl, TX12, 34, rfl⟩
theorem ca_L_127 : CLV RL 127 yX11_count cX11_count 2 (some .int) 1 9 := ⟨⟨gT_at 574 (by decide +kernel) rfl, gT_at 577 (by decide +kernel) rfl, gT_at 1 (by decide +kernel) rfl, ⟨by decide +kernel, by decide +kernel, by decide +kernel⟩⟩, gT_at 575 (by decide +kernel) rfl, gT_at 576 (by decide +kernel) rfl, TX11, 13, rfl⟩
theorem ca_L_130 : CLV RL 130 yX12_count cX12_count 5 (some .int) 1 10 := ⟨⟨gT_at 878 (by decide +kernel) rfl, gT_at 881 (by decide +kernel) rfl, gT_at 4 (by decide +kernel) rfl, ⟨by decide +kernel, by decide +kernel, by decide +kernel⟩⟩, gT_at 879 (by decide +kernel) rfl, gT_at 880 (by decide +kernel) rfl, TX12, 34, rfl⟩
theorem aw_int : Cond.arrayClass .int ∈ gT := gT_at 44 (by decide +kernel) rfl
theorem aw_long : Cond.arrayClass .long ∈ gT := gT_at 695 (by decide +kernel) rfl
theorem ow_i : Cond.instanceMethod objectInit ∈ gT := gT_at 20 (by decide +kernel) rfl
theorem ow_c : Cond.code objectInit ⟨#[0xb1]⟩ 1 none ∈ gT := gT_at 21 (by decide +kernel) rfl
end
section
/-! ===== rooms by depth; calls of methods that make no cell ===== -/
def RmA (d c s : Nat) : Room := { frames := d, cells := c, slots := s, locals := 40 * d }
abbrev Rm (d : Nat) : Room := RmA d 0 0
theorem rm_in {d d' nL' C S c s : Nat} (h : d' < d) (hn : nL' ≤ 21) (hc : c ≤ C) (hs : s ≤ S) : (Rm d').frames + 1 ≤ (RmA d C S).frames ∧ 8 + (nL' + 11) + (Rm d').locals ≤ (RmA d C S).locals ∧ c + (Rm d').cells ≤ (RmA d C S).cells ∧ s + (Rm d').slots ≤ (RmA d C S).slots := by
  simp only [Rm, RmA]; omega
theorem rm_inA {d d' nL' C S C' S' c s : Nat} (h : d' < d) (hn : nL' ≤ 21) (hc : c + C' ≤ C) (hs : s + S' ≤ S) : (RmA d' C' S').frames + 1 ≤ (RmA d C S).frames ∧ 8 + (nL' + 11) + (RmA d' C' S').locals ≤ (RmA d C S).locals ∧ c + (RmA d' C' S').cells ≤ (RmA d C S).cells ∧ s + (RmA d' C' S').slots ≤ (RmA d C S).slots := by
  simp only [RmA]; omega
def bI (b : Bool) : Int32 := match b with
  | true => 1
  | false => 0
theorem bI_0 {b : Bool} : bI b = 0 ↔ b = false := by cases b <;> decide
theorem bI_n (b : Bool) : narrow .boolean (.int (bI b)) = .int (bI b) := by cases b <;> rfl
def lsub : List (Option Value) → Nat → (Nat → Option Value) → Prop
  | [], _, _ => True
  | none :: l, j, f => lsub l (j + 1) f
  | some v :: l, j, f => f j = some v ∧ lsub l (j + 1) f
theorem lsub_in : ∀ (l : List (Option Value)) (j : Nat) (f : Nat → Option Value), lsub l j f → ∀ i v, lfA l i = some v → f (j + i) = some v := by
  intro l
  induction l with
  | nil => intro j f _ i v h; simp [lfA] at h
  | cons a l ih =>
    intro j f h i v hv
    cases a with
    | none =>
      match i, hv with
      | 0, hv => simp [lfA] at hv
      | i + 1, hv => rw [show j + (i + 1) = j + 1 + i by omega]; exact ih (j + 1) f h i v hv
    | some w =>
      match i, hv with
      | 0, hv => simp [lfA] at hv; subst hv; exact h.1
      | i + 1, hv => rw [show j + (i + 1) = j + 1 + i by omega]; exact ih (j + 1) f h.2 i v hv
section EN
variable {b0 : Nat} {D : va_G} {dA : Nat → ClassId} {y : MethodName} {cc : ByteArray} {nL : Nat} {ret : Option FieldType} {R : Room} {EX : Array Value → State → Prop} {QF : List Frame → Array Value → State → State → Prop} {pc n t : Nat} {lv : Nat → Option Value} {st : List Value} {dm : Nat → Nat → Prop} {ad : Nat → Nat → Nat} {ct : Nat → Nat → va_E} {cells slots : Nat}
theorem e_lvA {l : List (Option Value)} (kk : E b0 D dA y cc nL ret R EX QF pc (lfA l) (st) dm ad ct cells slots) (h : lsub l 0 lv) : E b0 D dA y cc nL ret R EX QF pc lv (st) dm ad ct cells slots := e_lv (fun i v hv => by have := lsub_in l 0 lv h i v hv; rwa [Nat.zero_add] at this) kk
theorem e_st {st' : List Value} (h : st = st') (kk : E b0 D dA y cc nL ret R EX QF pc lv (st') dm ad ct cells slots) : E b0 D dA y cc nL ret R EX QF pc lv (st) dm ad ct cells slots := h ▸ kk
theorem e_if_eqB {b : Bool} (hd : dj cc pc (.ifCond .eq) t n) (kt : b = false → E b0 D dA y cc nL ret R EX QF t lv (st) dm ad ct cells slots) (kf : b = true → E b0 D dA y cc nL ret R EX QF n lv (st) dm ad ct cells slots) : E b0 D dA y cc nL ret R EX QF pc lv (.int (bI b) :: st) dm ad ct cells slots := by
  refine e_if_eq hd (fun q => kt (bI_0.mp q)) (fun q => kf ?_)
  cases b
  · exact absurd rfl q
  · rfl
theorem e_if_neB {b : Bool} (hd : dj cc pc (.ifCond .ne) t n) (kt : b = true → E b0 D dA y cc nL ret R EX QF t lv (st) dm ad ct cells slots) (kf : b = false → E b0 D dA y cc nL ret R EX QF n lv (st) dm ad ct cells slots) : E b0 D dA y cc nL ret R EX QF pc lv (.int (bI b) :: st) dm ad ct cells slots := by
  refine e_if_ne hd (fun q => kt ?_) (fun q => kf ?_)
  · cases b
    · exact absurd rfl q
    · rfl
  · cases b
    · rfl
    · exact absurd q (by decide)
theorem e_iretB {Q : PQ} {b : Bool} (hd : dc cc pc .ireturn 1 n) (hr : ret = some .boolean) (hq : Q (some (.int (bI b))) dm ad ct) (h1 : cells ≤ R.cells) (h2 : slots ≤ R.slots) : E b0 D dA y cc nL ret R EX (QFm b0 D dA R Q) pc lv [.int (bI b)] dm ad ct cells slots := e_iret hd hr (bI_n b) hq h1 h2
theorem e_iretI {Q : PQ} {v : Int32} (hd : dc cc pc .ireturn 1 n) (hr : ret = some .int) (hq : Q (some (.int v)) dm ad ct) (h1 : cells ≤ R.cells) (h2 : slots ≤ R.slots) : E b0 D dA y cc nL ret R EX (QFm b0 D dA R Q) pc lv [.int v] dm ad ct cells slots := e_iret hd hr rfl hq h1 h2
end EN
section EM
variable {b0 : Nat} {D : va_G} {dA : Nat → ClassId} {y : MethodName} {cc : ByteArray} {nL : Nat} {ret : Option FieldType} {d d' C S : Nat} {EX : Array Value → State → Prop} {QF : List Frame → Array Value → State → State → Prop} {pc n t : Nat} {lv : Nat → Option Value} {st : List Value} {dm : Nat → Nat → Prop} {ad : Nat → Nat → Nat} {ct : Nat → Nat → va_E} {cells slots : Nat}
theorem n_callS0 {idx : Nat} {y' : MethodName} {cc' : ByteArray} {nL' : Nat} {ret' : Option FieldType} (hd : dc cc pc (.invokestatic idx) 3 n) (hcl : CLS y.cls idx y' cc' nL' ret' 0) (hC : Ct b0 D dA y' cc' nL' ret' (Rm d') [] dm ad ct (fun v dm ad ct => E b0 D dA y cc nL ret (RmA d C S) EX QF n lv (vl v st) dm ad ct cells slots)) (hlt : d' < d := by decide) (hnl : nL' ≤ 21 := by decide) (hcs : cells ≤ C ∧ slots ≤ S := by decide) (hst : (st.map fun v => v.category).sum ≤ 8 := by exact Nat.le_of_ble_eq_true rfl) : E b0 D dA y cc nL ret (RmA d C S) EX QF pc lv (st) dm ad ct cells slots := e_callS0 hd hcl (rm_in hlt hnl hcs.1 hcs.2) hC hst
theorem n_callSN0 {idx : Nat} {y' : MethodName} {cc' : ByteArray} {nL' : Nat} {ret' : Option FieldType} (hd : dc cc pc (.invokestatic idx) 3 n) (hcl : CNS y.cls idx y' cc' nL' ret' 0) (hC : Ct b0 D dA y' cc' nL' ret' (Rm d') [] dm ad ct (fun v dm ad ct => E b0 D dA y cc nL ret (RmA d C S) EX QF n lv (vl v st) dm ad ct cells slots)) (hlt : d' < d := by decide) (hnl : nL' ≤ 21 := by decide) (hcs : cells ≤ C ∧ slots ≤ S := by decide) (hst : (st.map fun v => v.category).sum ≤ 8 := by exact Nat.le_of_ble_eq_true rfl) : E b0 D dA y cc nL ret (RmA d C S) EX QF pc lv (st) dm ad ct cells slots := e_callSN0 hd hcl (rm_in hlt hnl hcs.1 hcs.2) hC hst
theorem n_callV0 {idx k i ci : Nat} {fs : List Value} {y' : MethodName} {cc' : ByteArray} {nL' : Nat} {ret' : Option FieldType} (hd : dc cc pc (.invokevirtual idx) 3 n) (hcl : CLV y.cls idx y' cc' nL' ret' 0 ci) (hk : dm k i) (he : ct k i = .inr (ci, fs)) (hC : Ct b0 D dA y' cc' nL' ret' (Rm d') [.ref (ad k i)] dm ad ct (fun v dm ad ct => E b0 D dA y cc nL ret (RmA d C S) EX QF n lv (vl v st) dm ad ct cells slots)) (hlt : d' < d := by decide) (hnl : nL' ≤ 21 := by decide) (hcs : cells ≤ C ∧ slots ≤ S := by decide) (hst : (st.map fun v => v.category).sum ≤ 8 := by exact Nat.le_of_ble_eq_true rfl) : E b0 D dA y cc nL ret (RmA d C S) EX QF pc lv (.ref (ad k i) :: st) dm ad ct cells slots := e_callV0 hd hcl hk he (rm_in hlt hnl hcs.1 hcs.2) hC hst
theorem n_callU0 {idx k i ci : Nat} {fs : List Value} {x : MethodName} {y' : MethodName} {cc' : ByteArray} {nL' : Nat} {ret' : Option FieldType} (hd : dc cc pc (.invokevirtual idx) 3 n) (hcl : CLU y.cls idx x y' cc' nL' ret' 0 ci) (hk : dm k i) (he : ct k i = .inr (ci, fs)) (hC : Ct b0 D dA y' cc' nL' ret' (Rm d') [.ref (ad k i)] dm ad ct (fun v dm ad ct => E b0 D dA y cc nL ret (RmA d C S) EX QF n lv (vl v st) dm ad ct cells slots)) (hlt : d' < d := by decide) (hnl : nL' ≤ 21 := by decide) (hcs : cells ≤ C ∧ slots ≤ S := by decide) (hst : (st.map fun v => v.category).sum ≤ 8 := by exact Nat.le_of_ble_eq_true rfl) : E b0 D dA y cc nL ret (RmA d C S) EX QF pc lv (.ref (ad k i) :: st) dm ad ct cells slots := e_callU0 hd hcl hk he (rm_in hlt hnl hcs.1 hcs.2) hC hst
theorem n_callI0 {idx a : Nat} {y' : MethodName} {cc' : ByteArray} {nL' : Nat} (hd : dc cc pc (.invokespecial idx) 3 n) (hcl : CLI y.cls idx y' cc' nL' 0) (hC : Ct b0 D dA y' cc' nL' none (Rm d') [.ref a] dm ad ct (fun v dm ad ct => E b0 D dA y cc nL ret (RmA d C S) EX QF n lv (vl v st) dm ad ct cells slots)) (hlt : d' < d := by decide) (hnl : nL' ≤ 21 := by decide) (hcs : cells ≤ C ∧ slots ≤ S := by decide) (hst : (st.map fun v => v.category).sum ≤ 8 := by exact Nat.le_of_ble_eq_true rfl) : E b0 D dA y cc nL ret (RmA d C S) EX QF pc lv (.ref a :: st) dm ad ct cells slots := e_callI0 hd hcl (rm_in hlt hnl hcs.1 hcs.2) hC hst
theorem n_callIN0 {idx a : Nat} {y' : MethodName} {cc' : ByteArray} {nL' : Nat} (hd : dc cc pc (.invokespecial idx) 3 n) (hcl : CNI y.cls idx y' cc' nL' 0) (hC : Ct b0 D dA y' cc' nL' none (Rm d') [.ref a] dm ad ct (fun v dm ad ct => E b0 D dA y cc nL ret (RmA d C S) EX QF n lv (vl v st) dm ad ct cells slots)) (hlt : d' < d := by decide) (hnl : nL' ≤ 21 := by decide) (hcs : cells ≤ C ∧ slots ≤ S := by decide) (hst : (st.map fun v => v.category).sum ≤ 8 := by exact Nat.le_of_ble_eq_true rfl) : E b0 D dA y cc nL ret (RmA d C S) EX QF pc lv (.ref a :: st) dm ad ct cells slots := e_callIN0 hd hcl (rm_in hlt hnl hcs.1 hcs.2) hC hst
theorem n_callS1 {idx : Nat} {y' : MethodName} {cc' : ByteArray} {nL' : Nat} {ret' : Option FieldType} {v1 : Value} (hd : dc cc pc (.invokestatic idx) 3 n) (hcl : CLS y.cls idx y' cc' nL' ret' 1) (hC : Ct b0 D dA y' cc' nL' ret' (Rm d') [v1] dm ad ct (fun v dm ad ct => E b0 D dA y cc nL ret (RmA d C S) EX QF n lv (vl v st) dm ad ct cells slots)) (hlt : d' < d := by decide) (hnl : nL' ≤ 21 := by decide) (hcs : cells ≤ C ∧ slots ≤ S := by decide) (hst : (st.map fun v => v.category).sum ≤ 8 := by exact Nat.le_of_ble_eq_true rfl) : E b0 D dA y cc nL ret (RmA d C S) EX QF pc lv (v1 :: st) dm ad ct cells slots := e_callS1 hd hcl (rm_in hlt hnl hcs.1 hcs.2) hC hst
theorem n_callSN1 {idx : Nat} {y' : MethodName} {cc' : ByteArray} {nL' : Nat} {ret' : Option FieldType} {v1 : Value} (hd : dc cc pc (.invokestatic idx) 3 n) (hcl : CNS y.cls idx y' cc' nL' ret' 1) (hC : Ct b0 D dA y' cc' nL' ret' (Rm d') [v1] dm ad ct (fun v dm ad ct => E b0 D dA y cc nL ret (RmA d C S) EX QF n lv (vl v st) dm ad ct cells slots)) (hlt : d' < d := by decide) (hnl : nL' ≤ 21 := by decide) (hcs : cells ≤ C ∧ slots ≤ S := by decide) (hst : (st.map fun v => v.category).sum ≤ 8 := by exact Nat.le_of_ble_eq_true rfl) : E b0 D dA y cc nL ret (RmA d C S) EX QF pc lv (v1 :: st) dm ad ct cells slots := e_callSN1 hd hcl (rm_in hlt hnl hcs.1 hcs.2) hC hst
theorem n_callV1 {idx k i ci : Nat} {fs : List Value} {y' : MethodName} {cc' : ByteArray} {nL' : Nat} {ret' : Option FieldType} {v1 : Value} (hd : dc cc pc (.invokevirtual idx) 3 n) (hcl : CLV y.cls idx y' cc' nL' ret' 1 ci) (hk : dm k i) (he : ct k i = .inr (ci, fs)) (hC : Ct b0 D dA y' cc' nL' ret' (Rm d') [.ref (ad k i), v1] dm ad ct (fun v dm ad ct => E b0 D dA y cc nL ret (RmA d C S) EX QF n lv (vl v st) dm ad ct cells slots)) (hlt : d' < d := by decide) (hnl : nL' ≤ 21 := by decide) (hcs : cells ≤ C ∧ slots ≤ S := by decide) (hst : (st.map fun v => v.category).sum ≤ 8 := by exact Nat.le_of_ble_eq_true rfl) : E b0 D dA y cc nL ret (RmA d C S) EX QF pc lv (v1 :: .ref (ad k i) :: st) dm ad ct cells slots := e_callV1 hd hcl hk he (rm_in hlt hnl hcs.1 hcs.2) hC hst
theorem n_callU1 {idx k i ci : Nat} {fs : List Value} {x : MethodName} {y' : MethodName} {cc' : ByteArray} {nL' : Nat} {ret' : Option FieldType} {v1 : Value} (hd : dc cc pc (.invokevirtual idx) 3 n) (hcl : CLU y.cls idx x y' cc' nL' ret' 1 ci) (hk : dm k i) (he : ct k i = .inr (ci, fs)) (hC : Ct b0 D dA y' cc' nL' ret' (Rm d') [.ref (ad k i), v1] dm ad ct (fun v dm ad ct => E b0 D dA y cc nL ret (RmA d C S) EX QF n lv (vl v st) dm ad ct cells slots)) (hlt : d' < d := by decide) (hnl : nL' ≤ 21 := by decide) (hcs : cells ≤ C ∧ slots ≤ S := by decide) (hst : (st.map fun v => v.category).sum ≤ 8 := by exact Nat.le_of_ble_eq_true rfl) : E b0 D dA y cc nL ret (RmA d C S) EX QF pc lv (v1 :: .ref (ad k i) :: st) dm ad ct cells slots := e_callU1 hd hcl hk he (rm_in hlt hnl hcs.1 hcs.2) hC hst
theorem n_callP1 {idx k i ci : Nat} {fs : List Value} {y' : MethodName} {cc' : ByteArray} {nL' : Nat} {ret' : Option FieldType} {v1 : Value} (hd : dc cc pc (.invokespecial idx) 3 n) (hcl : CLP y.cls idx y' cc' nL' ret' 1 ci) (hk : dm k i) (he : ct k i = .inr (ci, fs)) (hC : Ct b0 D dA y' cc' nL' ret' (Rm d') [.ref (ad k i), v1] dm ad ct (fun v dm ad ct => E b0 D dA y cc nL ret (RmA d C S) EX QF n lv (vl v st) dm ad ct cells slots)) (hlt : d' < d := by decide) (hnl : nL' ≤ 21 := by decide) (hcs : cells ≤ C ∧ slots ≤ S := by decide) (hst : (st.map fun v => v.category).sum ≤ 8 := by exact Nat.le_of_ble_eq_true rfl) : E b0 D dA y cc nL ret (RmA d C S) EX QF pc lv (v1 :: .ref (ad k i) :: st) dm ad ct cells slots := e_callP1 hd hcl hk he (rm_in hlt hnl hcs.1 hcs.2) hC hst
theorem n_callI1 {idx a : Nat} {y' : MethodName} {cc' : ByteArray} {nL' : Nat} {v1 : Value} (hd : dc cc pc (.invokespecial idx) 3 n) (hcl : CLI y.cls idx y' cc' nL' 1) (hC : Ct b0 D dA y' cc' nL' none (Rm d') [.ref a, v1] dm ad ct (fun v dm ad ct => E b0 D dA y cc nL ret (RmA d C S) EX QF n lv (vl v st) dm ad ct cells slots)) (hlt : d' < d := by decide) (hnl : nL' ≤ 21 := by decide) (hcs : cells ≤ C ∧ slots ≤ S := by decide) (hst : (st.map fun v => v.category).sum ≤ 8 := by exact Nat.le_of_ble_eq_true rfl) : E b0 D dA y cc nL ret (RmA d C S) EX QF pc lv (v1 :: .ref a :: st) dm ad ct cells slots := e_callI1 hd hcl (rm_in hlt hnl hcs.1 hcs.2) hC hst
theorem n_callIN1 {idx a : Nat} {y' : MethodName} {cc' : ByteArray} {nL' : Nat} {v1 : Value} (hd : dc cc pc (.invokespecial idx) 3 n) (hcl : CNI y.cls idx y' cc' nL' 1) (hC : Ct b0 D dA y' cc' nL' none (Rm d') [.ref a, v1] dm ad ct (fun v dm ad ct => E b0 D dA y cc nL ret (RmA d C S) EX QF n lv (vl v st) dm ad ct cells slots)) (hlt : d' < d := by decide) (hnl : nL' ≤ 21 := by decide) (hcs : cells ≤ C ∧ slots ≤ S := by decide) (hst : (st.map fun v => v.category).sum ≤ 8 := by exact Nat.le_of_ble_eq_true rfl) : E b0 D dA y cc nL ret (RmA d C S) EX QF pc lv (v1 :: .ref a :: st) dm ad ct cells slots := e_callIN1 hd hcl (rm_in hlt hnl hcs.1 hcs.2) hC hst
theorem n_callS2 {idx : Nat} {y' : MethodName} {cc' : ByteArray} {nL' : Nat} {ret' : Option FieldType} {v1 v2 : Value} (hd : dc cc pc (.invokestatic idx) 3 n) (hcl : CLS y.cls idx y' cc' nL' ret' 2) (hC : Ct b0 D dA y' cc' nL' ret' (Rm d') [v1, v2] dm ad ct (fun v dm ad ct => E b0 D dA y cc nL ret (RmA d C S) EX QF n lv (vl v st) dm ad ct cells slots)) (hlt : d' < d := by decide) (hnl : nL' ≤ 21 := by decide) (hcs : cells ≤ C ∧ slots ≤ S := by decide) (hst : (st.map fun v => v.category).sum ≤ 8 := by exact Nat.le_of_ble_eq_true rfl) : E b0 D dA y cc nL ret (RmA d C S) EX QF pc lv (v2 :: v1 :: st) dm ad ct cells slots := e_callS2 hd hcl (rm_in hlt hnl hcs.1 hcs.2) hC hst
theorem n_callSN2 {idx : Nat} {y' : MethodName} {cc' : ByteArray} {nL' : Nat} {ret' : Option FieldType} {v1 v2 : Value} (hd : dc cc pc (.invokestatic idx) 3 n) (hcl : CNS y.cls idx y' cc' nL' ret' 2) (hC : Ct b0 D dA y' cc' nL' ret' (Rm d') [v1, v2] dm ad ct (fun v dm ad ct => E b0 D dA y cc nL ret (RmA d C S) EX QF n lv (vl v st) dm ad ct cells slots)) (hlt : d' < d := by decide) (hnl : nL' ≤ 21 := by decide) (hcs : cells ≤ C ∧ slots ≤ S := by decide) (hst : (st.map fun v => v.category).sum ≤ 8 := by exact Nat.le_of_ble_eq_true rfl) : E b0 D dA y cc nL ret (RmA d C S) EX QF pc lv (v2 :: v1 :: st) dm ad ct cells slots := e_callSN2 hd hcl (rm_in hlt hnl hcs.1 hcs.2) hC hst
theorem n_callV2 {idx k i ci : Nat} {fs : List Value} {y' : MethodName} {cc' : ByteArray} {nL' : Nat} {ret' : Option FieldType} {v1 v2 : Value} (hd : dc cc pc (.invokevirtual idx) 3 n) (hcl : CLV y.cls idx y' cc' nL' ret' 2 ci) (hk : dm k i) (he : ct k i = .inr (ci, fs)) (hC : Ct b0 D dA y' cc' nL' ret' (Rm d') [.ref (ad k i), v1, v2] dm ad ct (fun v dm ad ct => E b0 D dA y cc nL ret (RmA d C S) EX QF n lv (vl v st) dm ad ct cells slots)) (hlt : d' < d := by decide) (hnl : nL' ≤ 21 := by decide) (hcs : cells ≤ C ∧ slots ≤ S := by decide) (hst : (st.map fun v => v.category).sum ≤ 8 := by exact Nat.le_of_ble_eq_true rfl) : E b0 D dA y cc nL ret (RmA d C S) EX QF pc lv (v2 :: v1 :: .ref (ad k i) :: st) dm ad ct cells slots := e_callV2 hd hcl hk he (rm_in hlt hnl hcs.1 hcs.2) hC hst
theorem n_callU2 {idx k i ci : Nat} {fs : List Value} {x : MethodName} {y' : MethodName} {cc' : ByteArray} {nL' : Nat} {ret' : Option FieldType} {v1 v2 : Value} (hd : dc cc pc (.invokevirtual idx) 3 n) (hcl : CLU y.cls idx x y' cc' nL' ret' 2 ci) (hk : dm k i) (he : ct k i = .inr (ci, fs)) (hC : Ct b0 D dA y' cc' nL' ret' (Rm d') [.ref (ad k i), v1, v2] dm ad ct (fun v dm ad ct => E b0 D dA y cc nL ret (RmA d C S) EX QF n lv (vl v st) dm ad ct cells slots)) (hlt : d' < d := by decide) (hnl : nL' ≤ 21 := by decide) (hcs : cells ≤ C ∧ slots ≤ S := by decide) (hst : (st.map fun v => v.category).sum ≤ 8 := by exact Nat.le_of_ble_eq_true rfl) : E b0 D dA y cc nL ret (RmA d C S) EX QF pc lv (v2 :: v1 :: .ref (ad k i) :: st) dm ad ct cells slots := e_callU2 hd hcl hk he (rm_in hlt hnl hcs.1 hcs.2) hC hst
theorem n_callI2 {idx a : Nat} {y' : MethodName} {cc' : ByteArray} {nL' : Nat} {v1 v2 : Value} (hd : dc cc pc (.invokespecial idx) 3 n) (hcl : CLI y.cls idx y' cc' nL' 2) (hC : Ct b0 D dA y' cc' nL' none (Rm d') [.ref a, v1, v2] dm ad ct (fun v dm ad ct => E b0 D dA y cc nL ret (RmA d C S) EX QF n lv (vl v st) dm ad ct cells slots)) (hlt : d' < d := by decide) (hnl : nL' ≤ 21 := by decide) (hcs : cells ≤ C ∧ slots ≤ S := by decide) (hst : (st.map fun v => v.category).sum ≤ 8 := by exact Nat.le_of_ble_eq_true rfl) : E b0 D dA y cc nL ret (RmA d C S) EX QF pc lv (v2 :: v1 :: .ref a :: st) dm ad ct cells slots := e_callI2 hd hcl (rm_in hlt hnl hcs.1 hcs.2) hC hst
theorem n_callIN2 {idx a : Nat} {y' : MethodName} {cc' : ByteArray} {nL' : Nat} {v1 v2 : Value} (hd : dc cc pc (.invokespecial idx) 3 n) (hcl : CNI y.cls idx y' cc' nL' 2) (hC : Ct b0 D dA y' cc' nL' none (Rm d') [.ref a, v1, v2] dm ad ct (fun v dm ad ct => E b0 D dA y cc nL ret (RmA d C S) EX QF n lv (vl v st) dm ad ct cells slots)) (hlt : d' < d := by decide) (hnl : nL' ≤ 21 := by decide) (hcs : cells ≤ C ∧ slots ≤ S := by decide) (hst : (st.map fun v => v.category).sum ≤ 8 := by exact Nat.le_of_ble_eq_true rfl) : E b0 D dA y cc nL ret (RmA d C S) EX QF pc lv (v2 :: v1 :: .ref a :: st) dm ad ct cells slots := e_callIN2 hd hcl (rm_in hlt hnl hcs.1 hcs.2) hC hst
theorem n_callS3 {idx : Nat} {y' : MethodName} {cc' : ByteArray} {nL' : Nat} {ret' : Option FieldType} {v1 v2 v3 : Value} (hd : dc cc pc (.invokestatic idx) 3 n) (hcl : CLS y.cls idx y' cc' nL' ret' 3) (hC : Ct b0 D dA y' cc' nL' ret' (Rm d') [v1, v2, v3] dm ad ct (fun v dm ad ct => E b0 D dA y cc nL ret (RmA d C S) EX QF n lv (vl v st) dm ad ct cells slots)) (hlt : d' < d := by decide) (hnl : nL' ≤ 21 := by decide) (hcs : cells ≤ C ∧ slots ≤ S := by decide) (hst : (st.map fun v => v.category).sum ≤ 8 := by exact Nat.le_of_ble_eq_true rfl) : E b0 D dA y cc nL ret (RmA d C S) EX QF pc lv (v3 :: v2 :: v1 :: st) dm ad ct cells slots := e_callS3 hd hcl (rm_in hlt hnl hcs.1 hcs.2) hC hst
theorem n_callSN3 {idx : Nat} {y' : MethodName} {cc' : ByteArray} {nL' : Nat} {ret' : Option FieldType} {v1 v2 v3 : Value} (hd : dc cc pc (.invokestatic idx) 3 n) (hcl : CNS y.cls idx y' cc' nL' ret' 3) (hC : Ct b0 D dA y' cc' nL' ret' (Rm d') [v1, v2, v3] dm ad ct (fun v dm ad ct => E b0 D dA y cc nL ret (RmA d C S) EX QF n lv (vl v st) dm ad ct cells slots)) (hlt : d' < d := by decide) (hnl : nL' ≤ 21 := by decide) (hcs : cells ≤ C ∧ slots ≤ S := by decide) (hst : (st.map fun v => v.category).sum ≤ 8 := by exact Nat.le_of_ble_eq_true rfl) : E b0 D dA y cc nL ret (RmA d C S) EX QF pc lv (v3 :: v2 :: v1 :: st) dm ad ct cells slots := e_callSN3 hd hcl (rm_in hlt hnl hcs.1 hcs.2) hC hst
theorem n_callV3 {idx k i ci : Nat} {fs : List Value} {y' : MethodName} {cc' : ByteArray} {nL' : Nat} {ret' : Option FieldType} {v1 v2 v3 : Value} (hd : dc cc pc (.invokevirtual idx) 3 n) (hcl : CLV y.cls idx y' cc' nL' ret' 3 ci) (hk : dm k i) (he : ct k i = .inr (ci, fs)) (hC : Ct b0 D dA y' cc' nL' ret' (Rm d') [.ref (ad k i), v1, v2, v3] dm ad ct (fun v dm ad ct => E b0 D dA y cc nL ret (RmA d C S) EX QF n lv (vl v st) dm ad ct cells slots)) (hlt : d' < d := by decide) (hnl : nL' ≤ 21 := by decide) (hcs : cells ≤ C ∧ slots ≤ S := by decide) (hst : (st.map fun v => v.category).sum ≤ 8 := by exact Nat.le_of_ble_eq_true rfl) : E b0 D dA y cc nL ret (RmA d C S) EX QF pc lv (v3 :: v2 :: v1 :: .ref (ad k i) :: st) dm ad ct cells slots := e_callV3 hd hcl hk he (rm_in hlt hnl hcs.1 hcs.2) hC hst
theorem n_callU3 {idx k i ci : Nat} {fs : List Value} {x : MethodName} {y' : MethodName} {cc' : ByteArray} {nL' : Nat} {ret' : Option FieldType} {v1 v2 v3 : Value} (hd : dc cc pc (.invokevirtual idx) 3 n) (hcl : CLU y.cls idx x y' cc' nL' ret' 3 ci) (hk : dm k i) (he : ct k i = .inr (ci, fs)) (hC : Ct b0 D dA y' cc' nL' ret' (Rm d') [.ref (ad k i), v1, v2, v3] dm ad ct (fun v dm ad ct => E b0 D dA y cc nL ret (RmA d C S) EX QF n lv (vl v st) dm ad ct cells slots)) (hlt : d' < d := by decide) (hnl : nL' ≤ 21 := by decide) (hcs : cells ≤ C ∧ slots ≤ S := by decide) (hst : (st.map fun v => v.category).sum ≤ 8 := by exact Nat.le_of_ble_eq_true rfl) : E b0 D dA y cc nL ret (RmA d C S) EX QF pc lv (v3 :: v2 :: v1 :: .ref (ad k i) :: st) dm ad ct cells slots := e_callU3 hd hcl hk he (rm_in hlt hnl hcs.1 hcs.2) hC hst
theorem n_callI3 {idx a : Nat} {y' : MethodName} {cc' : ByteArray} {nL' : Nat} {v1 v2 v3 : Value} (hd : dc cc pc (.invokespecial idx) 3 n) (hcl : CLI y.cls idx y' cc' nL' 3) (hC : Ct b0 D dA y' cc' nL' none (Rm d') [.ref a, v1, v2, v3] dm ad ct (fun v dm ad ct => E b0 D dA y cc nL ret (RmA d C S) EX QF n lv (vl v st) dm ad ct cells slots)) (hlt : d' < d := by decide) (hnl : nL' ≤ 21 := by decide) (hcs : cells ≤ C ∧ slots ≤ S := by decide) (hst : (st.map fun v => v.category).sum ≤ 8 := by exact Nat.le_of_ble_eq_true rfl) : E b0 D dA y cc nL ret (RmA d C S) EX QF pc lv (v3 :: v2 :: v1 :: .ref a :: st) dm ad ct cells slots := e_callI3 hd hcl (rm_in hlt hnl hcs.1 hcs.2) hC hst
theorem n_callIN3 {idx a : Nat} {y' : MethodName} {cc' : ByteArray} {nL' : Nat} {v1 v2 v3 : Value} (hd : dc cc pc (.invokespecial idx) 3 n) (hcl : CNI y.cls idx y' cc' nL' 3) (hC : Ct b0 D dA y' cc' nL' none (Rm d') [.ref a, v1, v2, v3] dm ad ct (fun v dm ad ct => E b0 D dA y cc nL ret (RmA d C S) EX QF n lv (vl v st) dm ad ct cells slots)) (hlt : d' < d := by decide) (hnl : nL' ≤ 21 := by decide) (hcs : cells ≤ C ∧ slots ≤ S := by decide) (hst : (st.map fun v => v.category).sum ≤ 8 := by exact Nat.le_of_ble_eq_true rfl) : E b0 D dA y cc nL ret (RmA d C S) EX QF pc lv (v3 :: v2 :: v1 :: .ref a :: st) dm ad ct cells slots := e_callIN3 hd hcl (rm_in hlt hnl hcs.1 hcs.2) hC hst
theorem n_callS4 {idx : Nat} {y' : MethodName} {cc' : ByteArray} {nL' : Nat} {ret' : Option FieldType} {v1 v2 v3 v4 : Value} (hd : dc cc pc (.invokestatic idx) 3 n) (hcl : CLS y.cls idx y' cc' nL' ret' 4) (hC : Ct b0 D dA y' cc' nL' ret' (Rm d') [v1, v2, v3, v4] dm ad ct (fun v dm ad ct => E b0 D dA y cc nL ret (RmA d C S) EX QF n lv (vl v st) dm ad ct cells slots)) (hlt : d' < d := by decide) (hnl : nL' ≤ 21 := by decide) (hcs : cells ≤ C ∧ slots ≤ S := by decide) (hst : (st.map fun v => v.category).sum ≤ 8 := by exact Nat.le_of_ble_eq_true rfl) : E b0 D dA y cc nL ret (RmA d C S) EX QF pc lv (v4 :: v3 :: v2 :: v1 :: st) dm ad ct cells slots := e_callS4 hd hcl (rm_in hlt hnl hcs.1 hcs.2) hC hst
theorem n_callSN4 {idx : Nat} {y' : MethodName} {cc' : ByteArray} {nL' : Nat} {ret' : Option FieldType} {v1 v2 v3 v4 : Value} (hd : dc cc pc (.invokestatic idx) 3 n) (hcl : CNS y.cls idx y' cc' nL' ret' 4) (hC : Ct b0 D dA y' cc' nL' ret' (Rm d') [v1, v2, v3, v4] dm ad ct (fun v dm ad ct => E b0 D dA y cc nL ret (RmA d C S) EX QF n lv (vl v st) dm ad ct cells slots)) (hlt : d' < d := by decide) (hnl : nL' ≤ 21 := by decide) (hcs : cells ≤ C ∧ slots ≤ S := by decide) (hst : (st.map fun v => v.category).sum ≤ 8 := by exact Nat.le_of_ble_eq_true rfl) : E b0 D dA y cc nL ret (RmA d C S) EX QF pc lv (v4 :: v3 :: v2 :: v1 :: st) dm ad ct cells slots := e_callSN4 hd hcl (rm_in hlt hnl hcs.1 hcs.2) hC hst
theorem n_callV4 {idx k i ci : Nat} {fs : List Value} {y' : MethodName} {cc' : ByteArray} {nL' : Nat} {ret' : Option FieldType} {v1 v2 v3 v4 : Value} (hd : dc cc pc (.invokevirtual idx) 3 n) (hcl : CLV y.cls idx y' cc' nL' ret' 4 ci) (hk : dm k i) (he : ct k i = .inr (ci, fs)) (hC : Ct b0 D dA y' cc' nL' ret' (Rm d') [.ref (ad k i), v1, v2, v3, v4] dm ad ct (fun v dm ad ct => E b0 D dA y cc nL ret (RmA d C S) EX QF n lv (vl v st) dm ad ct cells slots)) (hlt : d' < d := by decide) (hnl : nL' ≤ 21 := by decide) (hcs : cells ≤ C ∧ slots ≤ S := by decide) (hst : (st.map fun v => v.category).sum ≤ 8 := by exact Nat.le_of_ble_eq_true rfl) : E b0 D dA y cc nL ret (RmA d C S) EX QF pc lv (v4 :: v3 :: v2 :: v1 :: .ref (ad k i) :: st) dm ad ct cells slots := e_callV4 hd hcl hk he (rm_in hlt hnl hcs.1 hcs.2) hC hst
theorem n_callU4 {idx k i ci : Nat} {fs : List Value} {x : MethodName} {y' : MethodName} {cc' : ByteArray} {nL' : Nat} {ret' : Option FieldType} {v1 v2 v3 v4 : Value} (hd : dc cc pc (.invokevirtual idx) 3 n) (hcl : CLU y.cls idx x y' cc' nL' ret' 4 ci) (hk : dm k i) (he : ct k i = .inr (ci, fs)) (hC : Ct b0 D dA y' cc' nL' ret' (Rm d') [.ref (ad k i), v1, v2, v3, v4] dm ad ct (fun v dm ad ct => E b0 D dA y cc nL ret (RmA d C S) EX QF n lv (vl v st) dm ad ct cells slots)) (hlt : d' < d := by decide) (hnl : nL' ≤ 21 := by decide) (hcs : cells ≤ C ∧ slots ≤ S := by decide) (hst : (st.map fun v => v.category).sum ≤ 8 := by exact Nat.le_of_ble_eq_true rfl) : E b0 D dA y cc nL ret (RmA d C S) EX QF pc lv (v4 :: v3 :: v2 :: v1 :: .ref (ad k i) :: st) dm ad ct cells slots := e_callU4 hd hcl hk he (rm_in hlt hnl hcs.1 hcs.2) hC hst
theorem n_callI4 {idx a : Nat} {y' : MethodName} {cc' : ByteArray} {nL' : Nat} {v1 v2 v3 v4 : Value} (hd : dc cc pc (.invokespecial idx) 3 n) (hcl : CLI y.cls idx y' cc' nL' 4) (hC : Ct b0 D dA y' cc' nL' none (Rm d') [.ref a, v1, v2, v3, v4] dm ad ct (fun v dm ad ct => E b0 D dA y cc nL ret (RmA d C S) EX QF n lv (vl v st) dm ad ct cells slots)) (hlt : d' < d := by decide) (hnl : nL' ≤ 21 := by decide) (hcs : cells ≤ C ∧ slots ≤ S := by decide) (hst : (st.map fun v => v.category).sum ≤ 8 := by exact Nat.le_of_ble_eq_true rfl) : E b0 D dA y cc nL ret (RmA d C S) EX QF pc lv (v4 :: v3 :: v2 :: v1 :: .ref a :: st) dm ad ct cells slots := e_callI4 hd hcl (rm_in hlt hnl hcs.1 hcs.2) hC hst
theorem n_callIN4 {idx a : Nat} {y' : MethodName} {cc' : ByteArray} {nL' : Nat} {v1 v2 v3 v4 : Value} (hd : dc cc pc (.invokespecial idx) 3 n) (hcl : CNI y.cls idx y' cc' nL' 4) (hC : Ct b0 D dA y' cc' nL' none (Rm d') [.ref a, v1, v2, v3, v4] dm ad ct (fun v dm ad ct => E b0 D dA y cc nL ret (RmA d C S) EX QF n lv (vl v st) dm ad ct cells slots)) (hlt : d' < d := by decide) (hnl : nL' ≤ 21 := by decide) (hcs : cells ≤ C ∧ slots ≤ S := by decide) (hst : (st.map fun v => v.category).sum ≤ 8 := by exact Nat.le_of_ble_eq_true rfl) : E b0 D dA y cc nL ret (RmA d C S) EX QF pc lv (v4 :: v3 :: v2 :: v1 :: .ref a :: st) dm ad ct cells slots := e_callIN4 hd hcl (rm_in hlt hnl hcs.1 hcs.2) hC hst
end EM
end
section
/-! ===== the reference's state: numbers by field, int rows by field, the names; its cells: pool 16 the object, pool 17 its rows by field ===== -/
abbrev St : Type := (Nat → Int32) × (Nat → Nat → Int32) × (Nat → Int64)
def u1 {α : Type} (f : Nat → α) (k : Nat) (v : α) : Nat → α := fun j => match Nat.beq j k with
  | true => v
  | false => f j
theorem u1_s {α : Type} {f : Nat → α} {k : Nat} {v : α} : u1 f k v k = v := by unfold u1; rw [Nat.beq_refl]
theorem u1_n {α : Type} {f : Nat → α} {k j : Nat} {v : α} (h : j ≠ k) : u1 f k v j = f j := by
  unfold u1
  split
  · rename_i hb; exact absurd (Nat.eq_of_beq_eq_true hb) h
  · rfl
theorem u1_e {α : Type} {f : Nat → α} {k j : Nat} {v : α} : u1 f k v j = if j = k then v else f j := by
  by_cases h : j = k
  · subst h; rw [u1_s, if_pos rfl]
  · rw [u1_n h, if_neg h]
theorem u2_e {α : Type} {f : Nat → Nat → α} {k i k' i' : Nat} {v : α} : u2 f k i v k' i' = if k' = k ∧ i' = i then v else f k' i' := by
  by_cases h : k' = k ∧ i' = i
  · obtain ⟨rfl, rfl⟩ := h; rw [u2_s, if_pos ⟨rfl, rfl⟩]
  · rw [u2_n h, if_neg h]
theorem upd_u2 (f : Nat → Nat → Int32) (k i : Nat) (v : Int32) : upd (f k) i v = u2 f k i v k := by
  funext j
  rw [u2_e]
  simp [upd]
theorem updL_u1 (f : Nat → Int64) (i : Nat) (v : Int64) : vp_updL f i v = u1 f i v := by
  funext j
  rw [u1_e]
  rfl
def mLen : Nat → Nat
  | 1 => 60
  | 2 => 60
  | 3 => 60
  | 4 => 60
  | 5 => 60
  | 6 => 18
  | 7 => 1080
  | 9 => 520
  | 10 => 6240
  | 12 => 520
  | 13 => 520
  | 14 => 2600
  | 15 => 10
  | 16 => 6
  | 17 => 30
  | 18 => 30
  | 19 => 6
  | 20 => 24
  | 21 => 24
  | 22 => 24
  | 23 => 5
  | 24 => 5
  | 27 => 6
  | 31 => 32
  | 32 => 32
  | 33 => 32
  | _ => 0
def mIsA (j : Nat) : Bool := match mLen j with
  | 0 => false
  | _ => true
def mFld (ad : Nat → Nat → Nat) (S : St) (j : Nat) : Value := match mLen j with
  | 0 => .int (S.1 j)
  | _ => .ref (ad 17 j)
def mO (ad : Nat → Nat → Nat) (S : St) : va_E := .inr (10, [.int (S.1 0), .ref (ad 17 1), .ref (ad 17 2), .ref (ad 17 3), .ref (ad 17 4), .ref (ad 17 5), .ref (ad 17 6), .ref (ad 17 7), .int (S.1 8), .ref (ad 17 9), .ref (ad 17 10), .int (S.1 11), .ref (ad 17 12), .ref (ad 17 13), .ref (ad 17 14), .ref (ad 17 15), .ref (ad 17 16), .ref (ad 17 17), .ref (ad 17 18), .ref (ad 17 19), .ref (ad 17 20), .ref (ad 17 21), .ref (ad 17 22), .ref (ad 17 23), .ref (ad 17 24), .int (S.1 25), .int (S.1 26), .ref (ad 17 27), .int (S.1 28), .int (S.1 29), .int (S.1 30), .ref (ad 17 31), .ref (ad 17 32), .ref (ad 17 33)])
def mA (dA : Nat → ClassId) (S : St) (i : Nat) : va_E := match Nat.beq i 2 with
  | true => .inl (dA 1, 60, .inr (.inl S.2.2))
  | false => .inl (dA 0, mLen i, .inl (S.2.1 i))
def ctM (dA : Nat → ClassId) (ad : Nat → Nat → Nat) (ct0 : Nat → Nat → va_E) (S : St) : Nat → Nat → va_E := fun k i => match Nat.beq k 17 with
  | true => mA dA S i
  | false => match Nat.beq k 16 with
    | true => mO ad S
    | false => ct0 k i
/-- the reference's cells are there -/
def dmM (dm : Nat → Nat → Prop) : Prop := dm 16 0 ∧ (∀ i, dm 16 i → i = 0) ∧ ∀ i, mIsA i = true → dm 17 i
theorem ctM_o {dA : Nat → ClassId} {ad : Nat → Nat → Nat} {ct0 : Nat → Nat → va_E} {S : St} {i : Nat} : ctM dA ad ct0 S 16 i = mO ad S := rfl
theorem ctM_a {dA : Nat → ClassId} {ad : Nat → Nat → Nat} {ct0 : Nat → Nat → va_E} {S : St} {j : Nat} (h : j ≠ 2) : ctM dA ad ct0 S 17 j = .inl (dA 0, mLen j, .inl (S.2.1 j)) := by
  show mA dA S j = _
  unfold mA
  split
  · rename_i hb; exact absurd (Nat.eq_of_beq_eq_true hb) h
  · rfl
theorem ctM_n {dA : Nat → ClassId} {ad : Nat → Nat → Nat} {ct0 : Nat → Nat → va_E} {S : St} {k i : Nat} (h1 : k ≠ 17) (h2 : k ≠ 16) : ctM dA ad ct0 S k i = ct0 k i := by
  unfold ctM
  split
  · rename_i hb; exact absurd (Nat.eq_of_beq_eq_true hb) h1
  · split
    · rename_i hb; exact absurd (Nat.eq_of_beq_eq_true hb) h2
    · rfl
theorem mFld_at {ad : Nat → Nat → Nat} {S : St} {j : Nat} (h : j < 34) : ∃ fs, mO ad S = .inr (10, fs) ∧ fs[j]? = some (mFld ad S j) ∧ fs.length = 34 := by
  refine ⟨_, rfl, ?_, rfl⟩
  match j, h with
  | 0, _ => rfl
  | 1, _ => rfl
  | 2, _ => rfl
  | 3, _ => rfl
  | 4, _ => rfl
  | 5, _ => rfl
  | 6, _ => rfl
  | 7, _ => rfl
  | 8, _ => rfl
  | 9, _ => rfl
  | 10, _ => rfl
  | 11, _ => rfl
  | 12, _ => rfl
  | 13, _ => rfl
  | 14, _ => rfl
  | 15, _ => rfl
  | 16, _ => rfl
  | 17, _ => rfl
  | 18, _ => rfl
  | 19, _ => rfl
  | 20, _ => rfl
  | 21, _ => rfl
  | 22, _ => rfl
  | 23, _ => rfl
  | 24, _ => rfl
  | 25, _ => rfl
  | 26, _ => rfl
  | 27, _ => rfl
  | 28, _ => rfl
  | 29, _ => rfl
  | 30, _ => rfl
  | 31, _ => rfl
  | 32, _ => rfl
  | 33, _ => rfl
  | q + 34, h => exact absurd h (by omega)
theorem mO_put {ad : Nat → Nat → Nat} {S : St} {j : Nat} {v : Int32} (h : j < 34) (ha : mLen j = 0) : ∃ fs, mO ad S = .inr (10, fs) ∧ mO ad (u1 S.1 j v, S.2) = .inr (10, fs.set j (.int v)) ∧ fs.length = 34 := by
  refine ⟨_, rfl, ?_, rfl⟩
  match j, h, ha with
  | 0, _, _ => rfl
  | 1, _, ha => exact absurd ha (by decide)
  | 2, _, ha => exact absurd ha (by decide)
  | 3, _, ha => exact absurd ha (by decide)
  | 4, _, ha => exact absurd ha (by decide)
  | 5, _, ha => exact absurd ha (by decide)
  | 6, _, ha => exact absurd ha (by decide)
  | 7, _, ha => exact absurd ha (by decide)
  | 8, _, _ => rfl
  | 9, _, ha => exact absurd ha (by decide)
  | 10, _, ha => exact absurd ha (by decide)
  | 11, _, _ => rfl
  | 12, _, ha => exact absurd ha (by decide)
  | 13, _, ha => exact absurd ha (by decide)
  | 14, _, ha => exact absurd ha (by decide)
  | 15, _, ha => exact absurd ha (by decide)
  | 16, _, ha => exact absurd ha (by decide)
  | 17, _, ha => exact absurd ha (by decide)
  | 18, _, ha => exact absurd ha (by decide)
  | 19, _, ha => exact absurd ha (by decide)
  | 20, _, ha => exact absurd ha (by decide)
  | 21, _, ha => exact absurd ha (by decide)
  | 22, _, ha => exact absurd ha (by decide)
  | 23, _, ha => exact absurd ha (by decide)
  | 24, _, ha => exact absurd ha (by decide)
  | 25, _, _ => rfl
  | 26, _, _ => rfl
  | 27, _, ha => exact absurd ha (by decide)
  | 28, _, _ => rfl
  | 29, _, _ => rfl
  | 30, _, _ => rfl
  | 31, _, ha => exact absurd ha (by decide)
  | 32, _, ha => exact absurd ha (by decide)
  | 33, _, ha => exact absurd ha (by decide)
  | q + 34, h, _ => exact absurd h (by omega)
section MR
variable {b0 : Nat} {D : va_G} {dA : Nat → ClassId} {y : MethodName} {cc : ByteArray} {nL : Nat} {ret : Option FieldType} {R : Room} {EX : Array Value → State → Prop} {QF : List Frame → Array Value → State → State → Prop} {pc n t : Nat} {lv : Nat → Option Value} {st : List Value} {dm : Nat → Nat → Prop} {ad : Nat → Nat → Nat} {ct0 : Nat → Nat → va_E} {cells slots : Nat} {S : St} {idx j : Nat}
theorem m_get {v : Value} (hd : dc cc pc (.getfield idx) 3 n) (hg : FG y.cls idx 10 j) (hM : dmM dm) (hj : j < 34) (hv : mFld ad S j = v) (kk : E b0 D dA y cc nL ret R EX QF n lv (v :: st) dm ad (ctM dA ad ct0 S) cells slots) : E b0 D dA y cc nL ret R EX QF pc lv (.ref (ad 16 0) :: st) dm ad (ctM dA ad ct0 S) cells slots := by
  obtain ⟨fs, h1, h2, -⟩ := mFld_at (ad := ad) (S := S) hj
  rw [hv] at h2
  exact e_getf hd hg hM.1 (ctM_o.trans h1) h2 kk
theorem m_geti (hd : dc cc pc (.getfield idx) 3 n) (hg : FG y.cls idx 10 j) (hM : dmM dm) (hj : j < 34) (ha : mLen j = 0) (kk : E b0 D dA y cc nL ret R EX QF n lv (.int (S.1 j) :: st) dm ad (ctM dA ad ct0 S) cells slots) : E b0 D dA y cc nL ret R EX QF pc lv (.ref (ad 16 0) :: st) dm ad (ctM dA ad ct0 S) cells slots := m_get hd hg hM hj (by simp [mFld, ha]) kk
theorem m_geta (hd : dc cc pc (.getfield idx) 3 n) (hg : FG y.cls idx 10 j) (hM : dmM dm) (hj : j < 34) (ha : mIsA j = true) (kk : E b0 D dA y cc nL ret R EX QF n lv (.ref (ad 17 j) :: st) dm ad (ctM dA ad ct0 S) cells slots) : E b0 D dA y cc nL ret R EX QF pc lv (.ref (ad 16 0) :: st) dm ad (ctM dA ad ct0 S) cells slots := m_get hd hg hM hj (by unfold mFld; unfold mIsA at ha; split <;> simp_all) kk
theorem m_put {v : Int32} (hd : dc cc pc (.putfield idx) 3 n) (hg : FP y.cls idx 10 j .int false) (hM : dmM dm) (hj : j < 34) (ha : mLen j = 0) (kk : E b0 D dA y cc nL ret R EX QF n lv (st) dm ad (ctM dA ad ct0 (u1 S.1 j v, S.2)) cells slots) : E b0 D dA y cc nL ret R EX QF pc lv (.int v :: .ref (ad 16 0) :: st) dm ad (ctM dA ad ct0 S) cells slots := by
  obtain ⟨fs, h1, h2, h3⟩ := mO_put (ad := ad) (S := S) (v := v) hj ha
  refine e_putf (ctM dA ad ct0 (u1 S.1 j v, S.2)) hd hg hM.1 (ctM_o.trans h1) rfl rfl (by omega) (ctM_o.trans h2) (fun k' i' hd' hn => ?_) kk
  by_cases h17 : k' = 17
  · subst h17; rfl
  · by_cases h16 : k' = 16
    · subst h16; exact absurd ⟨rfl, hM.2.1 i' hd'⟩ hn
    · rw [ctM_n h17 h16, ctM_n h17 h16]
theorem m_ald {x : Int32} (hd : dc cc pc .iaload 1 n) (hM : dmM dm) (hj : mIsA j = true) (h2 : j ≠ 2) (hin : vp_in x (mLen j)) (kk : E b0 D dA y cc nL ret R EX QF n lv (.int (S.2.1 j x.toNatClampNeg) :: st) dm ad (ctM dA ad ct0 S) cells slots) : E b0 D dA y cc nL ret R EX QF pc lv (.int x :: .ref (ad 17 j) :: st) dm ad (ctM dA ad ct0 S) cells slots := e_iald hd (hM.2.2 j hj) (ctM_a h2) hin kk
theorem m_ast {x v : Int32} (hd : dc cc pc .iastore 1 n) (hM : dmM dm) (hj : mIsA j = true) (h2 : j ≠ 2) (hin : vp_in x (mLen j)) (kk : E b0 D dA y cc nL ret R EX QF n lv (st) dm ad (ctM dA ad ct0 (S.1, u2 S.2.1 j x.toNatClampNeg v, S.2.2)) cells slots) : E b0 D dA y cc nL ret R EX QF pc lv (.int v :: .int x :: .ref (ad 17 j) :: st) dm ad (ctM dA ad ct0 S) cells slots := by
  refine e_iast (ctM dA ad ct0 (S.1, u2 S.2.1 j x.toNatClampNeg v, S.2.2)) hd (hM.2.2 j hj) (ctM_a h2) hin ?_ (fun k' i' hd' hn => ?_) kk
  · rw [ctM_a h2, upd_u2]
  · by_cases h17 : k' = 17
    · subst h17
      have hi : i' ≠ j := fun q => hn ⟨rfl, q⟩
      by_cases hi2 : i' = 2
      · subst hi2; rfl
      · rw [ctM_a hi2, ctM_a hi2]
        have : u2 S.2.1 j x.toNatClampNeg v i' = S.2.1 i' := by
          funext q; exact u2_n (fun z => hi z.1)
        dsimp only
        rw [this]
    · by_cases h16 : k' = 16
      · subst h16; rfl
      · rw [ctM_n h17 h16, ctM_n h17 h16]
theorem m_aldN {x : Int32} (q : Nat) (hd : dc cc pc .iaload 1 n) (hM : dmM dm) (hj : mIsA j = true) (h2 : j ≠ 2) (hx : x = nI q) (hq : q < mLen j) (hb : mLen j < 2 ^ 31) (kk : E b0 D dA y cc nL ret R EX QF n lv (.int (S.2.1 j q) :: st) dm ad (ctM dA ad ct0 S) cells slots) : E b0 D dA y cc nL ret R EX QF pc lv (.int x :: .ref (ad 17 j) :: st) dm ad (ctM dA ad ct0 S) cells slots := by
  subst hx
  have hc : (nI q).toNatClampNeg = q := nI_clamp (by omega)
  refine m_ald hd hM hj h2 (vp_in_nI hq hb) ?_
  rw [hc]; exact kk
theorem m_astN {x v : Int32} (q : Nat) (hd : dc cc pc .iastore 1 n) (hM : dmM dm) (hj : mIsA j = true) (h2 : j ≠ 2) (hx : x = nI q) (hq : q < mLen j) (hb : mLen j < 2 ^ 31) (kk : E b0 D dA y cc nL ret R EX QF n lv (st) dm ad (ctM dA ad ct0 (S.1, u2 S.2.1 j q v, S.2.2)) cells slots) : E b0 D dA y cc nL ret R EX QF pc lv (.int v :: .int x :: .ref (ad 17 j) :: st) dm ad (ctM dA ad ct0 S) cells slots := by
  subst hx
  have hc : (nI q).toNatClampNeg = q := nI_clamp (by omega)
  refine m_ast hd hM hj h2 (vp_in_nI hq hb) ?_
  rw [hc]; exact kk
theorem m_lld {x : Int32} (hd : dc cc pc .laload 1 n) (hM : dmM dm) (hin : vp_in x 60) (kk : E b0 D dA y cc nL ret R EX QF n lv (.long (S.2.2 x.toNatClampNeg) :: st) dm ad (ctM dA ad ct0 S) cells slots) : E b0 D dA y cc nL ret R EX QF pc lv (.int x :: .ref (ad 17 2) :: st) dm ad (ctM dA ad ct0 S) cells slots := e_lald hd (hM.2.2 2 rfl) rfl hin kk
theorem m_lst {x : Int32} {v : Int64} (hd : dc cc pc .lastore 1 n) (hM : dmM dm) (hin : vp_in x 60) (kk : E b0 D dA y cc nL ret R EX QF n lv (st) dm ad (ctM dA ad ct0 (S.1, S.2.1, u1 S.2.2 x.toNatClampNeg v)) cells slots) : E b0 D dA y cc nL ret R EX QF pc lv (.long v :: .int x :: .ref (ad 17 2) :: st) dm ad (ctM dA ad ct0 S) cells slots := by
  refine e_last (ctM dA ad ct0 (S.1, S.2.1, u1 S.2.2 x.toNatClampNeg v)) hd (hM.2.2 2 rfl) rfl hin ?_ (fun k' i' hd' hn => ?_) kk
  · rw [updL_u1]; rfl
  · by_cases h17 : k' = 17
    · subst h17
      have hi : i' ≠ 2 := fun q => hn ⟨rfl, q⟩
      rw [ctM_a hi, ctM_a hi]
    · by_cases h16 : k' = 16
      · subst h16; rfl
      · rw [ctM_n h17 h16, ctM_n h17 h16]
theorem m_lldN {x : Int32} (q : Nat) (hd : dc cc pc .laload 1 n) (hM : dmM dm) (hx : x = nI q) (hq : q < 60) (kk : E b0 D dA y cc nL ret R EX QF n lv (.long (S.2.2 q) :: st) dm ad (ctM dA ad ct0 S) cells slots) : E b0 D dA y cc nL ret R EX QF pc lv (.int x :: .ref (ad 17 2) :: st) dm ad (ctM dA ad ct0 S) cells slots := by
  subst hx
  have hc : (nI q).toNatClampNeg = q := nI_clamp (by omega)
  refine m_lld hd hM (vp_in_nI hq (by decide)) ?_
  rw [hc]; exact kk
theorem m_lstN {x : Int32} {v : Int64} (q : Nat) (hd : dc cc pc .lastore 1 n) (hM : dmM dm) (hx : x = nI q) (hq : q < 60) (kk : E b0 D dA y cc nL ret R EX QF n lv (st) dm ad (ctM dA ad ct0 (S.1, S.2.1, u1 S.2.2 q v)) cells slots) : E b0 D dA y cc nL ret R EX QF pc lv (.long v :: .int x :: .ref (ad 17 2) :: st) dm ad (ctM dA ad ct0 S) cells slots := by
  subst hx
  have hc : (nI q).toNatClampNeg = q := nI_clamp (by omega)
  refine m_lst hd hM (vp_in_nI hq (by decide)) ?_
  rw [hc]; exact kk
theorem e_topi {x x' : Int32} {ct : Nat → Nat → va_E} (h : x = x') (kk : E b0 D dA y cc nL ret R EX QF pc lv (.int x' :: st) dm ad ct cells slots) : E b0 D dA y cc nL ret R EX QF pc lv (.int x :: st) dm ad ct cells slots := h ▸ kk
end MR
theorem qi {Q : PQ} {dm : Nat → Nat → Prop} {ad : Nat → Nat → Nat} {ct : Nat → Nat → va_E} {a b : Int32} (h : Q (some (.int a)) dm ad ct) (e : b = a) : Q (some (.int b)) dm ad ct := e ▸ h
end
section
/-! ===== what the reference's methods answer, as functions ===== -/
def inB (v lo hi : Int32) : Bool := decide (lo ≤ v) && decide (v ≤ hi)
theorem inB_f1 {v lo hi : Int32} (h : v < lo) : inB v lo hi = false := by
  unfold inB
  rw [decide_eq_false (Int32.not_le.mpr h)]; rfl
theorem inB_f2 {v lo hi : Int32} (h : hi < v) : inB v lo hi = false := by
  unfold inB
  rw [decide_eq_false (Int32.not_le.mpr h)]; exact Bool.and_false _
theorem inB_t {v lo hi : Int32} (h : ¬ v < lo) (h2 : ¬ hi < v) : inB v lo hi = true := by
  unfold inB
  rw [decide_eq_true (Int32.not_lt.mp h), decide_eq_true (Int32.not_lt.mp h2)]; rfl
theorem inB_iff {v lo hi : Int32} : inB v lo hi = true ↔ lo ≤ v ∧ v ≤ hi := by simp [inB]
def fnd (p : Nat → Bool) : Nat → Nat → Option Nat
  | 0, _ => none
  | k + 1, i => match p i with
    | true => some i
    | false => fnd p k (i + 1)
def oI : Option Nat → Int32
  | some j => nI j
  | none => -3
theorem fnd_t {p : Nat → Bool} {k i : Nat} (h : p i = true) : fnd p (k + 1) i = some i := by simp [fnd, h]
theorem fnd_f {p : Nat → Bool} {k i : Nat} (h : p i = false) : fnd p (k + 1) i = fnd p k (i + 1) := by simp [fnd, h]
theorem fnd_spec (p : Nat → Bool) : ∀ k i, (∃ j, fnd p k i = some j ∧ i ≤ j ∧ j < i + k ∧ p j = true ∧ ∀ l, i ≤ l → l < j → p l = false) ∨ (fnd p k i = none ∧ ∀ l, i ≤ l → l < i + k → p l = false) := by
  intro k
  induction k with
  | zero => intro i; exact Or.inr ⟨rfl, fun l h1 h2 => by omega⟩
  | succ k ih =>
    intro i
    cases hp : p i with
    | true => exact Or.inl ⟨i, fnd_t hp, Nat.le_refl _, by omega, hp, fun l h1 h2 => by omega⟩
    | false =>
      rw [fnd_f hp]
      rcases ih (i + 1) with ⟨j, h1, h2, h3, h4, h5⟩ | ⟨h1, h2⟩
      · refine Or.inl ⟨j, h1, by omega, by omega, h4, fun l g1 g2 => ?_⟩
        by_cases hl : l = i
        · subst hl; exact hp
        · exact h5 l (by omega) g2
      · refine Or.inr ⟨h1, fun l g1 g2 => ?_⟩
        by_cases hl : l = i
        · subst hl; exact hp
        · exact h2 l (by omega) (by omega)
theorem fnd_lt {p : Nat → Bool} {k i j : Nat} (h : fnd p k i = some j) : j < i + k := by
  rcases fnd_spec p k i with ⟨j', h1, -, h3, -⟩ | ⟨h1, -⟩
  · rw [h1] at h; cases h; exact h3
  · rw [h1] at h; cases h
theorem fnd_none {p : Nat → Bool} {k i : Nat} (h : fnd p k i = none) : ∀ l, i ≤ l → l < i + k → p l = false := by
  rcases fnd_spec p k i with ⟨j', h1, -⟩ | ⟨-, h2⟩
  · rw [h1] at h; cases h
  · exact h2
theorem inc1 (i : Nat) : nI i + Int32.ofInt 1 = nI (i + 1) := nI_1 i
theorem li_1 : (1 : Int32) = nI 1 := rfl
theorem li_2 : (2 : Int32) = nI 2 := rfl
theorem li_3 : (3 : Int32) = nI 3 := rfl
theorem li_4 : (4 : Int32) = nI 4 := rfl
theorem li_5 : (5 : Int32) = nI 5 := rfl
theorem li_12 : (12 : Int32) = nI 12 := rfl
theorem li_60 : (60 : Int32) = nI 60 := rfl
theorem lcmp_ne {a b : Int64} (h : ¬ lg_cmp a b = 0) : ¬ a = b := by
  intro e; subst e; apply h; unfold lg_cmp; simp
theorem lcmp_eq {a b : Int64} (h : lg_cmp a b = 0) : a = b := by
  unfold lg_cmp at h
  split at h
  · exact absurd h (by decide)
  · split at h
    · assumption
    · exact absurd h (by decide)
def byP (S : St) (kind : Int32) (name : Int64) : Nat → Bool := fun c => decide (S.2.1 1 c = kind) && decide (S.2.2 c = name)
def orP (S : St) (b : Nat) (c : Int32) : Nat → Bool := fun i => decide (S.2.1 7 (60 * b + i) = c)
def laP (S : St) (b : Nat) : Nat → Bool := fun i => decide (S.2.1 4 (S.2.1 7 (60 * b + i)).toNatClampNeg = 0)
/-- the CONSTANT c behind the others of build row b, which has m -/
def apS (S : St) (b m : Nat) (c : Int32) : St := (S.1, u2 (u2 S.2.1 7 (60 * b + m) c) 6 b (nI (m + 1)), S.2.2)
theorem qs {Q : PQ} {dA : Nat → ClassId} {dm : Nat → Nat → Prop} {ad : Nat → Nat → Nat} {ct0 : Nat → Nat → va_E} {F : Int32 × St} {r : Int32} {S' : St} (h : Q (some (.int F.1)) dm ad (ctM dA ad ct0 F.2)) (e : F = (r, S')) : Q (some (.int r)) dm ad (ctM dA ad ct0 S') := by
  subst e; exact h
theorem qv {Q : PQ} {dA : Nat → ClassId} {dm : Nat → Nat → Prop} {ad : Nat → Nat → Nat} {ct0 : Nat → Nat → va_E} {F S' : St} (h : Q none dm ad (ctM dA ad ct0 F)) (e : F = S') : Q none dm ad (ctM dA ad ct0 S') := by
  subst e; exact h
theorem inB_n {v : Int32} {N : Nat} (hN : N < 2 ^ 30) (h : inB v 0 (nI N - 1) = true) : ∃ j, j < N ∧ v = nI j := by
  obtain ⟨h1, h2⟩ := inB_iff.mp h
  obtain ⟨j, hj, rfl⟩ := nI_of (Int32.not_lt.mpr h1)
  refine ⟨j, ?_, rfl⟩
  have e1 : (nI N - 1).toInt = (N : Int) - 1 := pk_sub_toInt (b := 1) hN (by decide)
  have e2 := Int32.le_iff_toInt_le.mp h2
  rw [e1, nI_toInt hj] at e2
  omega
theorem inB_nN {j N : Nat} (hN : N < 2 ^ 30) (hj : j < N) : inB (nI j) 0 (nI N - 1) = true := by
  refine inB_iff.mpr ⟨nI_pos' (by omega), ?_⟩
  have e1 : (nI N - 1).toInt = (N : Int) - 1 := pk_sub_toInt (b := 1) hN (by decide)
  refine Int32.le_iff_toInt_le.mpr ?_
  rw [e1, nI_toInt (by omega)]
  omega
theorem inB_l {v hi : Int32} {a b : Nat} {lo : Int32} (hl : lo = nI a) (hb : hi = nI b) (ha : a < 2 ^ 31) (hb2 : b < 2 ^ 31) (h : inB v lo hi = true) : ∃ j, a ≤ j ∧ j ≤ b ∧ v = nI j := by
  obtain ⟨h1, h2⟩ := inB_iff.mp h
  subst hl; subst hb
  have h0 : ¬ v < 0 := Int32.not_lt.mpr (Int32.le_trans (nI_pos' ha) h1)
  obtain ⟨j, hj, rfl⟩ := nI_of h0
  exact ⟨j, (nI_leI ha hj).mp h1, (nI_leI hj hb2).mp h2, rfl⟩
theorem inB_ln {j a b : Nat} (h1 : a ≤ j) (h2 : j ≤ b) (hb : b < 2 ^ 31) : inB (nI j) (nI a) (nI b) = true := inB_iff.mpr ⟨(nI_leI (by omega) (by omega)).mpr h1, (nI_leI (by omega) (by omega)).mpr h2⟩
/-! the numbers of a state, and what holds of them at every time -/
def nC (S : St) : Nat := (S.1 0).toNatClampNeg
def nR (S : St) : Nat := (S.1 8).toNatClampNeg
def nD (S : St) : Nat := (S.1 11).toNatClampNeg
def kN (S : St) (c : Nat) : Nat := (S.2.1 1 c).toNatClampNeg
def mb (S : St) (b : Nat) : Nat := (S.2.1 6 b).toNatClampNeg
def bc (S : St) (b i : Nat) : Nat := (S.2.1 7 (60 * b + i)).toNatClampNeg
def wN (S : St) (c : Nat) : Nat := (S.2.1 4 c).toNatClampNeg
def sz (S : St) (r : Nat) : Nat := (S.2.1 9 r).toNatClampNeg
def shN (S : St) (d : Nat) : Nat := (S.2.1 12 d).toNatClampNeg
def pN (S : St) (d : Nat) : Nat := (S.2.1 13 d).toNatClampNeg
def pmN (S : St) (s : Nat) : Nat := (S.2.1 16 s).toNatClampNeg
def cmN (S : St) (s : Nat) : Nat := (S.2.1 19 s).toNatClampNeg
/-- a THING's number: NOTHING, a CONSTANT, a ROW, a RECORD that is there -/
def okT (S : St) (v : Int32) : Prop := v = -1 ∨ (∃ c, c < nC S ∧ v = nI c) ∨ (∃ r, r < nR S ∧ v = nI (100 + r)) ∨ ∃ d, d < nD S ∧ v = nI (100000 + d)
def I_c (S : St) : Prop := S.1 0 = nI (nC S) ∧ nC S ≤ 60 ∧ (∀ c, c < nC S → S.2.1 1 c = nI (kN S c) ∧ kN S c < 6 ∧ (S.2.1 3 c = 0 ∨ S.2.1 3 c = 1 ∨ S.2.1 3 c = 2) ∧ S.2.1 4 c = nI (wN S c) ∧ wN S c ≤ 1000) ∧ ∀ c c', c < nC S → c' < nC S → kN S c = kN S c' → S.2.2 c = S.2.2 c' → c = c'
def I_z (S : St) : Prop := ∀ c, nC S ≤ c → c < 60 → S.2.1 4 c = 0 ∧ S.2.1 5 c = 0
def I_b (S : St) : Prop := ∀ b, b < 18 → S.2.1 6 b = nI (mb S b) ∧ mb S b ≤ nC S ∧ (∀ i, i < mb S b → S.2.1 7 (60 * b + i) = nI (bc S b i) ∧ bc S b i < nC S ∧ kN S (bc S b i) = b / 3) ∧ ∀ i j, i < mb S b → j < mb S b → bc S b i = bc S b j → i = j
def I_o (S : St) : Prop := ∀ c, c < nC S → ∃ i, i < mb S (3 * kN S c) ∧ bc S (3 * kN S c) i = c
def I_r (S : St) (t : Nat) : Prop := S.1 8 = nI (nR S) ∧ nR S ≤ t ∧ ∀ r, r < nR S → S.2.1 9 r = nI (sz S r) ∧ sz S r ≤ 12
def I_s (S : St) : Prop := ∀ s, s < 6 → S.2.1 16 s = nI (pmN S s) ∧ pmN S s ≤ 5 ∧ S.2.1 19 s = nI (cmN S s) ∧ cmN S s ≤ 4 ∧
  (∀ p, p < pmN S s → (S.2.1 17 (5 * s + p) = 0 ∨ S.2.1 17 (5 * s + p) = 1 ∨ S.2.1 17 (5 * s + p) = 2 ∨ S.2.1 17 (5 * s + p) = 3 ∨ S.2.1 17 (5 * s + p) = 4)) ∧
  ∀ c, c < cmN S s → ∃ a b, a < pmN S s ∧ b < pmN S s ∧ S.2.1 21 (4 * s + c) = nI a ∧ S.2.1 22 (4 * s + c) = nI b ∧ S.2.1 17 (5 * s + b) = 0 ∧
    ((S.2.1 20 (4 * s + c) = 0 ∧ S.2.1 17 (5 * s + a) = 0) ∨ (S.2.1 20 (4 * s + c) = 1 ∧ S.2.1 17 (5 * s + a) = 0) ∨ (S.2.1 20 (4 * s + c) = 2 ∧ S.2.1 17 (5 * s + a) = 3) ∨ (S.2.1 20 (4 * s + c) = 3 ∧ S.2.1 17 (5 * s + a) = 3) ∨ (S.2.1 20 (4 * s + c) = 4 ∧ (S.2.1 17 (5 * s + a) = 1 ∨ S.2.1 17 (5 * s + a) = 2)) ∨ (S.2.1 20 (4 * s + c) = 5 ∧ S.2.1 17 (5 * s + a) = 4))
/-- a value that a PART of a sort may hold -/
def okV (S : St) (sort v : Int32) : Prop := sort = 0 ∨ v = -1 ∨ ((sort = 1 ∨ sort = 2) ∧ ∃ c, c < nC S ∧ v = nI c) ∨ (sort = 3 ∧ ∃ r, r < nR S ∧ v = nI (100 + r)) ∨ (sort = 4 ∧ ∃ d, d < nD S ∧ v = nI (100000 + d))
def I_d (S : St) (t : Nat) : Prop := S.1 11 = nI (nD S) ∧ nD S ≤ t ∧ ∀ d, d < nD S → S.2.1 12 d = nI (shN S d) ∧ shN S d < 6 ∧ S.2.1 13 d = nI (pN S d) ∧ pN S d ≤ pmN S (shN S d) ∧ ∀ p, p < pN S d → (S.2.1 17 (5 * shN S d + p) = 0 ∧ ∃ q, q < 2 ^ 31 ∧ S.2.1 14 (5 * d + p) = nI q) ∨ (S.2.1 17 (5 * shN S d + p) ≠ 0 ∧ okV S (S.2.1 17 (5 * shN S d + p)) (S.2.1 14 (5 * d + p)))
def I_p (S : St) : Prop := (∀ p, p < 10 → okT S (S.2.1 15 p)) ∧ ∀ p, p < 5 → ∃ q, q < 10 ∧ S.2.1 24 p = nI q
/-- all of it, after at most t calls -/
def Inv (S : St) (t : Nat) : Prop := I_c S ∧ I_b S ∧ I_o S ∧ I_r S t ∧ I_s S ∧ I_d S t ∧ I_p S ∧ t ≤ 512 ∧ I_z S
theorem m1_n (N : Nat) (h : 0 < N) : nI N - 1 = nI (N - 1) := pk_sub (b := 1) h
/-! ===== the calls' answers and states ===== -/
def tN (x : Int32) : Nat := x.toNatClampNeg
theorem tN_n {n : Nat} (h : n < 2 ^ 31) : tN (nI n) = n := nI_clamp h
def isC (S : St) (c : Int32) : Bool := inB c 0 (S.1 0 - 1)
def F_arrange (S : St) (c bd : Int32) : Int32 × St :=
  if (isC S c && inB bd 1 2) = true then
    match fnd (orP S (3 * kN S (tN c) + tN bd) c) (mb S (3 * kN S (tN c) + tN bd)) 0 with
    | some _ => (-1, S)
    | none => (nI (mb S (3 * kN S (tN c) + tN bd)), apS S (3 * kN S (tN c) + tN bd) (mb S (3 * kN S (tN c) + tN bd)) c)
  else (-1, S)
def usr (x : Int64) (y : Int32) : Int64 := (x.toUInt64 >>> (y.toInt64.toUInt64 &&& Int64.toUInt64 63)).toInt64
def drw1 (seed : Int64) (n : Int32) : Int64 := seed + (n.toInt64 + 1) * (-7046029254386353131)
def drw2 (z : Int64) : Int64 := (z ^^^ usr z 30) * (-4658895280553007687)
def drw3 (z : Int64) : Int64 := (z ^^^ usr z 27) * (-7723592293110705685)
def drw (seed : Int64) (n : Int32) : Int64 := drw3 (drw2 (drw1 seed n)) ^^^ usr (drw3 (drw2 (drw1 seed n))) 31
def lrm (x y : Int64) : Int64 := x - x / y * y
def mdl (z : Int64) (n : Int32) : Int32 := (lrm (lrm (usr z 1) n.toInt64 * 2 + (z &&& 1)) n.toInt64).toInt32
def swp (a : Nat → Nat → Int32) (p q : Nat) : Nat → Nat → Int32 := u2 (u2 a 7 p (a 7 q)) 7 q (a 7 p)
def shufA (seed : Int64) (b : Nat) : Nat → (Nat → Nat → Int32) → (Nat → Nat → Int32)
  | 0, a => a
  | i + 1, a => shufA seed b i (swp a (60 * b + (i + 1)) (60 * b + tN (mdl (drw seed (nI (i + 1))) (nI (i + 2)))))
def F_shuffle (S : St) (kind bd : Int32) (seed : Int64) : Int32 × St :=
  if (inB kind 0 5 && inB bd 1 2) = true then (S.2.1 6 (3 * tN kind + tN bd), (S.1, shufA seed (3 * tN kind + tN bd) (mb S (3 * tN kind + tN bd) - 1) S.2.1, S.2.2)) else (-1, S)
def F_kind (S : St) (kind bd i : Int32) : Int32 :=
  if (inB kind 0 5 && inB bd 0 2) = true then (if i = -3 then S.2.1 6 (3 * tN kind + tN bd) else if inB i 0 (S.2.1 6 (3 * tN kind + tN bd) - 1) = true then S.2.1 7 (60 * (3 * tN kind + tN bd) + tN i) else -1) else -1
def F_named (S : St) (kind : Int32) (name : Int64) : Int32 := if inB kind 0 5 = true then oI (fnd (byP S kind name) (nC S) 0) else -1
def F_order (S : St) (c bd : Int32) : Int32 := if (isC S c && inB bd 0 2) = true then oI (fnd (orP S (3 * kN S (tN c) + tN bd) c) (mb S (3 * kN S (tN c) + tN bd)) 0) else -1
def F_about (S : St) (c what : Int32) : Int32 := if (isC S c && inB what 0 3) = true then (if what = 0 then S.2.1 1 (tN c) else if what = 1 then S.2.1 3 (tN c) else if what = 2 then S.2.1 4 (tN c) else S.2.1 5 (tN c)) else -1
def stS (S : St) (c : Nat) : St := (S.1, u2 S.2.1 27 (kN S c) (if S.2.1 27 (kN S c) = -3 then S.1 28 else S.2.1 27 (kN S c)), S.2.2)
def actS (S : St) : St := (u1 S.1 28 (S.1 28 + 1), S.2)
def wor (body w : Int32) : Int32 := if body = 0 then w else if body = 1 then 2 * w else 2 * w - 3
def F_worth (S : St) (c v : Int32) : Int32 × St := if isC S c = true then (wor (S.2.1 3 (tN c)) (v + oI (fnd (orP S (3 * kN S (tN c)) c) (mb S (3 * kN S (tN c))) 0)), actS (stS S (tN c))) else (-1, S)
def F_weigh (S : St) (c w : Int32) : Int32 × St := if (isC S c && inB w 0 1000) = true then (S.2.1 4 (tN c), (S.1, u2 S.2.1 4 (tN c) w, S.2.2)) else (-1, S)
def lackF (S : St) (b : Nat) : Int32 := match fnd (laP S b) (mb S b) 0 with
  | some i => -10 - S.2.1 7 (60 * b + i)
  | none => if S.2.1 6 b = 0 then 1 else 0
def F_table (S : St) (kind bd : Int32) : Int32 := if (inB kind 0 5 && inB bd 0 2) = true then lackF S (3 * tN kind + tN bd) else -1
def sumW (S : St) (b : Nat) : Nat → Nat
  | 0 => 0
  | i + 1 => sumW S b i + wN S (bc S b i)
def pick (S : St) (b : Nat) : Nat → Nat → Nat → Nat
  | 0, _, i => i
  | k + 1, l, i => if wN S (bc S b i) ≤ l then pick S b k (l - wN S (bc S b i)) (i + 1) else i
def drS (S : St) (c : Nat) : St := actS (stS (u1 S.1 29 (S.1 29 + 1), u2 S.2.1 5 c (S.2.1 5 c + 1), S.2.2) c)
def F_draw (S : St) (kind bd : Int32) (seed : Int64) (n : Int32) : Int32 × St :=
  if (inB kind 0 5 && inB bd 0 2 && decide (0 ≤ n)) = true then
    (if lackF S (3 * tN kind + tN bd) = 0 then (S.2.1 7 (60 * (3 * tN kind + tN bd) + pick S (3 * tN kind + tN bd) (mb S (3 * tN kind + tN bd)) (tN (mdl (drw seed n) (nI (sumW S (3 * tN kind + tN bd) (mb S (3 * tN kind + tN bd)))))) 0),
      drS S (bc S (3 * tN kind + tN bd) (pick S (3 * tN kind + tN bd) (mb S (3 * tN kind + tN bd)) (tN (mdl (drw seed n) (nI (sumW S (3 * tN kind + tN bd) (mb S (3 * tN kind + tN bd)))))) 0))) else (-3, S))
  else (-1, S)
def famF (S : St) (v : Int32) : Int32 := if v = -1 then 0 else if v < 100 then 1 + S.2.1 3 (tN v) else if v < 100000 then 4 else 5
def F_hold (S : St) (p c : Int32) : Int32 × St := if (inB p 0 9 && isC S c) = true then (S.2.1 1 (tN c), actS (stS (S.1, u2 S.2.1 15 (tN p) c, S.2.2) (tN c))) else (-1, S)
theorem dec1 (i : Nat) : nI (i + 1) + Int32.ofInt (-1) = nI i := pk_m1 i
theorem shufA_o (seed : Int64) (b : Nat) : ∀ i a k x, k ≠ 7 → shufA seed b i a k x = a k x := by
  intro i
  induction i with
  | zero => intro a k x _; rfl
  | succ i ih =>
    intro a k x hk
    show shufA seed b i _ k x = _
    rw [ih _ k x hk]
    unfold swp
    rw [u2_n (fun h => hk h.1), u2_n (fun h => hk h.1)]
def lackM (S : St) (b : Nat) (o : Option Nat) : Int32 := match o with
  | some i => -10 - S.2.1 7 (60 * b + i)
  | none => if S.2.1 6 b = 0 then 1 else 0
def chN (name : Int64) (i : Nat) : Int32 := (usr name (8 * nI i)).toInt32 &&& 255
def letB (c : Int32) : Bool := decide (97 ≤ c) && decide (c ≤ 122)
theorem letB_f1 {c : Int32} (h : c < 97) : letB c = false := by unfold letB; rw [decide_eq_false (Int32.not_le.mpr h)]; rfl
theorem letB_f2 {c : Int32} (h : 122 < c) : letB c = false := by unfold letB; rw [decide_eq_false (Int32.not_le.mpr h)]; exact Bool.and_false _
theorem letB_t {c : Int32} (h : ¬ c < 97) (h2 : ¬ 122 < c) : letB c = true := by unfold letB; rw [decide_eq_true (Int32.not_lt.mp h), decide_eq_true (Int32.not_lt.mp h2)]; rfl
def nmL (name : Int64) : Nat → Nat → Bool → Bool → Nat → Bool
  | 0, _, is, _, n => is && decide (0 < n)
  | k + 1, i, is, en, n => nmL name k (i + 1) (is && (decide (chN name i = 0) || (!(en || decide (chN name i = 0)) && letB (chN name i)))) (en || decide (chN name i = 0)) (n + if chN name i = 0 then 0 else 1)
def nameB (name : Int64) : Bool := nmL name 8 0 true false 0
theorem bI_or (a b : Bool) : bI a ||| bI b = bI (a || b) := by cases a <;> cases b <;> decide
theorem bI_and (a b : Bool) : bI a &&& bI b = bI (a && b) := by cases a <;> cases b <;> decide
def coS (S : St) (kind : Int32) (name : Int64) (body : Int32) : St := (u1 S.1 0 (S.1 0 + 1), u2 (u2 S.2.1 1 (nC S) kind) 3 (nC S) body, u1 S.2.2 (nC S) name)
def F_constant (S : St) (kind : Int32) (name : Int64) (body : Int32) : Int32 × St :=
  if (inB kind 0 5 && nameB name && decide (fnd (byP S kind name) (nC S) 0 = none) && inB body 0 2) = true then
    (if S.1 0 = 60 then (-2, S) else (nI (nC S), apS (coS S kind name body) (3 * tN kind) (mb S (3 * tN kind)) (nI (nC S)))) else (-1, S)
def zerA (r : Nat) : Nat → (Nat → Nat → Int32) → (Nat → Nat → Int32)
  | 0, a => a
  | i + 1, a => u2 (zerA r i a) 10 (12 * r + i) 0
def F_row (S : St) (p n : Int32) : Int32 × St :=
  if (inB p 0 9 && (decide (n = -3) || inB n 0 12)) = true then
    (if n = -3 then (1, (S.1, u2 S.2.1 15 (tN p) (-1), S.2.2)) else (1, (u1 S.1 8 (S.1 8 + 1), u2 (zerA (nR S) 12 (u2 S.2.1 9 (nR S) n)) 15 (tN p) (nI (100 + nR S)), S.2.2))) else (-1, S)
def F_item (S : St) (p i v : Int32) : Int32 × St :=
  if (inB p 0 9 && decide (famF S (S.2.1 15 (tN p)) = 4)) = true then
    (if inB i 0 (S.2.1 9 (tN (S.2.1 15 (tN p)) - 100) - 1) = true then (S.2.1 10 (12 * (tN (S.2.1 15 (tN p)) - 100) + tN i), (S.1, u2 S.2.1 10 (12 * (tN (S.2.1 15 (tN p)) - 100) + tN i) v, S.2.2)) else (-1, S)) else (-1, S)
def F_share (S : St) (p q : Int32) : Int32 × St := if (inB p 0 9 && inB q 0 9) = true then (famF S (S.2.1 15 (tN q)), (S.1, u2 S.2.1 15 (tN p) (S.2.1 15 (tN q)), S.2.2)) else (-1, S)
def F_family (S : St) (p : Int32) : Int32 := if inB p 0 9 = true then famF S (S.2.1 15 (tN p)) else -1
def F_is (S : St) (p f : Int32) : Int32 := if (inB p 0 9 && inB f 1 5) = true then bI (decide (famF S (S.2.1 15 (tN p)) = f) || (decide (famF S (S.2.1 15 (tN p)) = 3) && decide (f = 2))) else -1
theorem okT_fam {S : St} {v : Int32} (h : okT S v) (hR : nR S ≤ 512) (hC : nC S ≤ 60) : v = -1 ∨ (v < 100 ∧ ¬ v = -1 ∧ ∃ c, c < nC S ∧ v = nI c) ∨ (¬ v = -1 ∧ ¬ v < 100 ∧ v < 100000 ∧ ∃ r, r < nR S ∧ v = nI (100 + r)) ∨ (¬ v = -1 ∧ ¬ v < 100 ∧ ¬ v < 100000 ∧ ∃ d, d < nD S ∧ v = nI (100000 + d)) := by
  sorry
theorem sumW_le {S : St} {b m : Nat} (hm : m ≤ 60) (h : ∀ i, i < m → wN S (bc S b i) ≤ 1000) : sumW S b m ≤ 60000 := by
  have key : ∀ j, j ≤ m → sumW S b j ≤ 1000 * j := by
    intro j
    induction j with
    | zero => intro _; exact Nat.le_refl _
    | succ j ih => intro hj; have := ih (by omega); have := h j (by omega); rw [sumW]; omega
  have := key m (Nat.le_refl _)
  omega
theorem lack_sum {S : St} {b : Nat} (hw : ∀ i, i < mb S b → S.2.1 4 (bc S b i) = nI (wN S (bc S b i))) (hm : S.2.1 6 b = nI (mb S b)) (h : lackF S b = 0) : 0 < sumW S b (mb S b) := by
  sorry
theorem pick_i {S : St} {b m : Nat} : ∀ k l i, i + k = m → l + sumW S b i < sumW S b m → pick S b k l i < m := by
  intro k
  induction k with
  | zero => intro l i hi hs; rw [Nat.add_zero] at hi; subst hi; omega
  | succ k ih =>
    intro l i hi hs
    rw [pick]
    split
    · exact ih _ _ (by omega) (by rw [sumW]; omega)
    · omega
theorem pick_lt {S : St} {b l m : Nat} (h : l < sumW S b m) : pick S b m l 0 < m := pick_i m l 0 (by omega) (by simpa [sumW] using h)
theorem fam4 {S : St} {v : Int32} (h : okT S v) (hR : nR S ≤ 512) (hC : nC S ≤ 60) (hb : ∀ c, c < nC S → S.2.1 1 c = nI (kN S c) ∧ kN S c < 6 ∧ (S.2.1 3 c = 0 ∨ S.2.1 3 c = 1 ∨ S.2.1 3 c = 2) ∧ S.2.1 4 c = nI (wN S c) ∧ wN S c ≤ 1000) (hf : famF S v = 4) : ∃ r, r < nR S ∧ v = nI (100 + r) := by
  rcases okT_fam h hR hC with h1 | ⟨h1, h2, c, hc, rfl⟩ | ⟨h1, h2, h3, h4⟩ | ⟨h1, h2, h3, h4⟩
  · rw [famF, if_pos h1] at hf; exact absurd hf (by decide)
  · rw [famF, if_neg h2, if_pos h1, tN_n (by omega)] at hf
    rcases (hb c hc).2.2.1 with z | z | z <;> rw [z] at hf <;> exact absurd hf (by decide)
  · exact h4
  · rw [famF, if_neg h1, if_neg h2, if_neg h3] at hf; exact absurd hf (by decide)
end
section
set_option maxRecDepth 100000 in
set_option maxHeartbeats 4000000 in
theorem c_X12_in {b0 : Nat} {D : va_G} {dA : Nat → ClassId} {dm : Nat → Nat → Prop} {ad : Nat → Nat → Nat} {Q : PQ} {ct : Nat → Nat → va_E} (v lo hi : Int32) (hq : Q (some (.int (bI (inB v lo hi)))) dm ad ct) : Ct b0 D dA yX12_in cX12_in 3 (some .boolean) (Rm 0) [.int v, .int lo, .int hi] dm ad ct Q := by
  refine ct_of (by decide) (Nat.le_of_ble_eq_true rfl) ?_
  refine e_iload dX12_in_0 rfl ?_
  refine e_iload dX12_in_1 rfl ?_
  refine e_icmp_lt dX12_in_2 (fun h2 => ?_) (fun h2 => ?_)
  · refine e_push dX12_in_14 ?_
    exact e_iret dX12_in_15 rfl (by first | rfl | exact bI_n _) (qi hq (by first | (rw [inB_f1 (by assumption)]; rfl) | (rw [inB_f2 (by assumption)]; rfl) | (rw [inB_t (by assumption) (by assumption)]; rfl))) (by decide) (by decide)
  · refine e_iload dX12_in_5 rfl ?_
    refine e_iload dX12_in_6 rfl ?_
    refine e_icmp_gt dX12_in_7 (fun h7 => ?_) (fun h7 => ?_)
    · refine e_push dX12_in_14 ?_
      exact e_iret dX12_in_15 rfl (by first | rfl | exact bI_n _) (qi hq (by first | (rw [inB_f1 (by assumption)]; rfl) | (rw [inB_f2 (by assumption)]; rfl) | (rw [inB_t (by assumption) (by assumption)]; rfl))) (by decide) (by decide)
    · refine e_push dX12_in_10 ?_
      refine e_goto dX12_in_11 ?_
      exact e_iret dX12_in_15 rfl (by first | rfl | exact bI_n _) (qi hq (by first | (rw [inB_f1 (by assumption)]; rfl) | (rw [inB_f2 (by assumption)]; rfl) | (rw [inB_t (by assumption) (by assumption)]; rfl))) (by decide) (by decide)
set_option maxRecDepth 100000 in
set_option maxHeartbeats 4000000 in
theorem c_X12_isKind {b0 : Nat} {D : va_G} {dA : Nat → ClassId} {dm : Nat → Nat → Prop} {ad : Nat → Nat → Nat} {Q : PQ} {ct : Nat → Nat → va_E} (v : Int32) (hq : Q (some (.int (bI (inB v 0 5)))) dm ad ct) : Ct b0 D dA yX12_isKind cX12_isKind 1 (some .boolean) (Rm 1) [.int v] dm ad ct Q := by
  refine ct_of (by decide) (Nat.le_of_ble_eq_true rfl) ?_
  refine e_iload dX12_isKind_0 rfl ?_
  refine e_push dX12_isKind_1 ?_
  refine e_push dX12_isKind_2 ?_
  refine n_callS3 dX12_isKind_3 ca_X12_96  (c_X12_in _ _ _ ?_) 
  exact e_iret dX12_isKind_6 rfl (by first | rfl | exact bI_n _) hq (by decide) (by decide)
set_option maxRecDepth 100000 in
set_option maxHeartbeats 4000000 in
theorem c_X12_isPlace {b0 : Nat} {D : va_G} {dA : Nat → ClassId} {dm : Nat → Nat → Prop} {ad : Nat → Nat → Nat} {Q : PQ} {ct : Nat → Nat → va_E} (v : Int32) (hq : Q (some (.int (bI (inB v 0 9)))) dm ad ct) : Ct b0 D dA yX12_isPlace cX12_isPlace 1 (some .boolean) (Rm 1) [.int v] dm ad ct Q := by
  refine ct_of (by decide) (Nat.le_of_ble_eq_true rfl) ?_
  refine e_iload dX12_isPlace_0 rfl ?_
  refine e_push dX12_isPlace_1 ?_
  refine e_push dX12_isPlace_2 ?_
  refine n_callS3 dX12_isPlace_4 ca_X12_96  (c_X12_in _ _ _ ?_) 
  exact e_iret dX12_isPlace_7 rfl (by first | rfl | exact bI_n _) hq (by decide) (by decide)
set_option maxRecDepth 100000 in
set_option maxHeartbeats 4000000 in
theorem c_X12_isShape {b0 : Nat} {D : va_G} {dA : Nat → ClassId} {dm : Nat → Nat → Prop} {ad : Nat → Nat → Nat} {Q : PQ} {ct : Nat → Nat → va_E} (v : Int32) (hq : Q (some (.int (bI (inB v 0 5)))) dm ad ct) : Ct b0 D dA yX12_isShape cX12_isShape 1 (some .boolean) (Rm 1) [.int v] dm ad ct Q := by
  refine ct_of (by decide) (Nat.le_of_ble_eq_true rfl) ?_
  refine e_iload dX12_isShape_0 rfl ?_
  refine e_push dX12_isShape_1 ?_
  refine e_push dX12_isShape_2 ?_
  refine n_callS3 dX12_isShape_3 ca_X12_96  (c_X12_in _ _ _ ?_) 
  exact e_iret dX12_isShape_6 rfl (by first | rfl | exact bI_n _) hq (by decide) (by decide)
set_option maxRecDepth 100000 in
set_option maxHeartbeats 4000000 in
theorem c_X12_isConstant {b0 : Nat} {D : va_G} {dA : Nat → ClassId} {dm : Nat → Nat → Prop} {ad : Nat → Nat → Nat} {Q : PQ} {ct0 : Nat → Nat → va_E} {S : St} (hM : dmM dm) (c : Int32) (hq : Q (some (.int (bI (inB c 0 (S.1 0 - 1))))) dm ad (ctM dA ad ct0 S)) : Ct b0 D dA yX12_isConstant cX12_isConstant 2 (some .boolean) (Rm 1) [.ref (ad 16 0), .int c] dm ad (ctM dA ad ct0 S) Q := by
  refine ct_of (by decide) (Nat.le_of_ble_eq_true rfl) ?_
  refine e_iload dX12_isConstant_0 rfl ?_
  refine e_push dX12_isConstant_1 ?_
  refine e_aload dX12_isConstant_2 rfl ?_
  refine m_geti dX12_isConstant_3 fg_X12_93 hM (by decide) rfl ?_
  refine e_push dX12_isConstant_6 ?_
  refine e_isub dX12_isConstant_7 ?_
  refine n_callS3 dX12_isConstant_8 ca_X12_96  (c_X12_in _ _ _ ?_) 
  exact e_iret dX12_isConstant_11 rfl (by first | rfl | exact bI_n _) hq (by decide) (by decide)
set_option maxRecDepth 100000 in
set_option maxHeartbeats 4000000 in
theorem l_X12_byName {b0 : Nat} {D : va_G} {dA : Nat → ClassId} {dm : Nat → Nat → Prop} {ad : Nat → Nat → Nat} {Q : PQ} {ct0 : Nat → Nat → va_E} {S : St} (hM : dmM dm) (kind : Int32) (name : Int64) {N : Nat} (hC : S.1 0 = nI N) (hN : N ≤ 60) : ∀ k c, c + k = N → Q (some (.int (oI (fnd (byP S kind name) k c)))) dm ad (ctM dA ad ct0 S) → E b0 D dA yX12_byName cX12_byName 5 (some .int) (Rm 0) E0 (QFm b0 D dA (Rm 0) Q) 3 (lfA [some (.ref (ad 16 0)), some (.int kind), some (.long name), none, some (.int (nI c))]) [] dm ad (ctM dA ad ct0 S) 0 0 := by
  intro k
  induction k with
  | zero =>
    intro c hc hq
    refine e_iload dX12_byName_3 rfl ?_
    refine e_aload dX12_byName_5 rfl ?_
    refine m_geti dX12_byName_6 fg_X12_93 hM (by decide) rfl ?_
    refine e_icmp_ge dX12_byName_9 (fun h9 => ?_) (fun h9 => ?_)
    · refine e_push dX12_byName_44 ?_
      exact e_iretI dX12_byName_46 rfl hq (by decide) (by decide)
    · exact absurd (show S.1 0 ≤ nI c by rw [hC]; exact nI_le (by omega) (by omega)) h9
  | succ k ih =>
    intro c hc hq
    refine e_iload dX12_byName_3 rfl ?_
    refine e_aload dX12_byName_5 rfl ?_
    refine m_geti dX12_byName_6 fg_X12_93 hM (by decide) rfl ?_
    refine e_icmp_ge dX12_byName_9 (fun h9 => ?_) (fun h9 => ?_)
    · exact absurd h9 (by rw [hC]; exact nI_ge (by omega) (by omega))
    · refine e_aload dX12_byName_12 rfl ?_
      refine m_geta dX12_byName_13 fg_X12_7 hM (by decide) rfl ?_
      refine e_iload dX12_byName_16 rfl ?_
      refine m_aldN (c) dX12_byName_18 hM rfl (by decide) (by first | rfl | simp only [li_1, li_2, li_3, li_4, li_5, li_12, li_60, pk_mul, nI_add]) (by first | omega | (simp only [mLen]; omega)) (by decide) ?_
      refine e_iload dX12_byName_19 rfl ?_
      refine e_icmp_ne dX12_byName_20 (fun h20 => ?_) (fun h20 => ?_)
      · refine e_iinc dX12_byName_38 rfl (inc1 c) ?_
        refine e_goto dX12_byName_41 ?_
        exact e_lvA (ih (c + 1) (by omega) (by rw [fnd_f] at hq; exact hq; simp_all [byP])) ⟨rfl, rfl, rfl, rfl, trivial⟩
      · refine e_aload dX12_byName_23 rfl ?_
        refine m_geta dX12_byName_24 fg_X12_13 hM (by decide) rfl ?_
        refine e_iload dX12_byName_27 rfl ?_
        refine m_lldN (c) dX12_byName_29 hM (by first | rfl | simp only [li_1, li_2, li_3, li_4, li_5, li_12, li_60, pk_mul, nI_add]) (by first | omega | (simp only [mLen]; omega)) ?_
        refine e_lload dX12_byName_30 rfl ?_
        refine e_lcmp dX12_byName_31 ?_
        refine e_if_ne dX12_byName_32 (fun h32 => ?_) (fun h32 => ?_)
        · have h32 := lcmp_ne h32
          refine e_iinc dX12_byName_38 rfl (inc1 c) ?_
          refine e_goto dX12_byName_41 ?_
          exact e_lvA (ih (c + 1) (by omega) (by rw [fnd_f] at hq; exact hq; simp_all [byP])) ⟨rfl, rfl, rfl, rfl, trivial⟩
        · have h32 := lcmp_eq h32
          refine e_iload dX12_byName_35 rfl ?_
          exact e_iretI dX12_byName_37 rfl (by rw [fnd_t] at hq; exact hq; simp_all [byP]) (by decide) (by decide)
set_option maxRecDepth 100000 in
set_option maxHeartbeats 4000000 in
theorem c_X12_byName {b0 : Nat} {D : va_G} {dA : Nat → ClassId} {dm : Nat → Nat → Prop} {ad : Nat → Nat → Nat} {Q : PQ} {ct0 : Nat → Nat → va_E} {S : St} (hM : dmM dm) (kind : Int32) (name : Int64) {N : Nat} (hC : S.1 0 = nI N) (hN : N ≤ 60) (hq : Q (some (.int (oI (fnd (byP S kind name) N 0)))) dm ad (ctM dA ad ct0 S)) : Ct b0 D dA yX12_byName cX12_byName 5 (some .int) (Rm 0) [.ref (ad 16 0), .int kind, .long name] dm ad (ctM dA ad ct0 S) Q := by
  refine ct_of (by decide) (Nat.le_of_ble_eq_true rfl) ?_
  refine e_push dX12_byName_0 ?_
  refine e_istore dX12_byName_1 ?_
  exact e_lvA (l_X12_byName hM kind name hC hN N 0 (by omega) hq) ⟨rfl, rfl, rfl, rfl, trivial⟩
end
section
set_option maxRecDepth 100000 in
set_option maxHeartbeats 4000000 in
theorem l_X12_orderOf {b0 : Nat} {D : va_G} {dA : Nat → ClassId} {dm : Nat → Nat → Prop} {ad : Nat → Nat → Nat} {Q : PQ} {ct0 : Nat → Nat → va_E} {S : St} (hM : dmM dm) {c bd b m : Nat} (hb : b < 18) (hm : S.2.1 6 b = nI m) (hm60 : m ≤ 60) : ∀ k i, i + k = m → Q (some (.int (oI (fnd (orP S b (nI c)) k i)))) dm ad (ctM dA ad ct0 S) → E b0 D dA yX12_orderOf cX12_orderOf 5 (some .int) (Rm 0) E0 (QFm b0 D dA (Rm 0) Q) 14 (lfA [some (.ref (ad 16 0)), some (.int (nI c)), some (.int (nI bd)), some (.int (nI b)), some (.int (nI i))]) [] dm ad (ctM dA ad ct0 S) 0 0 := by
  intro k
  induction k with
  | zero =>
    intro i hi hq
    refine e_iload dX12_orderOf_14 rfl ?_
    refine e_aload dX12_orderOf_16 rfl ?_
    refine m_geta dX12_orderOf_17 fg_X12_26 hM (by decide) rfl ?_
    refine e_iload dX12_orderOf_20 rfl ?_
    refine m_aldN (b) dX12_orderOf_21 hM rfl (by decide) (by first | rfl | simp only [li_1, li_2, li_3, li_4, li_5, li_12, li_60, pk_mul, nI_add]) (by first | omega | (simp only [mLen]; omega)) (by decide) ?_
    refine e_topi hm ?_
    refine e_icmp_ge dX12_orderOf_22 (fun h22 => ?_) (fun h22 => ?_)
    · refine e_push dX12_orderOf_50 ?_
      exact e_iretI dX12_orderOf_52 rfl hq (by decide) (by decide)
    · exact absurd (nI_le (by omega) (by omega)) h22
  | succ k ih =>
    intro i hi hq
    refine e_iload dX12_orderOf_14 rfl ?_
    refine e_aload dX12_orderOf_16 rfl ?_
    refine m_geta dX12_orderOf_17 fg_X12_26 hM (by decide) rfl ?_
    refine e_iload dX12_orderOf_20 rfl ?_
    refine m_aldN (b) dX12_orderOf_21 hM rfl (by decide) (by first | rfl | simp only [li_1, li_2, li_3, li_4, li_5, li_12, li_60, pk_mul, nI_add]) (by first | omega | (simp only [mLen]; omega)) (by decide) ?_
    refine e_topi hm ?_
    refine e_icmp_ge dX12_orderOf_22 (fun h22 => ?_) (fun h22 => ?_)
    · exact absurd h22 (nI_ge (by omega) (by omega))
    · refine e_aload dX12_orderOf_25 rfl ?_
      refine m_geta dX12_orderOf_26 fg_X12_29 hM (by decide) rfl ?_
      refine e_push dX12_orderOf_29 ?_
      refine e_iload dX12_orderOf_31 rfl ?_
      refine e_imul dX12_orderOf_32 ?_
      refine e_iload dX12_orderOf_33 rfl ?_
      refine e_iadd dX12_orderOf_35 ?_
      refine m_aldN (60 * b + i) dX12_orderOf_36 hM rfl (by decide) (by first | rfl | simp only [li_1, li_2, li_3, li_4, li_5, li_12, li_60, pk_mul, nI_add]) (by first | omega | (simp only [mLen]; omega)) (by decide) ?_
      refine e_iload dX12_orderOf_37 rfl ?_
      refine e_icmp_ne dX12_orderOf_38 (fun h38 => ?_) (fun h38 => ?_)
      · refine e_iinc dX12_orderOf_44 rfl (inc1 i) ?_
        refine e_goto dX12_orderOf_47 ?_
        exact e_lvA (ih (i + 1) (by omega) (by rw [fnd_f (decide_eq_false h38)] at hq; exact hq)) ⟨rfl, rfl, rfl, rfl, rfl, trivial⟩
      · refine e_iload dX12_orderOf_41 rfl ?_
        exact e_iretI dX12_orderOf_43 rfl (by rw [fnd_t (decide_eq_true h38)] at hq; exact hq) (by decide) (by decide)
set_option maxRecDepth 100000 in
set_option maxHeartbeats 4000000 in
theorem c_X12_orderOf {b0 : Nat} {D : va_G} {dA : Nat → ClassId} {dm : Nat → Nat → Prop} {ad : Nat → Nat → Nat} {Q : PQ} {ct0 : Nat → Nat → va_E} {S : St} (hM : dmM dm) {c k bd b m : Nat} (hc : c < 60) (hk : S.2.1 1 c = nI k) (hbe : b = 3 * k + bd) (hb : b < 18) (hm : S.2.1 6 b = nI m) (hm60 : m ≤ 60) (hq : Q (some (.int (oI (fnd (orP S b (nI c)) m 0)))) dm ad (ctM dA ad ct0 S)) : Ct b0 D dA yX12_orderOf cX12_orderOf 5 (some .int) (Rm 0) [.ref (ad 16 0), .int (nI c), .int (nI bd)] dm ad (ctM dA ad ct0 S) Q := by
  refine ct_of (by decide) (Nat.le_of_ble_eq_true rfl) ?_
  refine e_push dX12_orderOf_0 ?_
  refine e_aload dX12_orderOf_1 rfl ?_
  refine m_geta dX12_orderOf_2 fg_X12_7 hM (by decide) rfl ?_
  refine e_iload dX12_orderOf_5 rfl ?_
  refine m_aldN (c) dX12_orderOf_6 hM rfl (by decide) (by first | rfl | simp only [li_1, li_2, li_3, li_4, li_5, li_12, li_60, pk_mul, nI_add]) (by first | omega | (simp only [mLen]; omega)) (by decide) ?_
  refine e_topi hk ?_
  refine e_imul dX12_orderOf_7 ?_
  refine e_iload dX12_orderOf_8 rfl ?_
  refine e_iadd dX12_orderOf_9 ?_
  refine e_topi (show _ = nI b by rw [hbe]; simp only [li_3, pk_mul, nI_add]) ?_
  refine e_istore dX12_orderOf_10 ?_
  refine e_push dX12_orderOf_11 ?_
  refine e_istore dX12_orderOf_12 ?_
  exact e_lvA (l_X12_orderOf hM hb hm hm60 m 0 (by omega) hq) ⟨rfl, rfl, rfl, rfl, rfl, trivial⟩
set_option maxRecDepth 100000 in
set_option maxHeartbeats 4000000 in
theorem c_X12_append {b0 : Nat} {D : va_G} {dA : Nat → ClassId} {dm : Nat → Nat → Prop} {ad : Nat → Nat → Nat} {Q : PQ} {ct0 : Nat → Nat → va_E} {S : St} (hM : dmM dm) {c k bd b m : Nat} (hc : c < 60) (hk : S.2.1 1 c = nI k) (hbe : b = 3 * k + bd) (hb : b < 18) (hm : S.2.1 6 b = nI m) (hm60 : m < 60) (hq : Q (some (.int (nI m))) dm ad (ctM dA ad ct0 (apS S b m (nI c)))) : Ct b0 D dA yX12_append cX12_append 4 (some .int) (Rm 0) [.ref (ad 16 0), .int (nI c), .int (nI bd)] dm ad (ctM dA ad ct0 S) Q := by
  refine ct_of (by decide) (Nat.le_of_ble_eq_true rfl) ?_
  refine e_push dX12_append_0 ?_
  refine e_aload dX12_append_1 rfl ?_
  refine m_geta dX12_append_2 fg_X12_7 hM (by decide) rfl ?_
  refine e_iload dX12_append_5 rfl ?_
  refine m_aldN (c) dX12_append_6 hM rfl (by decide) (by first | rfl | simp only [li_1, li_2, li_3, li_4, li_5, li_12, li_60, pk_mul, nI_add]) (by first | omega | (simp only [mLen]; omega)) (by decide) ?_
  refine e_topi hk ?_
  refine e_imul dX12_append_7 ?_
  refine e_iload dX12_append_8 rfl ?_
  refine e_iadd dX12_append_9 ?_
  refine e_topi (show _ = nI b by rw [hbe]; simp only [li_3, pk_mul, nI_add]) ?_
  refine e_istore dX12_append_10 ?_
  refine e_aload dX12_append_11 rfl ?_
  refine m_geta dX12_append_12 fg_X12_29 hM (by decide) rfl ?_
  refine e_push dX12_append_15 ?_
  refine e_iload dX12_append_17 rfl ?_
  refine e_imul dX12_append_18 ?_
  refine e_aload dX12_append_19 rfl ?_
  refine m_geta dX12_append_20 fg_X12_26 hM (by decide) rfl ?_
  refine e_iload dX12_append_23 rfl ?_
  refine m_aldN (b) dX12_append_24 hM rfl (by decide) (by first | rfl | simp only [li_1, li_2, li_3, li_4, li_5, li_12, li_60, pk_mul, nI_add]) (by first | omega | (simp only [mLen]; omega)) (by decide) ?_
  refine e_topi hm ?_
  refine e_iadd dX12_append_25 ?_
  refine e_iload dX12_append_26 rfl ?_
  refine m_astN (60 * b + m) dX12_append_27 hM rfl (by decide) (by first | rfl | simp only [li_1, li_2, li_3, li_4, li_5, li_12, li_60, pk_mul, nI_add]) (by first | omega | (simp only [mLen]; omega)) (by decide) ?_
  refine e_aload dX12_append_28 rfl ?_
  refine m_geta dX12_append_29 fg_X12_26 hM (by decide) rfl ?_
  refine e_iload dX12_append_32 rfl ?_
  refine e_dup2 dX12_append_33 ?_
  refine m_aldN (b) dX12_append_34 hM rfl (by decide) (by first | rfl | simp only [li_1, li_2, li_3, li_4, li_5, li_12, li_60, pk_mul, nI_add]) (by first | omega | (simp only [mLen]; omega)) (by decide) ?_
  refine e_topi hm ?_
  refine e_push dX12_append_35 ?_
  refine e_iadd dX12_append_36 ?_
  refine e_topi (nI_1 m) ?_
  refine m_astN (b) dX12_append_37 hM rfl (by decide) (by first | rfl | simp only [li_1, li_2, li_3, li_4, li_5, li_12, li_60, pk_mul, nI_add]) (by first | omega | (simp only [mLen]; omega)) (by decide) ?_
  refine e_aload dX12_append_38 rfl ?_
  refine m_geta dX12_append_39 fg_X12_26 hM (by decide) rfl ?_
  refine e_iload dX12_append_42 rfl ?_
  refine m_aldN (b) dX12_append_43 hM rfl (by decide) (by first | rfl | simp only [li_1, li_2, li_3, li_4, li_5, li_12, li_60, pk_mul, nI_add]) (by first | omega | (simp only [mLen]; omega)) (by decide) ?_
  refine e_topi (u2_s (f := u2 S.2.1 7 (60 * b + m) (nI c)) (k := 6) (i := b)) ?_
  refine e_push dX12_append_44 ?_
  refine e_isub dX12_append_45 ?_
  exact e_iretI dX12_append_46 rfl (qi hq (nI_pred m)) (by decide) (by decide)
set_option maxRecDepth 100000 in
set_option maxHeartbeats 4000000 in
theorem ap_lt {S : St} {t c b : Nat} (I : Inv S t) (hc : c < nC S) (hb : b < 18) (hf : ∀ i, i < mb S b → bc S b i ≠ c) : mb S b < nC S := by
  sorry
set_option maxRecDepth 100000 in
set_option maxHeartbeats 4000000 in
theorem c_X12_arrange {b0 : Nat} {D : va_G} {dA : Nat → ClassId} {dm : Nat → Nat → Prop} {ad : Nat → Nat → Nat} {Q : PQ} {ct0 : Nat → Nat → va_E} {S : St} (hM : dmM dm) {t : Nat} (I : Inv S t) (c bd : Int32) (hq : Q (some (.int (F_arrange S c bd).1)) dm ad (ctM dA ad ct0 (F_arrange S c bd).2)) : Ct b0 D dA yX12_arrange cX12_arrange 3 (some .int) (Rm 2) [.ref (ad 16 0), .int c, .int bd] dm ad (ctM dA ad ct0 S) Q := by
  refine ct_of (by decide) (Nat.le_of_ble_eq_true rfl) ?_
  refine e_aload dX12_arrange_0 rfl ?_
  refine e_iload dX12_arrange_1 rfl ?_
  refine n_callV1 dX12_arrange_2 ca_X12_116 hM.1 ctM_o (c_X12_isConstant hM _ ?_) 
  refine e_if_eqB dX12_arrange_5 (fun h5 => ?_) (fun h5 => ?_)
  · refine e_push dX12_arrange_26 ?_
    exact e_iretI dX12_arrange_27 rfl (qs hq (by first | (simp [F_arrange, isC, h5]; done) | (simp [F_arrange, isC, h14]; done) | (simp [F_arrange, isC, h5, h14, tc, tbd, hf]; done))) (by decide) (by decide)
  · have h60 := I.1.2.1
    have e0 := I.1.1
    obtain ⟨c, hc, rfl⟩ := inB_n (N := nC S) (by omega) (by rw [← e0]; exact h5)
    have tc : tN (nI c) = c := tN_n (by omega)
    obtain ⟨hk, hk6, hbo, hw, hw1⟩ := I.1.2.2.1 c hc
    refine e_iload dX12_arrange_8 rfl ?_
    refine e_push dX12_arrange_9 ?_
    refine e_push dX12_arrange_10 ?_
    refine n_callS3 dX12_arrange_11 ca_X12_96  (c_X12_in _ _ _ ?_) 
    refine e_if_eqB dX12_arrange_14 (fun h14 => ?_) (fun h14 => ?_)
    · refine e_push dX12_arrange_26 ?_
      exact e_iretI dX12_arrange_27 rfl (qs hq (by first | (simp [F_arrange, isC, h5]; done) | (simp [F_arrange, isC, h14]; done) | (simp [F_arrange, isC, h5, h14, tc, tbd, hf]; done))) (by decide) (by decide)
    · obtain ⟨bd, bd1, bd2, rfl⟩ := inB_l (a := 1) (b := 2) rfl rfl (by decide) (by decide) h14
      have tbd : tN (nI bd) = bd := tN_n (by omega)
      obtain ⟨hm, hmC, hbi, hbj⟩ := I.2.1 (3 * kN S c + bd) (by omega)
      refine e_aload dX12_arrange_17 rfl ?_
      refine e_iload dX12_arrange_18 rfl ?_
      refine e_iload dX12_arrange_19 rfl ?_
      refine n_callV2 dX12_arrange_20 ca_X12_119 hM.1 ctM_o (c_X12_orderOf hM (by omega) hk rfl (by omega) hm (by omega) ?_) 
      refine e_if_lt dX12_arrange_23 (fun h23 => ?_) (fun h23 => ?_)
      · have hf : fnd (orP S (3 * kN S c + bd) (nI c)) (mb S (3 * kN S c + bd)) 0 = none := by
          cases hf : fnd (orP S (3 * kN S c + bd) (nI c)) (mb S (3 * kN S c + bd)) 0 with
          | none => rfl
          | some j => rw [hf] at h23; exact absurd h23 (nI_pos (by have := fnd_lt hf; omega))
        have hlt : mb S (3 * kN S c + bd) < nC S := ap_lt I hc (by omega) (fun i hi e => by have := fnd_none hf i (Nat.zero_le _) (by omega); rw [orP, (hbi i hi).1, e] at this; simp at this)
        refine e_aload dX12_arrange_28 rfl ?_
        refine e_iload dX12_arrange_29 rfl ?_
        refine e_iload dX12_arrange_30 rfl ?_
        refine n_callV2 dX12_arrange_31 ca_X12_112 hM.1 ctM_o (c_X12_append hM (by omega) hk rfl (by omega) hm (by omega) ?_) 
        exact e_iretI dX12_arrange_34 rfl (qs hq (by simp [F_arrange, isC, h5, h14, tc, tbd, hf])) (by decide) (by decide)
      · obtain ⟨j, hf⟩ : ∃ j, fnd (orP S (3 * kN S c + bd) (nI c)) (mb S (3 * kN S c + bd)) 0 = some j := by
          cases hf : fnd (orP S (3 * kN S c + bd) (nI c)) (mb S (3 * kN S c + bd)) 0 with
          | none => rw [hf] at h23; exact absurd (by decide) h23
          | some j => exact ⟨j, rfl⟩
        refine e_push dX12_arrange_26 ?_
        exact e_iretI dX12_arrange_27 rfl (qs hq (by first | (simp [F_arrange, isC, h5]; done) | (simp [F_arrange, isC, h14]; done) | (simp [F_arrange, isC, h5, h14, tc, tbd, hf]; done))) (by decide) (by decide)
set_option maxRecDepth 100000 in
set_option maxHeartbeats 4000000 in
theorem c_X12_drawOf {b0 : Nat} {D : va_G} {dA : Nat → ClassId} {dm : Nat → Nat → Prop} {ad : Nat → Nat → Nat} {Q : PQ} {ct : Nat → Nat → va_E} (seed : Int64) (n : Int32) (hq : Q (some (.long (drw seed n))) dm ad ct) : Ct b0 D dA yX12_drawOf cX12_drawOf 5 (some .long) (Rm 0) [.long seed, .int n] dm ad ct Q := by
  refine ct_of (by decide) (Nat.le_of_ble_eq_true rfl) ?_
  refine e_lload dX12_drawOf_0 rfl ?_
  refine e_iload dX12_drawOf_1 rfl ?_
  refine e_i2l dX12_drawOf_2 ?_
  refine e_lconst dX12_drawOf_3 rfl ?_
  refine e_ladd dX12_drawOf_4 ?_
  refine e_ldc2 dX12_drawOf_5 kw_X12_122 ?_
  refine e_lmul dX12_drawOf_8 ?_
  refine e_ladd dX12_drawOf_9 ?_
  refine e_lstore dX12_drawOf_10 ?_
  refine e_lload dX12_drawOf_11 rfl ?_
  refine e_lload dX12_drawOf_12 rfl ?_
  refine e_push dX12_drawOf_13 ?_
  refine e_lushr dX12_drawOf_15 ?_
  refine e_lxor dX12_drawOf_16 ?_
  refine e_ldc2 dX12_drawOf_17 kw_X12_124 ?_
  refine e_lmul dX12_drawOf_20 ?_
  refine e_lstore dX12_drawOf_21 ?_
  refine e_lload dX12_drawOf_22 rfl ?_
  refine e_lload dX12_drawOf_23 rfl ?_
  refine e_push dX12_drawOf_24 ?_
  refine e_lushr dX12_drawOf_26 ?_
  refine e_lxor dX12_drawOf_27 ?_
  refine e_ldc2 dX12_drawOf_28 kw_X12_126 ?_
  refine e_lmul dX12_drawOf_31 ?_
  refine e_lstore dX12_drawOf_32 ?_
  refine e_lload dX12_drawOf_33 rfl ?_
  refine e_lload dX12_drawOf_34 rfl ?_
  refine e_push dX12_drawOf_35 ?_
  refine e_lushr dX12_drawOf_37 ?_
  refine e_lxor dX12_drawOf_38 ?_
  exact e_lret dX12_drawOf_39 rfl hq (by decide) (by decide)
set_option maxRecDepth 100000 in
set_option maxHeartbeats 4000000 in
theorem c_X12_modulo {b0 : Nat} {D : va_G} {dA : Nat → ClassId} {dm : Nat → Nat → Prop} {ad : Nat → Nat → Nat} {Q : PQ} {ct : Nat → Nat → va_E} (z : Int64) (n : Int32) (hn : ¬ n.toInt64 = 0) (hq : Q (some (.int (mdl z n))) dm ad ct) : Ct b0 D dA yX12_modulo cX12_modulo 3 (some .int) (Rm 0) [.long z, .int n] dm ad ct Q := by
  refine ct_of (by decide) (Nat.le_of_ble_eq_true rfl) ?_
  refine e_lload dX12_modulo_0 rfl ?_
  refine e_push dX12_modulo_1 ?_
  refine e_lushr dX12_modulo_2 ?_
  refine e_iload dX12_modulo_3 rfl ?_
  refine e_i2l dX12_modulo_4 ?_
  refine e_lrem dX12_modulo_5 hn ?_
  refine e_ldc2 dX12_modulo_6 kw_X12_128 ?_
  refine e_lmul dX12_modulo_9 ?_
  refine e_lload dX12_modulo_10 rfl ?_
  refine e_lconst dX12_modulo_11 rfl ?_
  refine e_land dX12_modulo_12 ?_
  refine e_ladd dX12_modulo_13 ?_
  refine e_iload dX12_modulo_14 rfl ?_
  refine e_i2l dX12_modulo_15 ?_
  refine e_lrem dX12_modulo_16 hn ?_
  refine e_l2i dX12_modulo_17 ?_
  exact e_iretI dX12_modulo_18 rfl hq (by decide) (by decide)
set_option maxRecDepth 100000 in
set_option maxHeartbeats 4000000 in
theorem c_X12_kind {b0 : Nat} {D : va_G} {dA : Nat → ClassId} {dm : Nat → Nat → Prop} {ad : Nat → Nat → Nat} {Q : PQ} {ct0 : Nat → Nat → va_E} {S : St} (hM : dmM dm) {t : Nat} (I : Inv S t) (kind bd i : Int32) (hq : Q (some (.int (F_kind S kind bd i))) dm ad (ctM dA ad ct0 S)) : Ct b0 D dA yX12_kind cX12_kind 5 (some .int) (Rm 2) [.ref (ad 16 0), .int kind, .int bd, .int i] dm ad (ctM dA ad ct0 S) Q := by
  refine ct_of (by decide) (Nat.le_of_ble_eq_true rfl) ?_
  refine e_iload dX12_kind_0 rfl ?_
  refine n_callS1 dX12_kind_1 ca_X12_100  (c_X12_isKind _ ?_) 
  refine e_if_eqB dX12_kind_4 (fun h4 => ?_) (fun h4 => ?_)
  · refine e_push dX12_kind_16 ?_
    exact e_iretI dX12_kind_17 rfl (qi hq (by first | (simp [F_kind, h4]; done) | (simp [F_kind, h13]; done))) (by decide) (by decide)
  · obtain ⟨kind, kind1, kind2, rfl⟩ := inB_l (a := 0) (b := 5) rfl rfl (by decide) (by decide) h4
    have tkind : tN (nI kind) = kind := tN_n (by omega)
    refine e_iload dX12_kind_7 rfl ?_
    refine e_push dX12_kind_8 ?_
    refine e_push dX12_kind_9 ?_
    refine n_callS3 dX12_kind_10 ca_X12_96  (c_X12_in _ _ _ ?_) 
    refine e_if_neB dX12_kind_13 (fun h13 => ?_) (fun h13 => ?_)
    · obtain ⟨bd, bd1, bd2, rfl⟩ := inB_l (a := 0) (b := 2) rfl rfl (by decide) (by decide) h13
      have tbd : tN (nI bd) = bd := tN_n (by omega)
      obtain ⟨hm, hmC, hbi, hbj⟩ := I.2.1 (3 * kind + bd) (by omega)
      have h60 := I.1.2.1
      refine e_push dX12_kind_18 ?_
      refine e_iload dX12_kind_19 rfl ?_
      refine e_imul dX12_kind_20 ?_
      refine e_iload dX12_kind_21 rfl ?_
      refine e_iadd dX12_kind_22 ?_
      refine e_topi (show _ = nI (3 * kind + bd) by simp only [li_1, li_2, li_3, li_4, li_5, li_12, li_60, pk_mul, nI_add]) ?_
      refine e_istore dX12_kind_23 ?_
      refine e_iload dX12_kind_25 rfl ?_
      refine e_push dX12_kind_26 ?_
      refine e_icmp_ne dX12_kind_28 (fun h28 => ?_) (fun h28 => ?_)
      · refine e_iload dX12_kind_41 rfl ?_
        refine e_push dX12_kind_42 ?_
        refine e_aload dX12_kind_43 rfl ?_
        refine m_geta dX12_kind_44 fg_X12_26 hM (by decide) rfl ?_
        refine e_iload dX12_kind_47 rfl ?_
        refine m_aldN (3 * kind + bd) dX12_kind_49 hM rfl (by decide) (by first | rfl | simp only [li_1, li_2, li_3, li_4, li_5, li_12, li_60, pk_mul, nI_add]) (by first | omega | (simp only [mLen]; omega)) (by decide) ?_
        refine e_push dX12_kind_50 ?_
        refine e_isub dX12_kind_51 ?_
        refine n_callS3 dX12_kind_52 ca_X12_96  (c_X12_in _ _ _ ?_) 
        refine e_if_eqB dX12_kind_55 (fun h55 => ?_) (fun h55 => ?_)
        · refine e_push dX12_kind_73 ?_
          exact e_iretI dX12_kind_74 rfl (qi hq (by first | (simp [F_kind, h4, h13, tkind, tbd, h28, h55]; done) | (simp [F_kind, h4, h13, tkind, tbd, h28, hm, h55, ti]; done) | (simp [F_kind, h4, h13, tkind, tbd, h28]; done))) (by decide) (by decide)
        · rw [hm] at h55
          obtain ⟨i, hi, rfl⟩ := inB_n (by omega) h55
          have ti : tN (nI i) = i := tN_n (by omega)
          refine e_aload dX12_kind_58 rfl ?_
          refine m_geta dX12_kind_59 fg_X12_29 hM (by decide) rfl ?_
          refine e_push dX12_kind_62 ?_
          refine e_iload dX12_kind_64 rfl ?_
          refine e_imul dX12_kind_66 ?_
          refine e_iload dX12_kind_67 rfl ?_
          refine e_iadd dX12_kind_68 ?_
          refine m_aldN (60 * (3 * kind + bd) + i) dX12_kind_69 hM rfl (by decide) (by first | rfl | simp only [li_1, li_2, li_3, li_4, li_5, li_12, li_60, pk_mul, nI_add]) (by first | omega | (simp only [mLen]; omega)) (by decide) ?_
          refine e_goto dX12_kind_70 ?_
          exact e_iretI dX12_kind_74 rfl (qi hq (by first | (simp [F_kind, h4, h13, tkind, tbd, h28, h55]; done) | (simp [F_kind, h4, h13, tkind, tbd, h28, hm, h55, ti]; done) | (simp [F_kind, h4, h13, tkind, tbd, h28]; done))) (by decide) (by decide)
      · refine e_aload dX12_kind_31 rfl ?_
        refine m_geta dX12_kind_32 fg_X12_26 hM (by decide) rfl ?_
        refine e_iload dX12_kind_35 rfl ?_
        refine m_aldN (3 * kind + bd) dX12_kind_37 hM rfl (by decide) (by first | rfl | simp only [li_1, li_2, li_3, li_4, li_5, li_12, li_60, pk_mul, nI_add]) (by first | omega | (simp only [mLen]; omega)) (by decide) ?_
        refine e_goto dX12_kind_38 ?_
        exact e_iretI dX12_kind_74 rfl (qi hq (by first | (simp [F_kind, h4, h13, tkind, tbd, h28, h55]; done) | (simp [F_kind, h4, h13, tkind, tbd, h28, hm, h55, ti]; done) | (simp [F_kind, h4, h13, tkind, tbd, h28]; done))) (by decide) (by decide)
    · refine e_push dX12_kind_16 ?_
      exact e_iretI dX12_kind_17 rfl (qi hq (by first | (simp [F_kind, h4]; done) | (simp [F_kind, h13]; done))) (by decide) (by decide)
set_option maxRecDepth 100000 in
set_option maxHeartbeats 4000000 in
theorem c_X12_named {b0 : Nat} {D : va_G} {dA : Nat → ClassId} {dm : Nat → Nat → Prop} {ad : Nat → Nat → Nat} {Q : PQ} {ct0 : Nat → Nat → va_E} {S : St} (hM : dmM dm) {t : Nat} (I : Inv S t) (kind : Int32) (name : Int64) (hq : Q (some (.int (F_named S kind name))) dm ad (ctM dA ad ct0 S)) : Ct b0 D dA yX12_named cX12_named 4 (some .int) (Rm 2) [.ref (ad 16 0), .int kind, .long name] dm ad (ctM dA ad ct0 S) Q := by
  refine ct_of (by decide) (Nat.le_of_ble_eq_true rfl) ?_
  refine e_iload dX12_named_0 rfl ?_
  refine n_callS1 dX12_named_1 ca_X12_100  (c_X12_isKind _ ?_) 
  refine e_if_eqB dX12_named_4 (fun h4 => ?_) (fun h4 => ?_)
  · refine e_push dX12_named_16 ?_
    exact e_iretI dX12_named_17 rfl (qi hq (by simp [F_named, h4])) (by decide) (by decide)
  · refine e_aload dX12_named_7 rfl ?_
    refine e_iload dX12_named_8 rfl ?_
    refine e_lload dX12_named_9 rfl ?_
    refine n_callV2 dX12_named_10 ca_X12_108 hM.1 ctM_o (c_X12_byName hM _ _ I.1.1 I.1.2.1 ?_) 
    refine e_goto dX12_named_13 ?_
    exact e_iretI dX12_named_17 rfl (qi hq (by simp [F_named, h4])) (by decide) (by decide)
set_option maxRecDepth 100000 in
set_option maxHeartbeats 4000000 in
theorem c_X12_order {b0 : Nat} {D : va_G} {dA : Nat → ClassId} {dm : Nat → Nat → Prop} {ad : Nat → Nat → Nat} {Q : PQ} {ct0 : Nat → Nat → va_E} {S : St} (hM : dmM dm) {t : Nat} (I : Inv S t) (c bd : Int32) (hq : Q (some (.int (F_order S c bd))) dm ad (ctM dA ad ct0 S)) : Ct b0 D dA yX12_order cX12_order 3 (some .int) (Rm 2) [.ref (ad 16 0), .int c, .int bd] dm ad (ctM dA ad ct0 S) Q := by
  refine ct_of (by decide) (Nat.le_of_ble_eq_true rfl) ?_
  refine e_aload dX12_order_0 rfl ?_
  refine e_iload dX12_order_1 rfl ?_
  refine n_callV1 dX12_order_2 ca_X12_116 hM.1 ctM_o (c_X12_isConstant hM _ ?_) 
  refine e_if_eqB dX12_order_5 (fun h5 => ?_) (fun h5 => ?_)
  · refine e_push dX12_order_26 ?_
    exact e_iretI dX12_order_27 rfl (qi hq (by first | (simp [F_order, isC, h5]; done) | (simp [F_order, isC, h14]; done) | (simp [F_order, isC, h5, h14, tc, tbd]; done))) (by decide) (by decide)
  · have h60 := I.1.2.1
    have e0 := I.1.1
    obtain ⟨c, hc, rfl⟩ := inB_n (N := nC S) (by omega) (by rw [← e0]; exact h5)
    have tc : tN (nI c) = c := tN_n (by omega)
    obtain ⟨hk, hk6, hbo, hw, hw1⟩ := I.1.2.2.1 c hc
    refine e_iload dX12_order_8 rfl ?_
    refine e_push dX12_order_9 ?_
    refine e_push dX12_order_10 ?_
    refine n_callS3 dX12_order_11 ca_X12_96  (c_X12_in _ _ _ ?_) 
    refine e_if_eqB dX12_order_14 (fun h14 => ?_) (fun h14 => ?_)
    · refine e_push dX12_order_26 ?_
      exact e_iretI dX12_order_27 rfl (qi hq (by first | (simp [F_order, isC, h5]; done) | (simp [F_order, isC, h14]; done) | (simp [F_order, isC, h5, h14, tc, tbd]; done))) (by decide) (by decide)
    · obtain ⟨bd, bd1, bd2, rfl⟩ := inB_l (a := 0) (b := 2) rfl rfl (by decide) (by decide) h14
      have tbd : tN (nI bd) = bd := tN_n (by omega)
      obtain ⟨hm, hmC, hbi, hbj⟩ := I.2.1 (3 * kN S c + bd) (by omega)
      refine e_aload dX12_order_17 rfl ?_
      refine e_iload dX12_order_18 rfl ?_
      refine e_iload dX12_order_19 rfl ?_
      refine n_callV2 dX12_order_20 ca_X12_119 hM.1 ctM_o (c_X12_orderOf hM (by omega) hk rfl (by omega) hm (by omega) ?_) 
      refine e_goto dX12_order_23 ?_
      exact e_iretI dX12_order_27 rfl (qi hq (by first | (simp [F_order, isC, h5]; done) | (simp [F_order, isC, h14]; done) | (simp [F_order, isC, h5, h14, tc, tbd]; done))) (by decide) (by decide)
set_option maxRecDepth 100000 in
set_option maxHeartbeats 4000000 in
theorem c_X12_about {b0 : Nat} {D : va_G} {dA : Nat → ClassId} {dm : Nat → Nat → Prop} {ad : Nat → Nat → Nat} {Q : PQ} {ct0 : Nat → Nat → va_E} {S : St} (hM : dmM dm) {t : Nat} (I : Inv S t) (c what : Int32) (hq : Q (some (.int (F_about S c what))) dm ad (ctM dA ad ct0 S)) : Ct b0 D dA yX12_about cX12_about 3 (some .int) (Rm 2) [.ref (ad 16 0), .int c, .int what] dm ad (ctM dA ad ct0 S) Q := by
  refine ct_of (by decide) (Nat.le_of_ble_eq_true rfl) ?_
  refine e_aload dX12_about_0 rfl ?_
  refine e_iload dX12_about_1 rfl ?_
  refine n_callV1 dX12_about_2 ca_X12_116 hM.1 ctM_o (c_X12_isConstant hM _ ?_) 
  refine e_if_eqB dX12_about_5 (fun h5 => ?_) (fun h5 => ?_)
  · refine e_push dX12_about_17 ?_
    exact e_iretI dX12_about_18 rfl (qi hq (by first | (simp [F_about, isC, h5]; done) | (simp [F_about, isC, h14]; done))) (by decide) (by decide)
  · have h60 := I.1.2.1
    have e0 := I.1.1
    obtain ⟨c, hc, rfl⟩ := inB_n (N := nC S) (by omega) (by rw [← e0]; exact h5)
    have tc : tN (nI c) = c := tN_n (by omega)
    obtain ⟨hk, hk6, hbo, hw, hw1⟩ := I.1.2.2.1 c hc
    refine e_iload dX12_about_8 rfl ?_
    refine e_push dX12_about_9 ?_
    refine e_push dX12_about_10 ?_
    refine n_callS3 dX12_about_11 ca_X12_96  (c_X12_in _ _ _ ?_) 
    refine e_if_neB dX12_about_14 (fun h14 => ?_) (fun h14 => ?_)
    · refine e_iload dX12_about_19 rfl ?_
      refine e_if_ne dX12_about_20 (fun h20 => ?_) (fun h20 => ?_)
      · refine e_iload dX12_about_32 rfl ?_
        refine e_push dX12_about_33 ?_
        refine e_icmp_ne dX12_about_34 (fun h34 => ?_) (fun h34 => ?_)
        · refine e_iload dX12_about_46 rfl ?_
          refine e_push dX12_about_47 ?_
          refine e_icmp_ne dX12_about_48 (fun h48 => ?_) (fun h48 => ?_)
          · refine e_aload dX12_about_60 rfl ?_
            refine m_geta dX12_about_61 fg_X12_23 hM (by decide) rfl ?_
            refine e_iload dX12_about_64 rfl ?_
            refine m_aldN (c) dX12_about_65 hM rfl (by decide) (by first | rfl | simp only [li_1, li_2, li_3, li_4, li_5, li_12, li_60, pk_mul, nI_add]) (by first | omega | (simp only [mLen]; omega)) (by decide) ?_
            exact e_iretI dX12_about_66 rfl (qi hq (by simp only [F_about, isC, h5, h14, Bool.and_self, if_true, tc]; first | (simp [h20]; done) | (simp [h20, h34]; done) | (simp [h20, h34, h48]; done))) (by decide) (by decide)
          · refine e_aload dX12_about_51 rfl ?_
            refine m_geta dX12_about_52 fg_X12_20 hM (by decide) rfl ?_
            refine e_iload dX12_about_55 rfl ?_
            refine m_aldN (c) dX12_about_56 hM rfl (by decide) (by first | rfl | simp only [li_1, li_2, li_3, li_4, li_5, li_12, li_60, pk_mul, nI_add]) (by first | omega | (simp only [mLen]; omega)) (by decide) ?_
            refine e_goto dX12_about_57 ?_
            exact e_iretI dX12_about_66 rfl (qi hq (by simp only [F_about, isC, h5, h14, Bool.and_self, if_true, tc]; first | (simp [h20]; done) | (simp [h20, h34]; done) | (simp [h20, h34, h48]; done))) (by decide) (by decide)
        · refine e_aload dX12_about_37 rfl ?_
          refine m_geta dX12_about_38 fg_X12_17 hM (by decide) rfl ?_
          refine e_iload dX12_about_41 rfl ?_
          refine m_aldN (c) dX12_about_42 hM rfl (by decide) (by first | rfl | simp only [li_1, li_2, li_3, li_4, li_5, li_12, li_60, pk_mul, nI_add]) (by first | omega | (simp only [mLen]; omega)) (by decide) ?_
          refine e_goto dX12_about_43 ?_
          exact e_iretI dX12_about_66 rfl (qi hq (by simp only [F_about, isC, h5, h14, Bool.and_self, if_true, tc]; first | (simp [h20]; done) | (simp [h20, h34]; done) | (simp [h20, h34, h48]; done))) (by decide) (by decide)
      · refine e_aload dX12_about_23 rfl ?_
        refine m_geta dX12_about_24 fg_X12_7 hM (by decide) rfl ?_
        refine e_iload dX12_about_27 rfl ?_
        refine m_aldN (c) dX12_about_28 hM rfl (by decide) (by first | rfl | simp only [li_1, li_2, li_3, li_4, li_5, li_12, li_60, pk_mul, nI_add]) (by first | omega | (simp only [mLen]; omega)) (by decide) ?_
        refine e_goto dX12_about_29 ?_
        exact e_iretI dX12_about_66 rfl (qi hq (by simp only [F_about, isC, h5, h14, Bool.and_self, if_true, tc]; first | (simp [h20]; done) | (simp [h20, h34]; done) | (simp [h20, h34, h48]; done))) (by decide) (by decide)
    · refine e_push dX12_about_17 ?_
      exact e_iretI dX12_about_18 rfl (qi hq (by first | (simp [F_about, isC, h5]; done) | (simp [F_about, isC, h14]; done))) (by decide) (by decide)
set_option maxRecDepth 100000 in
set_option maxHeartbeats 4000000 in
theorem c_X12_starts {b0 : Nat} {D : va_G} {dA : Nat → ClassId} {dm : Nat → Nat → Prop} {ad : Nat → Nat → Nat} {Q : PQ} {ct0 : Nat → Nat → va_E} {S : St} (hM : dmM dm) {c : Nat} (hc : c < 60) (hk : S.2.1 1 c = nI (kN S c)) (hk6 : kN S c < 6) (hq : Q none dm ad (ctM dA ad ct0 (stS S c))) : Ct b0 D dA yX12_starts cX12_starts 2 none (Rm 0) [.ref (ad 16 0), .int (nI c)] dm ad (ctM dA ad ct0 S) Q := by
  refine ct_of (by decide) (Nat.le_of_ble_eq_true rfl) ?_
  refine e_aload dX12_starts_0 rfl ?_
  refine m_geta dX12_starts_1 fg_X12_81 hM (by decide) rfl ?_
  refine e_aload dX12_starts_4 rfl ?_
  refine m_geta dX12_starts_5 fg_X12_7 hM (by decide) rfl ?_
  refine e_iload dX12_starts_8 rfl ?_
  refine m_aldN (c) dX12_starts_9 hM rfl (by decide) (by first | rfl | simp only [li_1, li_2, li_3, li_4, li_5, li_12, li_60, pk_mul, nI_add]) (by first | omega | (simp only [mLen]; omega)) (by decide) ?_
  refine e_topi hk ?_
  refine e_aload dX12_starts_10 rfl ?_
  refine m_geta dX12_starts_11 fg_X12_81 hM (by decide) rfl ?_
  refine e_aload dX12_starts_14 rfl ?_
  refine m_geta dX12_starts_15 fg_X12_7 hM (by decide) rfl ?_
  refine e_iload dX12_starts_18 rfl ?_
  refine m_aldN (c) dX12_starts_19 hM rfl (by decide) (by first | rfl | simp only [li_1, li_2, li_3, li_4, li_5, li_12, li_60, pk_mul, nI_add]) (by first | omega | (simp only [mLen]; omega)) (by decide) ?_
  refine e_topi hk ?_
  refine m_aldN (kN S c) dX12_starts_20 hM rfl (by decide) (by first | rfl | simp only [li_1, li_2, li_3, li_4, li_5, li_12, li_60, pk_mul, nI_add]) (by first | omega | (simp only [mLen]; omega)) (by decide) ?_
  refine e_push dX12_starts_21 ?_
  refine e_icmp_ne dX12_starts_23 (fun h23 => ?_) (fun h23 => ?_)
  · refine e_aload dX12_starts_33 rfl ?_
    refine m_geta dX12_starts_34 fg_X12_81 hM (by decide) rfl ?_
    refine e_aload dX12_starts_37 rfl ?_
    refine m_geta dX12_starts_38 fg_X12_7 hM (by decide) rfl ?_
    refine e_iload dX12_starts_41 rfl ?_
    refine m_aldN (c) dX12_starts_42 hM rfl (by decide) (by first | rfl | simp only [li_1, li_2, li_3, li_4, li_5, li_12, li_60, pk_mul, nI_add]) (by first | omega | (simp only [mLen]; omega)) (by decide) ?_
    refine e_topi hk ?_
    refine m_aldN (kN S c) dX12_starts_43 hM rfl (by decide) (by first | rfl | simp only [li_1, li_2, li_3, li_4, li_5, li_12, li_60, pk_mul, nI_add]) (by first | omega | (simp only [mLen]; omega)) (by decide) ?_
    refine m_astN (kN S c) dX12_starts_44 hM rfl (by decide) (by first | rfl | simp only [li_1, li_2, li_3, li_4, li_5, li_12, li_60, pk_mul, nI_add]) (by first | omega | (simp only [mLen]; omega)) (by decide) ?_
    exact e_vret dX12_starts_45 rfl (qv hq (by simp [stS, h23])) (by decide) (by decide)
  · refine e_aload dX12_starts_26 rfl ?_
    refine m_geti dX12_starts_27 fg_X12_138 hM (by decide) rfl ?_
    refine e_goto dX12_starts_30 ?_
    refine m_astN (kN S c) dX12_starts_44 hM rfl (by decide) (by first | rfl | simp only [li_1, li_2, li_3, li_4, li_5, li_12, li_60, pk_mul, nI_add]) (by first | omega | (simp only [mLen]; omega)) (by decide) ?_
    exact e_vret dX12_starts_45 rfl (qv hq (by simp [stS, h23])) (by decide) (by decide)
set_option maxRecDepth 100000 in
set_option maxHeartbeats 4000000 in
theorem c_X12_worth {b0 : Nat} {D : va_G} {dA : Nat → ClassId} {dm : Nat → Nat → Prop} {ad : Nat → Nat → Nat} {Q : PQ} {ct0 : Nat → Nat → va_E} {S : St} (hM : dmM dm) {t : Nat} (I : Inv S t) (c v : Int32) (hq : Q (some (.int (F_worth S c v).1)) dm ad (ctM dA ad ct0 (F_worth S c v).2)) : Ct b0 D dA yX12_worth cX12_worth 4 (some .int) (Rm 2) [.ref (ad 16 0), .int c, .int v] dm ad (ctM dA ad ct0 S) Q := by
  refine ct_of (by decide) (Nat.le_of_ble_eq_true rfl) ?_
  refine e_aload dX12_worth_0 rfl ?_
  refine e_iload dX12_worth_1 rfl ?_
  refine n_callV1 dX12_worth_2 ca_X12_116 hM.1 ctM_o (c_X12_isConstant hM _ ?_) 
  refine e_if_neB dX12_worth_5 (fun h5 => ?_) (fun h5 => ?_)
  · have h60 := I.1.2.1
    have e0 := I.1.1
    obtain ⟨c, hc, rfl⟩ := inB_n (N := nC S) (by omega) (by rw [← e0]; exact h5)
    have tc : tN (nI c) = c := tN_n (by omega)
    obtain ⟨hk, hk6, hbo, hw, hw1⟩ := I.1.2.2.1 c hc
    obtain ⟨hm, hmC, hbi, hbj⟩ := I.2.1 (3 * kN S c) (by omega)
    refine e_aload dX12_worth_10 rfl ?_
    refine e_iload dX12_worth_11 rfl ?_
    refine n_callV1 dX12_worth_12 ca_X12_141 hM.1 ctM_o (c_X12_starts hM (by omega) hk hk6 ?_) 
    refine e_aload dX12_worth_15 rfl ?_
    refine e_dup dX12_worth_16 ?_
    refine m_geti dX12_worth_17 fg_X12_138 hM (by decide) rfl ?_
    refine e_push dX12_worth_20 ?_
    refine e_iadd dX12_worth_21 ?_
    refine m_put dX12_worth_22 fp_X12_138 hM (by decide) rfl ?_
    refine e_iload dX12_worth_25 rfl ?_
    refine e_aload dX12_worth_26 rfl ?_
    refine e_iload dX12_worth_27 rfl ?_
    refine e_push dX12_worth_28 ?_
    refine n_callV2 dX12_worth_29 ca_X12_119 hM.1 ctM_o (c_X12_orderOf (S := actS (stS S c)) (bd := 0) hM (by omega) hk rfl (by omega) hm (by omega) ?_) 
    refine e_iadd dX12_worth_32 ?_
    refine e_istore dX12_worth_33 ?_
    refine e_aload dX12_worth_34 rfl ?_
    refine m_geta dX12_worth_35 fg_X12_17 hM (by decide) rfl ?_
    refine e_iload dX12_worth_38 rfl ?_
    refine m_aldN (c) dX12_worth_39 hM rfl (by decide) (by first | rfl | simp only [li_1, li_2, li_3, li_4, li_5, li_12, li_60, pk_mul, nI_add]) (by first | omega | (simp only [mLen]; omega)) (by decide) ?_
    refine e_if_ne dX12_worth_40 (fun h40 => ?_) (fun h40 => ?_)
    · refine e_aload dX12_worth_47 rfl ?_
      refine m_geta dX12_worth_48 fg_X12_17 hM (by decide) rfl ?_
      refine e_iload dX12_worth_51 rfl ?_
      refine m_aldN (c) dX12_worth_52 hM rfl (by decide) (by first | rfl | simp only [li_1, li_2, li_3, li_4, li_5, li_12, li_60, pk_mul, nI_add]) (by first | omega | (simp only [mLen]; omega)) (by decide) ?_
      refine e_push dX12_worth_53 ?_
      refine e_icmp_ne dX12_worth_54 (fun h54 => ?_) (fun h54 => ?_)
      · refine e_push dX12_worth_63 ?_
        refine e_iload dX12_worth_64 rfl ?_
        refine e_imul dX12_worth_65 ?_
        refine e_push dX12_worth_66 ?_
        refine e_isub dX12_worth_67 ?_
        exact e_iretI dX12_worth_68 rfl (qs hq (by simp only [F_worth, isC, h5, if_true, tc, wor]; first | (rw [if_pos (by assumption)]; rfl) | (rw [if_neg (by assumption), if_pos (by assumption)]; rfl) | (rw [if_neg (by assumption), if_neg (by assumption)]; rfl))) (by decide) (by decide)
      · refine e_push dX12_worth_57 ?_
        refine e_iload dX12_worth_58 rfl ?_
        refine e_imul dX12_worth_59 ?_
        refine e_goto dX12_worth_60 ?_
        exact e_iretI dX12_worth_68 rfl (qs hq (by simp only [F_worth, isC, h5, if_true, tc, wor]; first | (rw [if_pos (by assumption)]; rfl) | (rw [if_neg (by assumption), if_pos (by assumption)]; rfl) | (rw [if_neg (by assumption), if_neg (by assumption)]; rfl))) (by decide) (by decide)
    · refine e_iload dX12_worth_43 rfl ?_
      refine e_goto dX12_worth_44 ?_
      exact e_iretI dX12_worth_68 rfl (qs hq (by simp only [F_worth, isC, h5, if_true, tc, wor]; first | (rw [if_pos (by assumption)]; rfl) | (rw [if_neg (by assumption), if_pos (by assumption)]; rfl) | (rw [if_neg (by assumption), if_neg (by assumption)]; rfl))) (by decide) (by decide)
  · refine e_push dX12_worth_8 ?_
    exact e_iretI dX12_worth_9 rfl (qs hq (by simp [F_worth, isC, h5])) (by decide) (by decide)
set_option maxRecDepth 100000 in
set_option maxHeartbeats 4000000 in
theorem c_X12_weigh {b0 : Nat} {D : va_G} {dA : Nat → ClassId} {dm : Nat → Nat → Prop} {ad : Nat → Nat → Nat} {Q : PQ} {ct0 : Nat → Nat → va_E} {S : St} (hM : dmM dm) {t : Nat} (I : Inv S t) (c w : Int32) (hq : Q (some (.int (F_weigh S c w).1)) dm ad (ctM dA ad ct0 (F_weigh S c w).2)) : Ct b0 D dA yX12_weigh cX12_weigh 4 (some .int) (Rm 2) [.ref (ad 16 0), .int c, .int w] dm ad (ctM dA ad ct0 S) Q := by
  refine ct_of (by decide) (Nat.le_of_ble_eq_true rfl) ?_
  refine e_aload dX12_weigh_0 rfl ?_
  refine e_iload dX12_weigh_1 rfl ?_
  refine n_callV1 dX12_weigh_2 ca_X12_116 hM.1 ctM_o (c_X12_isConstant hM _ ?_) 
  refine e_if_eqB dX12_weigh_5 (fun h5 => ?_) (fun h5 => ?_)
  · refine e_push dX12_weigh_19 ?_
    exact e_iretI dX12_weigh_20 rfl (qs hq (by first | (simp [F_weigh, isC, h5]; done) | (simp [F_weigh, isC, h16]; done))) (by decide) (by decide)
  · have h60 := I.1.2.1
    have e0 := I.1.1
    obtain ⟨c, hc, rfl⟩ := inB_n (N := nC S) (by omega) (by rw [← e0]; exact h5)
    have tc : tN (nI c) = c := tN_n (by omega)
    obtain ⟨hk, hk6, hbo, hw, hw1⟩ := I.1.2.2.1 c hc
    refine e_iload dX12_weigh_8 rfl ?_
    refine e_push dX12_weigh_9 ?_
    refine e_push dX12_weigh_10 ?_
    refine n_callS3 dX12_weigh_13 ca_X12_96  (c_X12_in _ _ _ ?_) 
    refine e_if_neB dX12_weigh_16 (fun h16 => ?_) (fun h16 => ?_)
    · refine e_aload dX12_weigh_21 rfl ?_
      refine m_geta dX12_weigh_22 fg_X12_20 hM (by decide) rfl ?_
      refine e_iload dX12_weigh_25 rfl ?_
      refine m_aldN (c) dX12_weigh_26 hM rfl (by decide) (by first | rfl | simp only [li_1, li_2, li_3, li_4, li_5, li_12, li_60, pk_mul, nI_add]) (by first | omega | (simp only [mLen]; omega)) (by decide) ?_
      refine e_istore dX12_weigh_27 ?_
      refine e_aload dX12_weigh_28 rfl ?_
      refine m_geta dX12_weigh_29 fg_X12_20 hM (by decide) rfl ?_
      refine e_iload dX12_weigh_32 rfl ?_
      refine e_iload dX12_weigh_33 rfl ?_
      refine m_astN (c) dX12_weigh_34 hM rfl (by decide) (by first | rfl | simp only [li_1, li_2, li_3, li_4, li_5, li_12, li_60, pk_mul, nI_add]) (by first | omega | (simp only [mLen]; omega)) (by decide) ?_
      refine e_iload dX12_weigh_35 rfl ?_
      exact e_iretI dX12_weigh_36 rfl (qs hq (by simp [F_weigh, isC, h5, h16, tc])) (by decide) (by decide)
    · refine e_push dX12_weigh_19 ?_
      exact e_iretI dX12_weigh_20 rfl (qs hq (by first | (simp [F_weigh, isC, h5]; done) | (simp [F_weigh, isC, h16]; done))) (by decide) (by decide)
end
section
theorem mdl_lt (z : Int64) {n : Nat} (h0 : 0 < n) (hn : n < 2 ^ 31) : ∃ j, j < n ∧ mdl z (nI n) = nI j := by
  sorry
theorem n64 {n : Nat} (h0 : 0 < n) (hn : n < 2 ^ 31) : ¬ (nI n).toInt64 = 0 := by
  rw [nI_l hn]; intro h
  have := (lN_eq hn (b := 0) (by decide)).mp h
  omega
set_option maxRecDepth 100000 in
set_option maxHeartbeats 4000000 in
theorem l_X12_shuffle {b0 : Nat} {D : va_G} {dA : Nat → ClassId} {dm : Nat → Nat → Prop} {ad : Nat → Nat → Nat} {Q : PQ} {ct0 : Nat → Nat → va_E} {S : St} (hM : dmM dm) {kd bd : Int32} {seed : Int64} {b m : Nat} (hb : b < 18) (hm60 : m ≤ 60) : ∀ i a, a 6 b = nI m → (i = 0 ∨ i < m) → Q (some (.int (a 6 b))) dm ad (ctM dA ad ct0 (S.1, shufA seed b i a, S.2.2)) → E b0 D dA yX12_shuffle cX12_shuffle 9 (some .int) (Rm 2) E0 (QFm b0 D dA (Rm 2) Q) 36 (lfA [some (.ref (ad 16 0)), some (.int kd), some (.int bd), some (.long seed), none, some (.int (nI b)), some (.int (nI i))]) [] dm ad (ctM dA ad ct0 (S.1, a, S.2.2)) 0 0 := by
  intro i
  induction i with
  | zero =>
    intro a hm hi hq
    refine e_iload dX12_shuffle_36 rfl ?_
    refine e_if_le dX12_shuffle_38 (fun h38 => ?_) (fun h38 => ?_)
    · refine e_aload dX12_shuffle_118 rfl ?_
      refine m_geta dX12_shuffle_119 fg_X12_26 hM (by decide) rfl ?_
      refine e_iload dX12_shuffle_122 rfl ?_
      refine m_aldN (b) dX12_shuffle_124 hM rfl (by decide) (by first | rfl | simp only [li_1, li_2, li_3, li_4, li_5, li_12, li_60, pk_mul, nI_add]) (by first | omega | (simp only [mLen]; omega)) (by decide) ?_
      exact e_iretI dX12_shuffle_125 rfl hq (by decide) (by decide)
    · exact absurd (Int32.le_refl 0) h38
  | succ i ih =>
    intro a hm hi hq
    refine e_iload dX12_shuffle_36 rfl ?_
    refine e_if_le dX12_shuffle_38 (fun h38 => ?_) (fun h38 => ?_)
    · exact absurd h38 (nI_nle (by omega) (by omega))
    · refine e_lload dX12_shuffle_41 rfl ?_
      refine e_iload dX12_shuffle_42 rfl ?_
      refine n_callS2 dX12_shuffle_44 ca_X12_130  (c_X12_drawOf _ _ ?_) 
      refine e_iload dX12_shuffle_47 rfl ?_
      refine e_push dX12_shuffle_49 ?_
      refine e_iadd dX12_shuffle_50 ?_
      refine e_topi (nI_1 (i + 1)) ?_
      refine n_callS2 dX12_shuffle_51 ca_X12_134  (c_X12_modulo _ _ (n64 (by omega) (by omega)) ?_) 
      obtain ⟨j, hj, ej⟩ := mdl_lt (drw seed (nI (i + 1))) (n := i + 2) (by omega) (by omega)
      refine e_topi ej ?_
      refine e_istore dX12_shuffle_54 ?_
      refine e_aload dX12_shuffle_56 rfl ?_
      refine m_geta dX12_shuffle_57 fg_X12_29 hM (by decide) rfl ?_
      refine e_push dX12_shuffle_60 ?_
      refine e_iload dX12_shuffle_62 rfl ?_
      refine e_imul dX12_shuffle_64 ?_
      refine e_iload dX12_shuffle_65 rfl ?_
      refine e_iadd dX12_shuffle_67 ?_
      refine m_aldN (60 * b + (i + 1)) dX12_shuffle_68 hM rfl (by decide) (by first | rfl | simp only [li_1, li_2, li_3, li_4, li_5, li_12, li_60, pk_mul, nI_add]) (by first | omega | (simp only [mLen]; omega)) (by decide) ?_
      refine e_istore dX12_shuffle_69 ?_
      refine e_aload dX12_shuffle_71 rfl ?_
      refine m_geta dX12_shuffle_72 fg_X12_29 hM (by decide) rfl ?_
      refine e_push dX12_shuffle_75 ?_
      refine e_iload dX12_shuffle_77 rfl ?_
      refine e_imul dX12_shuffle_79 ?_
      refine e_iload dX12_shuffle_80 rfl ?_
      refine e_iadd dX12_shuffle_82 ?_
      refine e_aload dX12_shuffle_83 rfl ?_
      refine m_geta dX12_shuffle_84 fg_X12_29 hM (by decide) rfl ?_
      refine e_push dX12_shuffle_87 ?_
      refine e_iload dX12_shuffle_89 rfl ?_
      refine e_imul dX12_shuffle_91 ?_
      refine e_iload dX12_shuffle_92 rfl ?_
      refine e_iadd dX12_shuffle_94 ?_
      refine m_aldN (60 * b + j) dX12_shuffle_95 hM rfl (by decide) (by first | rfl | simp only [li_1, li_2, li_3, li_4, li_5, li_12, li_60, pk_mul, nI_add]) (by first | omega | (simp only [mLen]; omega)) (by decide) ?_
      refine m_astN (60 * b + (i + 1)) dX12_shuffle_96 hM rfl (by decide) (by first | rfl | simp only [li_1, li_2, li_3, li_4, li_5, li_12, li_60, pk_mul, nI_add]) (by first | omega | (simp only [mLen]; omega)) (by decide) ?_
      refine e_aload dX12_shuffle_97 rfl ?_
      refine m_geta dX12_shuffle_98 fg_X12_29 hM (by decide) rfl ?_
      refine e_push dX12_shuffle_101 ?_
      refine e_iload dX12_shuffle_103 rfl ?_
      refine e_imul dX12_shuffle_105 ?_
      refine e_iload dX12_shuffle_106 rfl ?_
      refine e_iadd dX12_shuffle_108 ?_
      refine e_iload dX12_shuffle_109 rfl ?_
      refine m_astN (60 * b + j) dX12_shuffle_111 hM rfl (by decide) (by first | rfl | simp only [li_1, li_2, li_3, li_4, li_5, li_12, li_60, pk_mul, nI_add]) (by first | omega | (simp only [mLen]; omega)) (by decide) ?_
      refine e_iinc dX12_shuffle_112 rfl (dec1 i) ?_
      refine e_goto dX12_shuffle_115 ?_
      exact e_lvA (ih (swp a (60 * b + (i + 1)) (60 * b + j)) hm (by omega) (by rw [show shufA seed b (i + 1) a = shufA seed b i (swp a (60 * b + (i + 1)) (60 * b + j)) by show shufA seed b i _ = _; rw [show mdl (drw seed (nI (i + 1))) (nI (i + 2)) = nI j from ej, tN_n (by omega)]] at hq; exact hq)) ⟨rfl, rfl, rfl, rfl, rfl, rfl, trivial⟩
set_option maxRecDepth 100000 in
set_option maxHeartbeats 4000000 in
theorem c_X12_shuffle {b0 : Nat} {D : va_G} {dA : Nat → ClassId} {dm : Nat → Nat → Prop} {ad : Nat → Nat → Nat} {Q : PQ} {ct0 : Nat → Nat → va_E} {S : St} (hM : dmM dm) {t : Nat} (I : Inv S t) (kind bd : Int32) (seed : Int64) (hq : Q (some (.int (F_shuffle S kind bd seed).1)) dm ad (ctM dA ad ct0 (F_shuffle S kind bd seed).2)) : Ct b0 D dA yX12_shuffle cX12_shuffle 9 (some .int) (Rm 2) [.ref (ad 16 0), .int kind, .int bd, .long seed] dm ad (ctM dA ad ct0 S) Q := by
  refine ct_of (by decide) (Nat.le_of_ble_eq_true rfl) ?_
  refine e_iload dX12_shuffle_0 rfl ?_
  refine n_callS1 dX12_shuffle_1 ca_X12_100  (c_X12_isKind _ ?_) 
  refine e_if_eqB dX12_shuffle_4 (fun h4 => ?_) (fun h4 => ?_)
  · refine e_push dX12_shuffle_16 ?_
    exact e_iretI dX12_shuffle_17 rfl (qs hq (by first | (simp [F_shuffle, h4]; done) | (simp [F_shuffle, h13]; done))) (by decide) (by decide)
  · obtain ⟨kind, kind1, kind2, rfl⟩ := inB_l (a := 0) (b := 5) rfl rfl (by decide) (by decide) h4
    have tkind : tN (nI kind) = kind := tN_n (by omega)
    refine e_iload dX12_shuffle_7 rfl ?_
    refine e_push dX12_shuffle_8 ?_
    refine e_push dX12_shuffle_9 ?_
    refine n_callS3 dX12_shuffle_10 ca_X12_96  (c_X12_in _ _ _ ?_) 
    refine e_if_neB dX12_shuffle_13 (fun h13 => ?_) (fun h13 => ?_)
    · obtain ⟨bd, bd1, bd2, rfl⟩ := inB_l (a := 1) (b := 2) rfl rfl (by decide) (by decide) h13
      have tbd : tN (nI bd) = bd := tN_n (by omega)
      obtain ⟨hm, hmC, hbi, hbj⟩ := I.2.1 (3 * kind + bd) (by omega)
      have h60 := I.1.2.1
      refine e_push dX12_shuffle_18 ?_
      refine e_iload dX12_shuffle_19 rfl ?_
      refine e_imul dX12_shuffle_20 ?_
      refine e_iload dX12_shuffle_21 rfl ?_
      refine e_iadd dX12_shuffle_22 ?_
      refine e_topi (show _ = nI (3 * kind + bd) by simp only [li_1, li_2, li_3, li_4, li_5, li_12, li_60, pk_mul, nI_add]) ?_
      refine e_istore dX12_shuffle_23 ?_
      refine e_aload dX12_shuffle_25 rfl ?_
      refine m_geta dX12_shuffle_26 fg_X12_26 hM (by decide) rfl ?_
      refine e_iload dX12_shuffle_29 rfl ?_
      refine m_aldN (3 * kind + bd) dX12_shuffle_31 hM rfl (by decide) (by first | rfl | simp only [li_1, li_2, li_3, li_4, li_5, li_12, li_60, pk_mul, nI_add]) (by first | omega | (simp only [mLen]; omega)) (by decide) ?_
      refine e_topi hm ?_
      refine e_push dX12_shuffle_32 ?_
      refine e_isub dX12_shuffle_33 ?_
      refine e_istore dX12_shuffle_34 ?_
      simp only [F_shuffle, h4, h13, Bool.and_self, if_true, tkind, tbd] at hq
      cases hz : mb S (3 * kind + bd) with
      | zero =>
        rw [hz] at hq hm
        refine e_iload dX12_shuffle_36 rfl ?_
        refine e_if_le dX12_shuffle_38 (fun h38 => ?_) (fun h38 => ?_)
        · refine e_aload dX12_shuffle_118 rfl ?_
          refine m_geta dX12_shuffle_119 fg_X12_26 hM (by decide) rfl ?_
          refine e_iload dX12_shuffle_122 rfl ?_
          refine m_aldN (3 * kind + bd) dX12_shuffle_124 hM rfl (by decide) rfl (by simp only [mLen]; omega) (by decide) ?_
          exact e_iretI dX12_shuffle_125 rfl hq (by decide) (by decide)
        · exact absurd (by decide) h38
      | succ m =>
        rw [hz] at hq hm
        exact e_lvA (l_X12_shuffle (m := m + 1) hM (by omega) (by omega) m S.2.1 hm (by omega) hq) ⟨rfl, rfl, rfl, rfl, rfl, congrArg (fun z => some (Value.int z)) (nI_pred m), trivial⟩
    · refine e_push dX12_shuffle_16 ?_
      exact e_iretI dX12_shuffle_17 rfl (qs hq (by first | (simp [F_shuffle, h4]; done) | (simp [F_shuffle, h13]; done))) (by decide) (by decide)
set_option maxRecDepth 100000 in
set_option maxHeartbeats 4000000 in
theorem l_X12_lacks {b0 : Nat} {D : va_G} {dA : Nat → ClassId} {dm : Nat → Nat → Prop} {ad : Nat → Nat → Nat} {Q : PQ} {ct0 : Nat → Nat → va_E} {S : St} (hM : dmM dm) {b : Nat} (hb : b < 18) (hm : S.2.1 6 b = nI (mb S b)) (hm60 : mb S b ≤ 60) (hbi : ∀ i, i < mb S b → S.2.1 7 (60 * b + i) = nI (bc S b i) ∧ bc S b i < 60) : ∀ k i, i + k = mb S b → Q (some (.int (lackM S b (fnd (laP S b) k i)))) dm ad (ctM dA ad ct0 S) → E b0 D dA yX12_lacks cX12_lacks 3 (some .int) (Rm 0) E0 (QFm b0 D dA (Rm 0) Q) 2 (lfA [some (.ref (ad 16 0)), some (.int (nI b)), some (.int (nI i))]) [] dm ad (ctM dA ad ct0 S) 0 0 := by
  intro k
  induction k with
  | zero =>
    intro i hi hq
    refine e_iload dX12_lacks_2 rfl ?_
    refine e_aload dX12_lacks_3 rfl ?_
    refine m_geta dX12_lacks_4 fg_X12_26 hM (by decide) rfl ?_
    refine e_iload dX12_lacks_7 rfl ?_
    refine m_aldN (b) dX12_lacks_8 hM rfl (by decide) (by first | rfl | simp only [li_1, li_2, li_3, li_4, li_5, li_12, li_60, pk_mul, nI_add]) (by first | omega | (simp only [mLen]; omega)) (by decide) ?_
    refine e_topi hm ?_
    refine e_icmp_ge dX12_lacks_9 (fun h9 => ?_) (fun h9 => ?_)
    · refine e_aload dX12_lacks_52 rfl ?_
      refine m_geta dX12_lacks_53 fg_X12_26 hM (by decide) rfl ?_
      refine e_iload dX12_lacks_56 rfl ?_
      refine m_aldN (b) dX12_lacks_57 hM rfl (by decide) (by first | rfl | simp only [li_1, li_2, li_3, li_4, li_5, li_12, li_60, pk_mul, nI_add]) (by first | omega | (simp only [mLen]; omega)) (by decide) ?_
      refine e_if_ne dX12_lacks_58 (fun h58 => ?_) (fun h58 => ?_)
      · refine e_push dX12_lacks_65 ?_
        exact e_iretI dX12_lacks_66 rfl (qi hq (by simp [fnd, lackM, h58])) (by decide) (by decide)
      · refine e_push dX12_lacks_61 ?_
        refine e_goto dX12_lacks_62 ?_
        exact e_iretI dX12_lacks_66 rfl (qi hq (by simp [fnd, lackM, h58])) (by decide) (by decide)
    · exact absurd (nI_le (by omega) (by omega)) h9
  | succ k ih =>
    intro i hi hq
    refine e_iload dX12_lacks_2 rfl ?_
    refine e_aload dX12_lacks_3 rfl ?_
    refine m_geta dX12_lacks_4 fg_X12_26 hM (by decide) rfl ?_
    refine e_iload dX12_lacks_7 rfl ?_
    refine m_aldN (b) dX12_lacks_8 hM rfl (by decide) (by first | rfl | simp only [li_1, li_2, li_3, li_4, li_5, li_12, li_60, pk_mul, nI_add]) (by first | omega | (simp only [mLen]; omega)) (by decide) ?_
    refine e_topi hm ?_
    refine e_icmp_ge dX12_lacks_9 (fun h9 => ?_) (fun h9 => ?_)
    · exact absurd h9 (nI_ge (by omega) (by omega))
    · obtain ⟨hc, hc6⟩ := hbi i (by omega)
      refine e_aload dX12_lacks_12 rfl ?_
      refine m_geta dX12_lacks_13 fg_X12_20 hM (by decide) rfl ?_
      refine e_aload dX12_lacks_16 rfl ?_
      refine m_geta dX12_lacks_17 fg_X12_29 hM (by decide) rfl ?_
      refine e_push dX12_lacks_20 ?_
      refine e_iload dX12_lacks_22 rfl ?_
      refine e_imul dX12_lacks_23 ?_
      refine e_iload dX12_lacks_24 rfl ?_
      refine e_iadd dX12_lacks_25 ?_
      refine m_aldN (60 * b + i) dX12_lacks_26 hM rfl (by decide) (by first | rfl | simp only [li_1, li_2, li_3, li_4, li_5, li_12, li_60, pk_mul, nI_add]) (by first | omega | (simp only [mLen]; omega)) (by decide) ?_
      refine e_topi hc ?_
      refine m_aldN (bc S b i) dX12_lacks_27 hM rfl (by decide) (by first | rfl | simp only [li_1, li_2, li_3, li_4, li_5, li_12, li_60, pk_mul, nI_add]) (by first | omega | (simp only [mLen]; omega)) (by decide) ?_
      refine e_if_ne dX12_lacks_28 (fun h28 => ?_) (fun h28 => ?_)
      · refine e_iinc dX12_lacks_46 rfl (inc1 i) ?_
        refine e_goto dX12_lacks_49 ?_
        exact e_lvA (ih (i + 1) (by omega) (by rw [fnd_f (decide_eq_false h28)] at hq; exact hq)) ⟨rfl, rfl, rfl, trivial⟩
      · refine e_push dX12_lacks_31 ?_
        refine e_aload dX12_lacks_33 rfl ?_
        refine m_geta dX12_lacks_34 fg_X12_29 hM (by decide) rfl ?_
        refine e_push dX12_lacks_37 ?_
        refine e_iload dX12_lacks_39 rfl ?_
        refine e_imul dX12_lacks_40 ?_
        refine e_iload dX12_lacks_41 rfl ?_
        refine e_iadd dX12_lacks_42 ?_
        refine m_aldN (60 * b + i) dX12_lacks_43 hM rfl (by decide) (by first | rfl | simp only [li_1, li_2, li_3, li_4, li_5, li_12, li_60, pk_mul, nI_add]) (by first | omega | (simp only [mLen]; omega)) (by decide) ?_
        refine e_isub dX12_lacks_44 ?_
        exact e_iretI dX12_lacks_45 rfl (by rw [fnd_t (decide_eq_true h28)] at hq; exact hq) (by decide) (by decide)
set_option maxRecDepth 100000 in
set_option maxHeartbeats 4000000 in
theorem c_X12_lacks {b0 : Nat} {D : va_G} {dA : Nat → ClassId} {dm : Nat → Nat → Prop} {ad : Nat → Nat → Nat} {Q : PQ} {ct0 : Nat → Nat → va_E} {S : St} (hM : dmM dm) {b : Nat} (hb : b < 18) (hm : S.2.1 6 b = nI (mb S b)) (hm60 : mb S b ≤ 60) (hbi : ∀ i, i < mb S b → S.2.1 7 (60 * b + i) = nI (bc S b i) ∧ bc S b i < 60) (hq : Q (some (.int (lackF S b))) dm ad (ctM dA ad ct0 S)) : Ct b0 D dA yX12_lacks cX12_lacks 3 (some .int) (Rm 0) [.ref (ad 16 0), .int (nI b)] dm ad (ctM dA ad ct0 S) Q := by
  refine ct_of (by decide) (Nat.le_of_ble_eq_true rfl) ?_
  refine e_push dX12_lacks_0 ?_
  refine e_istore dX12_lacks_1 ?_
  exact e_lvA (l_X12_lacks hM hb hm hm60 hbi (mb S b) 0 (by omega) hq) ⟨rfl, rfl, rfl, trivial⟩
set_option maxRecDepth 100000 in
set_option maxHeartbeats 4000000 in
theorem c_X12_table {b0 : Nat} {D : va_G} {dA : Nat → ClassId} {dm : Nat → Nat → Prop} {ad : Nat → Nat → Nat} {Q : PQ} {ct0 : Nat → Nat → va_E} {S : St} (hM : dmM dm) {t : Nat} (I : Inv S t) (kind bd : Int32) (hq : Q (some (.int (F_table S kind bd))) dm ad (ctM dA ad ct0 S)) : Ct b0 D dA yX12_table cX12_table 3 (some .int) (Rm 2) [.ref (ad 16 0), .int kind, .int bd] dm ad (ctM dA ad ct0 S) Q := by
  refine ct_of (by decide) (Nat.le_of_ble_eq_true rfl) ?_
  refine e_iload dX12_table_0 rfl ?_
  refine n_callS1 dX12_table_1 ca_X12_100  (c_X12_isKind _ ?_) 
  refine e_if_eqB dX12_table_4 (fun h4 => ?_) (fun h4 => ?_)
  · refine e_push dX12_table_28 ?_
    exact e_iretI dX12_table_29 rfl (qi hq (by first | (simp [F_table, h4]; done) | (simp [F_table, h13]; done) | (simp [F_table, h4, h13, tkind, tbd]; done))) (by decide) (by decide)
  · obtain ⟨kind, kind1, kind2, rfl⟩ := inB_l (a := 0) (b := 5) rfl rfl (by decide) (by decide) h4
    have tkind : tN (nI kind) = kind := tN_n (by omega)
    refine e_iload dX12_table_7 rfl ?_
    refine e_push dX12_table_8 ?_
    refine e_push dX12_table_9 ?_
    refine n_callS3 dX12_table_10 ca_X12_96  (c_X12_in _ _ _ ?_) 
    refine e_if_eqB dX12_table_13 (fun h13 => ?_) (fun h13 => ?_)
    · refine e_push dX12_table_28 ?_
      exact e_iretI dX12_table_29 rfl (qi hq (by first | (simp [F_table, h4]; done) | (simp [F_table, h13]; done) | (simp [F_table, h4, h13, tkind, tbd]; done))) (by decide) (by decide)
    · obtain ⟨bd, bd1, bd2, rfl⟩ := inB_l (a := 0) (b := 2) rfl rfl (by decide) (by decide) h13
      have tbd : tN (nI bd) = bd := tN_n (by omega)
      obtain ⟨hm, hmC, hbi, hbj⟩ := I.2.1 (3 * kind + bd) (by omega)
      have h60 := I.1.2.1
      refine e_aload dX12_table_16 rfl ?_
      refine e_push dX12_table_17 ?_
      refine e_iload dX12_table_18 rfl ?_
      refine e_imul dX12_table_19 ?_
      refine e_iload dX12_table_20 rfl ?_
      refine e_iadd dX12_table_21 ?_
      refine e_topi (show _ = nI (3 * kind + bd) by simp only [li_1, li_2, li_3, li_4, li_5, li_12, li_60, pk_mul, nI_add]) ?_
      refine n_callV1 dX12_table_22 ca_X12_145 hM.1 ctM_o (c_X12_lacks hM (by omega) hm (by omega) (fun i hi => ⟨(hbi i hi).1, by have := (hbi i hi).2.1; omega⟩) ?_) 
      refine e_goto dX12_table_25 ?_
      exact e_iretI dX12_table_29 rfl (qi hq (by first | (simp [F_table, h4]; done) | (simp [F_table, h13]; done) | (simp [F_table, h4, h13, tkind, tbd]; done))) (by decide) (by decide)
set_option maxRecDepth 100000 in
set_option maxHeartbeats 4000000 in
theorem l2_X12_draw {b0 : Nat} {D : va_G} {dA : Nat → ClassId} {dm : Nat → Nat → Prop} {ad : Nat → Nat → Nat} {Q : PQ} {ct0 : Nat → Nat → va_E} {S : St} (hM : dmM dm) {kd bd n sm : Int32} {seed : Int64} {b : Nat} (hb : b < 18) (hm : S.2.1 6 b = nI (mb S b)) (hm60 : mb S b ≤ 60) (hbi : ∀ i, i < mb S b → S.2.1 7 (60 * b + i) = nI (bc S b i) ∧ bc S b i < 60 ∧ S.2.1 1 (bc S b i) = nI (kN S (bc S b i)) ∧ kN S (bc S b i) < 6 ∧ S.2.1 4 (bc S b i) = nI (wN S (bc S b i)) ∧ wN S (bc S b i) ≤ 1000) : ∀ k l i, i + k = mb S b → l + sumW S b i < sumW S b (mb S b) → Q (some (.int (nI (bc S b (pick S b k l i))))) dm ad (ctM dA ad ct0 (drS S (bc S b (pick S b k l i)))) → E b0 D dA yX12_draw cX12_draw 11 (some .int) (Rm 2) E0 (QFm b0 D dA (Rm 2) Q) 105 (lfA [some (.ref (ad 16 0)), some (.int kd), some (.int bd), some (.long seed), none, some (.int n), some (.int (nI b)), some (.int sm), some (.int (nI l)), some (.int (nI i))]) [] dm ad (ctM dA ad ct0 S) 0 0 := by
  intro k
  induction k with
  | zero =>
    intro l i hi hs
    rw [Nat.add_zero] at hi
    subst hi
    omega
  | succ k ih =>
    intro l i hi hs hq
    have hc := hbi i (by omega)
    have hsw : sumW S b (mb S b) ≤ 60000 := sumW_le hm60 (fun i hi => (hbi i hi).2.2.2.2.2)
    refine e_iload dX12_draw_105 rfl ?_
    refine e_aload dX12_draw_107 rfl ?_
    refine m_geta dX12_draw_108 fg_X12_20 hM (by decide) rfl ?_
    refine e_aload dX12_draw_111 rfl ?_
    refine m_geta dX12_draw_112 fg_X12_29 hM (by decide) rfl ?_
    refine e_push dX12_draw_115 ?_
    refine e_iload dX12_draw_117 rfl ?_
    refine e_imul dX12_draw_119 ?_
    refine e_iload dX12_draw_120 rfl ?_
    refine e_iadd dX12_draw_122 ?_
    refine m_aldN (60 * b + i) dX12_draw_123 hM rfl (by decide) (by first | rfl | simp only [li_1, li_2, li_3, li_4, li_5, li_12, li_60, pk_mul, nI_add]) (by first | omega | (simp only [mLen]; omega)) (by decide) ?_
    refine e_topi hc.1 ?_
    refine m_aldN (bc S b i) dX12_draw_124 hM rfl (by decide) (by first | rfl | simp only [li_1, li_2, li_3, li_4, li_5, li_12, li_60, pk_mul, nI_add]) (by first | omega | (simp only [mLen]; omega)) (by decide) ?_
    refine e_topi hc.2.2.2.2.1 ?_
    refine e_icmp_lt dX12_draw_125 (fun h125 => ?_) (fun h125 => ?_)
    · have hlt := (nI_ltI (by omega) (by omega)).mp h125
      rw [pick, if_neg (by omega)] at hq
      refine e_aload dX12_draw_157 rfl ?_
      refine m_geta dX12_draw_158 fg_X12_29 hM (by decide) rfl ?_
      refine e_push dX12_draw_161 ?_
      refine e_iload dX12_draw_163 rfl ?_
      refine e_imul dX12_draw_165 ?_
      refine e_iload dX12_draw_166 rfl ?_
      refine e_iadd dX12_draw_168 ?_
      refine m_aldN (60 * b + i) dX12_draw_169 hM rfl (by decide) (by first | rfl | simp only [li_1, li_2, li_3, li_4, li_5, li_12, li_60, pk_mul, nI_add]) (by first | omega | (simp only [mLen]; omega)) (by decide) ?_
      refine e_topi hc.1 ?_
      refine e_istore dX12_draw_170 ?_
      refine e_aload dX12_draw_172 rfl ?_
      refine m_geta dX12_draw_173 fg_X12_23 hM (by decide) rfl ?_
      refine e_iload dX12_draw_176 rfl ?_
      refine e_dup2 dX12_draw_178 ?_
      refine m_aldN (bc S b i) dX12_draw_179 hM rfl (by decide) (by first | rfl | simp only [li_1, li_2, li_3, li_4, li_5, li_12, li_60, pk_mul, nI_add]) (by first | omega | (simp only [mLen]; omega)) (by decide) ?_
      refine e_push dX12_draw_180 ?_
      refine e_iadd dX12_draw_181 ?_
      refine m_astN (bc S b i) dX12_draw_182 hM rfl (by decide) (by first | rfl | simp only [li_1, li_2, li_3, li_4, li_5, li_12, li_60, pk_mul, nI_add]) (by first | omega | (simp only [mLen]; omega)) (by decide) ?_
      refine e_aload dX12_draw_183 rfl ?_
      refine e_dup dX12_draw_184 ?_
      refine m_geti dX12_draw_185 fg_X12_149 hM (by decide) rfl ?_
      refine e_push dX12_draw_188 ?_
      refine e_iadd dX12_draw_189 ?_
      refine m_put dX12_draw_190 fp_X12_149 hM (by decide) rfl ?_
      refine e_aload dX12_draw_193 rfl ?_
      refine e_iload dX12_draw_194 rfl ?_
      refine n_callV1 dX12_draw_196 ca_X12_141 hM.1 ctM_o (c_X12_starts hM hc.2.1 hc.2.2.1 hc.2.2.2.1 ?_) 
      refine e_aload dX12_draw_199 rfl ?_
      refine e_dup dX12_draw_200 ?_
      refine m_geti dX12_draw_201 fg_X12_138 hM (by decide) rfl ?_
      refine e_push dX12_draw_204 ?_
      refine e_iadd dX12_draw_205 ?_
      refine m_put dX12_draw_206 fp_X12_138 hM (by decide) rfl ?_
      refine e_iload dX12_draw_209 rfl ?_
      exact e_iretI dX12_draw_211 rfl hq (by decide) (by decide)
    · have hle : wN S (bc S b i) ≤ l := Nat.le_of_not_lt (fun z => h125 ((nI_ltI (by omega) (by omega)).mpr z))
      refine e_iload dX12_draw_128 rfl ?_
      refine e_aload dX12_draw_130 rfl ?_
      refine m_geta dX12_draw_131 fg_X12_20 hM (by decide) rfl ?_
      refine e_aload dX12_draw_134 rfl ?_
      refine m_geta dX12_draw_135 fg_X12_29 hM (by decide) rfl ?_
      refine e_push dX12_draw_138 ?_
      refine e_iload dX12_draw_140 rfl ?_
      refine e_imul dX12_draw_142 ?_
      refine e_iload dX12_draw_143 rfl ?_
      refine e_iadd dX12_draw_145 ?_
      refine m_aldN (60 * b + i) dX12_draw_146 hM rfl (by decide) (by first | rfl | simp only [li_1, li_2, li_3, li_4, li_5, li_12, li_60, pk_mul, nI_add]) (by first | omega | (simp only [mLen]; omega)) (by decide) ?_
      refine e_topi hc.1 ?_
      refine m_aldN (bc S b i) dX12_draw_147 hM rfl (by decide) (by first | rfl | simp only [li_1, li_2, li_3, li_4, li_5, li_12, li_60, pk_mul, nI_add]) (by first | omega | (simp only [mLen]; omega)) (by decide) ?_
      refine e_topi hc.2.2.2.2.1 ?_
      refine e_isub dX12_draw_148 ?_
      refine e_topi (pk_sub hle) ?_
      refine e_istore dX12_draw_149 ?_
      refine e_iinc dX12_draw_151 rfl (inc1 i) ?_
      refine e_goto dX12_draw_154 ?_
      exact e_lvA (ih (l - wN S (bc S b i)) (i + 1) (by omega) (by rw [sumW] at *; omega) (by rw [pick, if_pos hle] at hq; exact hq)) ⟨rfl, rfl, rfl, rfl, rfl, rfl, rfl, rfl, rfl, trivial⟩
set_option maxRecDepth 100000 in
set_option maxHeartbeats 4000000 in
theorem l1_X12_draw {b0 : Nat} {D : va_G} {dA : Nat → ClassId} {dm : Nat → Nat → Prop} {ad : Nat → Nat → Nat} {Q : PQ} {ct0 : Nat → Nat → va_E} {S : St} (hM : dmM dm) {kd bd n : Int32} {seed : Int64} {b : Nat} (hb : b < 18) (hm : S.2.1 6 b = nI (mb S b)) (hm60 : mb S b ≤ 60) (hbi : ∀ i, i < mb S b → S.2.1 7 (60 * b + i) = nI (bc S b i) ∧ bc S b i < 60 ∧ S.2.1 1 (bc S b i) = nI (kN S (bc S b i)) ∧ kN S (bc S b i) < 6 ∧ S.2.1 4 (bc S b i) = nI (wN S (bc S b i)) ∧ wN S (bc S b i) ≤ 1000) (hs0 : 0 < sumW S b (mb S b)) (hq : ∀ l, l < sumW S b (mb S b) → mdl (drw seed n) (nI (sumW S b (mb S b))) = nI l → Q (some (.int (nI (bc S b (pick S b (mb S b) l 0))))) dm ad (ctM dA ad ct0 (drS S (bc S b (pick S b (mb S b) l 0))))) : ∀ k i, i + k = mb S b → E b0 D dA yX12_draw cX12_draw 11 (some .int) (Rm 2) E0 (QFm b0 D dA (Rm 2) Q) 48 (lfA [some (.ref (ad 16 0)), some (.int kd), some (.int bd), some (.long seed), none, some (.int n), some (.int (nI b)), some (.int (nI (sumW S b i))), some (.int (nI i))]) [] dm ad (ctM dA ad ct0 S) 0 0 := by
  have hsw : sumW S b (mb S b) ≤ 60000 := sumW_le hm60 (fun i hi => (hbi i hi).2.2.2.2.2)
  intro k
  induction k with
  | zero =>
    intro i hi
    refine e_iload dX12_draw_48 rfl ?_
    refine e_aload dX12_draw_50 rfl ?_
    refine m_geta dX12_draw_51 fg_X12_26 hM (by decide) rfl ?_
    refine e_iload dX12_draw_54 rfl ?_
    refine m_aldN (b) dX12_draw_56 hM rfl (by decide) (by first | rfl | simp only [li_1, li_2, li_3, li_4, li_5, li_12, li_60, pk_mul, nI_add]) (by first | omega | (simp only [mLen]; omega)) (by decide) ?_
    refine e_topi hm ?_
    refine e_icmp_ge dX12_draw_57 (fun h57 => ?_) (fun h57 => ?_)
    · rw [Nat.add_zero] at hi
      subst hi
      refine e_lload dX12_draw_89 rfl ?_
      refine e_iload dX12_draw_90 rfl ?_
      refine n_callS2 dX12_draw_92 ca_X12_130  (c_X12_drawOf _ _ ?_) 
      refine e_iload dX12_draw_95 rfl ?_
      refine n_callS2 dX12_draw_97 ca_X12_134  (c_X12_modulo _ _ (n64 hs0 (by omega)) ?_) 
      obtain ⟨l, hl, el⟩ := mdl_lt (drw seed n) (n := sumW S b (mb S b)) hs0 (by omega)
      refine e_topi el ?_
      refine e_istore dX12_draw_100 ?_
      refine e_push dX12_draw_102 ?_
      refine e_istore dX12_draw_103 ?_
      exact e_lvA (l2_X12_draw hM hb hm hm60 hbi (mb S b) l 0 (by omega) (by simpa [sumW] using hl) (hq l hl el)) ⟨rfl, rfl, rfl, rfl, rfl, rfl, rfl, rfl, rfl, trivial⟩
    · exact absurd (nI_le (by omega) (by omega)) h57
  | succ k ih =>
    intro i hi
    refine e_iload dX12_draw_48 rfl ?_
    refine e_aload dX12_draw_50 rfl ?_
    refine m_geta dX12_draw_51 fg_X12_26 hM (by decide) rfl ?_
    refine e_iload dX12_draw_54 rfl ?_
    refine m_aldN (b) dX12_draw_56 hM rfl (by decide) (by first | rfl | simp only [li_1, li_2, li_3, li_4, li_5, li_12, li_60, pk_mul, nI_add]) (by first | omega | (simp only [mLen]; omega)) (by decide) ?_
    refine e_topi hm ?_
    refine e_icmp_ge dX12_draw_57 (fun h57 => ?_) (fun h57 => ?_)
    · exact absurd h57 (nI_ge (by omega) (by omega))
    · have hc := hbi i (by omega)
      refine e_iload dX12_draw_60 rfl ?_
      refine e_aload dX12_draw_62 rfl ?_
      refine m_geta dX12_draw_63 fg_X12_20 hM (by decide) rfl ?_
      refine e_aload dX12_draw_66 rfl ?_
      refine m_geta dX12_draw_67 fg_X12_29 hM (by decide) rfl ?_
      refine e_push dX12_draw_70 ?_
      refine e_iload dX12_draw_72 rfl ?_
      refine e_imul dX12_draw_74 ?_
      refine e_iload dX12_draw_75 rfl ?_
      refine e_iadd dX12_draw_77 ?_
      refine m_aldN (60 * b + i) dX12_draw_78 hM rfl (by decide) (by first | rfl | simp only [li_1, li_2, li_3, li_4, li_5, li_12, li_60, pk_mul, nI_add]) (by first | omega | (simp only [mLen]; omega)) (by decide) ?_
      refine e_topi hc.1 ?_
      refine m_aldN (bc S b i) dX12_draw_79 hM rfl (by decide) (by first | rfl | simp only [li_1, li_2, li_3, li_4, li_5, li_12, li_60, pk_mul, nI_add]) (by first | omega | (simp only [mLen]; omega)) (by decide) ?_
      refine e_topi hc.2.2.2.2.1 ?_
      refine e_iadd dX12_draw_80 ?_
      refine e_topi (nI_add _ _) ?_
      refine e_istore dX12_draw_81 ?_
      refine e_iinc dX12_draw_83 rfl (inc1 i) ?_
      refine e_goto dX12_draw_86 ?_
      exact e_lvA (ih (i + 1) (by omega)) ⟨rfl, rfl, rfl, rfl, rfl, rfl, rfl, rfl, trivial⟩
set_option maxRecDepth 100000 in
set_option maxHeartbeats 4000000 in
theorem c_X12_draw {b0 : Nat} {D : va_G} {dA : Nat → ClassId} {dm : Nat → Nat → Prop} {ad : Nat → Nat → Nat} {Q : PQ} {ct0 : Nat → Nat → va_E} {S : St} (hM : dmM dm) {t : Nat} (I : Inv S t) (kind bd : Int32) (seed : Int64) (n : Int32) (hq : Q (some (.int (F_draw S kind bd seed n).1)) dm ad (ctM dA ad ct0 (F_draw S kind bd seed n).2)) : Ct b0 D dA yX12_draw cX12_draw 11 (some .int) (Rm 2) [.ref (ad 16 0), .int kind, .int bd, .long seed, .int n] dm ad (ctM dA ad ct0 S) Q := by
  refine ct_of (by decide) (Nat.le_of_ble_eq_true rfl) ?_
  refine e_iload dX12_draw_0 rfl ?_
  refine n_callS1 dX12_draw_1 ca_X12_100  (c_X12_isKind _ ?_) 
  refine e_if_eqB dX12_draw_4 (fun h4 => ?_) (fun h4 => ?_)
  · refine e_push dX12_draw_21 ?_
    exact e_iretI dX12_draw_22 rfl (qs hq (by first | (simp [F_draw, h4]; done) | (simp [F_draw, h13]; done) | (simp [F_draw, h18]; done))) (by decide) (by decide)
  · obtain ⟨kind, kind1, kind2, rfl⟩ := inB_l (a := 0) (b := 5) rfl rfl (by decide) (by decide) h4
    have tkind : tN (nI kind) = kind := tN_n (by omega)
    refine e_iload dX12_draw_7 rfl ?_
    refine e_push dX12_draw_8 ?_
    refine e_push dX12_draw_9 ?_
    refine n_callS3 dX12_draw_10 ca_X12_96  (c_X12_in _ _ _ ?_) 
    refine e_if_eqB dX12_draw_13 (fun h13 => ?_) (fun h13 => ?_)
    · refine e_push dX12_draw_21 ?_
      exact e_iretI dX12_draw_22 rfl (qs hq (by first | (simp [F_draw, h4]; done) | (simp [F_draw, h13]; done) | (simp [F_draw, h18]; done))) (by decide) (by decide)
    · obtain ⟨bd, bd1, bd2, rfl⟩ := inB_l (a := 0) (b := 2) rfl rfl (by decide) (by decide) h13
      have tbd : tN (nI bd) = bd := tN_n (by omega)
      obtain ⟨hm, hmC, hbi, hbj⟩ := I.2.1 (3 * kind + bd) (by omega)
      have h60 := I.1.2.1
      refine e_iload dX12_draw_16 rfl ?_
      refine e_if_ge dX12_draw_18 (fun h18 => ?_) (fun h18 => ?_)
      · refine e_push dX12_draw_23 ?_
        refine e_iload dX12_draw_24 rfl ?_
        refine e_imul dX12_draw_25 ?_
        refine e_iload dX12_draw_26 rfl ?_
        refine e_iadd dX12_draw_27 ?_
        refine e_topi (show _ = nI (3 * kind + bd) by simp only [li_1, li_2, li_3, li_4, li_5, li_12, li_60, pk_mul, nI_add]) ?_
        refine e_istore dX12_draw_28 ?_
        refine e_aload dX12_draw_30 rfl ?_
        refine e_iload dX12_draw_31 rfl ?_
        refine n_callV1 dX12_draw_33 ca_X12_145 hM.1 ctM_o (c_X12_lacks hM (by omega) hm (by omega) (fun i hi => ⟨(hbi i hi).1, by have := (hbi i hi).2.1; omega⟩) ?_) 
        refine e_if_eq dX12_draw_36 (fun h36 => ?_) (fun h36 => ?_)
        · refine e_push dX12_draw_42 ?_
          refine e_istore dX12_draw_43 ?_
          refine e_push dX12_draw_45 ?_
          refine e_istore dX12_draw_46 ?_
          simp only [F_draw, h4, h13, h18, decide_true, Bool.and_self, if_true, tkind, tbd] at hq
          rw [if_pos h36] at hq
          have hbi' : ∀ i, i < mb S (3 * kind + bd) → S.2.1 7 (60 * (3 * kind + bd) + i) = nI (bc S (3 * kind + bd) i) ∧ bc S (3 * kind + bd) i < 60 ∧ S.2.1 1 (bc S (3 * kind + bd) i) = nI (kN S (bc S (3 * kind + bd) i)) ∧ kN S (bc S (3 * kind + bd) i) < 6 ∧ S.2.1 4 (bc S (3 * kind + bd) i) = nI (wN S (bc S (3 * kind + bd) i)) ∧ wN S (bc S (3 * kind + bd) i) ≤ 1000 := fun i hi => by
            obtain ⟨g1, g2, -⟩ := hbi i hi
            obtain ⟨f1, f2, -, f4, f5⟩ := I.1.2.2.1 _ g2
            exact ⟨g1, by omega, f1, f2, f4, f5⟩
          have hs0 := lack_sum (fun i hi => (hbi' i hi).2.2.2.2.1) hm h36
          exact e_lvA (l1_X12_draw hM (by omega) hm (by omega) hbi' hs0 (fun l hl el => by
            have hsw := sumW_le (S := S) (b := 3 * kind + bd) (m := mb S (3 * kind + bd)) (by omega) (fun i hi => (hbi' i hi).2.2.2.2.2)
            rw [el, tN_n (by omega)] at hq
            have hp : pick S (3 * kind + bd) (mb S (3 * kind + bd)) l 0 < mb S (3 * kind + bd) := pick_lt hl
            rw [(hbi' _ hp).1] at hq
            exact hq) (mb S (3 * kind + bd)) 0 (by omega)) ⟨rfl, rfl, rfl, rfl, rfl, rfl, rfl, rfl, trivial⟩
        · skip
          refine e_push dX12_draw_39 ?_
          exact e_iretI dX12_draw_41 rfl (qs hq (by simp only [F_draw, h4, h13, h18, decide_true, Bool.and_self, if_true, tkind, tbd]; rw [if_neg h36])) (by decide) (by decide)
      · refine e_push dX12_draw_21 ?_
        exact e_iretI dX12_draw_22 rfl (qs hq (by first | (simp [F_draw, h4]; done) | (simp [F_draw, h13]; done) | (simp [F_draw, h18]; done))) (by decide) (by decide)
end
section
set_option maxRecDepth 100000 in
set_option maxHeartbeats 4000000 in
theorem c_X12_familyOf {b0 : Nat} {D : va_G} {dA : Nat → ClassId} {dm : Nat → Nat → Prop} {ad : Nat → Nat → Nat} {Q : PQ} {ct0 : Nat → Nat → va_E} {S : St} (hM : dmM dm) (v : Int32) (hv : okT S v) (hR : nR S ≤ 512) (hC : nC S ≤ 60) (hq : Q (some (.int (famF S v))) dm ad (ctM dA ad ct0 S)) : Ct b0 D dA yX12_familyOf cX12_familyOf 2 (some .int) (Rm 0) [.ref (ad 16 0), .int v] dm ad (ctM dA ad ct0 S) Q := by
  refine ct_of (by decide) (Nat.le_of_ble_eq_true rfl) ?_
  refine e_iload dX12_familyOf_0 rfl ?_
  refine e_push dX12_familyOf_1 ?_
  refine e_icmp_ne dX12_familyOf_2 (fun h2 => ?_) (fun h2 => ?_)
  · refine e_iload dX12_familyOf_9 rfl ?_
    refine e_push dX12_familyOf_10 ?_
    refine e_icmp_ge dX12_familyOf_12 (fun h12 => ?_) (fun h12 => ?_)
    · refine e_iload dX12_familyOf_26 rfl ?_
      refine e_ldc dX12_familyOf_27 kw_X12_152 ?_
      refine e_icmp_ge dX12_familyOf_29 (fun h29 => ?_) (fun h29 => ?_)
      · refine e_push dX12_familyOf_36 ?_
        exact e_iretI dX12_familyOf_37 rfl (qi hq (by first | (simp [famF, h2]; done) | (simp only [famF, if_neg h2, if_pos (Int32.not_le.mp h12), tN_n (show c < 2 ^ 31 by omega)]; done) | (simp only [famF, if_neg h2, if_neg (Int32.not_lt.mpr h12), if_pos (Int32.not_le.mp h29)]; done) | (simp only [famF, if_neg h2, if_neg (Int32.not_lt.mpr h12), if_neg (Int32.not_lt.mpr h29)]; done))) (by decide) (by decide)
      · refine e_push dX12_familyOf_32 ?_
        refine e_goto dX12_familyOf_33 ?_
        exact e_iretI dX12_familyOf_37 rfl (qi hq (by first | (simp [famF, h2]; done) | (simp only [famF, if_neg h2, if_pos (Int32.not_le.mp h12), tN_n (show c < 2 ^ 31 by omega)]; done) | (simp only [famF, if_neg h2, if_neg (Int32.not_lt.mpr h12), if_pos (Int32.not_le.mp h29)]; done) | (simp only [famF, if_neg h2, if_neg (Int32.not_lt.mpr h12), if_neg (Int32.not_lt.mpr h29)]; done))) (by decide) (by decide)
    · obtain ⟨c, hc, rfl⟩ : ∃ c, c < nC S ∧ v = nI c := by
        rcases okT_fam hv hR hC with h | ⟨-, -, h⟩ | ⟨-, h, -⟩ | ⟨-, h, -⟩
        · exact absurd h h2
        · exact h
        · exact absurd (Int32.not_le.mp h12) h
        · exact absurd (Int32.not_le.mp h12) h
      refine e_push dX12_familyOf_15 ?_
      refine e_aload dX12_familyOf_16 rfl ?_
      refine m_geta dX12_familyOf_17 fg_X12_17 hM (by decide) rfl ?_
      refine e_iload dX12_familyOf_20 rfl ?_
      refine m_aldN (c) dX12_familyOf_21 hM rfl (by decide) (by first | rfl | simp only [li_1, li_2, li_3, li_4, li_5, li_12, li_60, pk_mul, nI_add]) (by first | omega | (simp only [mLen]; omega)) (by decide) ?_
      refine e_iadd dX12_familyOf_22 ?_
      refine e_goto dX12_familyOf_23 ?_
      exact e_iretI dX12_familyOf_37 rfl (qi hq (by first | (simp [famF, h2]; done) | (simp only [famF, if_neg h2, if_pos (Int32.not_le.mp h12), tN_n (show c < 2 ^ 31 by omega)]; done) | (simp only [famF, if_neg h2, if_neg (Int32.not_lt.mpr h12), if_pos (Int32.not_le.mp h29)]; done) | (simp only [famF, if_neg h2, if_neg (Int32.not_lt.mpr h12), if_neg (Int32.not_lt.mpr h29)]; done))) (by decide) (by decide)
  · refine e_push dX12_familyOf_5 ?_
    refine e_goto dX12_familyOf_6 ?_
    exact e_iretI dX12_familyOf_37 rfl (qi hq (by first | (simp [famF, h2]; done) | (simp only [famF, if_neg h2, if_pos (Int32.not_le.mp h12), tN_n (show c < 2 ^ 31 by omega)]; done) | (simp only [famF, if_neg h2, if_neg (Int32.not_lt.mpr h12), if_pos (Int32.not_le.mp h29)]; done) | (simp only [famF, if_neg h2, if_neg (Int32.not_lt.mpr h12), if_neg (Int32.not_lt.mpr h29)]; done))) (by decide) (by decide)
set_option maxRecDepth 100000 in
set_option maxHeartbeats 4000000 in
theorem c_X12_hold {b0 : Nat} {D : va_G} {dA : Nat → ClassId} {dm : Nat → Nat → Prop} {ad : Nat → Nat → Nat} {Q : PQ} {ct0 : Nat → Nat → va_E} {S : St} (hM : dmM dm) {t : Nat} (I : Inv S t) (p c : Int32) (hq : Q (some (.int (F_hold S p c).1)) dm ad (ctM dA ad ct0 (F_hold S p c).2)) : Ct b0 D dA yX12_hold cX12_hold 3 (some .int) (Rm 2) [.ref (ad 16 0), .int p, .int c] dm ad (ctM dA ad ct0 S) Q := by
  refine ct_of (by decide) (Nat.le_of_ble_eq_true rfl) ?_
  refine e_iload dX12_hold_0 rfl ?_
  refine n_callS1 dX12_hold_1 ca_X12_153  (c_X12_isPlace _ ?_) 
  refine e_if_eqB dX12_hold_4 (fun h4 => ?_) (fun h4 => ?_)
  · refine e_push dX12_hold_15 ?_
    exact e_iretI dX12_hold_16 rfl (qs hq (by first | (simp [F_hold, h4]; done) | (simp [F_hold, isC, h12]; done))) (by decide) (by decide)
  · obtain ⟨p, p1, p2, rfl⟩ := inB_l (a := 0) (b := 9) rfl rfl (by decide) (by decide) h4
    have tp : tN (nI p) = p := tN_n (by omega)
    refine e_aload dX12_hold_7 rfl ?_
    refine e_iload dX12_hold_8 rfl ?_
    refine n_callV1 dX12_hold_9 ca_X12_116 hM.1 ctM_o (c_X12_isConstant hM _ ?_) 
    refine e_if_neB dX12_hold_12 (fun h12 => ?_) (fun h12 => ?_)
    · have h60 := I.1.2.1
      have e0 := I.1.1
      obtain ⟨c, hc, rfl⟩ := inB_n (N := nC S) (by omega) (by rw [← e0]; exact h12)
      have tc : tN (nI c) = c := tN_n (by omega)
      obtain ⟨hk, hk6, hbo, hw, hw1⟩ := I.1.2.2.1 c hc
      refine e_aload dX12_hold_17 rfl ?_
      refine m_geta dX12_hold_18 fg_X12_47 hM (by decide) rfl ?_
      refine e_iload dX12_hold_21 rfl ?_
      refine e_iload dX12_hold_22 rfl ?_
      refine m_astN (p) dX12_hold_23 hM rfl (by decide) (by first | rfl | simp only [li_1, li_2, li_3, li_4, li_5, li_12, li_60, pk_mul, nI_add]) (by first | omega | (simp only [mLen]; omega)) (by decide) ?_
      refine e_aload dX12_hold_24 rfl ?_
      refine e_iload dX12_hold_25 rfl ?_
      refine n_callV1 dX12_hold_26 ca_X12_141 hM.1 ctM_o (c_X12_starts hM (by omega) hk hk6 ?_) 
      refine e_aload dX12_hold_29 rfl ?_
      refine e_dup dX12_hold_30 ?_
      refine m_geti dX12_hold_31 fg_X12_138 hM (by decide) rfl ?_
      refine e_push dX12_hold_34 ?_
      refine e_iadd dX12_hold_35 ?_
      refine m_put dX12_hold_36 fp_X12_138 hM (by decide) rfl ?_
      refine e_aload dX12_hold_39 rfl ?_
      refine m_geta dX12_hold_40 fg_X12_7 hM (by decide) rfl ?_
      refine e_iload dX12_hold_43 rfl ?_
      refine m_aldN (c) dX12_hold_44 hM rfl (by decide) (by first | rfl | simp only [li_1, li_2, li_3, li_4, li_5, li_12, li_60, pk_mul, nI_add]) (by first | omega | (simp only [mLen]; omega)) (by decide) ?_
      exact e_iretI dX12_hold_45 rfl (qs hq (by simp only [F_hold, isC, h4, h12, Bool.and_self, if_true, tp, tc]; rfl)) (by decide) (by decide)
    · refine e_push dX12_hold_15 ?_
      exact e_iretI dX12_hold_16 rfl (qs hq (by first | (simp [F_hold, h4]; done) | (simp [F_hold, isC, h12]; done))) (by decide) (by decide)
set_option maxRecDepth 100000 in
set_option maxHeartbeats 4000000 in
theorem l2_X12_isName {b0 : Nat} {D : va_G} {dA : Nat → ClassId} {dm : Nat → Nat → Prop} {ad : Nat → Nat → Nat} {Q : PQ} {ct : Nat → Nat → va_E} {name : Int64} {is e2 : Bool} {n i : Nat} {ch : Int32} (kk : ∀ z, z = bI (is && (decide (ch = 0) || (!e2 && letB ch))) → E b0 D dA yX12_isName cX12_isName 7 (some .boolean) (Rm 0) E0 (QFm b0 D dA (Rm 0) Q) 74 (lfA [some (.long name), none, some (.int (bI is)), some (.int (bI e2)), some (.int (nI n)), some (.int (nI i)), some (.int ch)]) [.int z] dm ad ct 0 0) : E b0 D dA yX12_isName cX12_isName 7 (some .boolean) (Rm 0) E0 (QFm b0 D dA (Rm 0) Q) 44 (lfA [some (.long name), none, some (.int (bI is)), some (.int (bI e2)), some (.int (nI n)), some (.int (nI i)), some (.int ch)]) [] dm ad ct 0 0 := by
  refine e_iload dX12_isName_44 rfl ?_
  refine e_iload dX12_isName_45 rfl ?_
  refine e_if_eq dX12_isName_47 (fun h47 => ?_) (fun h47 => ?_)
  · refine e_push dX12_isName_68 ?_
    refine e_goto dX12_isName_69 ?_
    refine e_iand dX12_isName_73 ?_
    exact kk _ (show _ = bI (is && (decide (ch = 0) || (!e2 && letB ch))) by first | (rw [decide_eq_true h47]; exact bI_and is true) | (rw [h51, decide_eq_false h47]; exact bI_and is false) | (rw [decide_eq_false h47, letB_f1 h58, Bool.and_false]; exact bI_and is false) | (rw [decide_eq_false h47, letB_f2 h65, Bool.and_false]; exact bI_and is false) | (rw [decide_eq_false h47, h51, letB_t h58 h65]; exact bI_and is true))
  · refine e_iload dX12_isName_50 rfl ?_
    refine e_if_neB dX12_isName_51 (fun h51 => ?_) (fun h51 => ?_)
    · refine e_push dX12_isName_72 ?_
      refine e_iand dX12_isName_73 ?_
      exact kk _ (show _ = bI (is && (decide (ch = 0) || (!e2 && letB ch))) by first | (rw [decide_eq_true h47]; exact bI_and is true) | (rw [h51, decide_eq_false h47]; exact bI_and is false) | (rw [decide_eq_false h47, letB_f1 h58, Bool.and_false]; exact bI_and is false) | (rw [decide_eq_false h47, letB_f2 h65, Bool.and_false]; exact bI_and is false) | (rw [decide_eq_false h47, h51, letB_t h58 h65]; exact bI_and is true))
    · refine e_iload dX12_isName_54 rfl ?_
      refine e_push dX12_isName_56 ?_
      refine e_icmp_lt dX12_isName_58 (fun h58 => ?_) (fun h58 => ?_)
      · refine e_push dX12_isName_72 ?_
        refine e_iand dX12_isName_73 ?_
        exact kk _ (show _ = bI (is && (decide (ch = 0) || (!e2 && letB ch))) by first | (rw [decide_eq_true h47]; exact bI_and is true) | (rw [h51, decide_eq_false h47]; exact bI_and is false) | (rw [decide_eq_false h47, letB_f1 h58, Bool.and_false]; exact bI_and is false) | (rw [decide_eq_false h47, letB_f2 h65, Bool.and_false]; exact bI_and is false) | (rw [decide_eq_false h47, h51, letB_t h58 h65]; exact bI_and is true))
      · refine e_iload dX12_isName_61 rfl ?_
        refine e_push dX12_isName_63 ?_
        refine e_icmp_gt dX12_isName_65 (fun h65 => ?_) (fun h65 => ?_)
        · refine e_push dX12_isName_72 ?_
          refine e_iand dX12_isName_73 ?_
          exact kk _ (show _ = bI (is && (decide (ch = 0) || (!e2 && letB ch))) by first | (rw [decide_eq_true h47]; exact bI_and is true) | (rw [h51, decide_eq_false h47]; exact bI_and is false) | (rw [decide_eq_false h47, letB_f1 h58, Bool.and_false]; exact bI_and is false) | (rw [decide_eq_false h47, letB_f2 h65, Bool.and_false]; exact bI_and is false) | (rw [decide_eq_false h47, h51, letB_t h58 h65]; exact bI_and is true))
        · refine e_push dX12_isName_68 ?_
          refine e_goto dX12_isName_69 ?_
          refine e_iand dX12_isName_73 ?_
          exact kk _ (show _ = bI (is && (decide (ch = 0) || (!e2 && letB ch))) by first | (rw [decide_eq_true h47]; exact bI_and is true) | (rw [h51, decide_eq_false h47]; exact bI_and is false) | (rw [decide_eq_false h47, letB_f1 h58, Bool.and_false]; exact bI_and is false) | (rw [decide_eq_false h47, letB_f2 h65, Bool.and_false]; exact bI_and is false) | (rw [decide_eq_false h47, h51, letB_t h58 h65]; exact bI_and is true))
set_option maxRecDepth 100000 in
set_option maxHeartbeats 4000000 in
theorem l3_X12_isName {b0 : Nat} {D : va_G} {dA : Nat → ClassId} {dm : Nat → Nat → Prop} {ad : Nat → Nat → Nat} {Q : PQ} {ct : Nat → Nat → va_E} {name : Int64} {is e2 i2 : Bool} {n i : Nat} {ch : Int32} (kk : E b0 D dA yX12_isName cX12_isName 7 (some .boolean) (Rm 0) E0 (QFm b0 D dA (Rm 0) Q) 10 (lfA [some (.long name), none, some (.int (bI i2)), some (.int (bI e2)), some (.int (nI (n + if ch = 0 then 0 else 1))), some (.int (nI (i + 1)))]) [] dm ad ct 0 0) : E b0 D dA yX12_isName cX12_isName 7 (some .boolean) (Rm 0) E0 (QFm b0 D dA (Rm 0) Q) 74 (lfA [some (.long name), none, some (.int (bI is)), some (.int (bI e2)), some (.int (nI n)), some (.int (nI i)), some (.int ch)]) [.int (bI i2)] dm ad ct 0 0 := by
  refine e_istore dX12_isName_74 ?_
  refine e_iload dX12_isName_75 rfl ?_
  refine e_iload dX12_isName_77 rfl ?_
  refine e_if_eq dX12_isName_79 (fun h79 => ?_) (fun h79 => ?_)
  · refine e_push dX12_isName_86 ?_
    refine e_iadd dX12_isName_87 ?_
    refine e_topi (show _ = nI (n + if ch = 0 then 0 else 1) by first | (rw [if_pos (by assumption)]; exact Int32.add_zero _) | (rw [if_neg (by assumption)]; exact nI_1 n)) ?_
    refine e_istore dX12_isName_88 ?_
    refine e_iinc dX12_isName_90 rfl (inc1 i) ?_
    refine e_goto dX12_isName_93 ?_
    exact e_lvA kk ⟨rfl, rfl, rfl, rfl, rfl, trivial⟩
  · refine e_push dX12_isName_82 ?_
    refine e_goto dX12_isName_83 ?_
    refine e_iadd dX12_isName_87 ?_
    refine e_topi (show _ = nI (n + if ch = 0 then 0 else 1) by first | (rw [if_pos (by assumption)]; exact Int32.add_zero _) | (rw [if_neg (by assumption)]; exact nI_1 n)) ?_
    refine e_istore dX12_isName_88 ?_
    refine e_iinc dX12_isName_90 rfl (inc1 i) ?_
    refine e_goto dX12_isName_93 ?_
    exact e_lvA kk ⟨rfl, rfl, rfl, rfl, rfl, trivial⟩
set_option maxRecDepth 100000 in
set_option maxHeartbeats 4000000 in
theorem l_X12_isName {b0 : Nat} {D : va_G} {dA : Nat → ClassId} {dm : Nat → Nat → Prop} {ad : Nat → Nat → Nat} {Q : PQ} {ct : Nat → Nat → va_E} {name : Int64} : ∀ k i is en n, i + k = 8 → n ≤ i → Q (some (.int (bI (nmL name k i is en n)))) dm ad ct → E b0 D dA yX12_isName cX12_isName 7 (some .boolean) (Rm 0) E0 (QFm b0 D dA (Rm 0) Q) 10 (lfA [some (.long name), none, some (.int (bI is)), some (.int (bI en)), some (.int (nI n)), some (.int (nI i))]) [] dm ad ct 0 0 := by
  intro k
  induction k with
  | zero =>
    intro i is en n hi hn hq
    refine e_iload dX12_isName_10 rfl ?_
    refine e_push dX12_isName_12 ?_
    refine e_icmp_ge dX12_isName_14 (fun h14 => ?_) (fun h14 => ?_)
    · refine e_iload dX12_isName_96 rfl ?_
      refine e_if_eqB dX12_isName_97 (fun h97 => ?_) (fun h97 => ?_)
      · refine e_push dX12_isName_109 ?_
        exact e_iret dX12_isName_110 rfl (by first | rfl | exact bI_n _) (qi hq (by first | (rw [h97]; rfl) | (rw [h97, hn0]; rfl) | (rw [h97, nmL, decide_eq_true hn0]; rfl))) (by decide) (by decide)
      · refine e_iload dX12_isName_100 rfl ?_
        refine e_if_le dX12_isName_102 (fun h102 => ?_) (fun h102 => ?_)
        · have hn0 : n = 0 := by
            rcases Nat.eq_zero_or_pos n with z | z
            · exact z
            · exact absurd h102 (nI_nle z (by omega))
          refine e_push dX12_isName_109 ?_
          exact e_iret dX12_isName_110 rfl (by first | rfl | exact bI_n _) (qi hq (by first | (rw [h97]; rfl) | (rw [h97, hn0]; rfl) | (rw [h97, nmL, decide_eq_true hn0]; rfl))) (by decide) (by decide)
        · have hn0 : 0 < n := by
            rcases Nat.eq_zero_or_pos n with z | z
            · subst z; exact absurd (by decide) h102
            · exact z
          refine e_push dX12_isName_105 ?_
          refine e_goto dX12_isName_106 ?_
          exact e_iret dX12_isName_110 rfl (by first | rfl | exact bI_n _) (qi hq (by first | (rw [h97]; rfl) | (rw [h97, hn0]; rfl) | (rw [h97, nmL, decide_eq_true hn0]; rfl))) (by decide) (by decide)
    · exact absurd (show (8 : Int32) ≤ nI i by rw [show i = 8 by omega]; decide) h14
  | succ k ih =>
    intro i is en n hi hn hq
    refine e_iload dX12_isName_10 rfl ?_
    refine e_push dX12_isName_12 ?_
    refine e_icmp_ge dX12_isName_14 (fun h14 => ?_) (fun h14 => ?_)
    · exact absurd h14 (by show ¬ nI 8 ≤ nI i; exact nI_ge (by omega) (by decide))
    · obtain ⟨ch, hch⟩ : ∃ ch, chN name i = ch := ⟨_, rfl⟩
      rw [nmL, hch] at hq
      refine e_lload dX12_isName_17 rfl ?_
      refine e_push dX12_isName_18 ?_
      refine e_iload dX12_isName_20 rfl ?_
      refine e_imul dX12_isName_22 ?_
      refine e_lushr dX12_isName_23 ?_
      refine e_l2i dX12_isName_24 ?_
      refine e_push dX12_isName_25 ?_
      refine e_iand dX12_isName_28 ?_
      refine e_topi (show _ = ch from hch) ?_
      refine e_istore dX12_isName_29 ?_
      refine e_iload dX12_isName_31 rfl ?_
      refine e_iload dX12_isName_32 rfl ?_
      refine e_if_ne dX12_isName_34 (fun h34 => ?_) (fun h34 => ?_)
      · refine e_push dX12_isName_41 ?_
        refine e_ior dX12_isName_42 ?_
        refine e_topi (show _ = bI (en || decide (ch = 0)) by first | (rw [decide_eq_true (by first | assumption | exact Decidable.not_not.mp (by assumption))]; exact bI_or en true) | (rw [decide_eq_false (by assumption)]; exact bI_or en false)) ?_
        refine e_istore dX12_isName_43 ?_
        exact e_lvA (l2_X12_isName (fun z hz => by
          subst hz
          exact l3_X12_isName (ih (i + 1) _ _ _ (by omega) (by split <;> omega) hq))) ⟨rfl, rfl, rfl, rfl, rfl, rfl, trivial⟩
      · refine e_push dX12_isName_37 ?_
        refine e_goto dX12_isName_38 ?_
        refine e_ior dX12_isName_42 ?_
        refine e_topi (show _ = bI (en || decide (ch = 0)) by first | (rw [decide_eq_true (by first | assumption | exact Decidable.not_not.mp (by assumption))]; exact bI_or en true) | (rw [decide_eq_false (by assumption)]; exact bI_or en false)) ?_
        refine e_istore dX12_isName_43 ?_
        exact e_lvA (l2_X12_isName (fun z hz => by
          subst hz
          exact l3_X12_isName (ih (i + 1) _ _ _ (by omega) (by split <;> omega) hq))) ⟨rfl, rfl, rfl, rfl, rfl, rfl, trivial⟩
set_option maxRecDepth 100000 in
set_option maxHeartbeats 4000000 in
theorem c_X12_isName {b0 : Nat} {D : va_G} {dA : Nat → ClassId} {dm : Nat → Nat → Prop} {ad : Nat → Nat → Nat} {Q : PQ} {ct : Nat → Nat → va_E} (name : Int64) (hq : Q (some (.int (bI (nameB name)))) dm ad ct) : Ct b0 D dA yX12_isName cX12_isName 7 (some .boolean) (Rm 0) [.long name] dm ad ct Q := by
  refine ct_of (by decide) (Nat.le_of_ble_eq_true rfl) ?_
  refine e_push dX12_isName_0 ?_
  refine e_istore dX12_isName_1 ?_
  refine e_push dX12_isName_2 ?_
  refine e_istore dX12_isName_3 ?_
  refine e_push dX12_isName_4 ?_
  refine e_istore dX12_isName_5 ?_
  refine e_push dX12_isName_7 ?_
  refine e_istore dX12_isName_8 ?_
  exact e_lvA (l_X12_isName 8 0 true false 0 (by omega) (by omega) hq) ⟨rfl, rfl, rfl, rfl, rfl, trivial⟩
set_option maxRecDepth 100000 in
set_option maxHeartbeats 4000000 in
theorem c_X12_constant {b0 : Nat} {D : va_G} {dA : Nat → ClassId} {dm : Nat → Nat → Prop} {ad : Nat → Nat → Nat} {Q : PQ} {ct0 : Nat → Nat → va_E} {S : St} (hM : dmM dm) {t : Nat} (I : Inv S t) (kind : Int32) (name : Int64) (body : Int32) (hq : Q (some (.int (F_constant S kind name body).1)) dm ad (ctM dA ad ct0 (F_constant S kind name body).2)) : Ct b0 D dA yX12_constant cX12_constant 6 (some .int) (Rm 2) [.ref (ad 16 0), .int kind, .long name, .int body] dm ad (ctM dA ad ct0 S) Q := by
  refine ct_of (by decide) (Nat.le_of_ble_eq_true rfl) ?_
  refine e_iload dX12_constant_0 rfl ?_
  refine n_callS1 dX12_constant_1 ca_X12_100  (c_X12_isKind _ ?_) 
  refine e_if_eqB dX12_constant_4 (fun h4 => ?_) (fun h4 => ?_)
  · refine e_push dX12_constant_33 ?_
    exact e_iretI dX12_constant_34 rfl (qs hq (by first | (simp [F_constant, h4]; done) | (simp [F_constant, h11]; done) | (simp [F_constant, hf]; done) | (simp [F_constant, h30]; done))) (by decide) (by decide)
  · obtain ⟨kind, kind1, kind2, rfl⟩ := inB_l (a := 0) (b := 5) rfl rfl (by decide) (by decide) h4
    have tkind : tN (nI kind) = kind := tN_n (by omega)
    refine e_lload dX12_constant_7 rfl ?_
    refine n_callS1 dX12_constant_8 ca_X12_104  (c_X12_isName _ ?_) 
    refine e_if_eqB dX12_constant_11 (fun h11 => ?_) (fun h11 => ?_)
    · refine e_push dX12_constant_33 ?_
      exact e_iretI dX12_constant_34 rfl (qs hq (by first | (simp [F_constant, h4]; done) | (simp [F_constant, h11]; done) | (simp [F_constant, hf]; done) | (simp [F_constant, h30]; done))) (by decide) (by decide)
    · refine e_aload dX12_constant_14 rfl ?_
      refine e_iload dX12_constant_15 rfl ?_
      refine e_lload dX12_constant_16 rfl ?_
      refine n_callV2 dX12_constant_17 ca_X12_108 hM.1 ctM_o (c_X12_byName hM _ _ I.1.1 I.1.2.1 ?_) 
      refine e_if_ge dX12_constant_20 (fun h20 => ?_) (fun h20 => ?_)
      · have hf : decide (fnd (byP S (nI kind) name) (nC S) 0 = none) = false := by
          cases hf : fnd (byP S (nI kind) name) (nC S) 0 with
          | none => rw [hf] at h20; exact absurd h20 (by decide)
          | some j => rfl
        refine e_push dX12_constant_33 ?_
        exact e_iretI dX12_constant_34 rfl (qs hq (by first | (simp [F_constant, h4]; done) | (simp [F_constant, h11]; done) | (simp [F_constant, hf]; done) | (simp [F_constant, h30]; done))) (by decide) (by decide)
      · have hf : decide (fnd (byP S (nI kind) name) (nC S) 0 = none) = true := by
          cases hf : fnd (byP S (nI kind) name) (nC S) 0 with
          | none => rfl
          | some j => rw [hf] at h20; exact absurd (nI_pos' (by have := fnd_lt hf; have := I.1.2.1; omega)) h20
        refine e_iload dX12_constant_23 rfl ?_
        refine e_push dX12_constant_25 ?_
        refine e_push dX12_constant_26 ?_
        refine n_callS3 dX12_constant_27 ca_X12_96  (c_X12_in _ _ _ ?_) 
        refine e_if_neB dX12_constant_30 (fun h30 => ?_) (fun h30 => ?_)
        · refine e_aload dX12_constant_35 rfl ?_
          refine m_geti dX12_constant_36 fg_X12_93 hM (by decide) rfl ?_
          refine e_push dX12_constant_39 ?_
          refine e_icmp_ne dX12_constant_41 (fun h41 => ?_) (fun h41 => ?_)
          · have h60 : nC S < 60 := by
              rcases Nat.lt_or_ge (nC S) 60 with z | z
              · exact z
              · exact absurd (I.1.1.trans (by rw [show nC S = 60 by have := I.1.2.1; omega]; rfl)) h41
            obtain ⟨hm, hmC, hbi, hbj⟩ := I.2.1 (3 * kind) (by omega)
            refine e_aload dX12_constant_47 rfl ?_
            refine m_geti dX12_constant_48 fg_X12_93 hM (by decide) rfl ?_
            refine e_topi I.1.1 ?_
            refine e_istore dX12_constant_51 ?_
            refine e_aload dX12_constant_53 rfl ?_
            refine m_geta dX12_constant_54 fg_X12_7 hM (by decide) rfl ?_
            refine e_iload dX12_constant_57 rfl ?_
            refine e_iload dX12_constant_59 rfl ?_
            refine m_astN (nC S) dX12_constant_60 hM rfl (by decide) (by first | rfl | simp only [li_1, li_2, li_3, li_4, li_5, li_12, li_60, pk_mul, nI_add]) (by first | omega | (simp only [mLen]; omega)) (by decide) ?_
            refine e_aload dX12_constant_61 rfl ?_
            refine m_geta dX12_constant_62 fg_X12_13 hM (by decide) rfl ?_
            refine e_iload dX12_constant_65 rfl ?_
            refine e_lload dX12_constant_67 rfl ?_
            refine m_lstN (nC S) dX12_constant_68 hM (by first | rfl | simp only [li_1, li_2, li_3, li_4, li_5, li_12, li_60, pk_mul, nI_add]) (by first | omega | (simp only [mLen]; omega)) ?_
            refine e_aload dX12_constant_69 rfl ?_
            refine m_geta dX12_constant_70 fg_X12_17 hM (by decide) rfl ?_
            refine e_iload dX12_constant_73 rfl ?_
            refine e_iload dX12_constant_75 rfl ?_
            refine m_astN (nC S) dX12_constant_77 hM rfl (by decide) (by first | rfl | simp only [li_1, li_2, li_3, li_4, li_5, li_12, li_60, pk_mul, nI_add]) (by first | omega | (simp only [mLen]; omega)) (by decide) ?_
            refine e_aload dX12_constant_78 rfl ?_
            refine e_dup dX12_constant_79 ?_
            refine m_geti dX12_constant_80 fg_X12_93 hM (by decide) rfl ?_
            refine e_push dX12_constant_83 ?_
            refine e_iadd dX12_constant_84 ?_
            refine m_put dX12_constant_85 fp_X12_93 hM (by decide) rfl ?_
            refine e_aload dX12_constant_88 rfl ?_
            refine e_iload dX12_constant_89 rfl ?_
            refine e_push dX12_constant_91 ?_
            refine n_callV2 dX12_constant_92 ca_X12_112 hM.1 ctM_o (c_X12_append (S := coS S (nI kind) name body) (b := 3 * kind) (m := mb S (3 * kind)) (k := kind) (bd := 0) hM h60 (show u2 S.2.1 1 (nC S) (nI kind) 1 (nC S) = nI kind from u2_s) rfl (by omega) hm (by omega) ?_) 
            refine e_pop dX12_constant_95 ?_
            refine e_iload dX12_constant_96 rfl ?_
            exact e_iretI dX12_constant_98 rfl (qs hq (by simp only [F_constant, h4, h11, hf, h30, Bool.and_self, if_true, tkind]; rw [if_neg h41])) (by decide) (by decide)
          · refine e_push dX12_constant_44 ?_
            exact e_iretI dX12_constant_46 rfl (qs hq (by simp only [F_constant, h4, h11, hf, h30, Bool.and_self, if_true]; rw [if_pos h41])) (by decide) (by decide)
        · refine e_push dX12_constant_33 ?_
          exact e_iretI dX12_constant_34 rfl (qs hq (by first | (simp [F_constant, h4]; done) | (simp [F_constant, h11]; done) | (simp [F_constant, hf]; done) | (simp [F_constant, h30]; done))) (by decide) (by decide)
set_option maxRecDepth 100000 in
set_option maxHeartbeats 4000000 in
theorem l_X12_row {b0 : Nat} {D : va_G} {dA : Nat → ClassId} {dm : Nat → Nat → Prop} {ad : Nat → Nat → Nat} {Q : PQ} {ct0 : Nat → Nat → va_E} {S : St} (hM : dmM dm) {p : Nat} {n : Int32} {a : Nat → Nat → Int32} (hp : p < 10) (hr : S.1 8 = nI (nR S)) (hr5 : nR S < 520) (hq : Q (some (.int 1)) dm ad (ctM dA ad ct0 (u1 S.1 8 (S.1 8 + 1), u2 (zerA (nR S) 12 a) 15 p (nI (100 + nR S)), S.2.2))) : ∀ k i, i + k = 12 → E b0 D dA yX12_row cX12_row 4 (some .int) (Rm 2) E0 (QFm b0 D dA (Rm 2) Q) 52 (lfA [some (.ref (ad 16 0)), some (.int (nI p)), some (.int n), some (.int (nI i))]) [] dm ad (ctM dA ad ct0 (S.1, zerA (nR S) i a, S.2.2)) 0 0 := by
  intro k
  induction k with
  | zero =>
    intro i hi
    refine e_iload dX12_row_52 rfl ?_
    refine e_push dX12_row_53 ?_
    refine e_icmp_ge dX12_row_55 (fun h55 => ?_) (fun h55 => ?_)
    · have e12 : i = 12 := by omega
      subst e12
      refine e_aload dX12_row_79 rfl ?_
      refine m_geta dX12_row_80 fg_X12_47 hM (by decide) rfl ?_
      refine e_iload dX12_row_83 rfl ?_
      refine e_push dX12_row_84 ?_
      refine e_aload dX12_row_86 rfl ?_
      refine m_geti dX12_row_87 fg_X12_156 hM (by decide) rfl ?_
      refine e_iadd dX12_row_90 ?_
      refine e_topi (show _ = nI (100 + nR S) by rw [hr]; exact nI_add 100 (nR S)) ?_
      refine m_astN (p) dX12_row_91 hM rfl (by decide) (by first | rfl | simp only [li_1, li_2, li_3, li_4, li_5, li_12, li_60, pk_mul, nI_add]) (by first | omega | (simp only [mLen]; omega)) (by decide) ?_
      refine e_aload dX12_row_92 rfl ?_
      refine e_dup dX12_row_93 ?_
      refine m_geti dX12_row_94 fg_X12_156 hM (by decide) rfl ?_
      refine e_push dX12_row_97 ?_
      refine e_iadd dX12_row_98 ?_
      refine m_put dX12_row_99 fp_X12_156 hM (by decide) rfl ?_
      refine e_push dX12_row_102 ?_
      exact e_iretI dX12_row_103 rfl hq (by decide) (by decide)
    · exact absurd (show (12 : Int32) ≤ nI i by rw [show i = 12 by omega]; decide) h55
  | succ k ih =>
    intro i hi
    refine e_iload dX12_row_52 rfl ?_
    refine e_push dX12_row_53 ?_
    refine e_icmp_ge dX12_row_55 (fun h55 => ?_) (fun h55 => ?_)
    · exact absurd h55 (by show ¬ nI 12 ≤ nI i; exact nI_ge (by omega) (by decide))
    · refine e_aload dX12_row_58 rfl ?_
      refine m_geta dX12_row_59 fg_X12_35 hM (by decide) rfl ?_
      refine e_push dX12_row_62 ?_
      refine e_aload dX12_row_64 rfl ?_
      refine m_geti dX12_row_65 fg_X12_156 hM (by decide) rfl ?_
      refine e_topi hr ?_
      refine e_imul dX12_row_68 ?_
      refine e_iload dX12_row_69 rfl ?_
      refine e_iadd dX12_row_70 ?_
      refine e_push dX12_row_71 ?_
      refine m_astN (12 * nR S + i) dX12_row_72 hM rfl (by decide) (by first | rfl | simp only [li_1, li_2, li_3, li_4, li_5, li_12, li_60, pk_mul, nI_add]) (by first | omega | (simp only [mLen]; omega)) (by decide) ?_
      refine e_iinc dX12_row_73 rfl (inc1 i) ?_
      refine e_goto dX12_row_76 ?_
      exact e_lvA (ih (i + 1) (by omega)) ⟨rfl, rfl, rfl, rfl, trivial⟩
set_option maxRecDepth 100000 in
set_option maxHeartbeats 4000000 in
theorem c_X12_row {b0 : Nat} {D : va_G} {dA : Nat → ClassId} {dm : Nat → Nat → Prop} {ad : Nat → Nat → Nat} {Q : PQ} {ct0 : Nat → Nat → va_E} {S : St} (hM : dmM dm) {t : Nat} (I : Inv S t) (p n : Int32) (ht : t < 512) (hq : Q (some (.int (F_row S p n).1)) dm ad (ctM dA ad ct0 (F_row S p n).2)) : Ct b0 D dA yX12_row cX12_row 4 (some .int) (Rm 2) [.ref (ad 16 0), .int p, .int n] dm ad (ctM dA ad ct0 S) Q := by
  refine ct_of (by decide) (Nat.le_of_ble_eq_true rfl) ?_
  refine e_iload dX12_row_0 rfl ?_
  refine n_callS1 dX12_row_1 ca_X12_153  (c_X12_isPlace _ ?_) 
  refine e_if_eqB dX12_row_4 (fun h4 => ?_) (fun h4 => ?_)
  · refine e_push dX12_row_23 ?_
    exact e_iretI dX12_row_24 rfl (qs hq (by first | (simp [F_row, h4]; done) | (simp [F_row, h10, h20]; done))) (by decide) (by decide)
  · obtain ⟨p, p1, p2, rfl⟩ := inB_l (a := 0) (b := 9) rfl rfl (by decide) (by decide) h4
    have tp : tN (nI p) = p := tN_n (by omega)
    refine e_iload dX12_row_7 rfl ?_
    refine e_push dX12_row_8 ?_
    refine e_icmp_eq dX12_row_10 (fun h10 => ?_) (fun h10 => ?_)
    · refine e_iload dX12_row_25 rfl ?_
      refine e_push dX12_row_26 ?_
      refine e_icmp_ne dX12_row_28 (fun h28 => ?_) (fun h28 => ?_)
      · refine e_aload dX12_row_40 rfl ?_
        refine m_geta dX12_row_41 fg_X12_32 hM (by decide) rfl ?_
        refine e_aload dX12_row_44 rfl ?_
        refine m_geti dX12_row_45 fg_X12_156 hM (by decide) rfl ?_
        have hrI := I.2.2.2.1
        refine e_topi hrI.1 ?_
        refine e_iload dX12_row_48 rfl ?_
        refine m_astN (nR S) dX12_row_49 hM rfl (by decide) rfl (by have := hrI.2.1; simp only [mLen]; omega) (by decide) ?_
        refine e_push dX12_row_50 ?_
        refine e_istore dX12_row_51 ?_
        exact e_lvA (l_X12_row (n := n) (a := u2 S.2.1 9 (nR S) n) hM (by omega) hrI.1 (by have := hrI.2.1; omega) (qs hq (by
          rw [F_row, if_pos (by first | (rw [h4, decide_eq_true h10]; rfl) | (rw [h4, h20]; simp)), if_neg h28, tp])) 12 0 (by omega)) ⟨rfl, rfl, rfl, rfl, trivial⟩
      · refine e_aload dX12_row_31 rfl ?_
        refine m_geta dX12_row_32 fg_X12_47 hM (by decide) rfl ?_
        refine e_iload dX12_row_35 rfl ?_
        refine e_push dX12_row_36 ?_
        refine m_astN (p) dX12_row_37 hM rfl (by decide) (by first | rfl | simp only [li_1, li_2, li_3, li_4, li_5, li_12, li_60, pk_mul, nI_add]) (by first | omega | (simp only [mLen]; omega)) (by decide) ?_
        refine e_push dX12_row_38 ?_
        exact e_iretI dX12_row_39 rfl (qs hq (by simp [F_row, h4, h28, tp])) (by decide) (by decide)
    · refine e_iload dX12_row_13 rfl ?_
      refine e_push dX12_row_14 ?_
      refine e_push dX12_row_15 ?_
      refine n_callS3 dX12_row_17 ca_X12_96  (c_X12_in _ _ _ ?_) 
      refine e_if_neB dX12_row_20 (fun h20 => ?_) (fun h20 => ?_)
      · refine e_iload dX12_row_25 rfl ?_
        refine e_push dX12_row_26 ?_
        refine e_icmp_ne dX12_row_28 (fun h28 => ?_) (fun h28 => ?_)
        · refine e_aload dX12_row_40 rfl ?_
          refine m_geta dX12_row_41 fg_X12_32 hM (by decide) rfl ?_
          refine e_aload dX12_row_44 rfl ?_
          refine m_geti dX12_row_45 fg_X12_156 hM (by decide) rfl ?_
          have hrI := I.2.2.2.1
          refine e_topi hrI.1 ?_
          refine e_iload dX12_row_48 rfl ?_
          refine m_astN (nR S) dX12_row_49 hM rfl (by decide) rfl (by have := hrI.2.1; simp only [mLen]; omega) (by decide) ?_
          refine e_push dX12_row_50 ?_
          refine e_istore dX12_row_51 ?_
          exact e_lvA (l_X12_row (n := n) (a := u2 S.2.1 9 (nR S) n) hM (by omega) hrI.1 (by have := hrI.2.1; omega) (qs hq (by
            rw [F_row, if_pos (by first | (rw [h4, decide_eq_true h10]; rfl) | (rw [h4, h20]; simp)), if_neg h28, tp])) 12 0 (by omega)) ⟨rfl, rfl, rfl, rfl, trivial⟩
        · refine e_aload dX12_row_31 rfl ?_
          refine m_geta dX12_row_32 fg_X12_47 hM (by decide) rfl ?_
          refine e_iload dX12_row_35 rfl ?_
          refine e_push dX12_row_36 ?_
          refine m_astN (p) dX12_row_37 hM rfl (by decide) (by first | rfl | simp only [li_1, li_2, li_3, li_4, li_5, li_12, li_60, pk_mul, nI_add]) (by first | omega | (simp only [mLen]; omega)) (by decide) ?_
          refine e_push dX12_row_38 ?_
          exact e_iretI dX12_row_39 rfl (qs hq (by simp [F_row, h4, h28, tp])) (by decide) (by decide)
      · refine e_push dX12_row_23 ?_
        exact e_iretI dX12_row_24 rfl (qs hq (by first | (simp [F_row, h4]; done) | (simp [F_row, h10, h20]; done))) (by decide) (by decide)
set_option maxRecDepth 100000 in
set_option maxHeartbeats 4000000 in
theorem c_X12_share {b0 : Nat} {D : va_G} {dA : Nat → ClassId} {dm : Nat → Nat → Prop} {ad : Nat → Nat → Nat} {Q : PQ} {ct0 : Nat → Nat → va_E} {S : St} (hM : dmM dm) {t : Nat} (I : Inv S t) (p q : Int32) (hq : Q (some (.int (F_share S p q).1)) dm ad (ctM dA ad ct0 (F_share S p q).2)) : Ct b0 D dA yX12_share cX12_share 3 (some .int) (Rm 2) [.ref (ad 16 0), .int p, .int q] dm ad (ctM dA ad ct0 S) Q := by
  refine ct_of (by decide) (Nat.le_of_ble_eq_true rfl) ?_
  refine e_iload dX12_share_0 rfl ?_
  refine n_callS1 dX12_share_1 ca_X12_153  (c_X12_isPlace _ ?_) 
  refine e_if_eqB dX12_share_4 (fun h4 => ?_) (fun h4 => ?_)
  · refine e_push dX12_share_14 ?_
    exact e_iretI dX12_share_15 rfl (qs hq (by first | (simp [F_share, h4]; done) | (simp [F_share, h11]; done))) (by decide) (by decide)
  · obtain ⟨p, p1, p2, rfl⟩ := inB_l (a := 0) (b := 9) rfl rfl (by decide) (by decide) h4
    have tp : tN (nI p) = p := tN_n (by omega)
    refine e_iload dX12_share_7 rfl ?_
    refine n_callS1 dX12_share_8 ca_X12_153  (c_X12_isPlace _ ?_) 
    refine e_if_neB dX12_share_11 (fun h11 => ?_) (fun h11 => ?_)
    · obtain ⟨q, q1, q2, rfl⟩ := inB_l (a := 0) (b := 9) rfl rfl (by decide) (by decide) h11
      have tq : tN (nI q) = q := tN_n (by omega)
      refine e_aload dX12_share_16 rfl ?_
      refine m_geta dX12_share_17 fg_X12_47 hM (by decide) rfl ?_
      refine e_iload dX12_share_20 rfl ?_
      refine e_aload dX12_share_21 rfl ?_
      refine m_geta dX12_share_22 fg_X12_47 hM (by decide) rfl ?_
      refine e_iload dX12_share_25 rfl ?_
      refine m_aldN (q) dX12_share_26 hM rfl (by decide) (by first | rfl | simp only [li_1, li_2, li_3, li_4, li_5, li_12, li_60, pk_mul, nI_add]) (by first | omega | (simp only [mLen]; omega)) (by decide) ?_
      refine m_astN (p) dX12_share_27 hM rfl (by decide) (by first | rfl | simp only [li_1, li_2, li_3, li_4, li_5, li_12, li_60, pk_mul, nI_add]) (by first | omega | (simp only [mLen]; omega)) (by decide) ?_
      refine e_aload dX12_share_28 rfl ?_
      refine e_aload dX12_share_29 rfl ?_
      refine m_geta dX12_share_30 fg_X12_47 hM (by decide) rfl ?_
      refine e_iload dX12_share_33 rfl ?_
      refine m_aldN (p) dX12_share_34 hM rfl (by decide) (by first | rfl | simp only [li_1, li_2, li_3, li_4, li_5, li_12, li_60, pk_mul, nI_add]) (by first | omega | (simp only [mLen]; omega)) (by decide) ?_
      refine e_topi (u2_s (f := S.2.1) (k := 15) (i := p)) ?_
      refine n_callV1 dX12_share_35 ca_X12_159 hM.1 ctM_o (c_X12_familyOf (S := (S.1, u2 S.2.1 15 p (S.2.1 15 q), S.2.2)) hM _ (I.2.2.2.2.2.2.1.1 q (by omega)) (Nat.le_trans I.2.2.2.1.2.1 I.2.2.2.2.2.2.2.1) I.1.2.1 ?_) 
      exact e_iretI dX12_share_38 rfl (qs hq (by simp only [F_share, h4, h11, Bool.and_self, if_true, tp, tq]; rfl)) (by decide) (by decide)
    · refine e_push dX12_share_14 ?_
      exact e_iretI dX12_share_15 rfl (qs hq (by first | (simp [F_share, h4]; done) | (simp [F_share, h11]; done))) (by decide) (by decide)
set_option maxRecDepth 100000 in
set_option maxHeartbeats 4000000 in
theorem c_X12_family {b0 : Nat} {D : va_G} {dA : Nat → ClassId} {dm : Nat → Nat → Prop} {ad : Nat → Nat → Nat} {Q : PQ} {ct0 : Nat → Nat → va_E} {S : St} (hM : dmM dm) {t : Nat} (I : Inv S t) (p : Int32) (hq : Q (some (.int (F_family S p))) dm ad (ctM dA ad ct0 S)) : Ct b0 D dA yX12_family cX12_family 2 (some .int) (Rm 2) [.ref (ad 16 0), .int p] dm ad (ctM dA ad ct0 S) Q := by
  refine ct_of (by decide) (Nat.le_of_ble_eq_true rfl) ?_
  refine e_iload dX12_family_0 rfl ?_
  refine n_callS1 dX12_family_1 ca_X12_153  (c_X12_isPlace _ ?_) 
  refine e_if_eqB dX12_family_4 (fun h4 => ?_) (fun h4 => ?_)
  · refine e_push dX12_family_20 ?_
    exact e_iretI dX12_family_21 rfl (qi hq (by first | (simp [F_family, h4]; done) | (simp [F_family, h4, tp]; done))) (by decide) (by decide)
  · obtain ⟨p, p1, p2, rfl⟩ := inB_l (a := 0) (b := 9) rfl rfl (by decide) (by decide) h4
    have tp : tN (nI p) = p := tN_n (by omega)
    refine e_aload dX12_family_7 rfl ?_
    refine e_aload dX12_family_8 rfl ?_
    refine m_geta dX12_family_9 fg_X12_47 hM (by decide) rfl ?_
    refine e_iload dX12_family_12 rfl ?_
    refine m_aldN (p) dX12_family_13 hM rfl (by decide) (by first | rfl | simp only [li_1, li_2, li_3, li_4, li_5, li_12, li_60, pk_mul, nI_add]) (by first | omega | (simp only [mLen]; omega)) (by decide) ?_
    refine n_callV1 dX12_family_14 ca_X12_159 hM.1 ctM_o (c_X12_familyOf hM _ (I.2.2.2.2.2.2.1.1 _ (by omega)) (by have := I.2.2.2.1.2.1; have := I.2.2.2.2.2.2.2.1; omega) I.1.2.1 ?_) 
    refine e_goto dX12_family_17 ?_
    exact e_iretI dX12_family_21 rfl (qi hq (by first | (simp [F_family, h4]; done) | (simp [F_family, h4, tp]; done))) (by decide) (by decide)
set_option maxRecDepth 100000 in
set_option maxHeartbeats 4000000 in
theorem c_X12_is {b0 : Nat} {D : va_G} {dA : Nat → ClassId} {dm : Nat → Nat → Prop} {ad : Nat → Nat → Nat} {Q : PQ} {ct0 : Nat → Nat → va_E} {S : St} (hM : dmM dm) {t : Nat} (I : Inv S t) (p f : Int32) (hq : Q (some (.int (F_is S p f))) dm ad (ctM dA ad ct0 S)) : Ct b0 D dA yX12_is cX12_is 4 (some .int) (Rm 2) [.ref (ad 16 0), .int p, .int f] dm ad (ctM dA ad ct0 S) Q := by
  refine ct_of (by decide) (Nat.le_of_ble_eq_true rfl) ?_
  refine e_iload dX12_is_0 rfl ?_
  refine n_callS1 dX12_is_1 ca_X12_153  (c_X12_isPlace _ ?_) 
  refine e_if_eqB dX12_is_4 (fun h4 => ?_) (fun h4 => ?_)
  · refine e_push dX12_is_16 ?_
    exact e_iretI dX12_is_17 rfl (qi hq (by first | (simp [F_is, h4]; done) | (simp [F_is, h13]; done))) (by decide) (by decide)
  · obtain ⟨p, p1, p2, rfl⟩ := inB_l (a := 0) (b := 9) rfl rfl (by decide) (by decide) h4
    have tp : tN (nI p) = p := tN_n (by omega)
    refine e_iload dX12_is_7 rfl ?_
    refine e_push dX12_is_8 ?_
    refine e_push dX12_is_9 ?_
    refine n_callS3 dX12_is_10 ca_X12_96  (c_X12_in _ _ _ ?_) 
    refine e_if_neB dX12_is_13 (fun h13 => ?_) (fun h13 => ?_)
    · refine e_aload dX12_is_18 rfl ?_
      refine e_aload dX12_is_19 rfl ?_
      refine m_geta dX12_is_20 fg_X12_47 hM (by decide) rfl ?_
      refine e_iload dX12_is_23 rfl ?_
      refine m_aldN (p) dX12_is_24 hM rfl (by decide) (by first | rfl | simp only [li_1, li_2, li_3, li_4, li_5, li_12, li_60, pk_mul, nI_add]) (by first | omega | (simp only [mLen]; omega)) (by decide) ?_
      refine n_callV1 dX12_is_25 ca_X12_159 hM.1 ctM_o (c_X12_familyOf hM _ (I.2.2.2.2.2.2.1.1 _ (by omega)) (by have := I.2.2.2.1.2.1; have := I.2.2.2.2.2.2.2.1; omega) I.1.2.1 ?_) 
      refine e_istore dX12_is_28 ?_
      refine e_iload dX12_is_29 rfl ?_
      refine e_iload dX12_is_30 rfl ?_
      refine e_icmp_eq dX12_is_31 (fun h31 => ?_) (fun h31 => ?_)
      · refine e_push dX12_is_44 ?_
        refine e_goto dX12_is_45 ?_
        exact e_iretI dX12_is_49 rfl (qi hq (by simp only [F_is, h4, h13, Bool.and_self, if_true, tp]; first | (rw [decide_eq_true h31]; rfl) | (rw [decide_eq_false h31, decide_eq_false h36]; rfl) | (rw [decide_eq_false h31, decide_eq_true (Decidable.not_not.mp h36), decide_eq_true (Decidable.not_not.mp h41)]; rfl) | (rw [decide_eq_false h31, decide_eq_true h36, decide_eq_true h41]; rfl) | (rw [decide_eq_false h31, decide_eq_false h41, Bool.and_false]; rfl))) (by decide) (by decide)
      · refine e_iload dX12_is_34 rfl ?_
        refine e_push dX12_is_35 ?_
        refine e_icmp_ne dX12_is_36 (fun h36 => ?_) (fun h36 => ?_)
        · refine e_push dX12_is_48 ?_
          exact e_iretI dX12_is_49 rfl (qi hq (by simp only [F_is, h4, h13, Bool.and_self, if_true, tp]; first | (rw [decide_eq_true h31]; rfl) | (rw [decide_eq_false h31, decide_eq_false h36]; rfl) | (rw [decide_eq_false h31, decide_eq_true (Decidable.not_not.mp h36), decide_eq_true (Decidable.not_not.mp h41)]; rfl) | (rw [decide_eq_false h31, decide_eq_true h36, decide_eq_true h41]; rfl) | (rw [decide_eq_false h31, decide_eq_false h41, Bool.and_false]; rfl))) (by decide) (by decide)
        · refine e_iload dX12_is_39 rfl ?_
          refine e_push dX12_is_40 ?_
          refine e_icmp_ne dX12_is_41 (fun h41 => ?_) (fun h41 => ?_)
          · refine e_push dX12_is_48 ?_
            exact e_iretI dX12_is_49 rfl (qi hq (by simp only [F_is, h4, h13, Bool.and_self, if_true, tp]; first | (rw [decide_eq_true h31]; rfl) | (rw [decide_eq_false h31, decide_eq_false h36]; rfl) | (rw [decide_eq_false h31, decide_eq_true (Decidable.not_not.mp h36), decide_eq_true (Decidable.not_not.mp h41)]; rfl) | (rw [decide_eq_false h31, decide_eq_true h36, decide_eq_true h41]; rfl) | (rw [decide_eq_false h31, decide_eq_false h41, Bool.and_false]; rfl))) (by decide) (by decide)
          · refine e_push dX12_is_44 ?_
            refine e_goto dX12_is_45 ?_
            exact e_iretI dX12_is_49 rfl (qi hq (by simp only [F_is, h4, h13, Bool.and_self, if_true, tp]; first | (rw [decide_eq_true h31]; rfl) | (rw [decide_eq_false h31, decide_eq_false h36]; rfl) | (rw [decide_eq_false h31, decide_eq_true (Decidable.not_not.mp h36), decide_eq_true (Decidable.not_not.mp h41)]; rfl) | (rw [decide_eq_false h31, decide_eq_true h36, decide_eq_true h41]; rfl) | (rw [decide_eq_false h31, decide_eq_false h41, Bool.and_false]; rfl))) (by decide) (by decide)
    · refine e_push dX12_is_16 ?_
      exact e_iretI dX12_is_17 rfl (qi hq (by first | (simp [F_is, h4]; done) | (simp [F_is, h13]; done))) (by decide) (by decide)
set_option maxRecDepth 100000 in
set_option maxHeartbeats 4000000 in
theorem c_X12_item {b0 : Nat} {D : va_G} {dA : Nat → ClassId} {dm : Nat → Nat → Prop} {ad : Nat → Nat → Nat} {Q : PQ} {ct0 : Nat → Nat → va_E} {S : St} (hM : dmM dm) {t : Nat} (I : Inv S t) (p i v : Int32) (hq : Q (some (.int (F_item S p i v).1)) dm ad (ctM dA ad ct0 (F_item S p i v).2)) : Ct b0 D dA yX12_item cX12_item 6 (some .int) (Rm 2) [.ref (ad 16 0), .int p, .int i, .int v] dm ad (ctM dA ad ct0 S) Q := by
  refine ct_of (by decide) (Nat.le_of_ble_eq_true rfl) ?_
  refine e_iload dX12_item_0 rfl ?_
  refine n_callS1 dX12_item_1 ca_X12_153  (c_X12_isPlace _ ?_) 
  refine e_if_eqB dX12_item_4 (fun h4 => ?_) (fun h4 => ?_)
  · refine e_push dX12_item_21 ?_
    exact e_iretI dX12_item_22 rfl (qs hq (by first | (simp [F_item, h4]; done) | (simp [F_item, h4, tp, h18]; done))) (by decide) (by decide)
  · obtain ⟨p, p1, p2, rfl⟩ := inB_l (a := 0) (b := 9) rfl rfl (by decide) (by decide) h4
    have tp : tN (nI p) = p := tN_n (by omega)
    refine e_aload dX12_item_7 rfl ?_
    refine e_aload dX12_item_8 rfl ?_
    refine m_geta dX12_item_9 fg_X12_47 hM (by decide) rfl ?_
    refine e_iload dX12_item_12 rfl ?_
    refine m_aldN (p) dX12_item_13 hM rfl (by decide) (by first | rfl | simp only [li_1, li_2, li_3, li_4, li_5, li_12, li_60, pk_mul, nI_add]) (by first | omega | (simp only [mLen]; omega)) (by decide) ?_
    refine n_callV1 dX12_item_14 ca_X12_159 hM.1 ctM_o (c_X12_familyOf hM _ (I.2.2.2.2.2.2.1.1 _ (by omega)) (by have := I.2.2.2.1.2.1; have := I.2.2.2.2.2.2.2.1; omega) I.1.2.1 ?_) 
    refine e_push dX12_item_17 ?_
    refine e_icmp_eq dX12_item_18 (fun h18 => ?_) (fun h18 => ?_)
    · have hR := I.2.2.2.1
      have hR1 := hR.2.1
      have ht5 := I.2.2.2.2.2.2.2.1
      obtain ⟨r, hr, hv⟩ := fam4 (I.2.2.2.2.2.2.1.1 p (by omega)) (by omega) I.1.2.1 I.1.2.2.1 h18
      obtain ⟨hs, hs12⟩ := hR.2.2 r hr
      have tr : tN (S.2.1 15 p) - 100 = r := by rw [hv, tN_n (by omega)]; omega
      refine e_aload dX12_item_23 rfl ?_
      refine m_geta dX12_item_24 fg_X12_47 hM (by decide) rfl ?_
      refine e_iload dX12_item_27 rfl ?_
      refine m_aldN (p) dX12_item_28 hM rfl (by decide) (by first | rfl | simp only [li_1, li_2, li_3, li_4, li_5, li_12, li_60, pk_mul, nI_add]) (by first | omega | (simp only [mLen]; omega)) (by decide) ?_
      refine e_topi hv ?_
      refine e_push dX12_item_29 ?_
      refine e_isub dX12_item_31 ?_
      refine e_topi (show _ = nI r by rw [show (100 : Int32) = nI 100 from rfl, pk_sub (by omega)]; congr 1; omega) ?_
      refine e_istore dX12_item_32 ?_
      refine e_iload dX12_item_34 rfl ?_
      refine e_push dX12_item_35 ?_
      refine e_aload dX12_item_36 rfl ?_
      refine m_geta dX12_item_37 fg_X12_32 hM (by decide) rfl ?_
      refine e_iload dX12_item_40 rfl ?_
      refine m_aldN (r) dX12_item_42 hM rfl (by decide) (by first | rfl | simp only [li_1, li_2, li_3, li_4, li_5, li_12, li_60, pk_mul, nI_add]) (by first | omega | (simp only [mLen]; omega)) (by decide) ?_
      refine e_push dX12_item_43 ?_
      refine e_isub dX12_item_44 ?_
      refine n_callS3 dX12_item_45 ca_X12_96  (c_X12_in _ _ _ ?_) 
      refine e_if_neB dX12_item_48 (fun h48 => ?_) (fun h48 => ?_)
      · have h48b := h48
        rw [hs] at h48b
        obtain ⟨i, hi, rfl⟩ := inB_n (by omega) h48b
        have ti : tN (nI i) = i := tN_n (by omega)
        refine e_aload dX12_item_53 rfl ?_
        refine m_geta dX12_item_54 fg_X12_35 hM (by decide) rfl ?_
        refine e_push dX12_item_57 ?_
        refine e_iload dX12_item_59 rfl ?_
        refine e_imul dX12_item_61 ?_
        refine e_iload dX12_item_62 rfl ?_
        refine e_iadd dX12_item_63 ?_
        refine m_aldN (12 * r + i) dX12_item_64 hM rfl (by decide) (by first | rfl | simp only [li_1, li_2, li_3, li_4, li_5, li_12, li_60, pk_mul, nI_add]) (by first | omega | (simp only [mLen]; omega)) (by decide) ?_
        refine e_istore dX12_item_65 ?_
        refine e_aload dX12_item_67 rfl ?_
        refine m_geta dX12_item_68 fg_X12_35 hM (by decide) rfl ?_
        refine e_push dX12_item_71 ?_
        refine e_iload dX12_item_73 rfl ?_
        refine e_imul dX12_item_75 ?_
        refine e_iload dX12_item_76 rfl ?_
        refine e_iadd dX12_item_77 ?_
        refine e_iload dX12_item_78 rfl ?_
        refine m_astN (12 * r + i) dX12_item_79 hM rfl (by decide) (by first | rfl | simp only [li_1, li_2, li_3, li_4, li_5, li_12, li_60, pk_mul, nI_add]) (by first | omega | (simp only [mLen]; omega)) (by decide) ?_
        refine e_iload dX12_item_80 rfl ?_
        exact e_iretI dX12_item_82 rfl (qs hq (by simp only [F_item, h4, tp, h18, decide_true, Bool.and_self, if_true, tr, h48, ti])) (by decide) (by decide)
      · refine e_push dX12_item_51 ?_
        exact e_iretI dX12_item_52 rfl (qs hq (by simp only [F_item, h4, tp, h18, decide_true, Bool.and_self, if_true, tr]; simp [h48])) (by decide) (by decide)
    · refine e_push dX12_item_21 ?_
      exact e_iretI dX12_item_22 rfl (qs hq (by first | (simp [F_item, h4]; done) | (simp [F_item, h4, tp, h18]; done))) (by decide) (by decide)
end
