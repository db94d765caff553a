def tyX0 : Nat → FieldType := fun k => match k with
  | 0 => .object "PolicyHouse$Heap"
  | 1 => .object "PolicyHouse$Texts"
  | 2 => .object "PolicyHouse$Strings"
  | 3 => .array .int
  | 4 => .int
  | 5 => .array .int
  | 6 => .array .int
  | 7 => .array .int
  | _ => .int
abbrev wsX00 : List Cond := u_ws RX0 TX0 9
theorem nmX0 : ∀ a, a < 9 → ∀ b, b < 9 → a ≠ b → (TX0 a).2.1 ≠ (TX0 b).2.1 := by decide +kernel
theorem tyX0_ok : ∀ k, k < 9 → parseFieldDescriptor (TX0 k).2.2.1 = some (tyX0 k) := by decide +kernel
abbrev cX0_init : ByteArray := prog_2_method_1_code
def yX0_init : MethodName := ⟨RX0, "<init>", "(LPolicyHouse$Heap;LPolicyHouse$Texts;LPolicyHouse$Names;LPolicyHouse$Strings;)V"⟩
def tyX1 : Nat → FieldType := fun k => match k with
  | 0 => .array (.object "PolicyHouse$Tree")
  | 1 => .int
  | 2 => .int
  | 3 => .int
  | 4 => .array .int
  | 5 => .array .int
  | 6 => .array .int
  | 7 => .array .int
  | 8 => .int
  | 9 => .array .int
  | 10 => .array .int
  | 11 => .array .int
  | 12 => .array .int
  | 13 => .int
  | 14 => .int
  | _ => .int
abbrev wsX10 : List Cond := u_ws RX1 TX1 16
theorem nmX1 : ∀ a, a < 16 → ∀ b, b < 16 → a ≠ b → (TX1 a).2.1 ≠ (TX1 b).2.1 := by decide +kernel
theorem tyX1_ok : ∀ k, k < 16 → parseFieldDescriptor (TX1 k).2.2.1 = some (tyX1 k) := by decide +kernel
abbrev cX1_init : ByteArray := prog_3_method_1_code
def yX1_init : MethodName := ⟨RX1, "<init>", "([LPolicyHouse$Tree;II)V"⟩
abbrev cX1_of : ByteArray := prog_3_method_2_code
def yX1_of : MethodName := ⟨RX1, "of", "(II)I"⟩
abbrev cX1_ruleAt : ByteArray := prog_3_method_3_code
def yX1_ruleAt : MethodName := ⟨RX1, "ruleAt", "(I)I"⟩
abbrev cX1_isInner : ByteArray := prog_3_method_4_code
def yX1_isInner : MethodName := ⟨RX1, "isInner", "(I)Z"⟩
abbrev cX1_fail : ByteArray := prog_3_method_5_code
def yX1_fail : MethodName := ⟨RX1, "fail", "(III)V"⟩
abbrev cX1_failAtRule : ByteArray := prog_3_method_6_code
def yX1_failAtRule : MethodName := ⟨RX1, "failAtRule", "(II)V"⟩
def tyX2 : Nat → FieldType := fun k => match k with
  | 0 => .object "PolicyHouse$Heap"
  | 1 => .object "PolicyHouse$Names"
  | 2 => .object "PolicyHouse$Bundle"
  | 3 => .object "PolicyHouse$Tree"
  | 4 => .int
  | 5 => .array .int
  | 6 => .array .int
  | 7 => .array .int
  | 8 => .int
  | 9 => .array .int
  | 10 => .int
  | 11 => .int
  | 12 => .int
  | 13 => .array .int
  | 14 => .array .int
  | _ => .array .int
abbrev wsX20 : List Cond := u_ws RX2 TX2 16
theorem nmX2 : ∀ a, a < 16 → ∀ b, b < 16 → a ≠ b → (TX2 a).2.1 ≠ (TX2 b).2.1 := by decide +kernel
theorem tyX2_ok : ∀ k, k < 16 → parseFieldDescriptor (TX2 k).2.2.1 = some (tyX2 k) := by decide +kernel
abbrev cX2_init : ByteArray := prog_4_method_1_code
def yX2_init : MethodName := ⟨RX2, "<init>", "(LPolicyHouse$Heap;LPolicyHouse$Names;)V"⟩
abbrev cX2_bundle : ByteArray := prog_4_method_2_code
def yX2_bundle : MethodName := ⟨RX2, "bundle", "([LPolicyHouse$Tree;I)LPolicyHouse$Bundle;"⟩
abbrev cX2_gather : ByteArray := prog_4_method_3_code
def yX2_gather : MethodName := ⟨RX2, "gather", "()V"⟩
abbrev cX2_addPart : ByteArray := prog_4_method_4_code
def yX2_addPart : MethodName := ⟨RX2, "addPart", "(II)V"⟩
abbrev cX2_findClash : ByteArray := prog_4_method_5_code
def yX2_findClash : MethodName := ⟨RX2, "findClash", "()V"⟩
abbrev cX2_isClash : ByteArray := prog_4_method_6_code
def yX2_isClash : MethodName := ⟨RX2, "isClash", "(LPolicyHouse$Tree;I)Z"⟩
abbrev cX2_isPartClash : ByteArray := prog_4_method_7_code
def yX2_isPartClash : MethodName := ⟨RX2, "isPartClash", "(LPolicyHouse$Tree;II)Z"⟩
abbrev cX2_report : ByteArray := prog_4_method_8_code
def yX2_report : MethodName := ⟨RX2, "report", "(II)V"⟩
abbrev cX2_begin : ByteArray := prog_4_method_9_code
def yX2_begin : MethodName := ⟨RX2, "begin", "(LPolicyHouse$Tree;I)V"⟩
abbrev cX2_scanPart : ByteArray := prog_4_method_10_code
def yX2_scanPart : MethodName := ⟨RX2, "scanPart", "(I)V"⟩
abbrev cX2_newScope : ByteArray := prog_4_method_12_code
def yX2_newScope : MethodName := ⟨RX2, "newScope", "(II)I"⟩
abbrev cX2_addVariable : ByteArray := prog_4_method_13_code
def yX2_addVariable : MethodName := ⟨RX2, "addVariable", "(II)V"⟩
abbrev cX2_declareAll : ByteArray := prog_4_method_14_code
def yX2_declareAll : MethodName := ⟨RX2, "declareAll", "(II)V"⟩
abbrev cX2_declare : ByteArray := prog_4_method_15_code
def yX2_declare : MethodName := ⟨RX2, "declare", "(II)V"⟩
abbrev cX2_declareEvery : ByteArray := prog_4_method_16_code
def yX2_declareEvery : MethodName := ⟨RX2, "declareEvery", "(II)V"⟩
abbrev cX2_declarePattern : ByteArray := prog_4_method_17_code
def yX2_declarePattern : MethodName := ⟨RX2, "declarePattern", "(II)V"⟩
abbrev cX2_addPattern : ByteArray := prog_4_method_18_code
def yX2_addPattern : MethodName := ⟨RX2, "addPattern", "(II)V"⟩
abbrev cX2_isAround : ByteArray := prog_4_method_19_code
def yX2_isAround : MethodName := ⟨RX2, "isAround", "(II)Z"⟩
abbrev cX2_checkDeclared : ByteArray := prog_4_method_20_code
def yX2_checkDeclared : MethodName := ⟨RX2, "checkDeclared", "()V"⟩
abbrev cX2_aliasOf : ByteArray := prog_4_method_21_code
def yX2_aliasOf : MethodName := ⟨RX2, "aliasOf", "(I)I"⟩
abbrev cX2_ruleOf : ByteArray := prog_4_method_22_code
def yX2_ruleOf : MethodName := ⟨RX2, "ruleOf", "(I)I"⟩
abbrev cX2_variable : ByteArray := prog_4_method_23_code
def yX2_variable : MethodName := ⟨RX2, "variable", "(II)I"⟩
abbrev cX2_resolveAll : ByteArray := prog_4_method_24_code
def yX2_resolveAll : MethodName := ⟨RX2, "resolveAll", "(II)V"⟩
abbrev cX2_resolve : ByteArray := prog_4_method_25_code
def yX2_resolve : MethodName := ⟨RX2, "resolve", "(II)V"⟩
abbrev cX2_resolveStep : ByteArray := prog_4_method_26_code
def yX2_resolveStep : MethodName := ⟨RX2, "resolveStep", "(II)V"⟩
abbrev cX2_resolvePattern : ByteArray := prog_4_method_27_code
def yX2_resolvePattern : MethodName := ⟨RX2, "resolvePattern", "(II)V"⟩
abbrev cX2_resolveSide : ByteArray := prog_4_method_28_code
def yX2_resolveSide : MethodName := ⟨RX2, "resolveSide", "(II)V"⟩
abbrev cX2_resolveName : ByteArray := prog_4_method_29_code
def yX2_resolveName : MethodName := ⟨RX2, "resolveName", "(II)V"⟩
abbrev cX2_resolveCall : ByteArray := prog_4_method_30_code
def yX2_resolveCall : MethodName := ⟨RX2, "resolveCall", "(I)V"⟩
abbrev cX2_functionOf : ByteArray := prog_4_method_31_code
def yX2_functionOf : MethodName := ⟨RX2, "functionOf", "(I)I"⟩
abbrev cX2_isBadTarget : ByteArray := prog_4_method_32_code
def yX2_isBadTarget : MethodName := ⟨RX2, "isBadTarget", "(I)Z"⟩
abbrev cX2_clearBits : ByteArray := prog_4_method_33_code
def yX2_clearBits : MethodName := ⟨RX2, "clearBits", "()V"⟩
abbrev cX2_mark : ByteArray := prog_4_method_34_code
def yX2_mark : MethodName := ⟨RX2, "mark", "(I)V"⟩
abbrev cX2_collect : ByteArray := prog_4_method_35_code
def yX2_collect : MethodName := ⟨RX2, "collect", "(IZ)V"⟩
abbrev cX2_collectAll : ByteArray := prog_4_method_36_code
def yX2_collectAll : MethodName := ⟨RX2, "collectAll", "(IZ)V"⟩
abbrev cX2_markReference : ByteArray := prog_4_method_37_code
def yX2_markReference : MethodName := ⟨RX2, "markReference", "(I)V"⟩
abbrev cX2_findReads : ByteArray := prog_4_method_38_code
def yX2_findReads : MethodName := ⟨RX2, "findReads", "()V"⟩
abbrev cX2_readRule : ByteArray := prog_4_method_39_code
def yX2_readRule : MethodName := ⟨RX2, "readRule", "(IZ)V"⟩
abbrev cX2_isSet : ByteArray := prog_4_method_40_code
def yX2_isSet : MethodName := ⟨RX2, "isSet", "([III)Z"⟩
abbrev cX2_findDepth : ByteArray := prog_4_method_41_code
def yX2_findDepth : MethodName := ⟨RX2, "findDepth", "()V"⟩
abbrev cX2_rowOf : ByteArray := prog_4_method_42_code
def yX2_rowOf : MethodName := ⟨RX2, "rowOf", "(I[I)I"⟩
abbrev cX2_findWiths : ByteArray := prog_4_method_43_code
def yX2_findWiths : MethodName := ⟨RX2, "findWiths", "(I)V"⟩
abbrev cX2_withsIn : ByteArray := prog_4_method_44_code
def yX2_withsIn : MethodName := ⟨RX2, "withsIn", "(I)I"⟩
def tyX3 : Nat → FieldType := fun k => match k with
  | 0 => .object "PolicyHouse$Heap"
  | 1 => .object "PolicyHouse$Names"
  | 2 => .object "PolicyHouse$Checker"
  | 3 => .object "PolicyHouse$Bundle"
  | 4 => .object "PolicyHouse$Tree"
  | 5 => .array .int
  | 6 => .int
  | 7 => .int
  | 8 => .int
  | 9 => .int
  | 10 => .int
  | 11 => .int
  | 12 => .int
  | 13 => .array .int
  | _ => .int
abbrev wsX30 : List Cond := u_ws RX3 TX3 15
theorem nmX3 : ∀ a, a < 15 → ∀ b, b < 15 → a ≠ b → (TX3 a).2.1 ≠ (TX3 b).2.1 := by decide +kernel
theorem tyX3_ok : ∀ k, k < 15 → parseFieldDescriptor (TX3 k).2.2.1 = some (tyX3 k) := by decide +kernel
abbrev cX3_init : ByteArray := prog_5_method_1_code
def yX3_init : MethodName := ⟨RX3, "<init>", "(LPolicyHouse$Heap;LPolicyHouse$Names;LPolicyHouse$Checker;)V"⟩
abbrev cX3_finish : ByteArray := prog_5_method_2_code
def yX3_finish : MethodName := ⟨RX3, "finish", "(LPolicyHouse$Bundle;)V"⟩
abbrev cX3_arrangePart : ByteArray := prog_5_method_3_code
def yX3_arrangePart : MethodName := ⟨RX3, "arrangePart", "(I)V"⟩
abbrev cX3_report : ByteArray := prog_5_method_5_code
def yX3_report : MethodName := ⟨RX3, "report", "(II)V"⟩
abbrev cX3_around : ByteArray := prog_5_method_6_code
def yX3_around : MethodName := ⟨RX3, "around", "(I)I"⟩
abbrev cX3_bodyOf : ByteArray := prog_5_method_7_code
def yX3_bodyOf : MethodName := ⟨RX3, "bodyOf", "(I)I"⟩
abbrev cX3_arrange : ByteArray := prog_5_method_8_code
def yX3_arrange : MethodName := ⟨RX3, "arrange", "(II)V"⟩
abbrev cX3_arrangeBody : ByteArray := prog_5_method_9_code
def yX3_arrangeBody : MethodName := ⟨RX3, "arrangeBody", "(III)V"⟩
abbrev cX3_arrangeWithin : ByteArray := prog_5_method_10_code
def yX3_arrangeWithin : MethodName := ⟨RX3, "arrangeWithin", "(I)V"⟩
abbrev cX3_putInOrder : ByteArray := prog_5_method_11_code
def yX3_putInOrder : MethodName := ⟨RX3, "putInOrder", "(I)V"⟩
abbrev cX3_isReadyLiteral : ByteArray := prog_5_method_12_code
def yX3_isReadyLiteral : MethodName := ⟨RX3, "isReadyLiteral", "(I)Z"⟩
abbrev cX3_isReadyUnify : ByteArray := prog_5_method_13_code
def yX3_isReadyUnify : MethodName := ⟨RX3, "isReadyUnify", "(III)Z"⟩
abbrev cX3_patternMask : ByteArray := prog_5_method_14_code
def yX3_patternMask : MethodName := ⟨RX3, "patternMask", "(I)I"⟩
abbrev cX3_usedFrom : ByteArray := prog_5_method_15_code
def yX3_usedFrom : MethodName := ⟨RX3, "usedFrom", "(II)I"⟩
abbrev cX3_isReady : ByteArray := prog_5_method_16_code
def yX3_isReady : MethodName := ⟨RX3, "isReady", "(IZ)Z"⟩
abbrev cX3_isReadyStep : ByteArray := prog_5_method_17_code
def yX3_isReadyStep : MethodName := ⟨RX3, "isReadyStep", "(IZ)Z"⟩
abbrev cX3_isMatching : ByteArray := prog_5_method_18_code
def yX3_isMatching : MethodName := ⟨RX3, "isMatching", "(I)Z"⟩
abbrev cX3_checkKinds : ByteArray := prog_5_method_19_code
def yX3_checkKinds : MethodName := ⟨RX3, "checkKinds", "(I)V"⟩
abbrev cX3_kindOf : ByteArray := prog_5_method_20_code
def yX3_kindOf : MethodName := ⟨RX3, "kindOf", "(I)I"⟩
abbrev cX3_takes : ByteArray := prog_5_method_21_code
def yX3_takes : MethodName := ⟨RX3, "takes", "(CI)Z"⟩
abbrev cX3_put : ByteArray := prog_5_method_22_code
def yX3_put : MethodName := ⟨RX3, "put", "(I)V"⟩
abbrev cX3_putTwo : ByteArray := prog_5_method_23_code
def yX3_putTwo : MethodName := ⟨RX3, "putTwo", "(II)V"⟩
abbrev cX3_putThree : ByteArray := prog_5_method_24_code
def yX3_putThree : MethodName := ⟨RX3, "putThree", "(III)V"⟩
abbrev cX3_putFour : ByteArray := prog_5_method_25_code
def yX3_putFour : MethodName := ⟨RX3, "putFour", "(IIII)V"⟩
abbrev cX3_registers : ByteArray := prog_5_method_26_code
def yX3_registers : MethodName := ⟨RX3, "registers", "(I)I"⟩
abbrev cX3_encode : ByteArray := prog_5_method_27_code
def yX3_encode : MethodName := ⟨RX3, "encode", "()V"⟩
abbrev cX3_setFrame : ByteArray := prog_5_method_28_code
def yX3_setFrame : MethodName := ⟨RX3, "setFrame", "(I)V"⟩
abbrev cX3_branch : ByteArray := prog_5_method_29_code
def yX3_branch : MethodName := ⟨RX3, "branch", "(IIZ)V"⟩
abbrev cX3_literals : ByteArray := prog_5_method_31_code
def yX3_literals : MethodName := ⟨RX3, "literals", "(I)V"⟩
abbrev cX3_literal : ByteArray := prog_5_method_32_code
def yX3_literal : MethodName := ⟨RX3, "literal", "(I)V"⟩
abbrev cX3_with : ByteArray := prog_5_method_33_code
def yX3_with : MethodName := ⟨RX3, "with", "(I)I"⟩
abbrev cX3_keep : ByteArray := prog_5_method_34_code
def yX3_keep : MethodName := ⟨RX3, "keep", "(I)V"⟩
abbrev cX3_someIn : ByteArray := prog_5_method_35_code
def yX3_someIn : MethodName := ⟨RX3, "someIn", "(I)V"⟩
abbrev cX3_every : ByteArray := prog_5_method_36_code
def yX3_every : MethodName := ⟨RX3, "every", "(I)V"⟩
abbrev cX3_match : ByteArray := prog_5_method_37_code
def yX3_match : MethodName := ⟨RX3, "match", "(II)V"⟩
abbrev cX3_matchObject : ByteArray := prog_5_method_38_code
def yX3_matchObject : MethodName := ⟨RX3, "matchObject", "(II)V"⟩
abbrev cX3_expression : ByteArray := prog_5_method_39_code
def yX3_expression : MethodName := ⟨RX3, "expression", "(I)I"⟩
abbrev cX3_row : ByteArray := prog_5_method_40_code
def yX3_row : MethodName := ⟨RX3, "row", "(III)I"⟩
abbrev cX3_signs : ByteArray := prog_5_method_41_code
def yX3_signs : MethodName := ⟨RX3, "signs", "(I)I"⟩
abbrev cX3_reference : ByteArray := prog_5_method_42_code
def yX3_reference : MethodName := ⟨RX3, "reference", "(I)I"⟩
abbrev cX3_step : ByteArray := prog_5_method_43_code
def yX3_step : MethodName := ⟨RX3, "step", "(II)I"⟩
abbrev cX3_comprehension : ByteArray := prog_5_method_44_code
def yX3_comprehension : MethodName := ⟨RX3, "comprehension", "(I)I"⟩
abbrev cX4_init : ByteArray := prog_6_method_1_code
def yX4_init : MethodName := ⟨RX4, "<init>", "()V"⟩
abbrev cX4_empty : ByteArray := prog_6_method_2_code
def yX4_empty : MethodName := ⟨RX4, "empty", "(I)I"⟩
abbrev cX4_room : ByteArray := prog_6_method_3_code
def yX4_room : MethodName := ⟨RX4, "room", "(I)I"⟩
abbrev cX4_reset : ByteArray := prog_6_method_4_code
def yX4_reset : MethodName := ⟨RX4, "reset", "(I)V"⟩
abbrev cX4_kind : ByteArray := prog_6_method_6_code
def yX4_kind : MethodName := ⟨RX4, "kind", "(I)I"⟩
abbrev cX4_size : ByteArray := prog_6_method_7_code
def yX4_size : MethodName := ⟨RX4, "size", "(I)I"⟩
abbrev cX4_weight : ByteArray := prog_6_method_10_code
def yX4_weight : MethodName := ⟨RX4, "weight", "(I)I"⟩
abbrev cX4_depth : ByteArray := prog_6_method_11_code
def yX4_depth : MethodName := ⟨RX4, "depth", "(I)I"⟩
abbrev cX4_tooGreat : ByteArray := prog_6_method_12_code
def yX4_tooGreat : MethodName := ⟨RX4, "tooGreat", "(I)Z"⟩
abbrev cX4_compare : ByteArray := prog_6_method_20_code
def yX4_compare : MethodName := ⟨RX4, "compare", "(II)I"⟩
abbrev cX4_sort : ByteArray := prog_6_method_22_code
def yX4_sort : MethodName := ⟨RX4, "sort", "(III)V"⟩
abbrev cX4_made : ByteArray := prog_6_method_23_code
def yX4_made : MethodName := ⟨RX4, "made", "(IIZ)I"⟩
abbrev cX4_copy : ByteArray := prog_6_method_29_code
def yX4_copy : MethodName := ⟨RX4, "copy", "(I)I"⟩
abbrev cX4_copyTo : ByteArray := prog_6_method_30_code
def yX4_copyTo : MethodName := ⟨RX4, "copyTo", "(II)I"⟩
def tyX5 : Nat → FieldType := fun k => match k with
  | 0 => .object "PolicyHouse$Heap"
  | 1 => .object "PolicyHouse$Scopes"
  | 2 => .object "PolicyHouse$Builtins"
  | 3 => .array .int
  | 4 => .array .int
  | 5 => .int
  | 6 => .int
  | 7 => .int
  | 8 => .int
  | 9 => .boolean
  | 10 => .boolean
  | 11 => .boolean
  | 12 => .object "PolicyHouse$Bundle"
  | 13 => .array .int
  | 14 => .array .int
  | 15 => .int
  | 16 => .int
  | 17 => .int
  | _ => .array .int
abbrev wsX50 : List Cond := u_ws RX5 TX5 19
theorem nmX5 : ∀ a, a < 19 → ∀ b, b < 19 → a ≠ b → (TX5 a).2.1 ≠ (TX5 b).2.1 := by decide +kernel
theorem tyX5_ok : ∀ k, k < 19 → parseFieldDescriptor (TX5 k).2.2.1 = some (tyX5 k) := by decide +kernel
abbrev cX5_init : ByteArray := prog_7_method_1_code
def yX5_init : MethodName := ⟨RX5, "<init>", "(LPolicyHouse$Heap;LPolicyHouse$Scopes;LPolicyHouse$Builtins;)V"⟩
abbrev cX6_within : ByteArray := prog_8_method_10_code
def yX6_within : MethodName := ⟨RX6, "within", "(II)Z"⟩
def tyX8 : Nat → FieldType := fun k => match k with
  | 0 => .object "PolicyHouse$Heap"
  | 1 => .object "PolicyHouse$Texts"
  | 2 => .object "PolicyHouse$Names"
  | 3 => .array .int
  | 4 => .array .int
  | 5 => .array .int
  | 6 => .array .int
  | 7 => .int
  | 8 => .int
  | 9 => .int
  | 10 => .int
  | 11 => .int
  | 12 => .int
  | 13 => .int
  | _ => .object "PolicyHouse$Tree"
abbrev wsX80 : List Cond := u_ws RX8 TX8 15
theorem nmX8 : ∀ a, a < 15 → ∀ b, b < 15 → a ≠ b → (TX8 a).2.1 ≠ (TX8 b).2.1 := by decide +kernel
theorem tyX8_ok : ∀ k, k < 15 → parseFieldDescriptor (TX8 k).2.2.1 = some (tyX8 k) := by decide +kernel
abbrev cX8_init : ByteArray := prog_10_method_1_code
def yX8_init : MethodName := ⟨RX8, "<init>", "(LPolicyHouse$Heap;LPolicyHouse$Texts;LPolicyHouse$Names;)V"⟩
def tyX9 : Nat → FieldType := fun k => match k with
  | 0 => .object "PolicyHouse$Heap"
  | 1 => .object "PolicyHouse$Names"
  | 2 => .object "PolicyHouse$Bundle"
  | 3 => .int
  | 4 => .int
  | 5 => .int
  | 6 => .array .int
  | 7 => .array .int
  | 8 => .int
  | 9 => .boolean
  | 10 => .boolean
  | 11 => .boolean
  | 12 => .int
  | 13 => .int
  | 14 => .int
  | _ => .array .int
abbrev wsX90 : List Cond := u_ws RX9 TX9 16
theorem nmX9 : ∀ a, a < 16 → ∀ b, b < 16 → a ≠ b → (TX9 a).2.1 ≠ (TX9 b).2.1 := by decide +kernel
theorem tyX9_ok : ∀ k, k < 16 → parseFieldDescriptor (TX9 k).2.2.1 = some (tyX9 k) := by decide +kernel
abbrev cX9_init : ByteArray := prog_11_method_1_code
def yX9_init : MethodName := ⟨RX9, "<init>", "(LPolicyHouse$Heap;LPolicyHouse$Names;)V"⟩
def tyX10 : Nat → FieldType := fun k => match k with
  | 0 => .object "PolicyHouse$Heap"
  | 1 => .object "PolicyHouse$Texts"
  | 2 => .object "PolicyHouse$Names"
  | 3 => .array .int
  | 4 => .int
  | 5 => .boolean
  | 6 => .array .int
  | 7 => .array .int
  | 8 => .array .int
  | 9 => .array .int
  | 10 => .array .int
  | 11 => .array .int
  | 12 => .int
  | 13 => .array .int
  | 14 => .int
  | 15 => .int
  | 16 => .int
  | 17 => .boolean
  | _ => .int
abbrev wsX100 : List Cond := u_ws RX10 TX10 19
theorem nmX10 : ∀ a, a < 19 → ∀ b, b < 19 → a ≠ b → (TX10 a).2.1 ≠ (TX10 b).2.1 := by decide +kernel
theorem tyX10_ok : ∀ k, k < 19 → parseFieldDescriptor (TX10 k).2.2.1 = some (tyX10 k) := by decide +kernel
abbrev cX10_init : ByteArray := prog_12_method_1_code
def yX10_init : MethodName := ⟨RX10, "<init>", "(LPolicyHouse$Heap;LPolicyHouse$Texts;LPolicyHouse$Names;)V"⟩
def tyX11 : Nat → FieldType := fun k => match k with
  | 0 => .object "PolicyHouse$Heap"
  | 1 => .array .int
  | 2 => .int
  | 3 => .int
  | 4 => .int
  | 5 => .int
  | 6 => .long
  | 7 => .array .int
  | 8 => .int
  | 9 => .array .int
  | 10 => .boolean
  | 11 => .array .long
  | 12 => .int
  | 13 => .int
  | _ => .boolean
abbrev wsX110 : List Cond := u_ws RX11 TX11 15
theorem nmX11 : ∀ a, a < 15 → ∀ b, b < 15 → a ≠ b → (TX11 a).2.1 ≠ (TX11 b).2.1 := by decide +kernel
theorem tyX11_ok : ∀ k, k < 15 → parseFieldDescriptor (TX11 k).2.2.1 = some (tyX11 k) := by decide +kernel
abbrev cX11_init : ByteArray := prog_13_method_1_code
def yX11_init : MethodName := ⟨RX11, "<init>", "(LPolicyHouse$Heap;)V"⟩
abbrev wsX120 : List Cond := u_ws RX12 TX12 15
abbrev cX12_isComprehension : ByteArray := prog_14_method_4_code
def yX12_isComprehension : MethodName := ⟨RX12, "isComprehension", "(I)Z"⟩
abbrev cX12_isConstant : ByteArray := prog_14_method_5_code
def yX12_isConstant : MethodName := ⟨RX12, "isConstant", "(I)Z"⟩
abbrev cX12_isPattern : ByteArray := prog_14_method_6_code
def yX12_isPattern : MethodName := ⟨RX12, "isPattern", "(I)Z"⟩
abbrev cX12_isName : ByteArray := prog_14_method_7_code
def yX12_isName : MethodName := ⟨RX12, "isName", "(II)Z"⟩
def tyX13 : Nat → FieldType := fun k => match k with
  | 0 => .object "PolicyHouse$Heap"
  | 1 => .object "PolicyHouse$Texts"
  | 2 => .object "PolicyHouse$Names"
  | 3 => .object "PolicyHouse$Reader"
  | 4 => .object "PolicyHouse$Checker"
  | 5 => .object "PolicyHouse$Coder"
  | 6 => .object "PolicyHouse$Scopes"
  | 7 => .object "PolicyHouse$Machine"
  | 8 => .array .int
  | 9 => .int
  | 10 => .int
  | 11 => .array (.object "PolicyHouse$Tree")
  | 12 => .int
  | 13 => .object "PolicyHouse$Bundle"
  | 14 => .object "PolicyHouse$Bundle"
  | 15 => .array (.object "PolicyHouse$Query")
  | 16 => .array .int
  | 17 => .int
  | 18 => .int
  | 19 => .int
  | 20 => .int
  | 21 => .array .long
  | _ => .int
abbrev wsX130 : List Cond := u_ws RX13 TX13 23
theorem nmX13 : ∀ a, a < 23 → ∀ b, b < 23 → a ≠ b → (TX13 a).2.1 ≠ (TX13 b).2.1 := by decide +kernel
theorem tyX13_ok : ∀ k, k < 23 → parseFieldDescriptor (TX13 k).2.2.1 = some (tyX13 k) := by decide +kernel
abbrev cX13_init : ByteArray := prog_1_method_1_code
def yX13_init : MethodName := ⟨RX13, "<init>", "()V"⟩
abbrev cX13_bundleOfDraft : ByteArray := prog_1_method_8_code
def yX13_bundleOfDraft : MethodName := ⟨RX13, "bundleOfDraft", "()LPolicyHouse$Bundle;"⟩
def RJ11 : String := "java/lang/Character"
abbrev cJ11_isValidCodePoint_9a6ad : ByteArray := prog_21_method_11_code
def yJ11_isValidCodePoint_9a6ad : MethodName := ⟨RJ11, "isValidCodePoint", "(I)Z"⟩
abbrev cJ11_highSurrogate_5068e : ByteArray := prog_21_method_28_code
def yJ11_highSurrogate_5068e : MethodName := ⟨RJ11, "highSurrogate", "(I)C"⟩
abbrev cJ11_lowSurrogate_5068e : ByteArray := prog_21_method_29_code
def yJ11_lowSurrogate_5068e : MethodName := ⟨RJ11, "lowSurrogate", "(I)C"⟩
def RJ6 : String := "java/lang/Integer"
abbrev cJ6_compare_7cf53 : ByteArray := prog_25_method_40_code
def yJ6_compare_7cf53 : MethodName := ⟨RJ6, "compare", "(II)I"⟩
abbrev cJ6_bitCount_0f7a4 : ByteArray := prog_25_method_49_code
def yJ6_bitCount_0f7a4 : MethodName := ⟨RJ6, "bitCount", "(I)I"⟩
def RJ13 : String := "java/lang/Long"
abbrev cJ13_compare_74951 : ByteArray := prog_26_method_42_code
def yJ13_compare_74951 : MethodName := ⟨RJ13, "compare", "(JJ)I"⟩
abbrev cJ0_indexOf_0f7a4 : ByteArray := prog_29_method_79_code
def yJ0_indexOf_0f7a4 : MethodName := ⟨RJ0, "indexOf", "(I)I"⟩
abbrev cJ0_indexOf_7cf53 : ByteArray := prog_29_method_80_code
def yJ0_indexOf_7cf53 : MethodName := ⟨RJ0, "indexOf", "(II)I"⟩
abbrev cJ0_checkBoundsBeginEnd_23922 : ByteArray := prog_29_method_158_code
def yJ0_checkBoundsBeginEnd_23922 : MethodName := ⟨RJ0, "checkBoundsBeginEnd", "(III)V"⟩
abbrev cJ1_canEncode_9a6ad : ByteArray := prog_30_method_4_code
def yJ1_canEncode_9a6ad : MethodName := ⟨RJ1, "canEncode", "(I)Z"⟩
abbrev cJ1_indexOf_4cfef : ByteArray := prog_30_method_22_code
def yJ1_indexOf_4cfef : MethodName := ⟨RJ1, "indexOf", "([BIII)I"⟩
abbrev cJ1_indexOfChar_4cfef : ByteArray := prog_30_method_23_code
def yJ1_indexOfChar_4cfef : MethodName := ⟨RJ1, "indexOfChar", "([BIII)I"⟩
abbrev cJ2_indexOf_4cfef : ByteArray := prog_31_method_40_code
def yJ2_indexOf_4cfef : MethodName := ⟨RJ2, "indexOf", "([BIII)I"⟩
abbrev cJ2_indexOfChar_4cfef : ByteArray := prog_31_method_47_code
def yJ2_indexOfChar_4cfef : MethodName := ⟨RJ2, "indexOfChar", "([BIII)I"⟩
abbrev cJ2_indexOfCharUnsafe_4cfef : ByteArray := prog_31_method_48_code
def yJ2_indexOfCharUnsafe_4cfef : MethodName := ⟨RJ2, "indexOfCharUnsafe", "([BIII)I"⟩
abbrev cJ2_indexOfSupplementary_4cfef : ByteArray := prog_31_method_49_code
def yJ2_indexOfSupplementary_4cfef : MethodName := ⟨RJ2, "indexOfSupplementary", "([BIII)I"⟩
abbrev cJ2_checkBoundsBeginEnd_d044e : ByteArray := prog_31_method_93_code
def yJ2_checkBoundsBeginEnd_d044e : MethodName := ⟨RJ2, "checkBoundsBeginEnd", "(II[B)V"⟩
def RJ7 : String := "java/util/Arrays"
abbrev cJ7_copyOf_59c91 : ByteArray := prog_36_method_123_code
def yJ7_copyOf_59c91 : MethodName := ⟨RJ7, "copyOf", "([II)[I"⟩
abbrev cJ3_checkFromToIndex_8c36e : ByteArray := prog_38_method_12_code
def yJ3_checkFromToIndex_8c36e : MethodName := ⟨RJ3, "checkFromToIndex", "(IIILjava/util/function/BiFunction;)I"⟩
def wsX0_init_r1 : List Cond := [Cond.methodLink RX0 1 objectInit, Cond.instanceMethod objectInit, Cond.code objectInit ⟨#[0xb1]⟩ 1 none, Cond.arrayClass .int, Cond.fieldLink RX0 7 "PolicyHouse$Builtins" "arg" "[I", Cond.fieldLink RX0 13 "PolicyHouse$Builtins" "spent" "I", Cond.fieldLink RX0 17 "PolicyHouse$Builtins" "path" "[I", Cond.fieldLink RX0 20 "PolicyHouse$Builtins" "from" "[I", Cond.fieldLink RX0 23 "PolicyHouse$Builtins" "member" "[I", Cond.fieldLink RX0 26 "PolicyHouse$Builtins" "heavy" "I", Cond.fieldLink RX0 29 "PolicyHouse$Builtins" "heap" "LPolicyHouse$Heap;", Cond.fieldLink RX0 33 "PolicyHouse$Builtins" "texts" "LPolicyHouse$Texts;", Cond.fieldLink RX0 37 "PolicyHouse$Builtins" "strings" "LPolicyHouse$Strings;", Cond.methodLink RX0 43 yJ0_charAt_5068e, Cond.instanceMethod yJ0_charAt_5068e, Cond.selects RJ0 yJ0_charAt_5068e yJ0_charAt_5068e, Cond.initialized RJ0, Cond.code yJ0_charAt_5068e cJ0_charAt_5068e 2 (some .char), Cond.fieldLink RJ0 9 "java/lang/String" "value" "[B", Cond.methodLink RJ0 492 yJ0_isLatin1_aae02, Cond.instanceMethod yJ0_isLatin1_aae02, Cond.selects RJ0 yJ0_isLatin1_aae02 yJ0_isLatin1_aae02, Cond.code yJ0_isLatin1_aae02 cJ0_isLatin1_aae02 1 (some .boolean), Cond.fieldLink RJ0 38 "java/lang/String" "COMPACT_STRINGS" "Z"]
def wsX0_init_r2 : List Cond := [Cond.fieldLink RJ0 15 "java/lang/String" "coder" "B", Cond.methodLink RJ0 495 yJ1_charAt_3b067, Cond.static yJ1_charAt_3b067, Cond.initialized RJ1, Cond.code yJ1_charAt_3b067 cJ1_charAt_3b067 2 (some .char), Cond.methodLink RJ1 9 yJ0_checkIndex_df160, Cond.static yJ0_checkIndex_df160, Cond.code yJ0_checkIndex_df160 cJ0_checkIndex_df160 2 none, Cond.fieldLink RJ0 1053 "jdk/internal/util/Preconditions" "SIOOBE_FORMATTER" "Ljava/util/function/BiFunction;", Cond.methodLink RJ0 1059 yJ3_checkIndex_8e157, Cond.static yJ3_checkIndex_8e157, Cond.initialized RJ3, Cond.code yJ3_checkIndex_8e157 cJ3_checkIndex_8e157 3 (some .int), Cond.methodLink RJ0 498 yJ2_charAt_3b067, Cond.static yJ2_charAt_3b067, Cond.initialized RJ2, Cond.code yJ2_charAt_3b067 cJ2_charAt_3b067 2 (some .char), Cond.methodLink RJ2 67 yJ2_checkIndex_2214a, Cond.static yJ2_checkIndex_2214a, Cond.code yJ2_checkIndex_2214a cJ2_checkIndex_2214a 2 none, Cond.methodLink RJ2 48 yJ2_length_9d52b, Cond.static yJ2_length_9d52b, Cond.code yJ2_length_9d52b cJ2_length_9d52b 1 (some .int), Cond.methodLink RJ2 414 yJ0_checkIndex_df160]
def wsX0_init_r3 : List Cond := [Cond.methodLink RJ2 71 yJ2_getChar_3b067, Cond.static yJ2_getChar_3b067, Cond.code yJ2_getChar_3b067 cJ2_getChar_3b067 2 (some .char), Cond.fieldLink RJ2 44 "java/lang/StringUTF16" "$assertionsDisabled" "Z", Cond.fieldLink RJ2 59 "java/lang/StringUTF16" "HI_BYTE_SHIFT" "I", Cond.fieldLink RJ2 63 "java/lang/StringUTF16" "LO_BYTE_SHIFT" "I", Cond.methodLink RX0 49 yX6_sym, Cond.instanceMethod yX6_sym, Cond.selects RX6 yX6_sym yX6_sym, Cond.initialized RX6, Cond.code yX6_sym cX6_sym 8 (some .int), Cond.fieldLink RX6 9 "PolicyHouse$Names" "table" "[I", Cond.fieldLink RX6 44 "PolicyHouse$Names" "heap" "LPolicyHouse$Heap;", Cond.fieldLink RX6 67 "PolicyHouse$Names" "blank" "I", Cond.methodLink RX6 103 yX4_keepString, Cond.instanceMethod yX4_keepString, Cond.selects RX4 yX4_keepString yX4_keepString, Cond.initialized RX4, Cond.code yX4_keepString cX4_keepString 5 (some .int), Cond.fieldLink RX4 25 "PolicyHouse$Heap" "kept" "I", Cond.constant RX4 82 (60000), Cond.fieldLink RX4 10 "PolicyHouse$Heap" "cell" "[I", Cond.methodLink RX4 76 arraycopyName, Cond.native arraycopyName]
def wsX0_init_r4 : List Cond := [Cond.static arraycopyName, Cond.initialized "java/lang/System", Cond.methodLink RX6 106 yX6_same, Cond.instanceMethod yX6_same, Cond.selects RX6 yX6_same yX6_same, Cond.code yX6_same cX6_same 6 (some .boolean), Cond.fieldLink RX6 98 "PolicyHouse$Heap" "cell" "[I"]
def wsX0_init : List Cond := .code yX0_init cX0_init 9 none :: ((wsX0_init_r1 ++ (wsX0_init_r2 ++ (wsX0_init_r3 ++ wsX0_init_r4))) ++ wsX00 ++ wsX60 ++ wsX40)
def wsX4_room : List Cond := .code yX4_room cX4_room 3 (some .int) :: ([.fieldLink RX4 29 "PolicyHouse$Heap" "top" "I", .fieldLink RX4 33 "PolicyHouse$Heap" "end" "I", .fieldLink RX4 36 "PolicyHouse$Heap" "full" "Z", .constant RX4 32 (820000), .constant RX4 9 (886000)] ++ wsX40)
def wsX4_kind : List Cond := .code yX4_kind cX4_kind 2 (some .int) :: ([.fieldLink RX4 10 "PolicyHouse$Heap" "cell" "[I"] ++ wsX40)
def wsX4_size : List Cond := .code yX4_size cX4_size 2 (some .int) :: ([.fieldLink RX4 10 "PolicyHouse$Heap" "cell" "[I"] ++ wsX40)
def wsX4_empty : List Cond := .code yX4_empty cX4_empty 1 (some .int) :: ([])
def wsX4_made_r1 : List Cond := [Cond.fieldLink RX4 21 "PolicyHouse$Heap" "used" "I", Cond.fieldLink RX4 15 "PolicyHouse$Heap" "acc" "[I", Cond.constant RX4 104 (4000000), Cond.methodLink RX4 105 Lib.Math.max.name, Cond.static Lib.Math.max.name, Cond.initialized "java/lang/Math", Cond.code Lib.Math.max.name Lib.Math.max.code 2 (some .int), Cond.fieldLink RX4 10 "PolicyHouse$Heap" "cell" "[I", Cond.methodLink RX4 76 arraycopyName, Cond.native arraycopyName, Cond.static arraycopyName, Cond.initialized "java/lang/System", Cond.methodLink RX4 40 yX4_empty, Cond.static yX4_empty, Cond.initialized RX4, Cond.code yX4_empty cX4_empty 1 (some .int), Cond.methodLink RX4 100 yX4_sort, Cond.instanceMethod yX4_sort, Cond.selects RX4 yX4_sort yX4_sort, Cond.code yX4_sort cX4_sort 13 none, Cond.methodLink RX4 94 Lib.Math.min.name, Cond.static Lib.Math.min.name, Cond.code Lib.Math.min.name Lib.Math.min.code 2 (some .int), Cond.fieldLink RX4 18 "PolicyHouse$Heap" "spare" "[I"]
def wsX4_made_r2 : List Cond := [Cond.methodLink RX4 99 yX4_compare, Cond.instanceMethod yX4_compare, Cond.selects RX4 yX4_compare yX4_compare, Cond.code yX4_compare cX4_compare 11 (some .int), Cond.constantLong RX4 44 (4294967295), Cond.methodLink RX4 83 yJ6_compare_7cf53, Cond.static yJ6_compare_7cf53, Cond.initialized RJ6, Cond.code yJ6_compare_7cf53 cJ6_compare_7cf53 2 (some .int), Cond.methodLink RX4 89 yJ13_compare_74951, Cond.static yJ13_compare_74951, Cond.initialized RJ13, Cond.code yJ13_compare_74951 cJ13_compare_74951 4 (some .int), Cond.methodLink RX4 55 yX4_weight, Cond.instanceMethod yX4_weight, Cond.selects RX4 yX4_weight yX4_weight, Cond.code yX4_weight cX4_weight 3 (some .int), Cond.methodLink RX4 58 yX4_depth, Cond.instanceMethod yX4_depth, Cond.selects RX4 yX4_depth yX4_depth, Cond.code yX4_depth cX4_depth 2 (some .int), Cond.methodLink RX4 65 yX4_room, Cond.instanceMethod yX4_room, Cond.selects RX4 yX4_room yX4_room]
def wsX4_made_r3 : List Cond := [Cond.code yX4_room cX4_room 3 (some .int), Cond.fieldLink RX4 29 "PolicyHouse$Heap" "top" "I", Cond.fieldLink RX4 33 "PolicyHouse$Heap" "end" "I", Cond.fieldLink RX4 36 "PolicyHouse$Heap" "full" "Z", Cond.constant RX4 32 (820000), Cond.constant RX4 9 (886000)]
def wsX4_made : List Cond := .code yX4_made cX4_made 11 (some .int) :: ((wsX4_made_r1 ++ (wsX4_made_r2 ++ wsX4_made_r3)) ++ wsX40)
def wsX4_copy_r1 : List Cond := [Cond.fieldLink RX4 10 "PolicyHouse$Heap" "cell" "[I", Cond.methodLink RX4 76 arraycopyName, Cond.native arraycopyName, Cond.static arraycopyName, Cond.initialized "java/lang/System", Cond.methodLink RX4 46 yX4_kind, Cond.instanceMethod yX4_kind, Cond.selects RX4 yX4_kind yX4_kind, Cond.initialized RX4, Cond.code yX4_kind cX4_kind 2 (some .int), Cond.methodLink RX4 110 yX4_size, Cond.instanceMethod yX4_size, Cond.selects RX4 yX4_size yX4_size, Cond.code yX4_size cX4_size 2 (some .int), Cond.methodLink RX4 65 yX4_room, Cond.instanceMethod yX4_room, Cond.selects RX4 yX4_room yX4_room, Cond.code yX4_room cX4_room 3 (some .int), Cond.fieldLink RX4 29 "PolicyHouse$Heap" "top" "I", Cond.fieldLink RX4 33 "PolicyHouse$Heap" "end" "I", Cond.fieldLink RX4 36 "PolicyHouse$Heap" "full" "Z", Cond.constant RX4 32 (820000), Cond.constant RX4 9 (886000), Cond.methodLink RX4 116 yX4_copy]
def wsX4_copy_r2 : List Cond := [Cond.instanceMethod yX4_copy, Cond.selects RX4 yX4_copy yX4_copy]
def wsX4_copy : List Cond := .code yX4_copy cX4_copy 7 (some .int) :: ((wsX4_copy_r1 ++ wsX4_copy_r2) ++ wsX40)
def wsX4_copyTo_r1 : List Cond := [Cond.fieldLink RX4 29 "PolicyHouse$Heap" "top" "I", Cond.constant RX4 82 (60000), Cond.methodLink RX4 116 yX4_copy, Cond.instanceMethod yX4_copy, Cond.selects RX4 yX4_copy yX4_copy, Cond.initialized RX4, Cond.code yX4_copy cX4_copy 7 (some .int), Cond.fieldLink RX4 10 "PolicyHouse$Heap" "cell" "[I", Cond.methodLink RX4 76 arraycopyName, Cond.native arraycopyName, Cond.static arraycopyName, Cond.initialized "java/lang/System", Cond.methodLink RX4 46 yX4_kind, Cond.instanceMethod yX4_kind, Cond.selects RX4 yX4_kind yX4_kind, Cond.code yX4_kind cX4_kind 2 (some .int), Cond.methodLink RX4 110 yX4_size, Cond.instanceMethod yX4_size, Cond.selects RX4 yX4_size yX4_size, Cond.code yX4_size cX4_size 2 (some .int), Cond.methodLink RX4 65 yX4_room, Cond.instanceMethod yX4_room, Cond.selects RX4 yX4_room yX4_room, Cond.code yX4_room cX4_room 3 (some .int)]
def wsX4_copyTo_r2 : List Cond := [Cond.fieldLink RX4 33 "PolicyHouse$Heap" "end" "I", Cond.fieldLink RX4 36 "PolicyHouse$Heap" "full" "Z", Cond.constant RX4 32 (820000), Cond.constant RX4 9 (886000)]
def wsX4_copyTo : List Cond := .code yX4_copyTo cX4_copyTo 5 (some .int) :: ((wsX4_copyTo_r1 ++ wsX4_copyTo_r2) ++ wsX40)
def wsX1_init : List Cond := .code yX1_init cX1_init 6 none :: ([.methodLink RX1 3 objectInit, .instanceMethod objectInit, .code objectInit ⟨#[0xb1]⟩ 1 none, .fieldLink RX1 9 "PolicyHouse$Bundle" "rules" "I", .fieldLink RX1 15 "PolicyHouse$Bundle" "parts" "I", .fieldLink RX1 18 "PolicyHouse$Bundle" "words" "I", .fieldLink RX1 21 "PolicyHouse$Bundle" "reads" "[I", .fieldLink RX1 25 "PolicyHouse$Bundle" "rank" "[I", .fieldLink RX1 28 "PolicyHouse$Bundle" "branch" "[I", .fieldLink RX1 31 "PolicyHouse$Bundle" "code" "[I", .fieldLink RX1 34 "PolicyHouse$Bundle" "kind" "I", .fieldLink RX1 37 "PolicyHouse$Bundle" "module" "I", .fieldLink RX1 40 "PolicyHouse$Bundle" "place" "I", .classLink RX1 43 RX12, .fieldLink RX1 45 "PolicyHouse$Bundle" "mods" "[LPolicyHouse$Tree;", .fieldLink RX1 49 "PolicyHouse$Tree" "rules" "I", .fieldLink RX1 50 "PolicyHouse$Bundle" "count" "I", .arrayClass .int, .fieldLink RX1 53 "PolicyHouse$Bundle" "rule" "[I", .fieldLink RX1 56 "PolicyHouse$Bundle" "part" "[I", .fieldLink RX1 59 "PolicyHouse$Bundle" "nodeRule" "[I", .fieldLink RX1 62 "PolicyHouse$Bundle" "inner" "[I"] ++ wsX10 ++ wsX120)
def wsX2_init : List Cond := .code yX2_init cX2_init 3 none :: ([.methodLink RX2 1 objectInit, .instanceMethod objectInit, .code objectInit ⟨#[0xb1]⟩ 1 none, .fieldLink RX2 7 "PolicyHouse$Checker" "b" "LPolicyHouse$Bundle;", .fieldLink RX2 13 "PolicyHouse$Checker" "t" "LPolicyHouse$Tree;", .fieldLink RX2 17 "PolicyHouse$Checker" "module" "I", .arrayClass .int, .fieldLink RX2 21 "PolicyHouse$Checker" "declared" "[I", .fieldLink RX2 25 "PolicyHouse$Checker" "scopeOf" "[I", .fieldLink RX2 28 "PolicyHouse$Checker" "placeOf" "[I", .fieldLink RX2 31 "PolicyHouse$Checker" "count" "I", .fieldLink RX2 34 "PolicyHouse$Checker" "around" "[I", .fieldLink RX2 37 "PolicyHouse$Checker" "scopes" "I", .fieldLink RX2 40 "PolicyHouse$Checker" "badKind" "I", .fieldLink RX2 43 "PolicyHouse$Checker" "badPlace" "I", .fieldLink RX2 46 "PolicyHouse$Checker" "bits" "[I", .fieldLink RX2 49 "PolicyHouse$Checker" "direct" "[I", .fieldLink RX2 52 "PolicyHouse$Checker" "all" "[I", .fieldLink RX2 55 "PolicyHouse$Checker" "heap" "LPolicyHouse$Heap;", .fieldLink RX2 59 "PolicyHouse$Checker" "names" "LPolicyHouse$Names;"] ++ wsX20)
def wsX2_gather_r1 : List Cond := [Cond.fieldLink RX2 7 "PolicyHouse$Checker" "b" "LPolicyHouse$Bundle;", Cond.fieldLink RX2 99 "PolicyHouse$Bundle" "count" "I", Cond.fieldLink RX2 100 "PolicyHouse$Bundle" "mods" "[LPolicyHouse$Tree;", Cond.fieldLink RX2 104 "PolicyHouse$Tree" "pack" "I", Cond.fieldLink RX2 109 "PolicyHouse$Bundle" "inner" "[I", Cond.fieldLink RX2 59 "PolicyHouse$Checker" "names" "LPolicyHouse$Names;", Cond.fieldLink RX2 112 "PolicyHouse$Names" "parent" "[I", Cond.fieldLink RX2 115 "PolicyHouse$Tree" "first" "[I", Cond.fieldLink RX2 118 "PolicyHouse$Tree" "root" "I", Cond.fieldLink RX2 125 "PolicyHouse$Tree" "next" "[I", Cond.fieldLink RX2 128 "PolicyHouse$Bundle" "rules" "I", Cond.fieldLink RX2 131 "PolicyHouse$Bundle" "words" "I", Cond.methodLink RX2 121 yX2_addPart, Cond.instanceMethod yX2_addPart, Cond.selects RX2 yX2_addPart yX2_addPart, Cond.initialized RX2, Cond.code yX2_addPart cX2_addPart 7 none, Cond.fieldLink RX2 134 "PolicyHouse$Tree" "ref" "[I", Cond.fieldLink RX2 79 "PolicyHouse$Bundle" "parts" "I", Cond.fieldLink RX2 141 "PolicyHouse$Bundle" "part" "[I", Cond.fieldLink RX2 144 "PolicyHouse$Bundle" "nodeRule" "[I", Cond.fieldLink RX2 147 "PolicyHouse$Bundle" "rule" "[I", Cond.fieldLink RX2 154 "PolicyHouse$Tree" "b" "[I", Cond.methodLink RX2 137 yX1_ruleAt]
def wsX2_gather_r2 : List Cond := [Cond.instanceMethod yX1_ruleAt, Cond.selects RX1 yX1_ruleAt yX1_ruleAt, Cond.initialized RX1, Cond.code yX1_ruleAt cX1_ruleAt 2 (some .int), Cond.fieldLink RX1 59 "PolicyHouse$Bundle" "nodeRule" "[I", Cond.methodLink RX2 150 yX1_of, Cond.instanceMethod yX1_of, Cond.selects RX1 yX1_of yX1_of, Cond.code yX1_of cX1_of 3 (some .int), Cond.fieldLink RX1 53 "PolicyHouse$Bundle" "rule" "[I"]
def wsX2_gather : List Cond := .code yX2_gather cX2_gather 4 none :: ((wsX2_gather_r1 ++ wsX2_gather_r2) ++ wsX20 ++ wsX10 ++ wsX120 ++ wsX60)
def wsX2_findClash_r1 : List Cond := [Cond.fieldLink RX2 7 "PolicyHouse$Checker" "b" "LPolicyHouse$Bundle;", Cond.fieldLink RX2 128 "PolicyHouse$Bundle" "rules" "I", Cond.fieldLink RX2 147 "PolicyHouse$Bundle" "rule" "[I", Cond.fieldLink RX2 99 "PolicyHouse$Bundle" "count" "I", Cond.fieldLink RX2 100 "PolicyHouse$Bundle" "mods" "[LPolicyHouse$Tree;", Cond.fieldLink RX2 156 "PolicyHouse$Tree" "imports" "I", Cond.fieldLink RX2 82 "PolicyHouse$Bundle" "kind" "I", Cond.fieldLink RX2 163 "PolicyHouse$Tree" "at" "[I", Cond.fieldLink RX2 125 "PolicyHouse$Tree" "next" "[I", Cond.fieldLink RX2 79 "PolicyHouse$Bundle" "parts" "I", Cond.fieldLink RX2 141 "PolicyHouse$Bundle" "part" "[I", Cond.methodLink RX2 150 yX1_of, Cond.instanceMethod yX1_of, Cond.selects RX1 yX1_of yX1_of, Cond.initialized RX1, Cond.code yX1_of cX1_of 3 (some .int), Cond.fieldLink RX1 53 "PolicyHouse$Bundle" "rule" "[I", Cond.methodLink RX2 159 yX2_isClash, Cond.instanceMethod yX2_isClash, Cond.selects RX2 yX2_isClash yX2_isClash, Cond.initialized RX2, Cond.code yX2_isClash cX2_isClash 5 (some .boolean), Cond.fieldLink RX2 170 "PolicyHouse$Tree" "c" "[I", Cond.fieldLink RX2 59 "PolicyHouse$Checker" "names" "LPolicyHouse$Names;"]
def wsX2_findClash_r2 : List Cond := [Cond.fieldLink RX2 173 "PolicyHouse$Names" "input" "I", Cond.fieldLink RX2 176 "PolicyHouse$Names" "data" "I", Cond.fieldLink RX2 104 "PolicyHouse$Tree" "pack" "I", Cond.methodLink RX2 179 yX6_find, Cond.instanceMethod yX6_find, Cond.selects RX6 yX6_find yX6_find, Cond.initialized RX6, Cond.code yX6_find cX6_find 4 (some .int), Cond.fieldLink RX6 19 "PolicyHouse$Names" "child" "[I", Cond.fieldLink RX6 16 "PolicyHouse$Names" "name" "[I", Cond.fieldLink RX6 22 "PolicyHouse$Names" "sibling" "[I", Cond.methodLink RX2 137 yX1_ruleAt, Cond.instanceMethod yX1_ruleAt, Cond.selects RX1 yX1_ruleAt yX1_ruleAt, Cond.code yX1_ruleAt cX1_ruleAt 2 (some .int), Cond.fieldLink RX1 59 "PolicyHouse$Bundle" "nodeRule" "[I", Cond.methodLink RX2 89 yX1_fail, Cond.instanceMethod yX1_fail, Cond.selects RX1 yX1_fail yX1_fail, Cond.code yX1_fail cX1_fail 4 none, Cond.fieldLink RX1 34 "PolicyHouse$Bundle" "kind" "I", Cond.fieldLink RX1 37 "PolicyHouse$Bundle" "module" "I", Cond.fieldLink RX1 40 "PolicyHouse$Bundle" "place" "I", Cond.methodLink RX2 166 yX2_isPartClash]
def wsX2_findClash_r3 : List Cond := [Cond.instanceMethod yX2_isPartClash, Cond.selects RX2 yX2_isPartClash yX2_isPartClash, Cond.code yX2_isPartClash cX2_isPartClash 8 (some .boolean), Cond.fieldLink RX2 154 "PolicyHouse$Tree" "b" "[I", Cond.fieldLink RX2 182 "PolicyHouse$Tree" "a" "[I", Cond.methodLink RX2 185 yX1_isInner, Cond.instanceMethod yX1_isInner, Cond.selects RX1 yX1_isInner yX1_isInner, Cond.code yX1_isInner cX1_isInner 2 (some .boolean), Cond.fieldLink RX1 62 "PolicyHouse$Bundle" "inner" "[I"]
def wsX2_findClash : List Cond := .code yX2_findClash cX2_findClash 5 none :: ((wsX2_findClash_r1 ++ (wsX2_findClash_r2 ++ wsX2_findClash_r3)) ++ wsX20 ++ wsX10 ++ wsX120 ++ wsX60)
def wsX2_findReads_r1 : List Cond := [Cond.fieldLink RX2 7 "PolicyHouse$Checker" "b" "LPolicyHouse$Bundle;", Cond.fieldLink RX2 128 "PolicyHouse$Bundle" "rules" "I", Cond.fieldLink RX2 131 "PolicyHouse$Bundle" "words" "I", Cond.arrayClass .int, Cond.fieldLink RX2 306 "PolicyHouse$Bundle" "reads" "[I", Cond.fieldLink RX2 46 "PolicyHouse$Checker" "bits" "[I", Cond.fieldLink RX2 49 "PolicyHouse$Checker" "direct" "[I", Cond.fieldLink RX2 52 "PolicyHouse$Checker" "all" "[I", Cond.fieldLink RX2 147 "PolicyHouse$Bundle" "rule" "[I", Cond.methodLink RX2 309 yX2_readRule, Cond.instanceMethod yX2_readRule, Cond.selects RX2 yX2_readRule yX2_readRule, Cond.initialized RX2, Cond.code yX2_readRule cX2_readRule 4 none, Cond.fieldLink RX2 100 "PolicyHouse$Bundle" "mods" "[LPolicyHouse$Tree;", Cond.fieldLink RX2 141 "PolicyHouse$Bundle" "part" "[I", Cond.fieldLink RX2 13 "PolicyHouse$Checker" "t" "LPolicyHouse$Tree;", Cond.methodLink RX2 324 yX2_clearBits, Cond.instanceMethod yX2_clearBits, Cond.selects RX2 yX2_clearBits yX2_clearBits, Cond.code yX2_clearBits cX2_clearBits 2 none, Cond.methodLink RX2 150 yX1_of, Cond.instanceMethod yX1_of, Cond.selects RX1 yX1_of yX1_of]
def wsX2_findReads_r2 : List Cond := [Cond.initialized RX1, Cond.code yX1_of cX1_of 3 (some .int), Cond.fieldLink RX1 53 "PolicyHouse$Bundle" "rule" "[I", Cond.methodLink RX2 292 yX2_collectAll, Cond.instanceMethod yX2_collectAll, Cond.selects RX2 yX2_collectAll yX2_collectAll, Cond.code yX2_collectAll cX2_collectAll 4 none, Cond.fieldLink RX2 115 "PolicyHouse$Tree" "first" "[I", Cond.fieldLink RX2 125 "PolicyHouse$Tree" "next" "[I", Cond.methodLink RX2 296 yX2_collect, Cond.instanceMethod yX2_collect, Cond.selects RX2 yX2_collect yX2_collect, Cond.code yX2_collect cX2_collect 6 none, Cond.fieldLink RX2 193 "PolicyHouse$Tree" "kind" "[I", Cond.fieldLink RX2 154 "PolicyHouse$Tree" "b" "[I", Cond.fieldLink RX2 207 "PolicyHouse$Tree" "res" "[I", Cond.fieldLink RX2 134 "PolicyHouse$Tree" "ref" "[I", Cond.methodLink RX2 286 yX2_markReference, Cond.instanceMethod yX2_markReference, Cond.selects RX2 yX2_markReference yX2_markReference, Cond.code yX2_markReference cX2_markReference 7 none, Cond.fieldLink RX2 182 "PolicyHouse$Tree" "a" "[I", Cond.fieldLink RX2 59 "PolicyHouse$Checker" "names" "LPolicyHouse$Names;", Cond.fieldLink RX2 112 "PolicyHouse$Names" "parent" "[I"]
def wsX2_findReads_r3 : List Cond := [Cond.fieldLink RX2 55 "PolicyHouse$Checker" "heap" "LPolicyHouse$Heap;", Cond.methodLink RX2 137 yX1_ruleAt, Cond.instanceMethod yX1_ruleAt, Cond.selects RX1 yX1_ruleAt yX1_ruleAt, Cond.code yX1_ruleAt cX1_ruleAt 2 (some .int), Cond.fieldLink RX1 59 "PolicyHouse$Bundle" "nodeRule" "[I", Cond.methodLink RX2 289 yX2_mark, Cond.instanceMethod yX2_mark, Cond.selects RX2 yX2_mark yX2_mark, Cond.code yX2_mark cX2_mark 2 none, Cond.methodLink RX2 299 yX4_kind, Cond.instanceMethod yX4_kind, Cond.selects RX4 yX4_kind yX4_kind, Cond.initialized RX4, Cond.code yX4_kind cX4_kind 2 (some .int), Cond.fieldLink RX4 10 "PolicyHouse$Heap" "cell" "[I", Cond.methodLink RX2 179 yX6_find, Cond.instanceMethod yX6_find, Cond.selects RX6 yX6_find yX6_find, Cond.initialized RX6, Cond.code yX6_find cX6_find 4 (some .int), Cond.fieldLink RX6 19 "PolicyHouse$Names" "child" "[I", Cond.fieldLink RX6 16 "PolicyHouse$Names" "name" "[I", Cond.fieldLink RX6 22 "PolicyHouse$Names" "sibling" "[I"]
def wsX2_findReads_r4 : List Cond := [Cond.methodLink RX2 303 yX6_within, Cond.instanceMethod yX6_within, Cond.selects RX6 yX6_within yX6_within, Cond.code yX6_within cX6_within 5 (some .boolean), Cond.fieldLink RX6 13 "PolicyHouse$Names" "parent" "[I", Cond.methodLink RX2 312 yX2_isSet, Cond.static yX2_isSet, Cond.code yX2_isSet cX2_isSet 3 (some .boolean), Cond.methodLink RX2 316 yJ6_bitCount_0f7a4, Cond.static yJ6_bitCount_0f7a4, Cond.initialized RJ6, Cond.code yJ6_bitCount_0f7a4 cJ6_bitCount_0f7a4 1 (some .int), Cond.constant RJ6 265 (1431655765), Cond.constant RJ6 266 (858993459), Cond.constant RJ6 267 (252645135), Cond.methodLink RX2 321 yX1_failAtRule, Cond.instanceMethod yX1_failAtRule, Cond.selects RX1 yX1_failAtRule yX1_failAtRule, Cond.code yX1_failAtRule cX1_failAtRule 5 none, Cond.fieldLink RX1 56 "PolicyHouse$Bundle" "part" "[I", Cond.fieldLink RX1 45 "PolicyHouse$Bundle" "mods" "[LPolicyHouse$Tree;", Cond.fieldLink RX1 69 "PolicyHouse$Tree" "at" "[I", Cond.methodLink RX1 65 yX1_of, Cond.methodLink RX1 72 yX1_fail]
def wsX2_findReads_r5 : List Cond := [Cond.instanceMethod yX1_fail, Cond.selects RX1 yX1_fail yX1_fail, Cond.code yX1_fail cX1_fail 4 none, Cond.fieldLink RX1 34 "PolicyHouse$Bundle" "kind" "I", Cond.fieldLink RX1 37 "PolicyHouse$Bundle" "module" "I", Cond.fieldLink RX1 40 "PolicyHouse$Bundle" "place" "I"]
def wsX2_findReads : List Cond := .code yX2_findReads cX2_findReads 4 none :: ((wsX2_findReads_r1 ++ (wsX2_findReads_r2 ++ (wsX2_findReads_r3 ++ (wsX2_findReads_r4 ++ wsX2_findReads_r5)))) ++ wsX20 ++ wsX10 ++ wsX120 ++ wsX60 ++ wsX40)
def wsX2_findDepth_r1 : List Cond := [Cond.fieldLink RX2 7 "PolicyHouse$Checker" "b" "LPolicyHouse$Bundle;", Cond.fieldLink RX2 82 "PolicyHouse$Bundle" "kind" "I", Cond.fieldLink RX2 128 "PolicyHouse$Bundle" "rules" "I", Cond.arrayClass .int, Cond.fieldLink RX2 327 "PolicyHouse$Bundle" "rank" "[I", Cond.methodLink RX2 330 yX2_rowOf, Cond.instanceMethod yX2_rowOf, Cond.selects RX2 yX2_rowOf yX2_rowOf, Cond.initialized RX2, Cond.code yX2_rowOf cX2_rowOf 5 (some .int), Cond.fieldLink RX2 49 "PolicyHouse$Checker" "direct" "[I", Cond.methodLink RX2 337 Lib.Math.max.name, Cond.static Lib.Math.max.name, Cond.initialized "java/lang/Math", Cond.code Lib.Math.max.name Lib.Math.max.code 2 (some .int), Cond.methodLink RX2 312 yX2_isSet, Cond.static yX2_isSet, Cond.code yX2_isSet cX2_isSet 3 (some .boolean), Cond.methodLink RX2 334 yX2_findWiths, Cond.instanceMethod yX2_findWiths, Cond.selects RX2 yX2_findWiths yX2_findWiths, Cond.code yX2_findWiths cX2_findWiths 4 none, Cond.fieldLink RX2 100 "PolicyHouse$Bundle" "mods" "[LPolicyHouse$Tree;", Cond.fieldLink RX2 141 "PolicyHouse$Bundle" "part" "[I"]
def wsX2_findDepth_r2 : List Cond := [Cond.fieldLink RX2 13 "PolicyHouse$Checker" "t" "LPolicyHouse$Tree;", Cond.fieldLink RX2 147 "PolicyHouse$Bundle" "rule" "[I", Cond.methodLink RX2 150 yX1_of, Cond.instanceMethod yX1_of, Cond.selects RX1 yX1_of yX1_of, Cond.initialized RX1, Cond.code yX1_of cX1_of 3 (some .int), Cond.fieldLink RX1 53 "PolicyHouse$Bundle" "rule" "[I", Cond.methodLink RX2 342 yX2_withsIn, Cond.instanceMethod yX2_withsIn, Cond.selects RX2 yX2_withsIn yX2_withsIn, Cond.code yX2_withsIn cX2_withsIn 5 (some .int), Cond.fieldLink RX2 193 "PolicyHouse$Tree" "kind" "[I", Cond.fieldLink RX2 46 "PolicyHouse$Checker" "bits" "[I", Cond.fieldLink RX2 207 "PolicyHouse$Tree" "res" "[I", Cond.fieldLink RX2 134 "PolicyHouse$Tree" "ref" "[I", Cond.fieldLink RX2 115 "PolicyHouse$Tree" "first" "[I", Cond.fieldLink RX2 125 "PolicyHouse$Tree" "next" "[I", Cond.fieldLink RX2 154 "PolicyHouse$Tree" "b" "[I", Cond.methodLink RX2 324 yX2_clearBits, Cond.instanceMethod yX2_clearBits, Cond.selects RX2 yX2_clearBits yX2_clearBits, Cond.code yX2_clearBits cX2_clearBits 2 none, Cond.methodLink RX2 286 yX2_markReference]
def wsX2_findDepth_r3 : List Cond := [Cond.instanceMethod yX2_markReference, Cond.selects RX2 yX2_markReference yX2_markReference, Cond.code yX2_markReference cX2_markReference 7 none, Cond.fieldLink RX2 182 "PolicyHouse$Tree" "a" "[I", Cond.fieldLink RX2 59 "PolicyHouse$Checker" "names" "LPolicyHouse$Names;", Cond.fieldLink RX2 112 "PolicyHouse$Names" "parent" "[I", Cond.fieldLink RX2 55 "PolicyHouse$Checker" "heap" "LPolicyHouse$Heap;", Cond.methodLink RX2 137 yX1_ruleAt, Cond.instanceMethod yX1_ruleAt, Cond.selects RX1 yX1_ruleAt yX1_ruleAt, Cond.code yX1_ruleAt cX1_ruleAt 2 (some .int), Cond.fieldLink RX1 59 "PolicyHouse$Bundle" "nodeRule" "[I", Cond.methodLink RX2 289 yX2_mark, Cond.instanceMethod yX2_mark, Cond.selects RX2 yX2_mark yX2_mark, Cond.code yX2_mark cX2_mark 2 none, Cond.methodLink RX2 299 yX4_kind, Cond.instanceMethod yX4_kind, Cond.selects RX4 yX4_kind yX4_kind, Cond.initialized RX4, Cond.code yX4_kind cX4_kind 2 (some .int), Cond.fieldLink RX4 10 "PolicyHouse$Heap" "cell" "[I", Cond.methodLink RX2 179 yX6_find, Cond.instanceMethod yX6_find]
def wsX2_findDepth_r4 : List Cond := [Cond.selects RX6 yX6_find yX6_find, Cond.initialized RX6, Cond.code yX6_find cX6_find 4 (some .int), Cond.fieldLink RX6 19 "PolicyHouse$Names" "child" "[I", Cond.fieldLink RX6 16 "PolicyHouse$Names" "name" "[I", Cond.fieldLink RX6 22 "PolicyHouse$Names" "sibling" "[I", Cond.methodLink RX2 303 yX6_within, Cond.instanceMethod yX6_within, Cond.selects RX6 yX6_within yX6_within, Cond.code yX6_within cX6_within 5 (some .boolean), Cond.fieldLink RX6 13 "PolicyHouse$Names" "parent" "[I", Cond.methodLink RX2 321 yX1_failAtRule, Cond.instanceMethod yX1_failAtRule, Cond.selects RX1 yX1_failAtRule yX1_failAtRule, Cond.code yX1_failAtRule cX1_failAtRule 5 none, Cond.fieldLink RX1 56 "PolicyHouse$Bundle" "part" "[I", Cond.fieldLink RX1 45 "PolicyHouse$Bundle" "mods" "[LPolicyHouse$Tree;", Cond.fieldLink RX1 69 "PolicyHouse$Tree" "at" "[I", Cond.methodLink RX1 65 yX1_of, Cond.methodLink RX1 72 yX1_fail, Cond.instanceMethod yX1_fail, Cond.selects RX1 yX1_fail yX1_fail, Cond.code yX1_fail cX1_fail 4 none, Cond.fieldLink RX1 34 "PolicyHouse$Bundle" "kind" "I"]
def wsX2_findDepth_r5 : List Cond := [Cond.fieldLink RX1 37 "PolicyHouse$Bundle" "module" "I", Cond.fieldLink RX1 40 "PolicyHouse$Bundle" "place" "I"]
def wsX2_findDepth : List Cond := .code yX2_findDepth cX2_findDepth 5 none :: ((wsX2_findDepth_r1 ++ (wsX2_findDepth_r2 ++ (wsX2_findDepth_r3 ++ (wsX2_findDepth_r4 ++ wsX2_findDepth_r5)))) ++ wsX20 ++ wsX10 ++ wsX120 ++ wsX60 ++ wsX40)
def wsX2_bundle_r1 : List Cond := [Cond.classLink RX2 63 RX1, Cond.instantiable RX1 16, Cond.initialized RX1, Cond.fieldLink RX2 59 "PolicyHouse$Checker" "names" "LPolicyHouse$Names;", Cond.fieldLink RX2 65 "PolicyHouse$Names" "nodes" "I", Cond.fieldLink RX2 7 "PolicyHouse$Checker" "b" "LPolicyHouse$Bundle;", Cond.fieldLink RX2 79 "PolicyHouse$Bundle" "parts" "I", Cond.fieldLink RX2 82 "PolicyHouse$Bundle" "kind" "I", Cond.fieldLink RX2 40 "PolicyHouse$Checker" "badKind" "I", Cond.fieldLink RX2 17 "PolicyHouse$Checker" "module" "I", Cond.fieldLink RX2 43 "PolicyHouse$Checker" "badPlace" "I", Cond.methodLink RX2 70 yX1_init, Cond.instanceMethod yX1_init, Cond.code yX1_init cX1_init 6 none, Cond.methodLink RX1 3 objectInit, Cond.instanceMethod objectInit, Cond.code objectInit ⟨#[0xb1]⟩ 1 none, Cond.fieldLink RX1 9 "PolicyHouse$Bundle" "rules" "I", Cond.fieldLink RX1 15 "PolicyHouse$Bundle" "parts" "I", Cond.fieldLink RX1 18 "PolicyHouse$Bundle" "words" "I", Cond.fieldLink RX1 21 "PolicyHouse$Bundle" "reads" "[I", Cond.fieldLink RX1 25 "PolicyHouse$Bundle" "rank" "[I", Cond.fieldLink RX1 28 "PolicyHouse$Bundle" "branch" "[I", Cond.fieldLink RX1 31 "PolicyHouse$Bundle" "code" "[I"]
def wsX2_bundle_r2 : List Cond := [Cond.fieldLink RX1 34 "PolicyHouse$Bundle" "kind" "I", Cond.fieldLink RX1 37 "PolicyHouse$Bundle" "module" "I", Cond.fieldLink RX1 40 "PolicyHouse$Bundle" "place" "I", Cond.classLink RX1 43 RX12, Cond.fieldLink RX1 45 "PolicyHouse$Bundle" "mods" "[LPolicyHouse$Tree;", Cond.fieldLink RX1 49 "PolicyHouse$Tree" "rules" "I", Cond.fieldLink RX1 50 "PolicyHouse$Bundle" "count" "I", Cond.arrayClass .int, Cond.fieldLink RX1 53 "PolicyHouse$Bundle" "rule" "[I", Cond.fieldLink RX1 56 "PolicyHouse$Bundle" "part" "[I", Cond.fieldLink RX1 59 "PolicyHouse$Bundle" "nodeRule" "[I", Cond.fieldLink RX1 62 "PolicyHouse$Bundle" "inner" "[I", Cond.methodLink RX2 73 yX2_gather, Cond.instanceMethod yX2_gather, Cond.selects RX2 yX2_gather yX2_gather, Cond.initialized RX2, Cond.code yX2_gather cX2_gather 4 none, Cond.fieldLink RX2 99 "PolicyHouse$Bundle" "count" "I", Cond.fieldLink RX2 100 "PolicyHouse$Bundle" "mods" "[LPolicyHouse$Tree;", Cond.fieldLink RX2 104 "PolicyHouse$Tree" "pack" "I", Cond.fieldLink RX2 109 "PolicyHouse$Bundle" "inner" "[I", Cond.fieldLink RX2 112 "PolicyHouse$Names" "parent" "[I", Cond.fieldLink RX2 115 "PolicyHouse$Tree" "first" "[I", Cond.fieldLink RX2 118 "PolicyHouse$Tree" "root" "I"]
def wsX2_bundle_r3 : List Cond := [Cond.fieldLink RX2 125 "PolicyHouse$Tree" "next" "[I", Cond.fieldLink RX2 128 "PolicyHouse$Bundle" "rules" "I", Cond.fieldLink RX2 131 "PolicyHouse$Bundle" "words" "I", Cond.methodLink RX2 121 yX2_addPart, Cond.instanceMethod yX2_addPart, Cond.selects RX2 yX2_addPart yX2_addPart, Cond.code yX2_addPart cX2_addPart 7 none, Cond.fieldLink RX2 134 "PolicyHouse$Tree" "ref" "[I", Cond.fieldLink RX2 141 "PolicyHouse$Bundle" "part" "[I", Cond.fieldLink RX2 144 "PolicyHouse$Bundle" "nodeRule" "[I", Cond.fieldLink RX2 147 "PolicyHouse$Bundle" "rule" "[I", Cond.fieldLink RX2 154 "PolicyHouse$Tree" "b" "[I", Cond.methodLink RX2 137 yX1_ruleAt, Cond.instanceMethod yX1_ruleAt, Cond.selects RX1 yX1_ruleAt yX1_ruleAt, Cond.code yX1_ruleAt cX1_ruleAt 2 (some .int), Cond.methodLink RX2 150 yX1_of, Cond.instanceMethod yX1_of, Cond.selects RX1 yX1_of yX1_of, Cond.code yX1_of cX1_of 3 (some .int), Cond.methodLink RX2 76 yX2_findClash, Cond.instanceMethod yX2_findClash, Cond.selects RX2 yX2_findClash yX2_findClash, Cond.code yX2_findClash cX2_findClash 5 none]
def wsX2_bundle_r4 : List Cond := [Cond.fieldLink RX2 156 "PolicyHouse$Tree" "imports" "I", Cond.fieldLink RX2 163 "PolicyHouse$Tree" "at" "[I", Cond.methodLink RX2 159 yX2_isClash, Cond.instanceMethod yX2_isClash, Cond.selects RX2 yX2_isClash yX2_isClash, Cond.code yX2_isClash cX2_isClash 5 (some .boolean), Cond.fieldLink RX2 170 "PolicyHouse$Tree" "c" "[I", Cond.fieldLink RX2 173 "PolicyHouse$Names" "input" "I", Cond.fieldLink RX2 176 "PolicyHouse$Names" "data" "I", Cond.methodLink RX2 179 yX6_find, Cond.instanceMethod yX6_find, Cond.selects RX6 yX6_find yX6_find, Cond.initialized RX6, Cond.code yX6_find cX6_find 4 (some .int), Cond.fieldLink RX6 19 "PolicyHouse$Names" "child" "[I", Cond.fieldLink RX6 16 "PolicyHouse$Names" "name" "[I", Cond.fieldLink RX6 22 "PolicyHouse$Names" "sibling" "[I", Cond.methodLink RX2 89 yX1_fail, Cond.instanceMethod yX1_fail, Cond.selects RX1 yX1_fail yX1_fail, Cond.code yX1_fail cX1_fail 4 none, Cond.methodLink RX2 166 yX2_isPartClash, Cond.instanceMethod yX2_isPartClash, Cond.selects RX2 yX2_isPartClash yX2_isPartClash]
def wsX2_bundle_r5 : List Cond := [Cond.code yX2_isPartClash cX2_isPartClash 8 (some .boolean), Cond.fieldLink RX2 182 "PolicyHouse$Tree" "a" "[I", Cond.methodLink RX2 185 yX1_isInner, Cond.instanceMethod yX1_isInner, Cond.selects RX1 yX1_isInner yX1_isInner, Cond.code yX1_isInner cX1_isInner 2 (some .boolean), Cond.methodLink RX2 85 yX2_scanPart, Cond.instanceMethod yX2_scanPart, Cond.selects RX2 yX2_scanPart yX2_scanPart, Cond.code yX2_scanPart cX2_scanPart 5 none, Cond.fieldLink RX2 13 "PolicyHouse$Checker" "t" "LPolicyHouse$Tree;", Cond.fieldLink RX2 193 "PolicyHouse$Tree" "kind" "[I", Cond.fieldLink RX2 207 "PolicyHouse$Tree" "res" "[I", Cond.methodLink RX2 189 yX2_begin, Cond.instanceMethod yX2_begin, Cond.selects RX2 yX2_begin yX2_begin, Cond.code yX2_begin cX2_begin 3 none, Cond.fieldLink RX2 31 "PolicyHouse$Checker" "count" "I", Cond.fieldLink RX2 37 "PolicyHouse$Checker" "scopes" "I", Cond.fieldLink RX2 34 "PolicyHouse$Checker" "around" "[I", Cond.methodLink RX2 195 yX2_newScope, Cond.instanceMethod yX2_newScope, Cond.selects RX2 yX2_newScope yX2_newScope, Cond.code yX2_newScope cX2_newScope 4 (some .int)]
def wsX2_bundle_r6 : List Cond := [Cond.methodLink RX2 198 yX2_declareAll, Cond.instanceMethod yX2_declareAll, Cond.selects RX2 yX2_declareAll yX2_declareAll, Cond.code yX2_declareAll cX2_declareAll 4 none, Cond.methodLink RX2 219 yX2_declare, Cond.instanceMethod yX2_declare, Cond.selects RX2 yX2_declare yX2_declare, Cond.code yX2_declare cX2_declare 6 none, Cond.methodLink RX2 222 yX2_addVariable, Cond.instanceMethod yX2_addVariable, Cond.selects RX2 yX2_addVariable yX2_addVariable, Cond.code yX2_addVariable cX2_addVariable 3 none, Cond.fieldLink RX2 21 "PolicyHouse$Checker" "declared" "[I", Cond.fieldLink RX2 25 "PolicyHouse$Checker" "scopeOf" "[I", Cond.fieldLink RX2 28 "PolicyHouse$Checker" "placeOf" "[I", Cond.methodLink RX2 225 yX2_declareEvery, Cond.instanceMethod yX2_declareEvery, Cond.selects RX2 yX2_declareEvery yX2_declareEvery, Cond.methodLink RX2 228 yX12_isComprehension, Cond.instanceMethod yX12_isComprehension, Cond.selects RX12 yX12_isComprehension yX12_isComprehension, Cond.initialized RX12, Cond.code yX12_isComprehension cX12_isComprehension 2 (some .boolean), Cond.fieldLink RX12 25 "PolicyHouse$Tree" "kind" "[I"]
def wsX2_bundle_r7 : List Cond := [Cond.methodLink RX2 201 yX2_declarePattern, Cond.instanceMethod yX2_declarePattern, Cond.selects RX2 yX2_declarePattern yX2_declarePattern, Cond.code yX2_declareEvery cX2_declareEvery 5 none, Cond.code yX2_declarePattern cX2_declarePattern 3 none, Cond.instanceMethod yX12_isPattern, Cond.selects RX12 yX12_isPattern yX12_isPattern, Cond.code yX12_isPattern cX12_isPattern 3 (some .boolean), Cond.fieldLink RX12 41 "PolicyHouse$Tree" "first" "[I", Cond.fieldLink RX12 44 "PolicyHouse$Tree" "next" "[I", Cond.methodLink RX12 60 yX12_isPattern, Cond.methodLink RX12 56 yX12_isConstant, Cond.instanceMethod yX12_isConstant, Cond.selects RX12 yX12_isConstant yX12_isConstant, Cond.code yX12_isConstant cX12_isConstant 3 (some .boolean), Cond.methodLink RX2 234 yX2_addPattern, Cond.instanceMethod yX2_addPattern, Cond.selects RX2 yX2_addPattern yX2_addPattern, Cond.code yX2_addPattern cX2_addPattern 4 none, Cond.fieldLink RX2 240 "PolicyHouse$Names" "blank" "I", Cond.methodLink RX2 237 yX2_report, Cond.instanceMethod yX2_report, Cond.selects RX2 yX2_report yX2_report, Cond.code yX2_report cX2_report 4 none]
def wsX2_bundle_r8 : List Cond := [Cond.methodLink RX2 204 yX2_checkDeclared, Cond.instanceMethod yX2_checkDeclared, Cond.selects RX2 yX2_checkDeclared yX2_checkDeclared, Cond.code yX2_checkDeclared cX2_checkDeclared 5 none, Cond.methodLink RX2 243 yX2_aliasOf, Cond.instanceMethod yX2_aliasOf, Cond.selects RX2 yX2_aliasOf yX2_aliasOf, Cond.code yX2_aliasOf cX2_aliasOf 3 (some .int), Cond.methodLink RX2 246 yX2_ruleOf, Cond.instanceMethod yX2_ruleOf, Cond.selects RX2 yX2_ruleOf yX2_ruleOf, Cond.code yX2_ruleOf cX2_ruleOf 2 (some .int), Cond.methodLink RX2 249 yX2_isAround, Cond.instanceMethod yX2_isAround, Cond.selects RX2 yX2_isAround yX2_isAround, Cond.code yX2_isAround cX2_isAround 5 (some .boolean), Cond.methodLink RX2 210 yX2_resolveAll, Cond.instanceMethod yX2_resolveAll, Cond.selects RX2 yX2_resolveAll yX2_resolveAll, Cond.code yX2_resolveAll cX2_resolveAll 4 none, Cond.methodLink RX2 253 yX2_resolve, Cond.instanceMethod yX2_resolve, Cond.selects RX2 yX2_resolve yX2_resolve, Cond.code yX2_resolve cX2_resolve 6 none]
def wsX2_bundle_r9 : List Cond := [Cond.methodLink RX2 256 yX2_resolveName, Cond.instanceMethod yX2_resolveName, Cond.selects RX2 yX2_resolveName yX2_resolveName, Cond.code yX2_resolveName cX2_resolveName 7 none, Cond.methodLink RX2 274 yX2_variable, Cond.instanceMethod yX2_variable, Cond.selects RX2 yX2_variable yX2_variable, Cond.code yX2_variable cX2_variable 4 (some .int), Cond.methodLink RX2 259 yX2_resolveStep, Cond.instanceMethod yX2_resolveStep, Cond.selects RX2 yX2_resolveStep yX2_resolveStep, Cond.methodLink RX2 262 yX2_resolveSide, Cond.instanceMethod yX2_resolveSide, Cond.selects RX2 yX2_resolveSide yX2_resolveSide, Cond.methodLink RX2 213 yX2_resolvePattern, Cond.instanceMethod yX2_resolvePattern, Cond.selects RX2 yX2_resolvePattern yX2_resolvePattern, Cond.methodLink RX2 265 yX2_resolveCall, Cond.instanceMethod yX2_resolveCall, Cond.selects RX2 yX2_resolveCall yX2_resolveCall, Cond.code yX2_resolveCall cX2_resolveCall 7 none, Cond.fieldLink RX2 280 "PolicyHouse$Names" "builtin" "[I", Cond.fieldLink RX2 283 "PolicyHouse$Names" "arity" "[I", Cond.methodLink RX2 277 yX2_functionOf]
def wsX2_bundle_r10 : List Cond := [Cond.instanceMethod yX2_functionOf, Cond.selects RX2 yX2_functionOf yX2_functionOf, Cond.code yX2_functionOf cX2_functionOf 6 (some .int), Cond.methodLink RX2 268 yX2_isBadTarget, Cond.instanceMethod yX2_isBadTarget, Cond.selects RX2 yX2_isBadTarget yX2_isBadTarget, Cond.code yX2_isBadTarget cX2_isBadTarget 3 (some .boolean), Cond.code yX2_resolvePattern cX2_resolvePattern 3 none, Cond.code yX2_resolveSide cX2_resolveSide 4 none, Cond.methodLink RX2 271 yX12_isName, Cond.instanceMethod yX12_isName, Cond.selects RX12 yX12_isName yX12_isName, Cond.code yX12_isName cX12_isName 3 (some .boolean), Cond.fieldLink RX12 32 "PolicyHouse$Tree" "a" "[I", Cond.code yX2_resolveStep cX2_resolveStep 3 none, Cond.methodLink RX2 93 yX2_findReads, Cond.instanceMethod yX2_findReads, Cond.selects RX2 yX2_findReads yX2_findReads, Cond.code yX2_findReads cX2_findReads 4 none, Cond.fieldLink RX2 306 "PolicyHouse$Bundle" "reads" "[I", Cond.fieldLink RX2 46 "PolicyHouse$Checker" "bits" "[I", Cond.fieldLink RX2 49 "PolicyHouse$Checker" "direct" "[I", Cond.fieldLink RX2 52 "PolicyHouse$Checker" "all" "[I", Cond.methodLink RX2 309 yX2_readRule]
def wsX2_bundle_r11 : List Cond := [Cond.instanceMethod yX2_readRule, Cond.selects RX2 yX2_readRule yX2_readRule, Cond.code yX2_readRule cX2_readRule 4 none, Cond.methodLink RX2 324 yX2_clearBits, Cond.instanceMethod yX2_clearBits, Cond.selects RX2 yX2_clearBits yX2_clearBits, Cond.code yX2_clearBits cX2_clearBits 2 none, Cond.methodLink RX2 292 yX2_collectAll, Cond.instanceMethod yX2_collectAll, Cond.selects RX2 yX2_collectAll yX2_collectAll, Cond.code yX2_collectAll cX2_collectAll 4 none, Cond.methodLink RX2 296 yX2_collect, Cond.instanceMethod yX2_collect, Cond.selects RX2 yX2_collect yX2_collect, Cond.code yX2_collect cX2_collect 6 none, Cond.methodLink RX2 286 yX2_markReference, Cond.instanceMethod yX2_markReference, Cond.selects RX2 yX2_markReference yX2_markReference, Cond.code yX2_markReference cX2_markReference 7 none, Cond.fieldLink RX2 55 "PolicyHouse$Checker" "heap" "LPolicyHouse$Heap;", Cond.methodLink RX2 289 yX2_mark, Cond.instanceMethod yX2_mark, Cond.selects RX2 yX2_mark yX2_mark, Cond.code yX2_mark cX2_mark 2 none]
def wsX2_bundle_r12 : List Cond := [Cond.methodLink RX2 299 yX4_kind, Cond.instanceMethod yX4_kind, Cond.selects RX4 yX4_kind yX4_kind, Cond.initialized RX4, Cond.code yX4_kind cX4_kind 2 (some .int), Cond.fieldLink RX4 10 "PolicyHouse$Heap" "cell" "[I", Cond.methodLink RX2 303 yX6_within, Cond.instanceMethod yX6_within, Cond.selects RX6 yX6_within yX6_within, Cond.code yX6_within cX6_within 5 (some .boolean), Cond.fieldLink RX6 13 "PolicyHouse$Names" "parent" "[I", Cond.methodLink RX2 312 yX2_isSet, Cond.static yX2_isSet, Cond.code yX2_isSet cX2_isSet 3 (some .boolean), Cond.methodLink RX2 316 yJ6_bitCount_0f7a4, Cond.static yJ6_bitCount_0f7a4, Cond.initialized RJ6, Cond.code yJ6_bitCount_0f7a4 cJ6_bitCount_0f7a4 1 (some .int), Cond.constant RJ6 265 (1431655765), Cond.constant RJ6 266 (858993459), Cond.constant RJ6 267 (252645135), Cond.methodLink RX2 321 yX1_failAtRule, Cond.instanceMethod yX1_failAtRule, Cond.selects RX1 yX1_failAtRule yX1_failAtRule]
def wsX2_bundle_r13 : List Cond := [Cond.code yX1_failAtRule cX1_failAtRule 5 none, Cond.fieldLink RX1 69 "PolicyHouse$Tree" "at" "[I", Cond.methodLink RX1 65 yX1_of, Cond.methodLink RX1 72 yX1_fail, Cond.methodLink RX2 96 yX2_findDepth, Cond.instanceMethod yX2_findDepth, Cond.selects RX2 yX2_findDepth yX2_findDepth, Cond.code yX2_findDepth cX2_findDepth 5 none, Cond.fieldLink RX2 327 "PolicyHouse$Bundle" "rank" "[I", Cond.methodLink RX2 330 yX2_rowOf, Cond.instanceMethod yX2_rowOf, Cond.selects RX2 yX2_rowOf yX2_rowOf, Cond.code yX2_rowOf cX2_rowOf 5 (some .int), Cond.methodLink RX2 337 Lib.Math.max.name, Cond.static Lib.Math.max.name, Cond.initialized "java/lang/Math", Cond.code Lib.Math.max.name Lib.Math.max.code 2 (some .int), Cond.methodLink RX2 334 yX2_findWiths, Cond.instanceMethod yX2_findWiths, Cond.selects RX2 yX2_findWiths yX2_findWiths, Cond.code yX2_findWiths cX2_findWiths 4 none, Cond.methodLink RX2 342 yX2_withsIn, Cond.instanceMethod yX2_withsIn, Cond.selects RX2 yX2_withsIn yX2_withsIn]
def wsX2_bundle_r14 : List Cond := [Cond.code yX2_withsIn cX2_withsIn 5 (some .int)]
def wsX2_bundle : List Cond := .code yX2_bundle cX2_bundle 4 (some (.object "PolicyHouse$Bundle")) :: ((wsX2_bundle_r1 ++ (wsX2_bundle_r2 ++ (wsX2_bundle_r3 ++ (wsX2_bundle_r4 ++ (wsX2_bundle_r5 ++ (wsX2_bundle_r6 ++ (wsX2_bundle_r7 ++ (wsX2_bundle_r8 ++ (wsX2_bundle_r9 ++ (wsX2_bundle_r10 ++ (wsX2_bundle_r11 ++ (wsX2_bundle_r12 ++ (wsX2_bundle_r13 ++ wsX2_bundle_r14))))))))))))) ++ wsX10 ++ wsX20 ++ wsX60 ++ wsX120 ++ wsX40)
def wsX3_init : List Cond := .code yX3_init cX3_init 4 none :: ([.methodLink RX3 1 objectInit, .instanceMethod objectInit, .code objectInit ⟨#[0xb1]⟩ 1 none, .fieldLink RX3 7 "PolicyHouse$Coder" "b" "LPolicyHouse$Bundle;", .fieldLink RX3 13 "PolicyHouse$Coder" "t" "LPolicyHouse$Tree;", .constant RX3 17 (80000), .arrayClass .int, .fieldLink RX3 18 "PolicyHouse$Coder" "code" "[I", .fieldLink RX3 22 "PolicyHouse$Coder" "size" "I", .fieldLink RX3 26 "PolicyHouse$Coder" "registers" "I", .fieldLink RX3 29 "PolicyHouse$Coder" "owner" "I", .fieldLink RX3 32 "PolicyHouse$Coder" "known" "I", .fieldLink RX3 35 "PolicyHouse$Coder" "scope" "I", .fieldLink RX3 38 "PolicyHouse$Coder" "badKind" "I", .fieldLink RX3 41 "PolicyHouse$Coder" "badPlace" "I", .fieldLink RX3 44 "PolicyHouse$Coder" "ops" "[I", .fieldLink RX3 47 "PolicyHouse$Coder" "used" "I", .fieldLink RX3 50 "PolicyHouse$Coder" "heap" "LPolicyHouse$Heap;", .fieldLink RX3 54 "PolicyHouse$Coder" "names" "LPolicyHouse$Names;", .fieldLink RX3 58 "PolicyHouse$Coder" "checker" "LPolicyHouse$Checker;"] ++ wsX30)
def wsX3_finish_r1 : List Cond := [Cond.fieldLink RX3 7 "PolicyHouse$Coder" "b" "LPolicyHouse$Bundle;", Cond.fieldLink RX3 62 "PolicyHouse$Bundle" "rules" "I", Cond.fieldLink RX3 67 "PolicyHouse$Bundle" "kind" "I", Cond.fieldLink RX3 38 "PolicyHouse$Coder" "badKind" "I", Cond.fieldLink RX3 58 "PolicyHouse$Coder" "checker" "LPolicyHouse$Checker;", Cond.fieldLink RX3 80 "PolicyHouse$Checker" "t" "LPolicyHouse$Tree;", Cond.fieldLink RX3 13 "PolicyHouse$Coder" "t" "LPolicyHouse$Tree;", Cond.fieldLink RX3 81 "PolicyHouse$Bundle" "part" "[I", Cond.fieldLink RX3 90 "PolicyHouse$Checker" "module" "I", Cond.fieldLink RX3 41 "PolicyHouse$Coder" "badPlace" "I", Cond.methodLink RX3 70 yX1_of, Cond.instanceMethod yX1_of, Cond.selects RX1 yX1_of yX1_of, Cond.initialized RX1, Cond.code yX1_of cX1_of 3 (some .int), Cond.fieldLink RX1 53 "PolicyHouse$Bundle" "rule" "[I", Cond.methodLink RX3 74 yX2_scanPart, Cond.instanceMethod yX2_scanPart, Cond.selects RX2 yX2_scanPart yX2_scanPart, Cond.initialized RX2, Cond.code yX2_scanPart cX2_scanPart 5 none, Cond.fieldLink RX2 7 "PolicyHouse$Checker" "b" "LPolicyHouse$Bundle;", Cond.fieldLink RX2 141 "PolicyHouse$Bundle" "part" "[I", Cond.fieldLink RX2 100 "PolicyHouse$Bundle" "mods" "[LPolicyHouse$Tree;"]
def wsX3_finish_r2 : List Cond := [Cond.fieldLink RX2 13 "PolicyHouse$Checker" "t" "LPolicyHouse$Tree;", Cond.fieldLink RX2 115 "PolicyHouse$Tree" "first" "[I", Cond.fieldLink RX2 193 "PolicyHouse$Tree" "kind" "[I", Cond.fieldLink RX2 125 "PolicyHouse$Tree" "next" "[I", Cond.fieldLink RX2 207 "PolicyHouse$Tree" "res" "[I", Cond.methodLink RX2 189 yX2_begin, Cond.instanceMethod yX2_begin, Cond.selects RX2 yX2_begin yX2_begin, Cond.code yX2_begin cX2_begin 3 none, Cond.fieldLink RX2 17 "PolicyHouse$Checker" "module" "I", Cond.fieldLink RX2 31 "PolicyHouse$Checker" "count" "I", Cond.fieldLink RX2 37 "PolicyHouse$Checker" "scopes" "I", Cond.fieldLink RX2 34 "PolicyHouse$Checker" "around" "[I", Cond.fieldLink RX2 40 "PolicyHouse$Checker" "badKind" "I", Cond.fieldLink RX2 43 "PolicyHouse$Checker" "badPlace" "I", Cond.methodLink RX2 195 yX2_newScope, Cond.instanceMethod yX2_newScope, Cond.selects RX2 yX2_newScope yX2_newScope, Cond.code yX2_newScope cX2_newScope 4 (some .int), Cond.methodLink RX2 198 yX2_declareAll, Cond.instanceMethod yX2_declareAll, Cond.selects RX2 yX2_declareAll yX2_declareAll, Cond.code yX2_declareAll cX2_declareAll 4 none, Cond.methodLink RX2 219 yX2_declare]
def wsX3_finish_r3 : List Cond := [Cond.instanceMethod yX2_declare, Cond.selects RX2 yX2_declare yX2_declare, Cond.code yX2_declare cX2_declare 6 none, Cond.fieldLink RX2 182 "PolicyHouse$Tree" "a" "[I", Cond.fieldLink RX2 154 "PolicyHouse$Tree" "b" "[I", Cond.methodLink RX2 222 yX2_addVariable, Cond.instanceMethod yX2_addVariable, Cond.selects RX2 yX2_addVariable yX2_addVariable, Cond.code yX2_addVariable cX2_addVariable 3 none, Cond.fieldLink RX2 134 "PolicyHouse$Tree" "ref" "[I", Cond.fieldLink RX2 21 "PolicyHouse$Checker" "declared" "[I", Cond.fieldLink RX2 25 "PolicyHouse$Checker" "scopeOf" "[I", Cond.fieldLink RX2 28 "PolicyHouse$Checker" "placeOf" "[I", Cond.fieldLink RX2 163 "PolicyHouse$Tree" "at" "[I", Cond.methodLink RX2 225 yX2_declareEvery, Cond.instanceMethod yX2_declareEvery, Cond.selects RX2 yX2_declareEvery yX2_declareEvery, Cond.methodLink RX2 228 yX12_isComprehension, Cond.instanceMethod yX12_isComprehension, Cond.selects RX12 yX12_isComprehension yX12_isComprehension, Cond.initialized RX12, Cond.code yX12_isComprehension cX12_isComprehension 2 (some .boolean), Cond.fieldLink RX12 25 "PolicyHouse$Tree" "kind" "[I", Cond.methodLink RX2 201 yX2_declarePattern]
def wsX3_finish_r4 : List Cond := [Cond.instanceMethod yX2_declarePattern, Cond.selects RX2 yX2_declarePattern yX2_declarePattern, Cond.code yX2_declareEvery cX2_declareEvery 5 none, Cond.code yX2_declarePattern cX2_declarePattern 3 none, Cond.instanceMethod yX12_isPattern, Cond.selects RX12 yX12_isPattern yX12_isPattern, Cond.code yX12_isPattern cX12_isPattern 3 (some .boolean), Cond.fieldLink RX12 41 "PolicyHouse$Tree" "first" "[I", Cond.fieldLink RX12 44 "PolicyHouse$Tree" "next" "[I", Cond.methodLink RX12 60 yX12_isPattern, Cond.methodLink RX12 56 yX12_isConstant, Cond.instanceMethod yX12_isConstant, Cond.selects RX12 yX12_isConstant yX12_isConstant, Cond.code yX12_isConstant cX12_isConstant 3 (some .boolean), Cond.methodLink RX2 234 yX2_addPattern, Cond.instanceMethod yX2_addPattern, Cond.selects RX2 yX2_addPattern yX2_addPattern, Cond.code yX2_addPattern cX2_addPattern 4 none, Cond.fieldLink RX2 59 "PolicyHouse$Checker" "names" "LPolicyHouse$Names;", Cond.fieldLink RX2 240 "PolicyHouse$Names" "blank" "I", Cond.methodLink RX2 237 yX2_report, Cond.instanceMethod yX2_report, Cond.selects RX2 yX2_report yX2_report, Cond.code yX2_report cX2_report 4 none]
def wsX3_finish_r5 : List Cond := [Cond.methodLink RX2 204 yX2_checkDeclared, Cond.instanceMethod yX2_checkDeclared, Cond.selects RX2 yX2_checkDeclared yX2_checkDeclared, Cond.code yX2_checkDeclared cX2_checkDeclared 5 none, Cond.fieldLink RX2 173 "PolicyHouse$Names" "input" "I", Cond.fieldLink RX2 176 "PolicyHouse$Names" "data" "I", Cond.methodLink RX2 243 yX2_aliasOf, Cond.instanceMethod yX2_aliasOf, Cond.selects RX2 yX2_aliasOf yX2_aliasOf, Cond.code yX2_aliasOf cX2_aliasOf 3 (some .int), Cond.fieldLink RX2 156 "PolicyHouse$Tree" "imports" "I", Cond.fieldLink RX2 170 "PolicyHouse$Tree" "c" "[I", Cond.methodLink RX2 246 yX2_ruleOf, Cond.instanceMethod yX2_ruleOf, Cond.selects RX2 yX2_ruleOf yX2_ruleOf, Cond.code yX2_ruleOf cX2_ruleOf 2 (some .int), Cond.fieldLink RX2 104 "PolicyHouse$Tree" "pack" "I", Cond.methodLink RX2 179 yX6_find, Cond.instanceMethod yX6_find, Cond.selects RX6 yX6_find yX6_find, Cond.initialized RX6, Cond.code yX6_find cX6_find 4 (some .int), Cond.fieldLink RX6 19 "PolicyHouse$Names" "child" "[I", Cond.fieldLink RX6 16 "PolicyHouse$Names" "name" "[I"]
def wsX3_finish_r6 : List Cond := [Cond.fieldLink RX6 22 "PolicyHouse$Names" "sibling" "[I", Cond.methodLink RX2 137 yX1_ruleAt, Cond.instanceMethod yX1_ruleAt, Cond.selects RX1 yX1_ruleAt yX1_ruleAt, Cond.code yX1_ruleAt cX1_ruleAt 2 (some .int), Cond.fieldLink RX1 59 "PolicyHouse$Bundle" "nodeRule" "[I", Cond.methodLink RX2 249 yX2_isAround, Cond.instanceMethod yX2_isAround, Cond.selects RX2 yX2_isAround yX2_isAround, Cond.code yX2_isAround cX2_isAround 5 (some .boolean), Cond.methodLink RX2 210 yX2_resolveAll, Cond.instanceMethod yX2_resolveAll, Cond.selects RX2 yX2_resolveAll yX2_resolveAll, Cond.code yX2_resolveAll cX2_resolveAll 4 none, Cond.methodLink RX2 253 yX2_resolve, Cond.instanceMethod yX2_resolve, Cond.selects RX2 yX2_resolve yX2_resolve, Cond.code yX2_resolve cX2_resolve 6 none, Cond.methodLink RX2 256 yX2_resolveName, Cond.instanceMethod yX2_resolveName, Cond.selects RX2 yX2_resolveName yX2_resolveName, Cond.code yX2_resolveName cX2_resolveName 7 none, Cond.methodLink RX2 274 yX2_variable, Cond.instanceMethod yX2_variable]
def wsX3_finish_r7 : List Cond := [Cond.selects RX2 yX2_variable yX2_variable, Cond.code yX2_variable cX2_variable 4 (some .int), Cond.methodLink RX2 259 yX2_resolveStep, Cond.instanceMethod yX2_resolveStep, Cond.selects RX2 yX2_resolveStep yX2_resolveStep, Cond.methodLink RX2 262 yX2_resolveSide, Cond.instanceMethod yX2_resolveSide, Cond.selects RX2 yX2_resolveSide yX2_resolveSide, Cond.methodLink RX2 213 yX2_resolvePattern, Cond.instanceMethod yX2_resolvePattern, Cond.selects RX2 yX2_resolvePattern yX2_resolvePattern, Cond.methodLink RX2 265 yX2_resolveCall, Cond.instanceMethod yX2_resolveCall, Cond.selects RX2 yX2_resolveCall yX2_resolveCall, Cond.code yX2_resolveCall cX2_resolveCall 7 none, Cond.fieldLink RX2 280 "PolicyHouse$Names" "builtin" "[I", Cond.fieldLink RX2 283 "PolicyHouse$Names" "arity" "[I", Cond.methodLink RX2 277 yX2_functionOf, Cond.instanceMethod yX2_functionOf, Cond.selects RX2 yX2_functionOf yX2_functionOf, Cond.code yX2_functionOf cX2_functionOf 6 (some .int), Cond.methodLink RX2 150 yX1_of, Cond.methodLink RX2 268 yX2_isBadTarget, Cond.instanceMethod yX2_isBadTarget]
def wsX3_finish_r8 : List Cond := [Cond.selects RX2 yX2_isBadTarget yX2_isBadTarget, Cond.code yX2_isBadTarget cX2_isBadTarget 3 (some .boolean), Cond.fieldLink RX2 112 "PolicyHouse$Names" "parent" "[I", Cond.methodLink RX2 185 yX1_isInner, Cond.instanceMethod yX1_isInner, Cond.selects RX1 yX1_isInner yX1_isInner, Cond.code yX1_isInner cX1_isInner 2 (some .boolean), Cond.fieldLink RX1 62 "PolicyHouse$Bundle" "inner" "[I", Cond.code yX2_resolvePattern cX2_resolvePattern 3 none, Cond.code yX2_resolveSide cX2_resolveSide 4 none, Cond.methodLink RX2 271 yX12_isName, Cond.instanceMethod yX12_isName, Cond.selects RX12 yX12_isName yX12_isName, Cond.code yX12_isName cX12_isName 3 (some .boolean), Cond.fieldLink RX12 32 "PolicyHouse$Tree" "a" "[I", Cond.code yX2_resolveStep cX2_resolveStep 3 none, Cond.methodLink RX3 84 yX3_checkKinds, Cond.instanceMethod yX3_checkKinds, Cond.selects RX3 yX3_checkKinds yX3_checkKinds, Cond.initialized RX3, Cond.code yX3_checkKinds cX3_checkKinds 5 none, Cond.fieldLink RX3 102 "PolicyHouse$Tree" "kind" "[I", Cond.fieldLink RX3 104 "PolicyHouse$Tree" "res" "[I", Cond.fieldLink RX3 139 "PolicyHouse$Tree" "ref" "[I"]
def wsX3_finish_r9 : List Cond := [Cond.fieldLink RX3 54 "PolicyHouse$Coder" "names" "LPolicyHouse$Names;", Cond.fieldLink RX3 198 "PolicyHouse$Names" "kinds" "[I", Cond.fieldLink RX3 97 "PolicyHouse$Tree" "first" "[I", Cond.fieldLink RX3 152 "PolicyHouse$Tree" "at" "[I", Cond.fieldLink RX3 111 "PolicyHouse$Tree" "next" "[I", Cond.fieldLink RX3 162 "PolicyHouse$Tree" "b" "[I", Cond.methodLink RX3 208 yJ0_charAt_5068e, Cond.instanceMethod yJ0_charAt_5068e, Cond.selects RJ0 yJ0_charAt_5068e yJ0_charAt_5068e, Cond.initialized RJ0, Cond.code yJ0_charAt_5068e cJ0_charAt_5068e 2 (some .char), Cond.fieldLink RJ0 9 "java/lang/String" "value" "[B", Cond.methodLink RJ0 492 yJ0_isLatin1_aae02, Cond.instanceMethod yJ0_isLatin1_aae02, Cond.selects RJ0 yJ0_isLatin1_aae02 yJ0_isLatin1_aae02, Cond.code yJ0_isLatin1_aae02 cJ0_isLatin1_aae02 1 (some .boolean), Cond.fieldLink RJ0 38 "java/lang/String" "COMPACT_STRINGS" "Z", Cond.fieldLink RJ0 15 "java/lang/String" "coder" "B", Cond.methodLink RJ0 495 yJ1_charAt_3b067, Cond.static yJ1_charAt_3b067, Cond.initialized RJ1, Cond.code yJ1_charAt_3b067 cJ1_charAt_3b067 2 (some .char), Cond.methodLink RJ1 9 yJ0_checkIndex_df160, Cond.static yJ0_checkIndex_df160]
def wsX3_finish_r10 : List Cond := [Cond.code yJ0_checkIndex_df160 cJ0_checkIndex_df160 2 none, Cond.fieldLink RJ0 1053 "jdk/internal/util/Preconditions" "SIOOBE_FORMATTER" "Ljava/util/function/BiFunction;", Cond.methodLink RJ0 1059 yJ3_checkIndex_8e157, Cond.static yJ3_checkIndex_8e157, Cond.initialized RJ3, Cond.code yJ3_checkIndex_8e157 cJ3_checkIndex_8e157 3 (some .int), Cond.methodLink RJ0 498 yJ2_charAt_3b067, Cond.static yJ2_charAt_3b067, Cond.initialized RJ2, Cond.code yJ2_charAt_3b067 cJ2_charAt_3b067 2 (some .char), Cond.methodLink RJ2 67 yJ2_checkIndex_2214a, Cond.static yJ2_checkIndex_2214a, Cond.code yJ2_checkIndex_2214a cJ2_checkIndex_2214a 2 none, Cond.methodLink RJ2 48 yJ2_length_9d52b, Cond.static yJ2_length_9d52b, Cond.code yJ2_length_9d52b cJ2_length_9d52b 1 (some .int), Cond.methodLink RJ2 414 yJ0_checkIndex_df160, Cond.methodLink RJ2 71 yJ2_getChar_3b067, Cond.static yJ2_getChar_3b067, Cond.code yJ2_getChar_3b067 cJ2_getChar_3b067 2 (some .char), Cond.fieldLink RJ2 44 "java/lang/StringUTF16" "$assertionsDisabled" "Z", Cond.fieldLink RJ2 59 "java/lang/StringUTF16" "HI_BYTE_SHIFT" "I", Cond.fieldLink RJ2 63 "java/lang/StringUTF16" "LO_BYTE_SHIFT" "I", Cond.methodLink RX3 214 yX3_kindOf]
def wsX3_finish_r11 : List Cond := [Cond.instanceMethod yX3_kindOf, Cond.selects RX3 yX3_kindOf yX3_kindOf, Cond.code yX3_kindOf cX3_kindOf 3 (some .int), Cond.fieldLink RX3 50 "PolicyHouse$Coder" "heap" "LPolicyHouse$Heap;", Cond.fieldLink RX3 183 "PolicyHouse$Tree" "a" "[I", Cond.methodLink RX3 225 yX4_kind, Cond.instanceMethod yX4_kind, Cond.selects RX4 yX4_kind yX4_kind, Cond.initialized RX4, Cond.code yX4_kind cX4_kind 2 (some .int), Cond.fieldLink RX4 10 "PolicyHouse$Heap" "cell" "[I", Cond.methodLink RX3 217 yX3_takes, Cond.static yX3_takes, Cond.code yX3_takes cX3_takes 2 (some .boolean), Cond.methodLink RX3 231 yJ0_indexOf_0f7a4, Cond.instanceMethod yJ0_indexOf_0f7a4, Cond.selects RJ0 yJ0_indexOf_0f7a4 yJ0_indexOf_0f7a4, Cond.code yJ0_indexOf_0f7a4 cJ0_indexOf_0f7a4 2 (some .int), Cond.methodLink RJ0 633 yJ0_indexOf_7cf53, Cond.instanceMethod yJ0_indexOf_7cf53, Cond.selects RJ0 yJ0_indexOf_7cf53 yJ0_indexOf_7cf53, Cond.code yJ0_indexOf_7cf53 cJ0_indexOf_7cf53 3 (some .int), Cond.methodLink RJ0 505 yJ0_length_8abf5, Cond.instanceMethod yJ0_length_8abf5]
def wsX3_finish_r12 : List Cond := [Cond.selects RJ0 yJ0_length_8abf5 yJ0_length_8abf5, Cond.code yJ0_length_8abf5 cJ0_length_8abf5 1 (some .int), Cond.methodLink RJ0 335 yJ0_coder_7d493, Cond.instanceMethod yJ0_coder_7d493, Cond.selects RJ0 yJ0_coder_7d493 yJ0_coder_7d493, Cond.code yJ0_coder_7d493 cJ0_coder_7d493 1 (some .byte), Cond.methodLink RJ0 637 yJ1_indexOf_4cfef, Cond.static yJ1_indexOf_4cfef, Cond.code yJ1_indexOf_4cfef cJ1_indexOf_4cfef 4 (some .int), Cond.methodLink RJ1 92 Lib.Math.max.name, Cond.static Lib.Math.max.name, Cond.initialized "java/lang/Math", Cond.code Lib.Math.max.name Lib.Math.max.code 2 (some .int), Cond.methodLink RJ1 38 Lib.Math.min.name, Cond.static Lib.Math.min.name, Cond.code Lib.Math.min.name Lib.Math.min.code 2 (some .int), Cond.methodLink RJ1 88 yJ1_canEncode_9a6ad, Cond.static yJ1_canEncode_9a6ad, Cond.code yJ1_canEncode_9a6ad cJ1_canEncode_9a6ad 1 (some .boolean), Cond.methodLink RJ1 95 yJ1_indexOfChar_4cfef, Cond.static yJ1_indexOfChar_4cfef, Cond.code yJ1_indexOfChar_4cfef cJ1_indexOfChar_4cfef 6 (some .int), Cond.methodLink RJ0 640 yJ2_indexOf_4cfef, Cond.static yJ2_indexOf_4cfef]
def wsX3_finish_r13 : List Cond := [Cond.code yJ2_indexOf_4cfef cJ2_indexOf_4cfef 4 (some .int), Cond.methodLink RJ2 224 Lib.Math.max.name, Cond.methodLink RJ2 183 Lib.Math.min.name, Cond.constant RJ2 227 (65536), Cond.methodLink RJ2 228 yJ2_indexOfChar_4cfef, Cond.static yJ2_indexOfChar_4cfef, Cond.code yJ2_indexOfChar_4cfef cJ2_indexOfChar_4cfef 4 (some .int), Cond.methodLink RJ2 96 yJ2_checkBoundsBeginEnd_d044e, Cond.static yJ2_checkBoundsBeginEnd_d044e, Cond.code yJ2_checkBoundsBeginEnd_d044e cJ2_checkBoundsBeginEnd_d044e 3 none, Cond.methodLink RJ2 241 yJ0_checkBoundsBeginEnd_23922, Cond.static yJ0_checkBoundsBeginEnd_23922, Cond.code yJ0_checkBoundsBeginEnd_23922 cJ0_checkBoundsBeginEnd_23922 3 none, Cond.methodLink RJ0 1062 yJ3_checkFromToIndex_8c36e, Cond.static yJ3_checkFromToIndex_8c36e, Cond.code yJ3_checkFromToIndex_8c36e cJ3_checkFromToIndex_8c36e 4 (some .int), Cond.methodLink RJ2 244 yJ2_indexOfCharUnsafe_4cfef, Cond.static yJ2_indexOfCharUnsafe_4cfef, Cond.code yJ2_indexOfCharUnsafe_4cfef cJ2_indexOfCharUnsafe_4cfef 5 (some .int), Cond.methodLink RJ2 232 yJ2_indexOfSupplementary_4cfef, Cond.static yJ2_indexOfSupplementary_4cfef, Cond.code yJ2_indexOfSupplementary_4cfef cJ2_indexOfSupplementary_4cfef 7 (some .int), Cond.methodLink RJ2 164 yJ11_isValidCodePoint_9a6ad, Cond.static yJ11_isValidCodePoint_9a6ad]
def wsX3_finish_r14 : List Cond := [Cond.initialized RJ11, Cond.code yJ11_isValidCodePoint_9a6ad cJ11_isValidCodePoint_9a6ad 2 (some .boolean), Cond.methodLink RJ2 157 yJ11_highSurrogate_5068e, Cond.static yJ11_highSurrogate_5068e, Cond.code yJ11_highSurrogate_5068e cJ11_highSurrogate_5068e 1 (some .char), Cond.constant RJ11 110 (55232), Cond.methodLink RJ2 161 yJ11_lowSurrogate_5068e, Cond.static yJ11_lowSurrogate_5068e, Cond.code yJ11_lowSurrogate_5068e cJ11_lowSurrogate_5068e 1 (some .char), Cond.constant RJ11 76 (56320), Cond.methodLink RX3 155 yX3_report, Cond.instanceMethod yX3_report, Cond.selects RX3 yX3_report yX3_report, Cond.code yX3_report cX3_report 3 none, Cond.methodLink RX3 221 yJ0_length_8abf5, Cond.methodLink RX3 87 yX3_arrangePart, Cond.instanceMethod yX3_arrangePart, Cond.selects RX3 yX3_arrangePart yX3_arrangePart, Cond.code yX3_arrangePart cX3_arrangePart 3 none, Cond.methodLink RX3 107 yX3_arrange, Cond.instanceMethod yX3_arrange, Cond.selects RX3 yX3_arrange yX3_arrange, Cond.code yX3_arrange cX3_arrange 3 none, Cond.methodLink RX3 132 yX3_bodyOf]
def wsX3_finish_r15 : List Cond := [Cond.instanceMethod yX3_bodyOf, Cond.selects RX3 yX3_bodyOf yX3_bodyOf, Cond.code yX3_bodyOf cX3_bodyOf 4 (some .int), Cond.methodLink RX3 123 yX3_arrangeBody, Cond.instanceMethod yX3_arrangeBody, Cond.selects RX3 yX3_arrangeBody yX3_arrangeBody, Cond.code yX3_arrangeBody cX3_arrangeBody 8 none, Cond.fieldLink RX3 32 "PolicyHouse$Coder" "known" "I", Cond.fieldLink RX3 35 "PolicyHouse$Coder" "scope" "I", Cond.methodLink RX3 136 yX3_around, Cond.instanceMethod yX3_around, Cond.selects RX3 yX3_around yX3_around, Cond.code yX3_around cX3_around 4 (some .int), Cond.fieldLink RX3 126 "PolicyHouse$Checker" "count" "I", Cond.fieldLink RX3 129 "PolicyHouse$Checker" "scopeOf" "[I", Cond.methodLink RX3 142 yX3_putInOrder, Cond.instanceMethod yX3_putInOrder, Cond.selects RX3 yX3_putInOrder yX3_putInOrder, Cond.code yX3_putInOrder cX3_putInOrder 8 none, Cond.fieldLink RX3 164 "PolicyHouse$Tree" "c" "[I", Cond.fieldLink RX3 167 "PolicyHouse$Tree" "size" "I", Cond.methodLink RX3 171 Lib.Math.max.name, Cond.fieldLink RX3 176 "PolicyHouse$Tree" "last" "[I", Cond.methodLink RX3 168 yX3_isReadyLiteral]
def wsX3_finish_r16 : List Cond := [Cond.instanceMethod yX3_isReadyLiteral, Cond.selects RX3 yX3_isReadyLiteral yX3_isReadyLiteral, Cond.code yX3_isReadyLiteral cX3_isReadyLiteral 6 (some .boolean), Cond.methodLink RX3 148 yX3_isReady, Cond.instanceMethod yX3_isReady, Cond.selects RX3 yX3_isReady yX3_isReady, Cond.code yX3_isReady cX3_isReady 4 (some .boolean), Cond.methodLink RX3 158 yX12_isComprehension, Cond.methodLink RX3 189 yX3_usedFrom, Cond.instanceMethod yX3_usedFrom, Cond.selects RX3 yX3_usedFrom yX3_usedFrom, Cond.code yX3_usedFrom cX3_usedFrom 6 (some .int), Cond.methodLink RX3 195 yX3_isReadyStep, Cond.instanceMethod yX3_isReadyStep, Cond.selects RX3 yX3_isReadyStep yX3_isReadyStep, Cond.code yX3_isReadyStep cX3_isReadyStep 3 (some .boolean), Cond.methodLink RX3 179 yX3_isReadyUnify, Cond.instanceMethod yX3_isReadyUnify, Cond.selects RX3 yX3_isReadyUnify yX3_isReadyUnify, Cond.code yX3_isReadyUnify cX3_isReadyUnify 5 (some .boolean), Cond.methodLink RX3 192 yX3_isMatching, Cond.instanceMethod yX3_isMatching, Cond.selects RX3 yX3_isMatching yX3_isMatching, Cond.code yX3_isMatching cX3_isMatching 3 (some .boolean)]
def wsX3_finish_r17 : List Cond := [Cond.methodLink RX3 186 yX3_patternMask, Cond.instanceMethod yX3_patternMask, Cond.selects RX3 yX3_patternMask yX3_patternMask, Cond.code yX3_patternMask cX3_patternMask 5 (some .int), Cond.methodLink RX3 145 yX3_arrangeWithin, Cond.instanceMethod yX3_arrangeWithin, Cond.selects RX3 yX3_arrangeWithin yX3_arrangeWithin, Cond.code yX3_arrangeWithin cX3_arrangeWithin 4 none, Cond.methodLink RX3 93 yX1_fail, Cond.instanceMethod yX1_fail, Cond.selects RX1 yX1_fail yX1_fail, Cond.code yX1_fail cX1_fail 4 none, Cond.fieldLink RX1 34 "PolicyHouse$Bundle" "kind" "I", Cond.fieldLink RX1 37 "PolicyHouse$Bundle" "module" "I", Cond.fieldLink RX1 40 "PolicyHouse$Bundle" "place" "I"]
def wsX3_finish : List Cond := .code yX3_finish cX3_finish 6 none :: ((wsX3_finish_r1 ++ (wsX3_finish_r2 ++ (wsX3_finish_r3 ++ (wsX3_finish_r4 ++ (wsX3_finish_r5 ++ (wsX3_finish_r6 ++ (wsX3_finish_r7 ++ (wsX3_finish_r8 ++ (wsX3_finish_r9 ++ (wsX3_finish_r10 ++ (wsX3_finish_r11 ++ (wsX3_finish_r12 ++ (wsX3_finish_r13 ++ (wsX3_finish_r14 ++ (wsX3_finish_r15 ++ (wsX3_finish_r16 ++ wsX3_finish_r17)))))))))))))))) ++ wsX30 ++ wsX10 ++ wsX20 ++ wsX120 ++ wsX60 ++ wsX40)
def wsJ7_copyOf_59c91 : List Cond := .code yJ7_copyOf_59c91 cJ7_copyOf_59c91 3 (some (.array .int)) :: ([.methodLink RJ7 316 ⟨"[I", "clone", "()Ljava/lang/Object;"⟩, .sameMethod "[I" "java/lang/Object" "clone" "()Ljava/lang/Object;", .native ⟨"java/lang/Object", "clone", "()Ljava/lang/Object;"⟩, .instanceMethod ⟨"java/lang/Object", "clone", "()Ljava/lang/Object;"⟩, .selects "[I" ⟨"[I", "clone", "()Ljava/lang/Object;"⟩ ⟨"java/lang/Object", "clone", "()Ljava/lang/Object;"⟩, .classLink RJ7 317 "[I", .arrayClass .int, .methodLink RJ7 304 Lib.Math.min.name, .static Lib.Math.min.name, .initialized "java/lang/Math", .code Lib.Math.min.name Lib.Math.min.code 2 (some .int), .methodLink RJ7 150 arraycopyName, .native arraycopyName, .static arraycopyName, .initialized "java/lang/System"])
def wsX3_encode_r1 : List Cond := [Cond.fieldLink RX3 22 "PolicyHouse$Coder" "size" "I", Cond.fieldLink RX3 7 "PolicyHouse$Coder" "b" "LPolicyHouse$Bundle;", Cond.fieldLink RX3 238 "PolicyHouse$Bundle" "parts" "I", Cond.arrayClass .int, Cond.fieldLink RX3 81 "PolicyHouse$Bundle" "part" "[I", Cond.fieldLink RX3 58 "PolicyHouse$Coder" "checker" "LPolicyHouse$Checker;", Cond.fieldLink RX3 80 "PolicyHouse$Checker" "t" "LPolicyHouse$Tree;", Cond.fieldLink RX3 13 "PolicyHouse$Coder" "t" "LPolicyHouse$Tree;", Cond.fieldLink RX3 29 "PolicyHouse$Coder" "owner" "I", Cond.fieldLink RX3 126 "PolicyHouse$Checker" "count" "I", Cond.fieldLink RX3 26 "PolicyHouse$Coder" "registers" "I", Cond.fieldLink RX3 97 "PolicyHouse$Tree" "first" "[I", Cond.fieldLink RX3 102 "PolicyHouse$Tree" "kind" "[I", Cond.fieldLink RX3 32 "PolicyHouse$Coder" "known" "I", Cond.fieldLink RX3 111 "PolicyHouse$Tree" "next" "[I", Cond.fieldLink RX3 162 "PolicyHouse$Tree" "b" "[I", Cond.fieldLink RX3 257 "PolicyHouse$Bundle" "branch" "[I", Cond.fieldLink RX3 18 "PolicyHouse$Coder" "code" "[I", Cond.fieldLink RX3 259 "PolicyHouse$Bundle" "code" "[I", Cond.methodLink RX3 74 yX2_scanPart, Cond.instanceMethod yX2_scanPart, Cond.selects RX2 yX2_scanPart yX2_scanPart, Cond.initialized RX2, Cond.code yX2_scanPart cX2_scanPart 5 none]
def wsX3_encode_r2 : List Cond := [Cond.fieldLink RX2 7 "PolicyHouse$Checker" "b" "LPolicyHouse$Bundle;", Cond.fieldLink RX2 141 "PolicyHouse$Bundle" "part" "[I", Cond.fieldLink RX2 100 "PolicyHouse$Bundle" "mods" "[LPolicyHouse$Tree;", Cond.fieldLink RX2 13 "PolicyHouse$Checker" "t" "LPolicyHouse$Tree;", Cond.fieldLink RX2 115 "PolicyHouse$Tree" "first" "[I", Cond.fieldLink RX2 193 "PolicyHouse$Tree" "kind" "[I", Cond.fieldLink RX2 125 "PolicyHouse$Tree" "next" "[I", Cond.fieldLink RX2 207 "PolicyHouse$Tree" "res" "[I", Cond.methodLink RX2 189 yX2_begin, Cond.instanceMethod yX2_begin, Cond.selects RX2 yX2_begin yX2_begin, Cond.code yX2_begin cX2_begin 3 none, Cond.fieldLink RX2 17 "PolicyHouse$Checker" "module" "I", Cond.fieldLink RX2 31 "PolicyHouse$Checker" "count" "I", Cond.fieldLink RX2 37 "PolicyHouse$Checker" "scopes" "I", Cond.fieldLink RX2 34 "PolicyHouse$Checker" "around" "[I", Cond.fieldLink RX2 40 "PolicyHouse$Checker" "badKind" "I", Cond.fieldLink RX2 43 "PolicyHouse$Checker" "badPlace" "I", Cond.methodLink RX2 195 yX2_newScope, Cond.instanceMethod yX2_newScope, Cond.selects RX2 yX2_newScope yX2_newScope, Cond.code yX2_newScope cX2_newScope 4 (some .int), Cond.methodLink RX2 198 yX2_declareAll, Cond.instanceMethod yX2_declareAll]
def wsX3_encode_r3 : List Cond := [Cond.selects RX2 yX2_declareAll yX2_declareAll, Cond.code yX2_declareAll cX2_declareAll 4 none, Cond.methodLink RX2 219 yX2_declare, Cond.instanceMethod yX2_declare, Cond.selects RX2 yX2_declare yX2_declare, Cond.code yX2_declare cX2_declare 6 none, Cond.fieldLink RX2 182 "PolicyHouse$Tree" "a" "[I", Cond.fieldLink RX2 154 "PolicyHouse$Tree" "b" "[I", Cond.methodLink RX2 222 yX2_addVariable, Cond.instanceMethod yX2_addVariable, Cond.selects RX2 yX2_addVariable yX2_addVariable, Cond.code yX2_addVariable cX2_addVariable 3 none, Cond.fieldLink RX2 134 "PolicyHouse$Tree" "ref" "[I", Cond.fieldLink RX2 21 "PolicyHouse$Checker" "declared" "[I", Cond.fieldLink RX2 25 "PolicyHouse$Checker" "scopeOf" "[I", Cond.fieldLink RX2 28 "PolicyHouse$Checker" "placeOf" "[I", Cond.fieldLink RX2 163 "PolicyHouse$Tree" "at" "[I", Cond.methodLink RX2 225 yX2_declareEvery, Cond.instanceMethod yX2_declareEvery, Cond.selects RX2 yX2_declareEvery yX2_declareEvery, Cond.methodLink RX2 228 yX12_isComprehension, Cond.instanceMethod yX12_isComprehension, Cond.selects RX12 yX12_isComprehension yX12_isComprehension, Cond.initialized RX12]
def wsX3_encode_r4 : List Cond := [Cond.code yX12_isComprehension cX12_isComprehension 2 (some .boolean), Cond.fieldLink RX12 25 "PolicyHouse$Tree" "kind" "[I", Cond.methodLink RX2 201 yX2_declarePattern, Cond.instanceMethod yX2_declarePattern, Cond.selects RX2 yX2_declarePattern yX2_declarePattern, Cond.code yX2_declareEvery cX2_declareEvery 5 none, Cond.code yX2_declarePattern cX2_declarePattern 3 none, Cond.instanceMethod yX12_isPattern, Cond.selects RX12 yX12_isPattern yX12_isPattern, Cond.code yX12_isPattern cX12_isPattern 3 (some .boolean), Cond.fieldLink RX12 41 "PolicyHouse$Tree" "first" "[I", Cond.fieldLink RX12 44 "PolicyHouse$Tree" "next" "[I", Cond.methodLink RX12 60 yX12_isPattern, Cond.methodLink RX12 56 yX12_isConstant, Cond.instanceMethod yX12_isConstant, Cond.selects RX12 yX12_isConstant yX12_isConstant, Cond.code yX12_isConstant cX12_isConstant 3 (some .boolean), Cond.methodLink RX2 234 yX2_addPattern, Cond.instanceMethod yX2_addPattern, Cond.selects RX2 yX2_addPattern yX2_addPattern, Cond.code yX2_addPattern cX2_addPattern 4 none, Cond.fieldLink RX2 59 "PolicyHouse$Checker" "names" "LPolicyHouse$Names;", Cond.fieldLink RX2 240 "PolicyHouse$Names" "blank" "I", Cond.methodLink RX2 237 yX2_report]
def wsX3_encode_r5 : List Cond := [Cond.instanceMethod yX2_report, Cond.selects RX2 yX2_report yX2_report, Cond.code yX2_report cX2_report 4 none, Cond.methodLink RX2 204 yX2_checkDeclared, Cond.instanceMethod yX2_checkDeclared, Cond.selects RX2 yX2_checkDeclared yX2_checkDeclared, Cond.code yX2_checkDeclared cX2_checkDeclared 5 none, Cond.fieldLink RX2 173 "PolicyHouse$Names" "input" "I", Cond.fieldLink RX2 176 "PolicyHouse$Names" "data" "I", Cond.methodLink RX2 243 yX2_aliasOf, Cond.instanceMethod yX2_aliasOf, Cond.selects RX2 yX2_aliasOf yX2_aliasOf, Cond.code yX2_aliasOf cX2_aliasOf 3 (some .int), Cond.fieldLink RX2 156 "PolicyHouse$Tree" "imports" "I", Cond.fieldLink RX2 170 "PolicyHouse$Tree" "c" "[I", Cond.methodLink RX2 246 yX2_ruleOf, Cond.instanceMethod yX2_ruleOf, Cond.selects RX2 yX2_ruleOf yX2_ruleOf, Cond.code yX2_ruleOf cX2_ruleOf 2 (some .int), Cond.fieldLink RX2 104 "PolicyHouse$Tree" "pack" "I", Cond.methodLink RX2 179 yX6_find, Cond.instanceMethod yX6_find, Cond.selects RX6 yX6_find yX6_find, Cond.initialized RX6]
def wsX3_encode_r6 : List Cond := [Cond.code yX6_find cX6_find 4 (some .int), Cond.fieldLink RX6 19 "PolicyHouse$Names" "child" "[I", Cond.fieldLink RX6 16 "PolicyHouse$Names" "name" "[I", Cond.fieldLink RX6 22 "PolicyHouse$Names" "sibling" "[I", Cond.methodLink RX2 137 yX1_ruleAt, Cond.instanceMethod yX1_ruleAt, Cond.selects RX1 yX1_ruleAt yX1_ruleAt, Cond.initialized RX1, Cond.code yX1_ruleAt cX1_ruleAt 2 (some .int), Cond.fieldLink RX1 59 "PolicyHouse$Bundle" "nodeRule" "[I", Cond.methodLink RX2 249 yX2_isAround, Cond.instanceMethod yX2_isAround, Cond.selects RX2 yX2_isAround yX2_isAround, Cond.code yX2_isAround cX2_isAround 5 (some .boolean), Cond.methodLink RX2 210 yX2_resolveAll, Cond.instanceMethod yX2_resolveAll, Cond.selects RX2 yX2_resolveAll yX2_resolveAll, Cond.code yX2_resolveAll cX2_resolveAll 4 none, Cond.methodLink RX2 253 yX2_resolve, Cond.instanceMethod yX2_resolve, Cond.selects RX2 yX2_resolve yX2_resolve, Cond.code yX2_resolve cX2_resolve 6 none, Cond.methodLink RX2 256 yX2_resolveName, Cond.instanceMethod yX2_resolveName]
def wsX3_encode_r7 : List Cond := [Cond.selects RX2 yX2_resolveName yX2_resolveName, Cond.code yX2_resolveName cX2_resolveName 7 none, Cond.methodLink RX2 274 yX2_variable, Cond.instanceMethod yX2_variable, Cond.selects RX2 yX2_variable yX2_variable, Cond.code yX2_variable cX2_variable 4 (some .int), Cond.methodLink RX2 259 yX2_resolveStep, Cond.instanceMethod yX2_resolveStep, Cond.selects RX2 yX2_resolveStep yX2_resolveStep, Cond.methodLink RX2 262 yX2_resolveSide, Cond.instanceMethod yX2_resolveSide, Cond.selects RX2 yX2_resolveSide yX2_resolveSide, Cond.methodLink RX2 213 yX2_resolvePattern, Cond.instanceMethod yX2_resolvePattern, Cond.selects RX2 yX2_resolvePattern yX2_resolvePattern, Cond.methodLink RX2 265 yX2_resolveCall, Cond.instanceMethod yX2_resolveCall, Cond.selects RX2 yX2_resolveCall yX2_resolveCall, Cond.code yX2_resolveCall cX2_resolveCall 7 none, Cond.fieldLink RX2 280 "PolicyHouse$Names" "builtin" "[I", Cond.fieldLink RX2 283 "PolicyHouse$Names" "arity" "[I", Cond.methodLink RX2 277 yX2_functionOf, Cond.instanceMethod yX2_functionOf, Cond.selects RX2 yX2_functionOf yX2_functionOf]
def wsX3_encode_r8 : List Cond := [Cond.code yX2_functionOf cX2_functionOf 6 (some .int), Cond.methodLink RX2 150 yX1_of, Cond.instanceMethod yX1_of, Cond.selects RX1 yX1_of yX1_of, Cond.code yX1_of cX1_of 3 (some .int), Cond.fieldLink RX1 53 "PolicyHouse$Bundle" "rule" "[I", Cond.methodLink RX2 268 yX2_isBadTarget, Cond.instanceMethod yX2_isBadTarget, Cond.selects RX2 yX2_isBadTarget yX2_isBadTarget, Cond.code yX2_isBadTarget cX2_isBadTarget 3 (some .boolean), Cond.fieldLink RX2 112 "PolicyHouse$Names" "parent" "[I", Cond.methodLink RX2 185 yX1_isInner, Cond.instanceMethod yX1_isInner, Cond.selects RX1 yX1_isInner yX1_isInner, Cond.code yX1_isInner cX1_isInner 2 (some .boolean), Cond.fieldLink RX1 62 "PolicyHouse$Bundle" "inner" "[I", Cond.code yX2_resolvePattern cX2_resolvePattern 3 none, Cond.code yX2_resolveSide cX2_resolveSide 4 none, Cond.methodLink RX2 271 yX12_isName, Cond.instanceMethod yX12_isName, Cond.selects RX12 yX12_isName yX12_isName, Cond.code yX12_isName cX12_isName 3 (some .boolean), Cond.fieldLink RX12 32 "PolicyHouse$Tree" "a" "[I", Cond.code yX2_resolveStep cX2_resolveStep 3 none]
def wsX3_encode_r9 : List Cond := [Cond.methodLink RX3 241 yX3_match, Cond.instanceMethod yX3_match, Cond.selects RX3 yX3_match yX3_match, Cond.initialized RX3, Cond.code yX3_match cX3_match 7 none, Cond.fieldLink RX3 104 "PolicyHouse$Tree" "res" "[I", Cond.fieldLink RX3 139 "PolicyHouse$Tree" "ref" "[I", Cond.methodLink RX3 272 yX3_putThree, Cond.instanceMethod yX3_putThree, Cond.selects RX3 yX3_putThree yX3_putThree, Cond.code yX3_putThree cX3_putThree 4 none, Cond.methodLink RX3 235 yX3_put, Cond.instanceMethod yX3_put, Cond.selects RX3 yX3_put yX3_put, Cond.code yX3_put cX3_put 2 none, Cond.constant RX3 17 (80000), Cond.constant RX3 234 (79999), Cond.methodLink RX3 284 yX3_registers, Cond.instanceMethod yX3_registers, Cond.selects RX3 yX3_registers yX3_registers, Cond.code yX3_registers cX3_registers 3 (some .int), Cond.methodLink RX3 308 yX3_putFour, Cond.instanceMethod yX3_putFour, Cond.selects RX3 yX3_putFour yX3_putFour]
def wsX3_encode_r10 : List Cond := [Cond.code yX3_putFour cX3_putFour 5 none, Cond.methodLink RX3 312 yX3_matchObject, Cond.instanceMethod yX3_matchObject, Cond.selects RX3 yX3_matchObject yX3_matchObject, Cond.methodLink RX3 263 yX3_expression, Cond.instanceMethod yX3_expression, Cond.selects RX3 yX3_expression yX3_expression, Cond.code yX3_comprehension cX3_comprehension 10 (some .int), Cond.methodLink RX3 132 yX3_bodyOf, Cond.instanceMethod yX3_bodyOf, Cond.selects RX3 yX3_bodyOf yX3_bodyOf, Cond.code yX3_bodyOf cX3_bodyOf 4 (some .int), Cond.methodLink RX3 136 yX3_around, Cond.instanceMethod yX3_around, Cond.selects RX3 yX3_around yX3_around, Cond.code yX3_around cX3_around 4 (some .int), Cond.fieldLink RX3 129 "PolicyHouse$Checker" "scopeOf" "[I", Cond.methodLink RX3 269 yX3_literals, Cond.instanceMethod yX3_literals, Cond.selects RX3 yX3_literals yX3_literals, Cond.code yX3_every cX3_every 8 none, Cond.fieldLink RX3 183 "PolicyHouse$Tree" "a" "[I", Cond.methodLink RX3 266 yX3_putTwo, Cond.instanceMethod yX3_putTwo]
def wsX3_encode_r11 : List Cond := [Cond.selects RX3 yX3_putTwo yX3_putTwo, Cond.code yX3_putTwo cX3_putTwo 3 none, Cond.code yX3_expression cX3_expression 3 (some .int), Cond.fieldLink RX3 50 "PolicyHouse$Coder" "heap" "LPolicyHouse$Heap;", Cond.methodLink RX3 315 yX4_tooGreat, Cond.instanceMethod yX4_tooGreat, Cond.selects RX4 yX4_tooGreat yX4_tooGreat, Cond.initialized RX4, Cond.code yX4_tooGreat cX4_tooGreat 2 (some .boolean), Cond.methodLink RX4 55 yX4_weight, Cond.instanceMethod yX4_weight, Cond.selects RX4 yX4_weight yX4_weight, Cond.code yX4_weight cX4_weight 3 (some .int), Cond.fieldLink RX4 10 "PolicyHouse$Heap" "cell" "[I", Cond.methodLink RX4 58 yX4_depth, Cond.instanceMethod yX4_depth, Cond.selects RX4 yX4_depth yX4_depth, Cond.code yX4_depth cX4_depth 2 (some .int), Cond.methodLink RX3 318 yX3_reference, Cond.instanceMethod yX3_reference, Cond.selects RX3 yX3_reference yX3_reference, Cond.methodLink RX3 321 yX3_signs, Cond.instanceMethod yX3_signs, Cond.selects RX3 yX3_signs yX3_signs]
def wsX3_encode_r12 : List Cond := [Cond.methodLink RX3 324 yX3_row, Cond.instanceMethod yX3_row, Cond.selects RX3 yX3_row yX3_row, Cond.methodLink RX3 328 yX3_comprehension, Cond.instanceMethod yX3_comprehension, Cond.selects RX3 yX3_comprehension yX3_comprehension, Cond.code yX3_literal cX3_literal 7 none, Cond.fieldLink RX3 164 "PolicyHouse$Tree" "c" "[I", Cond.methodLink RX3 278 yX3_with, Cond.instanceMethod yX3_with, Cond.selects RX3 yX3_with yX3_with, Cond.methodLink RX3 281 yX3_someIn, Cond.instanceMethod yX3_someIn, Cond.selects RX3 yX3_someIn yX3_someIn, Cond.methodLink RX3 286 yX3_every, Cond.instanceMethod yX3_every, Cond.selects RX3 yX3_every yX3_every, Cond.code yX3_literals cX3_literals 3 none, Cond.fieldLink RX3 176 "PolicyHouse$Tree" "last" "[I", Cond.methodLink RX3 275 yX3_literal, Cond.instanceMethod yX3_literal, Cond.selects RX3 yX3_literal yX3_literal, Cond.code yX3_matchObject cX3_matchObject 8 none, Cond.code yX3_reference cX3_reference 8 (some .int)]
def wsX3_encode_r13 : List Cond := [Cond.methodLink RX3 70 yX1_of, Cond.methodLink RX3 331 yX3_step, Cond.instanceMethod yX3_step, Cond.selects RX3 yX3_step yX3_step, Cond.code yX3_row cX3_row 7 (some .int), Cond.fieldLink RX3 47 "PolicyHouse$Coder" "used" "I", Cond.fieldLink RX3 44 "PolicyHouse$Coder" "ops" "[I", Cond.methodLink RX3 289 yX3_keep, Cond.instanceMethod yX3_keep, Cond.selects RX3 yX3_keep yX3_keep, Cond.code yX3_keep cX3_keep 2 none, Cond.code yX3_signs cX3_signs 5 (some .int), Cond.code yX3_someIn cX3_someIn 6 none, Cond.code yX3_step cX3_step 6 (some .int), Cond.code yX3_with cX3_with 8 (some .int), Cond.fieldLink RX3 302 "PolicyHouse$Bundle" "words" "I", Cond.fieldLink RX3 305 "PolicyHouse$Checker" "bits" "[I", Cond.methodLink RX3 292 yX1_ruleAt, Cond.methodLink RX3 295 yX2_clearBits, Cond.instanceMethod yX2_clearBits, Cond.selects RX2 yX2_clearBits yX2_clearBits, Cond.code yX2_clearBits cX2_clearBits 2 none, Cond.fieldLink RX2 46 "PolicyHouse$Checker" "bits" "[I", Cond.instanceMethod yX2_collectAll]
def wsX3_encode_r14 : List Cond := [Cond.selects RX2 yX2_collectAll yX2_collectAll, Cond.code yX2_collectAll cX2_collectAll 4 none, Cond.methodLink RX2 296 yX2_collect, Cond.instanceMethod yX2_collect, Cond.selects RX2 yX2_collect yX2_collect, Cond.code yX2_collect cX2_collect 6 none, Cond.methodLink RX2 286 yX2_markReference, Cond.instanceMethod yX2_markReference, Cond.selects RX2 yX2_markReference yX2_markReference, Cond.code yX2_markReference cX2_markReference 7 none, Cond.fieldLink RX2 55 "PolicyHouse$Checker" "heap" "LPolicyHouse$Heap;", Cond.fieldLink RX2 128 "PolicyHouse$Bundle" "rules" "I", Cond.methodLink RX2 289 yX2_mark, Cond.instanceMethod yX2_mark, Cond.selects RX2 yX2_mark yX2_mark, Cond.code yX2_mark cX2_mark 2 none, Cond.methodLink RX2 299 yX4_kind, Cond.instanceMethod yX4_kind, Cond.selects RX4 yX4_kind yX4_kind, Cond.code yX4_kind cX4_kind 2 (some .int), Cond.methodLink RX2 303 yX6_within, Cond.instanceMethod yX6_within, Cond.selects RX6 yX6_within yX6_within, Cond.code yX6_within cX6_within 5 (some .boolean)]
def wsX3_encode_r15 : List Cond := [Cond.fieldLink RX6 13 "PolicyHouse$Names" "parent" "[I", Cond.methodLink RX2 292 yX2_collectAll, Cond.methodLink RX3 244 yX3_branch, Cond.instanceMethod yX3_branch, Cond.selects RX3 yX3_branch yX3_branch, Cond.code yX3_branch cX3_branch 8 none, Cond.fieldLink RX3 260 "PolicyHouse$Bundle" "rule" "[I", Cond.methodLink RX3 248 yX3_setFrame, Cond.instanceMethod yX3_setFrame, Cond.selects RX3 yX3_setFrame yX3_setFrame, Cond.code yX3_setFrame cX3_setFrame 3 none, Cond.methodLink RX3 171 Lib.Math.max.name, Cond.static Lib.Math.max.name, Cond.initialized "java/lang/Math", Cond.code Lib.Math.max.name Lib.Math.max.code 2 (some .int), Cond.methodLink RX3 251 yJ7_copyOf_59c91, Cond.static yJ7_copyOf_59c91, Cond.initialized RJ7, Cond.code yJ7_copyOf_59c91 cJ7_copyOf_59c91 3 (some (.array .int)), Cond.methodLink RJ7 316 ⟨"[I", "clone", "()Ljava/lang/Object;"⟩, Cond.sameMethod "[I" "java/lang/Object" "clone" "()Ljava/lang/Object;", Cond.native ⟨"java/lang/Object", "clone", "()Ljava/lang/Object;"⟩, Cond.instanceMethod ⟨"java/lang/Object", "clone", "()Ljava/lang/Object;"⟩, Cond.selects "[I" ⟨"[I", "clone", "()Ljava/lang/Object;"⟩ ⟨"java/lang/Object", "clone", "()Ljava/lang/Object;"⟩]
def wsX3_encode_r16 : List Cond := [Cond.classLink RJ7 317 "[I", Cond.methodLink RJ7 304 Lib.Math.min.name, Cond.static Lib.Math.min.name, Cond.code Lib.Math.min.name Lib.Math.min.code 2 (some .int), Cond.methodLink RJ7 150 arraycopyName, Cond.native arraycopyName, Cond.static arraycopyName, Cond.initialized "java/lang/System"]
def wsX3_encode : List Cond := .code yX3_encode cX3_encode 9 none :: ((wsX3_encode_r1 ++ (wsX3_encode_r2 ++ (wsX3_encode_r3 ++ (wsX3_encode_r4 ++ (wsX3_encode_r5 ++ (wsX3_encode_r6 ++ (wsX3_encode_r7 ++ (wsX3_encode_r8 ++ (wsX3_encode_r9 ++ (wsX3_encode_r10 ++ (wsX3_encode_r11 ++ (wsX3_encode_r12 ++ (wsX3_encode_r13 ++ (wsX3_encode_r14 ++ (wsX3_encode_r15 ++ wsX3_encode_r16))))))))))))))) ++ wsX30 ++ wsX10 ++ wsX20 ++ wsX120 ++ wsX60 ++ wsX40)
def wsX4_init : List Cond := .code yX4_init cX4_init 2 none :: ([.methodLink RX4 1 objectInit, .instanceMethod objectInit, .code objectInit ⟨#[0xb1]⟩ 1 none, .constant RX4 9 (886000), .arrayClass .int, .fieldLink RX4 10 "PolicyHouse$Heap" "cell" "[I", .constant RX4 14 (90000), .fieldLink RX4 15 "PolicyHouse$Heap" "acc" "[I", .fieldLink RX4 18 "PolicyHouse$Heap" "spare" "[I", .fieldLink RX4 21 "PolicyHouse$Heap" "used" "I", .fieldLink RX4 25 "PolicyHouse$Heap" "kept" "I", .constant RX4 28 (258000), .fieldLink RX4 29 "PolicyHouse$Heap" "top" "I", .constant RX4 32 (820000), .fieldLink RX4 33 "PolicyHouse$Heap" "end" "I", .fieldLink RX4 36 "PolicyHouse$Heap" "full" "Z", .methodLink RX4 40 yX4_empty, .static yX4_empty, .initialized RX4, .code yX4_empty cX4_empty 1 (some .int)] ++ wsX40)
def wsX4_reset : List Cond := .code yX4_reset cX4_reset 2 none :: ([.fieldLink RX4 29 "PolicyHouse$Heap" "top" "I", .constant RX4 32 (820000), .fieldLink RX4 33 "PolicyHouse$Heap" "end" "I", .fieldLink RX4 36 "PolicyHouse$Heap" "full" "Z", .fieldLink RX4 21 "PolicyHouse$Heap" "used" "I"] ++ wsX40)
def wsX5_init : List Cond := .code yX5_init cX5_init 4 none :: ([.methodLink RX5 1 objectInit, .instanceMethod objectInit, .code objectInit ⟨#[0xb1]⟩ 1 none, .arrayClass .int, .fieldLink RX5 7 "PolicyHouse$Machine" "regs" "[I", .constant RX5 13 (58500), .fieldLink RX5 14 "PolicyHouse$Machine" "cp" "[I", .fieldLink RX5 17 "PolicyHouse$Machine" "choices" "I", .fieldLink RX5 21 "PolicyHouse$Machine" "pc" "I", .fieldLink RX5 24 "PolicyHouse$Machine" "fp" "I", .fieldLink RX5 27 "PolicyHouse$Machine" "top" "I", .fieldLink RX5 30 "PolicyHouse$Machine" "failing" "Z", .fieldLink RX5 34 "PolicyHouse$Machine" "stopped" "Z", .fieldLink RX5 37 "PolicyHouse$Machine" "pending" "Z", .fieldLink RX5 40 "PolicyHouse$Machine" "bundle" "LPolicyHouse$Bundle;", .fieldLink RX5 44 "PolicyHouse$Machine" "own" "[I", .fieldLink RX5 47 "PolicyHouse$Machine" "c" "[I", .fieldLink RX5 50 "PolicyHouse$Machine" "p" "I", .fieldLink RX5 53 "PolicyHouse$Machine" "scope" "I", .fieldLink RX5 56 "PolicyHouse$Machine" "results" "I", .fieldLink RX5 59 "PolicyHouse$Machine" "fixed" "[I", .fieldLink RX5 62 "PolicyHouse$Machine" "heap" "LPolicyHouse$Heap;", .fieldLink RX5 66 "PolicyHouse$Machine" "scopes" "LPolicyHouse$Scopes;", .fieldLink RX5 70 "PolicyHouse$Machine" "builtins" "LPolicyHouse$Builtins;"] ++ wsX50)
def wsX8_init : List Cond := .code yX8_init cX8_init 4 none :: ([.methodLink RX8 1 objectInit, .instanceMethod objectInit, .code objectInit ⟨#[0xb1]⟩ 1 none, .arrayClass .int, .fieldLink RX8 9 "PolicyHouse$Reader" "sort" "[I", .fieldLink RX8 13 "PolicyHouse$Reader" "place" "[I", .fieldLink RX8 16 "PolicyHouse$Reader" "gap" "[I", .fieldLink RX8 19 "PolicyHouse$Reader" "worth" "[I", .fieldLink RX8 22 "PolicyHouse$Reader" "bad" "I", .fieldLink RX8 26 "PolicyHouse$Reader" "tokens" "I", .fieldLink RX8 29 "PolicyHouse$Reader" "now" "I", .fieldLink RX8 32 "PolicyHouse$Reader" "deep" "I", .fieldLink RX8 35 "PolicyHouse$Reader" "wrong" "I", .fieldLink RX8 38 "PolicyHouse$Reader" "skipped" "I", .fieldLink RX8 41 "PolicyHouse$Reader" "stop" "I", .fieldLink RX8 44 "PolicyHouse$Reader" "tree" "LPolicyHouse$Tree;", .fieldLink RX8 48 "PolicyHouse$Reader" "heap" "LPolicyHouse$Heap;", .fieldLink RX8 52 "PolicyHouse$Reader" "texts" "LPolicyHouse$Texts;", .fieldLink RX8 56 "PolicyHouse$Reader" "names" "LPolicyHouse$Names;"] ++ wsX80)
def wsX9_init : List Cond := .code yX9_init cX9_init 3 none :: ([.methodLink RX9 5 objectInit, .instanceMethod objectInit, .code objectInit ⟨#[0xb1]⟩ 1 none, .fieldLink RX9 11 "PolicyHouse$Scopes" "bundle" "LPolicyHouse$Bundle;", .fieldLink RX9 15 "PolicyHouse$Scopes" "now" "I", .fieldLink RX9 19 "PolicyHouse$Scopes" "outNode" "I", .fieldLink RX9 22 "PolicyHouse$Scopes" "outValue" "I", .arrayClass .int, .fieldLink RX9 25 "PolicyHouse$Scopes" "path" "[I", .fieldLink RX9 29 "PolicyHouse$Scopes" "need" "[I", .fieldLink RX9 32 "PolicyHouse$Scopes" "fuel" "I", .fieldLink RX9 35 "PolicyHouse$Scopes" "free" "Z", .fieldLink RX9 39 "PolicyHouse$Scopes" "strict" "Z", .fieldLink RX9 42 "PolicyHouse$Scopes" "limit" "Z", .fieldLink RX9 45 "PolicyHouse$Scopes" "notes" "I", .fieldLink RX9 48 "PolicyHouse$Scopes" "leastRule" "I", .fieldLink RX9 51 "PolicyHouse$Scopes" "leastBuiltin" "I", .fieldLink RX9 54 "PolicyHouse$Scopes" "tries" "[I", .fieldLink RX9 57 "PolicyHouse$Scopes" "heap" "LPolicyHouse$Heap;", .fieldLink RX9 61 "PolicyHouse$Scopes" "names" "LPolicyHouse$Names;"] ++ wsX90)
def wsX10_init : List Cond := .code yX10_init cX10_init 4 none :: ([.methodLink RX10 1 objectInit, .instanceMethod objectInit, .code objectInit ⟨#[0xb1]⟩ 1 none, .arrayClass .int, .fieldLink RX10 7 "PolicyHouse$Strings" "buf" "[I", .fieldLink RX10 13 "PolicyHouse$Strings" "size" "I", .fieldLink RX10 17 "PolicyHouse$Strings" "over" "Z", .fieldLink RX10 21 "PolicyHouse$Strings" "code" "[I", .fieldLink RX10 24 "PolicyHouse$Strings" "jump" "[I", .fieldLink RX10 27 "PolicyHouse$Strings" "mark" "[I", .fieldLink RX10 30 "PolicyHouse$Strings" "here" "[I", .fieldLink RX10 33 "PolicyHouse$Strings" "there" "[I", .fieldLink RX10 36 "PolicyHouse$Strings" "stack" "[I", .fieldLink RX10 39 "PolicyHouse$Strings" "length" "I", .fieldLink RX10 42 "PolicyHouse$Strings" "sets" "[I", .fieldLink RX10 45 "PolicyHouse$Strings" "count" "I", .fieldLink RX10 48 "PolicyHouse$Strings" "pos" "I", .fieldLink RX10 51 "PolicyHouse$Strings" "end" "I", .fieldLink RX10 54 "PolicyHouse$Strings" "bad" "Z", .fieldLink RX10 57 "PolicyHouse$Strings" "threads" "I", .fieldLink RX10 60 "PolicyHouse$Strings" "heap" "LPolicyHouse$Heap;", .fieldLink RX10 64 "PolicyHouse$Strings" "texts" "LPolicyHouse$Texts;", .fieldLink RX10 68 "PolicyHouse$Strings" "names" "LPolicyHouse$Names;"] ++ wsX100)
def wsX11_init : List Cond := .code yX11_init cX11_init 2 none :: ([.methodLink RX11 1 objectInit, .instanceMethod objectInit, .code objectInit ⟨#[0xb1]⟩ 1 none, .fieldLink RX11 7 "PolicyHouse$Texts" "in" "[I", .fieldLink RX11 13 "PolicyHouse$Texts" "to" "I", .fieldLink RX11 17 "PolicyHouse$Texts" "pos" "I", .fieldLink RX11 20 "PolicyHouse$Texts" "wrong" "I", .fieldLink RX11 23 "PolicyHouse$Texts" "stop" "I", .fieldLink RX11 26 "PolicyHouse$Texts" "value" "J", .arrayClass .int, .fieldLink RX11 30 "PolicyHouse$Texts" "buf" "[I", .fieldLink RX11 33 "PolicyHouse$Texts" "size" "I", .fieldLink RX11 38 "PolicyHouse$Texts" "out" "[I", .fieldLink RX11 41 "PolicyHouse$Texts" "stored" "Z", .fieldLink RX11 45 "PolicyHouse$Texts" "packed" "[J", .fieldLink RX11 49 "PolicyHouse$Texts" "length" "I", .fieldLink RX11 52 "PolicyHouse$Texts" "limit" "I", .fieldLink RX11 55 "PolicyHouse$Texts" "over" "Z", .fieldLink RX11 58 "PolicyHouse$Texts" "heap" "LPolicyHouse$Heap;"] ++ wsX110)
def wsX13_bundleOfDraft_r1 : List Cond := [Cond.fieldLink RX13 86 "PolicyHouse" "built" "LPolicyHouse$Bundle;", Cond.fieldLink RX13 46 "PolicyHouse" "checker" "LPolicyHouse$Checker;", Cond.fieldLink RX13 79 "PolicyHouse" "draft" "[LPolicyHouse$Tree;", Cond.fieldLink RX13 83 "PolicyHouse" "drafts" "I", Cond.fieldLink RX13 176 "PolicyHouse$Bundle" "kind" "I", Cond.fieldLink RX13 55 "PolicyHouse" "coder" "LPolicyHouse$Coder;", Cond.methodLink RX13 172 yX2_bundle, Cond.instanceMethod yX2_bundle, Cond.selects RX2 yX2_bundle yX2_bundle, Cond.initialized RX2, Cond.code yX2_bundle cX2_bundle 4 (some (.object "PolicyHouse$Bundle")), Cond.classLink RX2 63 RX1, Cond.instantiable RX1 16, Cond.initialized RX1, Cond.fieldLink RX2 59 "PolicyHouse$Checker" "names" "LPolicyHouse$Names;", Cond.fieldLink RX2 65 "PolicyHouse$Names" "nodes" "I", Cond.fieldLink RX2 7 "PolicyHouse$Checker" "b" "LPolicyHouse$Bundle;", Cond.fieldLink RX2 79 "PolicyHouse$Bundle" "parts" "I", Cond.fieldLink RX2 82 "PolicyHouse$Bundle" "kind" "I", Cond.fieldLink RX2 40 "PolicyHouse$Checker" "badKind" "I", Cond.fieldLink RX2 17 "PolicyHouse$Checker" "module" "I", Cond.fieldLink RX2 43 "PolicyHouse$Checker" "badPlace" "I", Cond.methodLink RX2 70 yX1_init, Cond.instanceMethod yX1_init]
def wsX13_bundleOfDraft_r2 : List Cond := [Cond.code yX1_init cX1_init 6 none, Cond.methodLink RX1 3 objectInit, Cond.instanceMethod objectInit, Cond.code objectInit ⟨#[0xb1]⟩ 1 none, Cond.fieldLink RX1 9 "PolicyHouse$Bundle" "rules" "I", Cond.fieldLink RX1 15 "PolicyHouse$Bundle" "parts" "I", Cond.fieldLink RX1 18 "PolicyHouse$Bundle" "words" "I", Cond.fieldLink RX1 21 "PolicyHouse$Bundle" "reads" "[I", Cond.fieldLink RX1 25 "PolicyHouse$Bundle" "rank" "[I", Cond.fieldLink RX1 28 "PolicyHouse$Bundle" "branch" "[I", Cond.fieldLink RX1 31 "PolicyHouse$Bundle" "code" "[I", Cond.fieldLink RX1 34 "PolicyHouse$Bundle" "kind" "I", Cond.fieldLink RX1 37 "PolicyHouse$Bundle" "module" "I", Cond.fieldLink RX1 40 "PolicyHouse$Bundle" "place" "I", Cond.classLink RX1 43 RX12, Cond.fieldLink RX1 45 "PolicyHouse$Bundle" "mods" "[LPolicyHouse$Tree;", Cond.fieldLink RX1 49 "PolicyHouse$Tree" "rules" "I", Cond.fieldLink RX1 50 "PolicyHouse$Bundle" "count" "I", Cond.arrayClass .int, Cond.fieldLink RX1 53 "PolicyHouse$Bundle" "rule" "[I", Cond.fieldLink RX1 56 "PolicyHouse$Bundle" "part" "[I", Cond.fieldLink RX1 59 "PolicyHouse$Bundle" "nodeRule" "[I", Cond.fieldLink RX1 62 "PolicyHouse$Bundle" "inner" "[I", Cond.methodLink RX2 73 yX2_gather]
def wsX13_bundleOfDraft_r3 : List Cond := [Cond.instanceMethod yX2_gather, Cond.selects RX2 yX2_gather yX2_gather, Cond.code yX2_gather cX2_gather 4 none, Cond.fieldLink RX2 99 "PolicyHouse$Bundle" "count" "I", Cond.fieldLink RX2 100 "PolicyHouse$Bundle" "mods" "[LPolicyHouse$Tree;", Cond.fieldLink RX2 104 "PolicyHouse$Tree" "pack" "I", Cond.fieldLink RX2 109 "PolicyHouse$Bundle" "inner" "[I", Cond.fieldLink RX2 112 "PolicyHouse$Names" "parent" "[I", Cond.fieldLink RX2 115 "PolicyHouse$Tree" "first" "[I", Cond.fieldLink RX2 118 "PolicyHouse$Tree" "root" "I", Cond.fieldLink RX2 125 "PolicyHouse$Tree" "next" "[I", Cond.fieldLink RX2 128 "PolicyHouse$Bundle" "rules" "I", Cond.fieldLink RX2 131 "PolicyHouse$Bundle" "words" "I", Cond.methodLink RX2 121 yX2_addPart, Cond.instanceMethod yX2_addPart, Cond.selects RX2 yX2_addPart yX2_addPart, Cond.code yX2_addPart cX2_addPart 7 none, Cond.fieldLink RX2 134 "PolicyHouse$Tree" "ref" "[I", Cond.fieldLink RX2 141 "PolicyHouse$Bundle" "part" "[I", Cond.fieldLink RX2 144 "PolicyHouse$Bundle" "nodeRule" "[I", Cond.fieldLink RX2 147 "PolicyHouse$Bundle" "rule" "[I", Cond.fieldLink RX2 154 "PolicyHouse$Tree" "b" "[I", Cond.methodLink RX2 137 yX1_ruleAt, Cond.instanceMethod yX1_ruleAt]
def wsX13_bundleOfDraft_r4 : List Cond := [Cond.selects RX1 yX1_ruleAt yX1_ruleAt, Cond.code yX1_ruleAt cX1_ruleAt 2 (some .int), Cond.methodLink RX2 150 yX1_of, Cond.instanceMethod yX1_of, Cond.selects RX1 yX1_of yX1_of, Cond.code yX1_of cX1_of 3 (some .int), Cond.methodLink RX2 76 yX2_findClash, Cond.instanceMethod yX2_findClash, Cond.selects RX2 yX2_findClash yX2_findClash, Cond.code yX2_findClash cX2_findClash 5 none, Cond.fieldLink RX2 156 "PolicyHouse$Tree" "imports" "I", Cond.fieldLink RX2 163 "PolicyHouse$Tree" "at" "[I", Cond.methodLink RX2 159 yX2_isClash, Cond.instanceMethod yX2_isClash, Cond.selects RX2 yX2_isClash yX2_isClash, Cond.code yX2_isClash cX2_isClash 5 (some .boolean), Cond.fieldLink RX2 170 "PolicyHouse$Tree" "c" "[I", Cond.fieldLink RX2 173 "PolicyHouse$Names" "input" "I", Cond.fieldLink RX2 176 "PolicyHouse$Names" "data" "I", Cond.methodLink RX2 179 yX6_find, Cond.instanceMethod yX6_find, Cond.selects RX6 yX6_find yX6_find, Cond.initialized RX6, Cond.code yX6_find cX6_find 4 (some .int)]
def wsX13_bundleOfDraft_r5 : List Cond := [Cond.fieldLink RX6 19 "PolicyHouse$Names" "child" "[I", Cond.fieldLink RX6 16 "PolicyHouse$Names" "name" "[I", Cond.fieldLink RX6 22 "PolicyHouse$Names" "sibling" "[I", Cond.methodLink RX2 89 yX1_fail, Cond.instanceMethod yX1_fail, Cond.selects RX1 yX1_fail yX1_fail, Cond.code yX1_fail cX1_fail 4 none, Cond.methodLink RX2 166 yX2_isPartClash, Cond.instanceMethod yX2_isPartClash, Cond.selects RX2 yX2_isPartClash yX2_isPartClash, Cond.code yX2_isPartClash cX2_isPartClash 8 (some .boolean), Cond.fieldLink RX2 182 "PolicyHouse$Tree" "a" "[I", Cond.methodLink RX2 185 yX1_isInner, Cond.instanceMethod yX1_isInner, Cond.selects RX1 yX1_isInner yX1_isInner, Cond.code yX1_isInner cX1_isInner 2 (some .boolean), Cond.methodLink RX2 85 yX2_scanPart, Cond.instanceMethod yX2_scanPart, Cond.selects RX2 yX2_scanPart yX2_scanPart, Cond.code yX2_scanPart cX2_scanPart 5 none, Cond.fieldLink RX2 13 "PolicyHouse$Checker" "t" "LPolicyHouse$Tree;", Cond.fieldLink RX2 193 "PolicyHouse$Tree" "kind" "[I", Cond.fieldLink RX2 207 "PolicyHouse$Tree" "res" "[I", Cond.methodLink RX2 189 yX2_begin]
def wsX13_bundleOfDraft_r6 : List Cond := [Cond.instanceMethod yX2_begin, Cond.selects RX2 yX2_begin yX2_begin, Cond.code yX2_begin cX2_begin 3 none, Cond.fieldLink RX2 31 "PolicyHouse$Checker" "count" "I", Cond.fieldLink RX2 37 "PolicyHouse$Checker" "scopes" "I", Cond.fieldLink RX2 34 "PolicyHouse$Checker" "around" "[I", Cond.methodLink RX2 195 yX2_newScope, Cond.instanceMethod yX2_newScope, Cond.selects RX2 yX2_newScope yX2_newScope, Cond.code yX2_newScope cX2_newScope 4 (some .int), Cond.methodLink RX2 198 yX2_declareAll, Cond.instanceMethod yX2_declareAll, Cond.selects RX2 yX2_declareAll yX2_declareAll, Cond.code yX2_declareAll cX2_declareAll 4 none, Cond.methodLink RX2 219 yX2_declare, Cond.instanceMethod yX2_declare, Cond.selects RX2 yX2_declare yX2_declare, Cond.code yX2_declare cX2_declare 6 none, Cond.methodLink RX2 222 yX2_addVariable, Cond.instanceMethod yX2_addVariable, Cond.selects RX2 yX2_addVariable yX2_addVariable, Cond.code yX2_addVariable cX2_addVariable 3 none, Cond.fieldLink RX2 21 "PolicyHouse$Checker" "declared" "[I", Cond.fieldLink RX2 25 "PolicyHouse$Checker" "scopeOf" "[I"]
def wsX13_bundleOfDraft_r7 : List Cond := [Cond.fieldLink RX2 28 "PolicyHouse$Checker" "placeOf" "[I", Cond.methodLink RX2 225 yX2_declareEvery, Cond.instanceMethod yX2_declareEvery, Cond.selects RX2 yX2_declareEvery yX2_declareEvery, Cond.methodLink RX2 228 yX12_isComprehension, Cond.instanceMethod yX12_isComprehension, Cond.selects RX12 yX12_isComprehension yX12_isComprehension, Cond.initialized RX12, Cond.code yX12_isComprehension cX12_isComprehension 2 (some .boolean), Cond.fieldLink RX12 25 "PolicyHouse$Tree" "kind" "[I", Cond.methodLink RX2 201 yX2_declarePattern, Cond.instanceMethod yX2_declarePattern, Cond.selects RX2 yX2_declarePattern yX2_declarePattern, Cond.code yX2_declareEvery cX2_declareEvery 5 none, Cond.code yX2_declarePattern cX2_declarePattern 3 none, Cond.instanceMethod yX12_isPattern, Cond.selects RX12 yX12_isPattern yX12_isPattern, Cond.code yX12_isPattern cX12_isPattern 3 (some .boolean), Cond.fieldLink RX12 41 "PolicyHouse$Tree" "first" "[I", Cond.fieldLink RX12 44 "PolicyHouse$Tree" "next" "[I", Cond.methodLink RX12 60 yX12_isPattern, Cond.methodLink RX12 56 yX12_isConstant, Cond.instanceMethod yX12_isConstant, Cond.selects RX12 yX12_isConstant yX12_isConstant]
def wsX13_bundleOfDraft_r8 : List Cond := [Cond.code yX12_isConstant cX12_isConstant 3 (some .boolean), Cond.methodLink RX2 234 yX2_addPattern, Cond.instanceMethod yX2_addPattern, Cond.selects RX2 yX2_addPattern yX2_addPattern, Cond.code yX2_addPattern cX2_addPattern 4 none, Cond.fieldLink RX2 240 "PolicyHouse$Names" "blank" "I", Cond.methodLink RX2 237 yX2_report, Cond.instanceMethod yX2_report, Cond.selects RX2 yX2_report yX2_report, Cond.code yX2_report cX2_report 4 none, Cond.methodLink RX2 204 yX2_checkDeclared, Cond.instanceMethod yX2_checkDeclared, Cond.selects RX2 yX2_checkDeclared yX2_checkDeclared, Cond.code yX2_checkDeclared cX2_checkDeclared 5 none, Cond.methodLink RX2 243 yX2_aliasOf, Cond.instanceMethod yX2_aliasOf, Cond.selects RX2 yX2_aliasOf yX2_aliasOf, Cond.code yX2_aliasOf cX2_aliasOf 3 (some .int), Cond.methodLink RX2 246 yX2_ruleOf, Cond.instanceMethod yX2_ruleOf, Cond.selects RX2 yX2_ruleOf yX2_ruleOf, Cond.code yX2_ruleOf cX2_ruleOf 2 (some .int), Cond.methodLink RX2 249 yX2_isAround, Cond.instanceMethod yX2_isAround]
def wsX13_bundleOfDraft_r9 : List Cond := [Cond.selects RX2 yX2_isAround yX2_isAround, Cond.code yX2_isAround cX2_isAround 5 (some .boolean), Cond.methodLink RX2 210 yX2_resolveAll, Cond.instanceMethod yX2_resolveAll, Cond.selects RX2 yX2_resolveAll yX2_resolveAll, Cond.code yX2_resolveAll cX2_resolveAll 4 none, Cond.methodLink RX2 253 yX2_resolve, Cond.instanceMethod yX2_resolve, Cond.selects RX2 yX2_resolve yX2_resolve, Cond.code yX2_resolve cX2_resolve 6 none, Cond.methodLink RX2 256 yX2_resolveName, Cond.instanceMethod yX2_resolveName, Cond.selects RX2 yX2_resolveName yX2_resolveName, Cond.code yX2_resolveName cX2_resolveName 7 none, Cond.methodLink RX2 274 yX2_variable, Cond.instanceMethod yX2_variable, Cond.selects RX2 yX2_variable yX2_variable, Cond.code yX2_variable cX2_variable 4 (some .int), Cond.methodLink RX2 259 yX2_resolveStep, Cond.instanceMethod yX2_resolveStep, Cond.selects RX2 yX2_resolveStep yX2_resolveStep, Cond.methodLink RX2 262 yX2_resolveSide, Cond.instanceMethod yX2_resolveSide, Cond.selects RX2 yX2_resolveSide yX2_resolveSide]
def wsX13_bundleOfDraft_r10 : List Cond := [Cond.methodLink RX2 213 yX2_resolvePattern, Cond.instanceMethod yX2_resolvePattern, Cond.selects RX2 yX2_resolvePattern yX2_resolvePattern, Cond.methodLink RX2 265 yX2_resolveCall, Cond.instanceMethod yX2_resolveCall, Cond.selects RX2 yX2_resolveCall yX2_resolveCall, Cond.code yX2_resolveCall cX2_resolveCall 7 none, Cond.fieldLink RX2 280 "PolicyHouse$Names" "builtin" "[I", Cond.fieldLink RX2 283 "PolicyHouse$Names" "arity" "[I", Cond.methodLink RX2 277 yX2_functionOf, Cond.instanceMethod yX2_functionOf, Cond.selects RX2 yX2_functionOf yX2_functionOf, Cond.code yX2_functionOf cX2_functionOf 6 (some .int), Cond.methodLink RX2 268 yX2_isBadTarget, Cond.instanceMethod yX2_isBadTarget, Cond.selects RX2 yX2_isBadTarget yX2_isBadTarget, Cond.code yX2_isBadTarget cX2_isBadTarget 3 (some .boolean), Cond.code yX2_resolvePattern cX2_resolvePattern 3 none, Cond.code yX2_resolveSide cX2_resolveSide 4 none, Cond.methodLink RX2 271 yX12_isName, Cond.instanceMethod yX12_isName, Cond.selects RX12 yX12_isName yX12_isName, Cond.code yX12_isName cX12_isName 3 (some .boolean), Cond.fieldLink RX12 32 "PolicyHouse$Tree" "a" "[I"]
def wsX13_bundleOfDraft_r11 : List Cond := [Cond.code yX2_resolveStep cX2_resolveStep 3 none, Cond.methodLink RX2 93 yX2_findReads, Cond.instanceMethod yX2_findReads, Cond.selects RX2 yX2_findReads yX2_findReads, Cond.code yX2_findReads cX2_findReads 4 none, Cond.fieldLink RX2 306 "PolicyHouse$Bundle" "reads" "[I", Cond.fieldLink RX2 46 "PolicyHouse$Checker" "bits" "[I", Cond.fieldLink RX2 49 "PolicyHouse$Checker" "direct" "[I", Cond.fieldLink RX2 52 "PolicyHouse$Checker" "all" "[I", Cond.methodLink RX2 309 yX2_readRule, Cond.instanceMethod yX2_readRule, Cond.selects RX2 yX2_readRule yX2_readRule, Cond.code yX2_readRule cX2_readRule 4 none, Cond.methodLink RX2 324 yX2_clearBits, Cond.instanceMethod yX2_clearBits, Cond.selects RX2 yX2_clearBits yX2_clearBits, Cond.code yX2_clearBits cX2_clearBits 2 none, Cond.methodLink RX2 292 yX2_collectAll, Cond.instanceMethod yX2_collectAll, Cond.selects RX2 yX2_collectAll yX2_collectAll, Cond.code yX2_collectAll cX2_collectAll 4 none, Cond.methodLink RX2 296 yX2_collect, Cond.instanceMethod yX2_collect, Cond.selects RX2 yX2_collect yX2_collect]
def wsX13_bundleOfDraft_r12 : List Cond := [Cond.code yX2_collect cX2_collect 6 none, Cond.methodLink RX2 286 yX2_markReference, Cond.instanceMethod yX2_markReference, Cond.selects RX2 yX2_markReference yX2_markReference, Cond.code yX2_markReference cX2_markReference 7 none, Cond.fieldLink RX2 55 "PolicyHouse$Checker" "heap" "LPolicyHouse$Heap;", Cond.methodLink RX2 289 yX2_mark, Cond.instanceMethod yX2_mark, Cond.selects RX2 yX2_mark yX2_mark, Cond.code yX2_mark cX2_mark 2 none, Cond.methodLink RX2 299 yX4_kind, Cond.instanceMethod yX4_kind, Cond.selects RX4 yX4_kind yX4_kind, Cond.initialized RX4, Cond.code yX4_kind cX4_kind 2 (some .int), Cond.fieldLink RX4 10 "PolicyHouse$Heap" "cell" "[I", Cond.methodLink RX2 303 yX6_within, Cond.instanceMethod yX6_within, Cond.selects RX6 yX6_within yX6_within, Cond.code yX6_within cX6_within 5 (some .boolean), Cond.fieldLink RX6 13 "PolicyHouse$Names" "parent" "[I", Cond.methodLink RX2 312 yX2_isSet, Cond.static yX2_isSet, Cond.code yX2_isSet cX2_isSet 3 (some .boolean)]
def wsX13_bundleOfDraft_r13 : List Cond := [Cond.methodLink RX2 316 yJ6_bitCount_0f7a4, Cond.static yJ6_bitCount_0f7a4, Cond.initialized RJ6, Cond.code yJ6_bitCount_0f7a4 cJ6_bitCount_0f7a4 1 (some .int), Cond.constant RJ6 265 (1431655765), Cond.constant RJ6 266 (858993459), Cond.constant RJ6 267 (252645135), Cond.methodLink RX2 321 yX1_failAtRule, Cond.instanceMethod yX1_failAtRule, Cond.selects RX1 yX1_failAtRule yX1_failAtRule, Cond.code yX1_failAtRule cX1_failAtRule 5 none, Cond.fieldLink RX1 69 "PolicyHouse$Tree" "at" "[I", Cond.methodLink RX1 65 yX1_of, Cond.methodLink RX1 72 yX1_fail, Cond.methodLink RX2 96 yX2_findDepth, Cond.instanceMethod yX2_findDepth, Cond.selects RX2 yX2_findDepth yX2_findDepth, Cond.code yX2_findDepth cX2_findDepth 5 none, Cond.fieldLink RX2 327 "PolicyHouse$Bundle" "rank" "[I", Cond.methodLink RX2 330 yX2_rowOf, Cond.instanceMethod yX2_rowOf, Cond.selects RX2 yX2_rowOf yX2_rowOf, Cond.code yX2_rowOf cX2_rowOf 5 (some .int), Cond.methodLink RX2 337 Lib.Math.max.name]
def wsX13_bundleOfDraft_r14 : List Cond := [Cond.static Lib.Math.max.name, Cond.initialized "java/lang/Math", Cond.code Lib.Math.max.name Lib.Math.max.code 2 (some .int), Cond.methodLink RX2 334 yX2_findWiths, Cond.instanceMethod yX2_findWiths, Cond.selects RX2 yX2_findWiths yX2_findWiths, Cond.code yX2_findWiths cX2_findWiths 4 none, Cond.methodLink RX2 342 yX2_withsIn, Cond.instanceMethod yX2_withsIn, Cond.selects RX2 yX2_withsIn yX2_withsIn, Cond.code yX2_withsIn cX2_withsIn 5 (some .int), Cond.methodLink RX13 181 yX3_finish, Cond.instanceMethod yX3_finish, Cond.selects RX3 yX3_finish yX3_finish, Cond.initialized RX3, Cond.code yX3_finish cX3_finish 6 none, Cond.fieldLink RX3 7 "PolicyHouse$Coder" "b" "LPolicyHouse$Bundle;", Cond.fieldLink RX3 62 "PolicyHouse$Bundle" "rules" "I", Cond.fieldLink RX3 67 "PolicyHouse$Bundle" "kind" "I", Cond.fieldLink RX3 38 "PolicyHouse$Coder" "badKind" "I", Cond.fieldLink RX3 58 "PolicyHouse$Coder" "checker" "LPolicyHouse$Checker;", Cond.fieldLink RX3 80 "PolicyHouse$Checker" "t" "LPolicyHouse$Tree;", Cond.fieldLink RX3 13 "PolicyHouse$Coder" "t" "LPolicyHouse$Tree;", Cond.fieldLink RX3 81 "PolicyHouse$Bundle" "part" "[I"]
def wsX13_bundleOfDraft_r15 : List Cond := [Cond.fieldLink RX3 90 "PolicyHouse$Checker" "module" "I", Cond.fieldLink RX3 41 "PolicyHouse$Coder" "badPlace" "I", Cond.methodLink RX3 70 yX1_of, Cond.methodLink RX3 74 yX2_scanPart, Cond.methodLink RX3 84 yX3_checkKinds, Cond.instanceMethod yX3_checkKinds, Cond.selects RX3 yX3_checkKinds yX3_checkKinds, Cond.code yX3_checkKinds cX3_checkKinds 5 none, Cond.fieldLink RX3 102 "PolicyHouse$Tree" "kind" "[I", Cond.fieldLink RX3 104 "PolicyHouse$Tree" "res" "[I", Cond.fieldLink RX3 139 "PolicyHouse$Tree" "ref" "[I", Cond.fieldLink RX3 54 "PolicyHouse$Coder" "names" "LPolicyHouse$Names;", Cond.fieldLink RX3 198 "PolicyHouse$Names" "kinds" "[I", Cond.fieldLink RX3 97 "PolicyHouse$Tree" "first" "[I", Cond.fieldLink RX3 152 "PolicyHouse$Tree" "at" "[I", Cond.fieldLink RX3 111 "PolicyHouse$Tree" "next" "[I", Cond.fieldLink RX3 162 "PolicyHouse$Tree" "b" "[I", Cond.methodLink RX3 208 yJ0_charAt_5068e, Cond.instanceMethod yJ0_charAt_5068e, Cond.selects RJ0 yJ0_charAt_5068e yJ0_charAt_5068e, Cond.initialized RJ0, Cond.code yJ0_charAt_5068e cJ0_charAt_5068e 2 (some .char), Cond.fieldLink RJ0 9 "java/lang/String" "value" "[B", Cond.methodLink RJ0 492 yJ0_isLatin1_aae02]
def wsX13_bundleOfDraft_r16 : List Cond := [Cond.instanceMethod yJ0_isLatin1_aae02, Cond.selects RJ0 yJ0_isLatin1_aae02 yJ0_isLatin1_aae02, Cond.code yJ0_isLatin1_aae02 cJ0_isLatin1_aae02 1 (some .boolean), Cond.fieldLink RJ0 38 "java/lang/String" "COMPACT_STRINGS" "Z", Cond.fieldLink RJ0 15 "java/lang/String" "coder" "B", Cond.methodLink RJ0 495 yJ1_charAt_3b067, Cond.static yJ1_charAt_3b067, Cond.initialized RJ1, Cond.code yJ1_charAt_3b067 cJ1_charAt_3b067 2 (some .char), Cond.methodLink RJ1 9 yJ0_checkIndex_df160, Cond.static yJ0_checkIndex_df160, Cond.code yJ0_checkIndex_df160 cJ0_checkIndex_df160 2 none, Cond.fieldLink RJ0 1053 "jdk/internal/util/Preconditions" "SIOOBE_FORMATTER" "Ljava/util/function/BiFunction;", Cond.methodLink RJ0 1059 yJ3_checkIndex_8e157, Cond.static yJ3_checkIndex_8e157, Cond.initialized RJ3, Cond.code yJ3_checkIndex_8e157 cJ3_checkIndex_8e157 3 (some .int), Cond.methodLink RJ0 498 yJ2_charAt_3b067, Cond.static yJ2_charAt_3b067, Cond.initialized RJ2, Cond.code yJ2_charAt_3b067 cJ2_charAt_3b067 2 (some .char), Cond.methodLink RJ2 67 yJ2_checkIndex_2214a, Cond.static yJ2_checkIndex_2214a, Cond.code yJ2_checkIndex_2214a cJ2_checkIndex_2214a 2 none]
def wsX13_bundleOfDraft_r17 : List Cond := [Cond.methodLink RJ2 48 yJ2_length_9d52b, Cond.static yJ2_length_9d52b, Cond.code yJ2_length_9d52b cJ2_length_9d52b 1 (some .int), Cond.methodLink RJ2 414 yJ0_checkIndex_df160, Cond.methodLink RJ2 71 yJ2_getChar_3b067, Cond.static yJ2_getChar_3b067, Cond.code yJ2_getChar_3b067 cJ2_getChar_3b067 2 (some .char), Cond.fieldLink RJ2 44 "java/lang/StringUTF16" "$assertionsDisabled" "Z", Cond.fieldLink RJ2 59 "java/lang/StringUTF16" "HI_BYTE_SHIFT" "I", Cond.fieldLink RJ2 63 "java/lang/StringUTF16" "LO_BYTE_SHIFT" "I", Cond.methodLink RX3 214 yX3_kindOf, Cond.instanceMethod yX3_kindOf, Cond.selects RX3 yX3_kindOf yX3_kindOf, Cond.code yX3_kindOf cX3_kindOf 3 (some .int), Cond.fieldLink RX3 50 "PolicyHouse$Coder" "heap" "LPolicyHouse$Heap;", Cond.fieldLink RX3 183 "PolicyHouse$Tree" "a" "[I", Cond.methodLink RX3 225 yX4_kind, Cond.methodLink RX3 217 yX3_takes, Cond.static yX3_takes, Cond.code yX3_takes cX3_takes 2 (some .boolean), Cond.methodLink RX3 231 yJ0_indexOf_0f7a4, Cond.instanceMethod yJ0_indexOf_0f7a4, Cond.selects RJ0 yJ0_indexOf_0f7a4 yJ0_indexOf_0f7a4, Cond.code yJ0_indexOf_0f7a4 cJ0_indexOf_0f7a4 2 (some .int)]
def wsX13_bundleOfDraft_r18 : List Cond := [Cond.methodLink RJ0 633 yJ0_indexOf_7cf53, Cond.instanceMethod yJ0_indexOf_7cf53, Cond.selects RJ0 yJ0_indexOf_7cf53 yJ0_indexOf_7cf53, Cond.code yJ0_indexOf_7cf53 cJ0_indexOf_7cf53 3 (some .int), Cond.methodLink RJ0 505 yJ0_length_8abf5, Cond.instanceMethod yJ0_length_8abf5, Cond.selects RJ0 yJ0_length_8abf5 yJ0_length_8abf5, Cond.code yJ0_length_8abf5 cJ0_length_8abf5 1 (some .int), Cond.methodLink RJ0 335 yJ0_coder_7d493, Cond.instanceMethod yJ0_coder_7d493, Cond.selects RJ0 yJ0_coder_7d493 yJ0_coder_7d493, Cond.code yJ0_coder_7d493 cJ0_coder_7d493 1 (some .byte), Cond.methodLink RJ0 637 yJ1_indexOf_4cfef, Cond.static yJ1_indexOf_4cfef, Cond.code yJ1_indexOf_4cfef cJ1_indexOf_4cfef 4 (some .int), Cond.methodLink RJ1 92 Lib.Math.max.name, Cond.methodLink RJ1 38 Lib.Math.min.name, Cond.static Lib.Math.min.name, Cond.code Lib.Math.min.name Lib.Math.min.code 2 (some .int), Cond.methodLink RJ1 88 yJ1_canEncode_9a6ad, Cond.static yJ1_canEncode_9a6ad, Cond.code yJ1_canEncode_9a6ad cJ1_canEncode_9a6ad 1 (some .boolean), Cond.methodLink RJ1 95 yJ1_indexOfChar_4cfef, Cond.static yJ1_indexOfChar_4cfef]
def wsX13_bundleOfDraft_r19 : List Cond := [Cond.code yJ1_indexOfChar_4cfef cJ1_indexOfChar_4cfef 6 (some .int), Cond.methodLink RJ0 640 yJ2_indexOf_4cfef, Cond.static yJ2_indexOf_4cfef, Cond.code yJ2_indexOf_4cfef cJ2_indexOf_4cfef 4 (some .int), Cond.methodLink RJ2 224 Lib.Math.max.name, Cond.methodLink RJ2 183 Lib.Math.min.name, Cond.constant RJ2 227 (65536), Cond.methodLink RJ2 228 yJ2_indexOfChar_4cfef, Cond.static yJ2_indexOfChar_4cfef, Cond.code yJ2_indexOfChar_4cfef cJ2_indexOfChar_4cfef 4 (some .int), Cond.methodLink RJ2 96 yJ2_checkBoundsBeginEnd_d044e, Cond.static yJ2_checkBoundsBeginEnd_d044e, Cond.code yJ2_checkBoundsBeginEnd_d044e cJ2_checkBoundsBeginEnd_d044e 3 none, Cond.methodLink RJ2 241 yJ0_checkBoundsBeginEnd_23922, Cond.static yJ0_checkBoundsBeginEnd_23922, Cond.code yJ0_checkBoundsBeginEnd_23922 cJ0_checkBoundsBeginEnd_23922 3 none, Cond.methodLink RJ0 1062 yJ3_checkFromToIndex_8c36e, Cond.static yJ3_checkFromToIndex_8c36e, Cond.code yJ3_checkFromToIndex_8c36e cJ3_checkFromToIndex_8c36e 4 (some .int), Cond.methodLink RJ2 244 yJ2_indexOfCharUnsafe_4cfef, Cond.static yJ2_indexOfCharUnsafe_4cfef, Cond.code yJ2_indexOfCharUnsafe_4cfef cJ2_indexOfCharUnsafe_4cfef 5 (some .int), Cond.methodLink RJ2 232 yJ2_indexOfSupplementary_4cfef, Cond.static yJ2_indexOfSupplementary_4cfef]
def wsX13_bundleOfDraft_r20 : List Cond := [Cond.code yJ2_indexOfSupplementary_4cfef cJ2_indexOfSupplementary_4cfef 7 (some .int), Cond.methodLink RJ2 164 yJ11_isValidCodePoint_9a6ad, Cond.static yJ11_isValidCodePoint_9a6ad, Cond.initialized RJ11, Cond.code yJ11_isValidCodePoint_9a6ad cJ11_isValidCodePoint_9a6ad 2 (some .boolean), Cond.methodLink RJ2 157 yJ11_highSurrogate_5068e, Cond.static yJ11_highSurrogate_5068e, Cond.code yJ11_highSurrogate_5068e cJ11_highSurrogate_5068e 1 (some .char), Cond.constant RJ11 110 (55232), Cond.methodLink RJ2 161 yJ11_lowSurrogate_5068e, Cond.static yJ11_lowSurrogate_5068e, Cond.code yJ11_lowSurrogate_5068e cJ11_lowSurrogate_5068e 1 (some .char), Cond.constant RJ11 76 (56320), Cond.methodLink RX3 155 yX3_report, Cond.instanceMethod yX3_report, Cond.selects RX3 yX3_report yX3_report, Cond.code yX3_report cX3_report 3 none, Cond.methodLink RX3 221 yJ0_length_8abf5, Cond.methodLink RX3 87 yX3_arrangePart, Cond.instanceMethod yX3_arrangePart, Cond.selects RX3 yX3_arrangePart yX3_arrangePart, Cond.code yX3_arrangePart cX3_arrangePart 3 none, Cond.methodLink RX3 107 yX3_arrange, Cond.instanceMethod yX3_arrange]
def wsX13_bundleOfDraft_r21 : List Cond := [Cond.selects RX3 yX3_arrange yX3_arrange, Cond.code yX3_arrange cX3_arrange 3 none, Cond.methodLink RX3 132 yX3_bodyOf, Cond.instanceMethod yX3_bodyOf, Cond.selects RX3 yX3_bodyOf yX3_bodyOf, Cond.code yX3_bodyOf cX3_bodyOf 4 (some .int), Cond.methodLink RX3 123 yX3_arrangeBody, Cond.instanceMethod yX3_arrangeBody, Cond.selects RX3 yX3_arrangeBody yX3_arrangeBody, Cond.code yX3_arrangeBody cX3_arrangeBody 8 none, Cond.fieldLink RX3 32 "PolicyHouse$Coder" "known" "I", Cond.fieldLink RX3 35 "PolicyHouse$Coder" "scope" "I", Cond.methodLink RX3 136 yX3_around, Cond.instanceMethod yX3_around, Cond.selects RX3 yX3_around yX3_around, Cond.code yX3_around cX3_around 4 (some .int), Cond.fieldLink RX3 126 "PolicyHouse$Checker" "count" "I", Cond.fieldLink RX3 129 "PolicyHouse$Checker" "scopeOf" "[I", Cond.methodLink RX3 142 yX3_putInOrder, Cond.instanceMethod yX3_putInOrder, Cond.selects RX3 yX3_putInOrder yX3_putInOrder, Cond.code yX3_putInOrder cX3_putInOrder 8 none, Cond.fieldLink RX3 164 "PolicyHouse$Tree" "c" "[I", Cond.fieldLink RX3 167 "PolicyHouse$Tree" "size" "I"]
def wsX13_bundleOfDraft_r22 : List Cond := [Cond.methodLink RX3 171 Lib.Math.max.name, Cond.fieldLink RX3 176 "PolicyHouse$Tree" "last" "[I", Cond.methodLink RX3 168 yX3_isReadyLiteral, Cond.instanceMethod yX3_isReadyLiteral, Cond.selects RX3 yX3_isReadyLiteral yX3_isReadyLiteral, Cond.code yX3_isReadyLiteral cX3_isReadyLiteral 6 (some .boolean), Cond.methodLink RX3 148 yX3_isReady, Cond.instanceMethod yX3_isReady, Cond.selects RX3 yX3_isReady yX3_isReady, Cond.code yX3_isReady cX3_isReady 4 (some .boolean), Cond.methodLink RX3 158 yX12_isComprehension, Cond.methodLink RX3 189 yX3_usedFrom, Cond.instanceMethod yX3_usedFrom, Cond.selects RX3 yX3_usedFrom yX3_usedFrom, Cond.code yX3_usedFrom cX3_usedFrom 6 (some .int), Cond.methodLink RX3 195 yX3_isReadyStep, Cond.instanceMethod yX3_isReadyStep, Cond.selects RX3 yX3_isReadyStep yX3_isReadyStep, Cond.code yX3_isReadyStep cX3_isReadyStep 3 (some .boolean), Cond.methodLink RX3 179 yX3_isReadyUnify, Cond.instanceMethod yX3_isReadyUnify, Cond.selects RX3 yX3_isReadyUnify yX3_isReadyUnify, Cond.code yX3_isReadyUnify cX3_isReadyUnify 5 (some .boolean), Cond.methodLink RX3 192 yX3_isMatching]
def wsX13_bundleOfDraft_r23 : List Cond := [Cond.instanceMethod yX3_isMatching, Cond.selects RX3 yX3_isMatching yX3_isMatching, Cond.code yX3_isMatching cX3_isMatching 3 (some .boolean), Cond.methodLink RX3 186 yX3_patternMask, Cond.instanceMethod yX3_patternMask, Cond.selects RX3 yX3_patternMask yX3_patternMask, Cond.code yX3_patternMask cX3_patternMask 5 (some .int), Cond.methodLink RX3 145 yX3_arrangeWithin, Cond.instanceMethod yX3_arrangeWithin, Cond.selects RX3 yX3_arrangeWithin yX3_arrangeWithin, Cond.code yX3_arrangeWithin cX3_arrangeWithin 4 none, Cond.methodLink RX3 93 yX1_fail, Cond.methodLink RX13 185 yX3_encode, Cond.instanceMethod yX3_encode, Cond.selects RX3 yX3_encode yX3_encode, Cond.code yX3_encode cX3_encode 9 none, Cond.fieldLink RX3 22 "PolicyHouse$Coder" "size" "I", Cond.fieldLink RX3 238 "PolicyHouse$Bundle" "parts" "I", Cond.fieldLink RX3 29 "PolicyHouse$Coder" "owner" "I", Cond.fieldLink RX3 26 "PolicyHouse$Coder" "registers" "I", Cond.fieldLink RX3 257 "PolicyHouse$Bundle" "branch" "[I", Cond.fieldLink RX3 18 "PolicyHouse$Coder" "code" "[I", Cond.fieldLink RX3 259 "PolicyHouse$Bundle" "code" "[I", Cond.methodLink RX3 241 yX3_match]
def wsX13_bundleOfDraft_r24 : List Cond := [Cond.instanceMethod yX3_match, Cond.selects RX3 yX3_match yX3_match, Cond.code yX3_match cX3_match 7 none, Cond.methodLink RX3 272 yX3_putThree, Cond.instanceMethod yX3_putThree, Cond.selects RX3 yX3_putThree yX3_putThree, Cond.code yX3_putThree cX3_putThree 4 none, Cond.methodLink RX3 235 yX3_put, Cond.instanceMethod yX3_put, Cond.selects RX3 yX3_put yX3_put, Cond.code yX3_put cX3_put 2 none, Cond.constant RX3 17 (80000), Cond.constant RX3 234 (79999), Cond.methodLink RX3 284 yX3_registers, Cond.instanceMethod yX3_registers, Cond.selects RX3 yX3_registers yX3_registers, Cond.code yX3_registers cX3_registers 3 (some .int), Cond.methodLink RX3 308 yX3_putFour, Cond.instanceMethod yX3_putFour, Cond.selects RX3 yX3_putFour yX3_putFour, Cond.code yX3_putFour cX3_putFour 5 none, Cond.methodLink RX3 312 yX3_matchObject, Cond.instanceMethod yX3_matchObject, Cond.selects RX3 yX3_matchObject yX3_matchObject]
def wsX13_bundleOfDraft_r25 : List Cond := [Cond.methodLink RX3 263 yX3_expression, Cond.instanceMethod yX3_expression, Cond.selects RX3 yX3_expression yX3_expression, Cond.code yX3_comprehension cX3_comprehension 10 (some .int), Cond.methodLink RX3 269 yX3_literals, Cond.instanceMethod yX3_literals, Cond.selects RX3 yX3_literals yX3_literals, Cond.code yX3_every cX3_every 8 none, Cond.methodLink RX3 266 yX3_putTwo, Cond.instanceMethod yX3_putTwo, Cond.selects RX3 yX3_putTwo yX3_putTwo, Cond.code yX3_putTwo cX3_putTwo 3 none, Cond.code yX3_expression cX3_expression 3 (some .int), Cond.methodLink RX3 315 yX4_tooGreat, Cond.instanceMethod yX4_tooGreat, Cond.selects RX4 yX4_tooGreat yX4_tooGreat, Cond.code yX4_tooGreat cX4_tooGreat 2 (some .boolean), Cond.methodLink RX4 55 yX4_weight, Cond.instanceMethod yX4_weight, Cond.selects RX4 yX4_weight yX4_weight, Cond.code yX4_weight cX4_weight 3 (some .int), Cond.methodLink RX4 58 yX4_depth, Cond.instanceMethod yX4_depth, Cond.selects RX4 yX4_depth yX4_depth]
def wsX13_bundleOfDraft_r26 : List Cond := [Cond.code yX4_depth cX4_depth 2 (some .int), Cond.methodLink RX3 318 yX3_reference, Cond.instanceMethod yX3_reference, Cond.selects RX3 yX3_reference yX3_reference, Cond.methodLink RX3 321 yX3_signs, Cond.instanceMethod yX3_signs, Cond.selects RX3 yX3_signs yX3_signs, Cond.methodLink RX3 324 yX3_row, Cond.instanceMethod yX3_row, Cond.selects RX3 yX3_row yX3_row, Cond.methodLink RX3 328 yX3_comprehension, Cond.instanceMethod yX3_comprehension, Cond.selects RX3 yX3_comprehension yX3_comprehension, Cond.code yX3_literal cX3_literal 7 none, Cond.methodLink RX3 278 yX3_with, Cond.instanceMethod yX3_with, Cond.selects RX3 yX3_with yX3_with, Cond.methodLink RX3 281 yX3_someIn, Cond.instanceMethod yX3_someIn, Cond.selects RX3 yX3_someIn yX3_someIn, Cond.methodLink RX3 286 yX3_every, Cond.instanceMethod yX3_every, Cond.selects RX3 yX3_every yX3_every, Cond.code yX3_literals cX3_literals 3 none]
def wsX13_bundleOfDraft_r27 : List Cond := [Cond.methodLink RX3 275 yX3_literal, Cond.instanceMethod yX3_literal, Cond.selects RX3 yX3_literal yX3_literal, Cond.code yX3_matchObject cX3_matchObject 8 none, Cond.code yX3_reference cX3_reference 8 (some .int), Cond.methodLink RX3 331 yX3_step, Cond.instanceMethod yX3_step, Cond.selects RX3 yX3_step yX3_step, Cond.code yX3_row cX3_row 7 (some .int), Cond.fieldLink RX3 47 "PolicyHouse$Coder" "used" "I", Cond.fieldLink RX3 44 "PolicyHouse$Coder" "ops" "[I", Cond.methodLink RX3 289 yX3_keep, Cond.instanceMethod yX3_keep, Cond.selects RX3 yX3_keep yX3_keep, Cond.code yX3_keep cX3_keep 2 none, Cond.code yX3_signs cX3_signs 5 (some .int), Cond.code yX3_someIn cX3_someIn 6 none, Cond.code yX3_step cX3_step 6 (some .int), Cond.code yX3_with cX3_with 8 (some .int), Cond.fieldLink RX3 302 "PolicyHouse$Bundle" "words" "I", Cond.fieldLink RX3 305 "PolicyHouse$Checker" "bits" "[I", Cond.methodLink RX3 292 yX1_ruleAt, Cond.methodLink RX3 295 yX2_clearBits, Cond.methodLink RX3 244 yX3_branch]
def wsX13_bundleOfDraft_r28 : List Cond := [Cond.instanceMethod yX3_branch, Cond.selects RX3 yX3_branch yX3_branch, Cond.code yX3_branch cX3_branch 8 none, Cond.fieldLink RX3 260 "PolicyHouse$Bundle" "rule" "[I", Cond.methodLink RX3 248 yX3_setFrame, Cond.instanceMethod yX3_setFrame, Cond.selects RX3 yX3_setFrame yX3_setFrame, Cond.code yX3_setFrame cX3_setFrame 3 none, Cond.methodLink RX3 251 yJ7_copyOf_59c91, Cond.static yJ7_copyOf_59c91, Cond.initialized RJ7, Cond.code yJ7_copyOf_59c91 cJ7_copyOf_59c91 3 (some (.array .int)), Cond.methodLink RJ7 316 ⟨"[I", "clone", "()Ljava/lang/Object;"⟩, Cond.sameMethod "[I" "java/lang/Object" "clone" "()Ljava/lang/Object;", Cond.native ⟨"java/lang/Object", "clone", "()Ljava/lang/Object;"⟩, Cond.instanceMethod ⟨"java/lang/Object", "clone", "()Ljava/lang/Object;"⟩, Cond.selects "[I" ⟨"[I", "clone", "()Ljava/lang/Object;"⟩ ⟨"java/lang/Object", "clone", "()Ljava/lang/Object;"⟩, Cond.classLink RJ7 317 "[I", Cond.methodLink RJ7 304 Lib.Math.min.name, Cond.methodLink RJ7 150 arraycopyName, Cond.native arraycopyName, Cond.static arraycopyName, Cond.initialized "java/lang/System"]
def wsX13_bundleOfDraft : List Cond := .code yX13_bundleOfDraft cX13_bundleOfDraft 2 (some (.object "PolicyHouse$Bundle")) :: ((wsX13_bundleOfDraft_r1 ++ (wsX13_bundleOfDraft_r2 ++ (wsX13_bundleOfDraft_r3 ++ (wsX13_bundleOfDraft_r4 ++ (wsX13_bundleOfDraft_r5 ++ (wsX13_bundleOfDraft_r6 ++ (wsX13_bundleOfDraft_r7 ++ (wsX13_bundleOfDraft_r8 ++ (wsX13_bundleOfDraft_r9 ++ (wsX13_bundleOfDraft_r10 ++ (wsX13_bundleOfDraft_r11 ++ (wsX13_bundleOfDraft_r12 ++ (wsX13_bundleOfDraft_r13 ++ (wsX13_bundleOfDraft_r14 ++ (wsX13_bundleOfDraft_r15 ++ (wsX13_bundleOfDraft_r16 ++ (wsX13_bundleOfDraft_r17 ++ (wsX13_bundleOfDraft_r18 ++ (wsX13_bundleOfDraft_r19 ++ (wsX13_bundleOfDraft_r20 ++ (wsX13_bundleOfDraft_r21 ++ (wsX13_bundleOfDraft_r22 ++ (wsX13_bundleOfDraft_r23 ++ (wsX13_bundleOfDraft_r24 ++ (wsX13_bundleOfDraft_r25 ++ (wsX13_bundleOfDraft_r26 ++ (wsX13_bundleOfDraft_r27 ++ wsX13_bundleOfDraft_r28))))))))))))))))))))))))))) ++ wsX130 ++ wsX10 ++ wsX20 ++ wsX60 ++ wsX120 ++ wsX40 ++ wsX30)
def wsX13_init_r1 : List Cond := [Cond.methodLink RX13 1 objectInit, Cond.instanceMethod objectInit, Cond.code objectInit ⟨#[0xb1]⟩ 1 none, Cond.classLink RX13 7 RX4, Cond.instantiable RX4 8, Cond.initialized RX4, Cond.fieldLink RX13 10 "PolicyHouse" "heap" "LPolicyHouse$Heap;", Cond.classLink RX13 16 RX11, Cond.instantiable RX11 15, Cond.initialized RX11, Cond.fieldLink RX13 21 "PolicyHouse" "texts" "LPolicyHouse$Texts;", Cond.classLink RX13 25 RX6, Cond.instantiable RX6 16, Cond.initialized RX6, Cond.fieldLink RX13 28 "PolicyHouse" "names" "LPolicyHouse$Names;", Cond.classLink RX13 32 RX8, Cond.instantiable RX8 15, Cond.initialized RX8, Cond.fieldLink RX13 37 "PolicyHouse" "reader" "LPolicyHouse$Reader;", Cond.classLink RX13 41 RX2, Cond.instantiable RX2 16, Cond.initialized RX2, Cond.fieldLink RX13 46 "PolicyHouse" "checker" "LPolicyHouse$Checker;", Cond.classLink RX13 50 RX3]
def wsX13_init_r2 : List Cond := [Cond.instantiable RX3 15, Cond.initialized RX3, Cond.fieldLink RX13 55 "PolicyHouse" "coder" "LPolicyHouse$Coder;", Cond.classLink RX13 59 RX9, Cond.instantiable RX9 16, Cond.initialized RX9, Cond.fieldLink RX13 62 "PolicyHouse" "scopes" "LPolicyHouse$Scopes;", Cond.arrayClass .int, Cond.fieldLink RX13 66 "PolicyHouse" "tape" "[I", Cond.fieldLink RX13 70 "PolicyHouse" "taped" "I", Cond.fieldLink RX13 74 "PolicyHouse" "feeds" "I", Cond.classLink RX13 77 RX12, Cond.fieldLink RX13 79 "PolicyHouse" "draft" "[LPolicyHouse$Tree;", Cond.fieldLink RX13 83 "PolicyHouse" "drafts" "I", Cond.fieldLink RX13 86 "PolicyHouse" "built" "LPolicyHouse$Bundle;", Cond.classLink RX13 90 RX7, Cond.fieldLink RX13 92 "PolicyHouse" "queries" "[LPolicyHouse$Query;", Cond.fieldLink RX13 96 "PolicyHouse" "found" "[I", Cond.fieldLink RX13 99 "PolicyHouse" "input" "I", Cond.fieldLink RX13 102 "PolicyHouse" "ranData" "I", Cond.fieldLink RX13 105 "PolicyHouse" "ranInput" "I", Cond.arrayClass .long, Cond.fieldLink RX13 108 "PolicyHouse" "shown" "[J", Cond.fieldLink RX13 112 "PolicyHouse" "bytes" "I"]
def wsX13_init_r3 : List Cond := [Cond.classLink RX13 115 RX10, Cond.instantiable RX10 19, Cond.initialized RX10, Cond.classLink RX13 118 RX5, Cond.instantiable RX5 19, Cond.initialized RX5, Cond.classLink RX13 120 RX0, Cond.instantiable RX0 9, Cond.initialized RX0, Cond.fieldLink RX13 128 "PolicyHouse" "machine" "LPolicyHouse$Machine;", Cond.fieldLink RX13 140 "PolicyHouse" "data" "I", Cond.constant RX13 143 (258000), Cond.fieldLink RX13 152 "PolicyHouse" "active" "LPolicyHouse$Bundle;", Cond.methodLink RX13 9 yX4_init, Cond.instanceMethod yX4_init, Cond.code yX4_init cX4_init 2 none, Cond.methodLink RX4 1 objectInit, Cond.constant RX4 9 (886000), Cond.fieldLink RX4 10 "PolicyHouse$Heap" "cell" "[I", Cond.constant RX4 14 (90000), Cond.fieldLink RX4 15 "PolicyHouse$Heap" "acc" "[I", Cond.fieldLink RX4 18 "PolicyHouse$Heap" "spare" "[I", Cond.fieldLink RX4 21 "PolicyHouse$Heap" "used" "I", Cond.fieldLink RX4 25 "PolicyHouse$Heap" "kept" "I"]
def wsX13_init_r4 : List Cond := [Cond.constant RX4 28 (258000), Cond.fieldLink RX4 29 "PolicyHouse$Heap" "top" "I", Cond.constant RX4 32 (820000), Cond.fieldLink RX4 33 "PolicyHouse$Heap" "end" "I", Cond.fieldLink RX4 36 "PolicyHouse$Heap" "full" "Z", Cond.methodLink RX4 40 yX4_empty, Cond.static yX4_empty, Cond.code yX4_empty cX4_empty 1 (some .int), Cond.methodLink RX13 18 yX11_init, Cond.instanceMethod yX11_init, Cond.code yX11_init cX11_init 2 none, Cond.methodLink RX11 1 objectInit, Cond.fieldLink RX11 7 "PolicyHouse$Texts" "in" "[I", Cond.fieldLink RX11 13 "PolicyHouse$Texts" "to" "I", Cond.fieldLink RX11 17 "PolicyHouse$Texts" "pos" "I", Cond.fieldLink RX11 20 "PolicyHouse$Texts" "wrong" "I", Cond.fieldLink RX11 23 "PolicyHouse$Texts" "stop" "I", Cond.fieldLink RX11 26 "PolicyHouse$Texts" "value" "J", Cond.fieldLink RX11 30 "PolicyHouse$Texts" "buf" "[I", Cond.fieldLink RX11 33 "PolicyHouse$Texts" "size" "I", Cond.fieldLink RX11 38 "PolicyHouse$Texts" "out" "[I", Cond.fieldLink RX11 41 "PolicyHouse$Texts" "stored" "Z", Cond.fieldLink RX11 45 "PolicyHouse$Texts" "packed" "[J", Cond.fieldLink RX11 49 "PolicyHouse$Texts" "length" "I"]
def wsX13_init_r5 : List Cond := [Cond.fieldLink RX11 52 "PolicyHouse$Texts" "limit" "I", Cond.fieldLink RX11 55 "PolicyHouse$Texts" "over" "Z", Cond.fieldLink RX11 58 "PolicyHouse$Texts" "heap" "LPolicyHouse$Heap;", Cond.methodLink RX13 27 yX6_init, Cond.instanceMethod yX6_init, Cond.code yX6_init cX6_init 6 none, Cond.methodLink RX6 1 objectInit, Cond.fieldLink RX6 9 "PolicyHouse$Names" "table" "[I", Cond.fieldLink RX6 13 "PolicyHouse$Names" "parent" "[I", Cond.fieldLink RX6 16 "PolicyHouse$Names" "name" "[I", Cond.fieldLink RX6 19 "PolicyHouse$Names" "child" "[I", Cond.fieldLink RX6 22 "PolicyHouse$Names" "sibling" "[I", Cond.fieldLink RX6 25 "PolicyHouse$Names" "nodes" "I", Cond.fieldLink RX6 29 "PolicyHouse$Names" "words" "[I", Cond.fieldLink RX6 32 "PolicyHouse$Names" "builtin" "[I", Cond.fieldLink RX6 35 "PolicyHouse$Names" "kinds" "[I", Cond.fieldLink RX6 38 "PolicyHouse$Names" "arity" "[I", Cond.fieldLink RX6 41 "PolicyHouse$Names" "letters" "[I", Cond.fieldLink RX6 44 "PolicyHouse$Names" "heap" "LPolicyHouse$Heap;", Cond.fieldLink RX6 58 "PolicyHouse$Names" "input" "I", Cond.fieldLink RX6 61 "PolicyHouse$Names" "data" "I", Cond.fieldLink RX6 64 "PolicyHouse$Names" "set" "I", Cond.fieldLink RX6 67 "PolicyHouse$Names" "blank" "I", Cond.methodLink RX6 50 yX6_stopOf]
def wsX13_init_r6 : List Cond := [Cond.static yX6_stopOf, Cond.code yX6_stopOf cX6_stopOf 3 (some .int), Cond.methodLink RX6 75 yJ0_length_8abf5, Cond.instanceMethod yJ0_length_8abf5, Cond.selects RJ0 yJ0_length_8abf5 yJ0_length_8abf5, Cond.initialized RJ0, Cond.code yJ0_length_8abf5 cJ0_length_8abf5 1 (some .int), Cond.fieldLink RJ0 9 "java/lang/String" "value" "[B", Cond.methodLink RJ0 335 yJ0_coder_7d493, Cond.instanceMethod yJ0_coder_7d493, Cond.selects RJ0 yJ0_coder_7d493 yJ0_coder_7d493, Cond.code yJ0_coder_7d493 cJ0_coder_7d493 1 (some .byte), Cond.fieldLink RJ0 38 "java/lang/String" "COMPACT_STRINGS" "Z", Cond.fieldLink RJ0 15 "java/lang/String" "coder" "B", Cond.methodLink RX6 81 yJ0_charAt_5068e, Cond.instanceMethod yJ0_charAt_5068e, Cond.selects RJ0 yJ0_charAt_5068e yJ0_charAt_5068e, Cond.code yJ0_charAt_5068e cJ0_charAt_5068e 2 (some .char), Cond.methodLink RJ0 492 yJ0_isLatin1_aae02, Cond.instanceMethod yJ0_isLatin1_aae02, Cond.selects RJ0 yJ0_isLatin1_aae02 yJ0_isLatin1_aae02, Cond.code yJ0_isLatin1_aae02 cJ0_isLatin1_aae02 1 (some .boolean), Cond.methodLink RJ0 495 yJ1_charAt_3b067, Cond.static yJ1_charAt_3b067]
def wsX13_init_r7 : List Cond := [Cond.initialized RJ1, Cond.code yJ1_charAt_3b067 cJ1_charAt_3b067 2 (some .char), Cond.methodLink RJ1 9 yJ0_checkIndex_df160, Cond.static yJ0_checkIndex_df160, Cond.code yJ0_checkIndex_df160 cJ0_checkIndex_df160 2 none, Cond.fieldLink RJ0 1053 "jdk/internal/util/Preconditions" "SIOOBE_FORMATTER" "Ljava/util/function/BiFunction;", Cond.methodLink RJ0 1059 yJ3_checkIndex_8e157, Cond.static yJ3_checkIndex_8e157, Cond.initialized RJ3, Cond.code yJ3_checkIndex_8e157 cJ3_checkIndex_8e157 3 (some .int), Cond.methodLink RJ0 498 yJ2_charAt_3b067, Cond.static yJ2_charAt_3b067, Cond.initialized RJ2, Cond.code yJ2_charAt_3b067 cJ2_charAt_3b067 2 (some .char), Cond.methodLink RJ2 67 yJ2_checkIndex_2214a, Cond.static yJ2_checkIndex_2214a, Cond.code yJ2_checkIndex_2214a cJ2_checkIndex_2214a 2 none, Cond.methodLink RJ2 48 yJ2_length_9d52b, Cond.static yJ2_length_9d52b, Cond.code yJ2_length_9d52b cJ2_length_9d52b 1 (some .int), Cond.methodLink RJ2 414 yJ0_checkIndex_df160, Cond.methodLink RJ2 71 yJ2_getChar_3b067, Cond.static yJ2_getChar_3b067, Cond.code yJ2_getChar_3b067 cJ2_getChar_3b067 2 (some .char)]
def wsX13_init_r8 : List Cond := [Cond.fieldLink RJ2 44 "java/lang/StringUTF16" "$assertionsDisabled" "Z", Cond.fieldLink RJ2 59 "java/lang/StringUTF16" "HI_BYTE_SHIFT" "I", Cond.fieldLink RJ2 63 "java/lang/StringUTF16" "LO_BYTE_SHIFT" "I", Cond.methodLink RX6 54 yX6_symOf, Cond.instanceMethod yX6_symOf, Cond.selects RX6 yX6_symOf yX6_symOf, Cond.code yX6_symOf cX6_symOf 6 (some .int), Cond.methodLink RX6 85 Lib.Math.min.name, Cond.static Lib.Math.min.name, Cond.initialized "java/lang/Math", Cond.code Lib.Math.min.name Lib.Math.min.code 2 (some .int), Cond.methodLink RX6 91 yX6_sym, Cond.instanceMethod yX6_sym, Cond.selects RX6 yX6_sym yX6_sym, Cond.code yX6_sym cX6_sym 8 (some .int), Cond.methodLink RX6 103 yX4_keepString, Cond.instanceMethod yX4_keepString, Cond.selects RX4 yX4_keepString yX4_keepString, Cond.code yX4_keepString cX4_keepString 5 (some .int), Cond.constant RX4 82 (60000), Cond.methodLink RX4 76 arraycopyName, Cond.native arraycopyName, Cond.static arraycopyName, Cond.initialized "java/lang/System"]
def wsX13_init_r9 : List Cond := [Cond.methodLink RX6 106 yX6_same, Cond.instanceMethod yX6_same, Cond.selects RX6 yX6_same yX6_same, Cond.code yX6_same cX6_same 6 (some .boolean), Cond.fieldLink RX6 98 "PolicyHouse$Heap" "cell" "[I", Cond.methodLink RX6 72 yX6_nodeOf, Cond.instanceMethod yX6_nodeOf, Cond.selects RX6 yX6_nodeOf yX6_nodeOf, Cond.code yX6_nodeOf cX6_nodeOf 7 (some .int), Cond.methodLink RX6 95 yX6_node, Cond.instanceMethod yX6_node, Cond.selects RX6 yX6_node yX6_node, Cond.code yX6_node cX6_node 4 (some .int), Cond.methodLink RX6 121 Lib.Math.max.name, Cond.static Lib.Math.max.name, Cond.code Lib.Math.max.name Lib.Math.max.code 2 (some .int), Cond.methodLink RX6 118 yX6_find, Cond.instanceMethod yX6_find, Cond.selects RX6 yX6_find yX6_find, Cond.code yX6_find cX6_find 4 (some .int), Cond.methodLink RX13 34 yX8_init, Cond.instanceMethod yX8_init, Cond.code yX8_init cX8_init 4 none, Cond.methodLink RX8 1 objectInit]
def wsX13_init_r10 : List Cond := [Cond.fieldLink RX8 9 "PolicyHouse$Reader" "sort" "[I", Cond.fieldLink RX8 13 "PolicyHouse$Reader" "place" "[I", Cond.fieldLink RX8 16 "PolicyHouse$Reader" "gap" "[I", Cond.fieldLink RX8 19 "PolicyHouse$Reader" "worth" "[I", Cond.fieldLink RX8 22 "PolicyHouse$Reader" "bad" "I", Cond.fieldLink RX8 26 "PolicyHouse$Reader" "tokens" "I", Cond.fieldLink RX8 29 "PolicyHouse$Reader" "now" "I", Cond.fieldLink RX8 32 "PolicyHouse$Reader" "deep" "I", Cond.fieldLink RX8 35 "PolicyHouse$Reader" "wrong" "I", Cond.fieldLink RX8 38 "PolicyHouse$Reader" "skipped" "I", Cond.fieldLink RX8 41 "PolicyHouse$Reader" "stop" "I", Cond.fieldLink RX8 44 "PolicyHouse$Reader" "tree" "LPolicyHouse$Tree;", Cond.fieldLink RX8 48 "PolicyHouse$Reader" "heap" "LPolicyHouse$Heap;", Cond.fieldLink RX8 52 "PolicyHouse$Reader" "texts" "LPolicyHouse$Texts;", Cond.fieldLink RX8 56 "PolicyHouse$Reader" "names" "LPolicyHouse$Names;", Cond.methodLink RX13 43 yX2_init, Cond.instanceMethod yX2_init, Cond.code yX2_init cX2_init 3 none, Cond.methodLink RX2 1 objectInit, Cond.fieldLink RX2 7 "PolicyHouse$Checker" "b" "LPolicyHouse$Bundle;", Cond.fieldLink RX2 13 "PolicyHouse$Checker" "t" "LPolicyHouse$Tree;", Cond.fieldLink RX2 17 "PolicyHouse$Checker" "module" "I", Cond.fieldLink RX2 21 "PolicyHouse$Checker" "declared" "[I", Cond.fieldLink RX2 25 "PolicyHouse$Checker" "scopeOf" "[I"]
def wsX13_init_r11 : List Cond := [Cond.fieldLink RX2 28 "PolicyHouse$Checker" "placeOf" "[I", Cond.fieldLink RX2 31 "PolicyHouse$Checker" "count" "I", Cond.fieldLink RX2 34 "PolicyHouse$Checker" "around" "[I", Cond.fieldLink RX2 37 "PolicyHouse$Checker" "scopes" "I", Cond.fieldLink RX2 40 "PolicyHouse$Checker" "badKind" "I", Cond.fieldLink RX2 43 "PolicyHouse$Checker" "badPlace" "I", Cond.fieldLink RX2 46 "PolicyHouse$Checker" "bits" "[I", Cond.fieldLink RX2 49 "PolicyHouse$Checker" "direct" "[I", Cond.fieldLink RX2 52 "PolicyHouse$Checker" "all" "[I", Cond.fieldLink RX2 55 "PolicyHouse$Checker" "heap" "LPolicyHouse$Heap;", Cond.fieldLink RX2 59 "PolicyHouse$Checker" "names" "LPolicyHouse$Names;", Cond.methodLink RX13 52 yX3_init, Cond.instanceMethod yX3_init, Cond.code yX3_init cX3_init 4 none, Cond.methodLink RX3 1 objectInit, Cond.fieldLink RX3 7 "PolicyHouse$Coder" "b" "LPolicyHouse$Bundle;", Cond.fieldLink RX3 13 "PolicyHouse$Coder" "t" "LPolicyHouse$Tree;", Cond.constant RX3 17 (80000), Cond.fieldLink RX3 18 "PolicyHouse$Coder" "code" "[I", Cond.fieldLink RX3 22 "PolicyHouse$Coder" "size" "I", Cond.fieldLink RX3 26 "PolicyHouse$Coder" "registers" "I", Cond.fieldLink RX3 29 "PolicyHouse$Coder" "owner" "I", Cond.fieldLink RX3 32 "PolicyHouse$Coder" "known" "I", Cond.fieldLink RX3 35 "PolicyHouse$Coder" "scope" "I"]
def wsX13_init_r12 : List Cond := [Cond.fieldLink RX3 38 "PolicyHouse$Coder" "badKind" "I", Cond.fieldLink RX3 41 "PolicyHouse$Coder" "badPlace" "I", Cond.fieldLink RX3 44 "PolicyHouse$Coder" "ops" "[I", Cond.fieldLink RX3 47 "PolicyHouse$Coder" "used" "I", Cond.fieldLink RX3 50 "PolicyHouse$Coder" "heap" "LPolicyHouse$Heap;", Cond.fieldLink RX3 54 "PolicyHouse$Coder" "names" "LPolicyHouse$Names;", Cond.fieldLink RX3 58 "PolicyHouse$Coder" "checker" "LPolicyHouse$Checker;", Cond.methodLink RX13 61 yX9_init, Cond.instanceMethod yX9_init, Cond.code yX9_init cX9_init 3 none, Cond.methodLink RX9 5 objectInit, Cond.fieldLink RX9 11 "PolicyHouse$Scopes" "bundle" "LPolicyHouse$Bundle;", Cond.fieldLink RX9 15 "PolicyHouse$Scopes" "now" "I", Cond.fieldLink RX9 19 "PolicyHouse$Scopes" "outNode" "I", Cond.fieldLink RX9 22 "PolicyHouse$Scopes" "outValue" "I", Cond.fieldLink RX9 25 "PolicyHouse$Scopes" "path" "[I", Cond.fieldLink RX9 29 "PolicyHouse$Scopes" "need" "[I", Cond.fieldLink RX9 32 "PolicyHouse$Scopes" "fuel" "I", Cond.fieldLink RX9 35 "PolicyHouse$Scopes" "free" "Z", Cond.fieldLink RX9 39 "PolicyHouse$Scopes" "strict" "Z", Cond.fieldLink RX9 42 "PolicyHouse$Scopes" "limit" "Z", Cond.fieldLink RX9 45 "PolicyHouse$Scopes" "notes" "I", Cond.fieldLink RX9 48 "PolicyHouse$Scopes" "leastRule" "I", Cond.fieldLink RX9 51 "PolicyHouse$Scopes" "leastBuiltin" "I"]
def wsX13_init_r13 : List Cond := [Cond.fieldLink RX9 54 "PolicyHouse$Scopes" "tries" "[I", Cond.fieldLink RX9 57 "PolicyHouse$Scopes" "heap" "LPolicyHouse$Heap;", Cond.fieldLink RX9 61 "PolicyHouse$Scopes" "names" "LPolicyHouse$Names;", Cond.methodLink RX13 117 yX10_init, Cond.instanceMethod yX10_init, Cond.code yX10_init cX10_init 4 none, Cond.methodLink RX10 1 objectInit, Cond.fieldLink RX10 7 "PolicyHouse$Strings" "buf" "[I", Cond.fieldLink RX10 13 "PolicyHouse$Strings" "size" "I", Cond.fieldLink RX10 17 "PolicyHouse$Strings" "over" "Z", Cond.fieldLink RX10 21 "PolicyHouse$Strings" "code" "[I", Cond.fieldLink RX10 24 "PolicyHouse$Strings" "jump" "[I", Cond.fieldLink RX10 27 "PolicyHouse$Strings" "mark" "[I", Cond.fieldLink RX10 30 "PolicyHouse$Strings" "here" "[I", Cond.fieldLink RX10 33 "PolicyHouse$Strings" "there" "[I", Cond.fieldLink RX10 36 "PolicyHouse$Strings" "stack" "[I", Cond.fieldLink RX10 39 "PolicyHouse$Strings" "length" "I", Cond.fieldLink RX10 42 "PolicyHouse$Strings" "sets" "[I", Cond.fieldLink RX10 45 "PolicyHouse$Strings" "count" "I", Cond.fieldLink RX10 48 "PolicyHouse$Strings" "pos" "I", Cond.fieldLink RX10 51 "PolicyHouse$Strings" "end" "I", Cond.fieldLink RX10 54 "PolicyHouse$Strings" "bad" "Z", Cond.fieldLink RX10 57 "PolicyHouse$Strings" "threads" "I", Cond.fieldLink RX10 60 "PolicyHouse$Strings" "heap" "LPolicyHouse$Heap;"]
def wsX13_init_r14 : List Cond := [Cond.fieldLink RX10 64 "PolicyHouse$Strings" "texts" "LPolicyHouse$Texts;", Cond.fieldLink RX10 68 "PolicyHouse$Strings" "names" "LPolicyHouse$Names;", Cond.methodLink RX13 122 yX0_init, Cond.instanceMethod yX0_init, Cond.code yX0_init cX0_init 9 none, Cond.methodLink RX0 1 objectInit, Cond.fieldLink RX0 7 "PolicyHouse$Builtins" "arg" "[I", Cond.fieldLink RX0 13 "PolicyHouse$Builtins" "spent" "I", Cond.fieldLink RX0 17 "PolicyHouse$Builtins" "path" "[I", Cond.fieldLink RX0 20 "PolicyHouse$Builtins" "from" "[I", Cond.fieldLink RX0 23 "PolicyHouse$Builtins" "member" "[I", Cond.fieldLink RX0 26 "PolicyHouse$Builtins" "heavy" "I", Cond.fieldLink RX0 29 "PolicyHouse$Builtins" "heap" "LPolicyHouse$Heap;", Cond.fieldLink RX0 33 "PolicyHouse$Builtins" "texts" "LPolicyHouse$Texts;", Cond.fieldLink RX0 37 "PolicyHouse$Builtins" "strings" "LPolicyHouse$Strings;", Cond.methodLink RX0 43 yJ0_charAt_5068e, Cond.methodLink RX0 49 yX6_sym, Cond.methodLink RX13 125 yX5_init, Cond.instanceMethod yX5_init, Cond.code yX5_init cX5_init 4 none, Cond.methodLink RX5 1 objectInit, Cond.fieldLink RX5 7 "PolicyHouse$Machine" "regs" "[I", Cond.constant RX5 13 (58500), Cond.fieldLink RX5 14 "PolicyHouse$Machine" "cp" "[I"]
def wsX13_init_r15 : List Cond := [Cond.fieldLink RX5 17 "PolicyHouse$Machine" "choices" "I", Cond.fieldLink RX5 21 "PolicyHouse$Machine" "pc" "I", Cond.fieldLink RX5 24 "PolicyHouse$Machine" "fp" "I", Cond.fieldLink RX5 27 "PolicyHouse$Machine" "top" "I", Cond.fieldLink RX5 30 "PolicyHouse$Machine" "failing" "Z", Cond.fieldLink RX5 34 "PolicyHouse$Machine" "stopped" "Z", Cond.fieldLink RX5 37 "PolicyHouse$Machine" "pending" "Z", Cond.fieldLink RX5 40 "PolicyHouse$Machine" "bundle" "LPolicyHouse$Bundle;", Cond.fieldLink RX5 44 "PolicyHouse$Machine" "own" "[I", Cond.fieldLink RX5 47 "PolicyHouse$Machine" "c" "[I", Cond.fieldLink RX5 50 "PolicyHouse$Machine" "p" "I", Cond.fieldLink RX5 53 "PolicyHouse$Machine" "scope" "I", Cond.fieldLink RX5 56 "PolicyHouse$Machine" "results" "I", Cond.fieldLink RX5 59 "PolicyHouse$Machine" "fixed" "[I", Cond.fieldLink RX5 62 "PolicyHouse$Machine" "heap" "LPolicyHouse$Heap;", Cond.fieldLink RX5 66 "PolicyHouse$Machine" "scopes" "LPolicyHouse$Scopes;", Cond.fieldLink RX5 70 "PolicyHouse$Machine" "builtins" "LPolicyHouse$Builtins;", Cond.methodLink RX13 132 yX4_made, Cond.instanceMethod yX4_made, Cond.selects RX4 yX4_made yX4_made, Cond.code yX4_made cX4_made 11 (some .int), Cond.constant RX4 104 (4000000), Cond.methodLink RX4 105 Lib.Math.max.name, Cond.methodLink RX4 100 yX4_sort]
def wsX13_init_r16 : List Cond := [Cond.instanceMethod yX4_sort, Cond.selects RX4 yX4_sort yX4_sort, Cond.code yX4_sort cX4_sort 13 none, Cond.methodLink RX4 94 Lib.Math.min.name, Cond.methodLink RX4 99 yX4_compare, Cond.instanceMethod yX4_compare, Cond.selects RX4 yX4_compare yX4_compare, Cond.code yX4_compare cX4_compare 11 (some .int), Cond.constantLong RX4 44 (4294967295), Cond.methodLink RX4 83 yJ6_compare_7cf53, Cond.static yJ6_compare_7cf53, Cond.initialized RJ6, Cond.code yJ6_compare_7cf53 cJ6_compare_7cf53 2 (some .int), Cond.methodLink RX4 89 yJ13_compare_74951, Cond.static yJ13_compare_74951, Cond.initialized RJ13, Cond.code yJ13_compare_74951 cJ13_compare_74951 4 (some .int), Cond.methodLink RX4 55 yX4_weight, Cond.instanceMethod yX4_weight, Cond.selects RX4 yX4_weight yX4_weight, Cond.code yX4_weight cX4_weight 3 (some .int), Cond.methodLink RX4 58 yX4_depth, Cond.instanceMethod yX4_depth, Cond.selects RX4 yX4_depth yX4_depth]
def wsX13_init_r17 : List Cond := [Cond.code yX4_depth cX4_depth 2 (some .int), Cond.methodLink RX4 65 yX4_room, Cond.instanceMethod yX4_room, Cond.selects RX4 yX4_room yX4_room, Cond.code yX4_room cX4_room 3 (some .int), Cond.methodLink RX13 136 yX4_copyTo, Cond.instanceMethod yX4_copyTo, Cond.selects RX4 yX4_copyTo yX4_copyTo, Cond.code yX4_copyTo cX4_copyTo 5 (some .int), Cond.methodLink RX4 116 yX4_copy, Cond.instanceMethod yX4_copy, Cond.selects RX4 yX4_copy yX4_copy, Cond.code yX4_copy cX4_copy 7 (some .int), Cond.methodLink RX4 46 yX4_kind, Cond.instanceMethod yX4_kind, Cond.selects RX4 yX4_kind yX4_kind, Cond.code yX4_kind cX4_kind 2 (some .int), Cond.methodLink RX4 110 yX4_size, Cond.instanceMethod yX4_size, Cond.selects RX4 yX4_size yX4_size, Cond.code yX4_size cX4_size 2 (some .int), Cond.methodLink RX13 144 yX4_reset, Cond.instanceMethod yX4_reset, Cond.selects RX4 yX4_reset yX4_reset]
def wsX13_init_r18 : List Cond := [Cond.code yX4_reset cX4_reset 2 none, Cond.methodLink RX13 148 yX13_bundleOfDraft, Cond.instanceMethod yX13_bundleOfDraft, Cond.selects RX13 yX13_bundleOfDraft yX13_bundleOfDraft, Cond.initialized RX13, Cond.code yX13_bundleOfDraft cX13_bundleOfDraft 2 (some (.object "PolicyHouse$Bundle")), Cond.fieldLink RX13 176 "PolicyHouse$Bundle" "kind" "I", Cond.methodLink RX13 172 yX2_bundle, Cond.instanceMethod yX2_bundle, Cond.selects RX2 yX2_bundle yX2_bundle, Cond.code yX2_bundle cX2_bundle 4 (some (.object "PolicyHouse$Bundle")), Cond.classLink RX2 63 RX1, Cond.instantiable RX1 16, Cond.initialized RX1, Cond.fieldLink RX2 65 "PolicyHouse$Names" "nodes" "I", Cond.fieldLink RX2 79 "PolicyHouse$Bundle" "parts" "I", Cond.fieldLink RX2 82 "PolicyHouse$Bundle" "kind" "I", Cond.methodLink RX2 70 yX1_init, Cond.instanceMethod yX1_init, Cond.code yX1_init cX1_init 6 none, Cond.methodLink RX1 3 objectInit, Cond.fieldLink RX1 9 "PolicyHouse$Bundle" "rules" "I", Cond.fieldLink RX1 15 "PolicyHouse$Bundle" "parts" "I", Cond.fieldLink RX1 18 "PolicyHouse$Bundle" "words" "I"]
def wsX13_init_r19 : List Cond := [Cond.fieldLink RX1 21 "PolicyHouse$Bundle" "reads" "[I", Cond.fieldLink RX1 25 "PolicyHouse$Bundle" "rank" "[I", Cond.fieldLink RX1 28 "PolicyHouse$Bundle" "branch" "[I", Cond.fieldLink RX1 31 "PolicyHouse$Bundle" "code" "[I", Cond.fieldLink RX1 34 "PolicyHouse$Bundle" "kind" "I", Cond.fieldLink RX1 37 "PolicyHouse$Bundle" "module" "I", Cond.fieldLink RX1 40 "PolicyHouse$Bundle" "place" "I", Cond.classLink RX1 43 RX12, Cond.fieldLink RX1 45 "PolicyHouse$Bundle" "mods" "[LPolicyHouse$Tree;", Cond.fieldLink RX1 49 "PolicyHouse$Tree" "rules" "I", Cond.fieldLink RX1 50 "PolicyHouse$Bundle" "count" "I", Cond.fieldLink RX1 53 "PolicyHouse$Bundle" "rule" "[I", Cond.fieldLink RX1 56 "PolicyHouse$Bundle" "part" "[I", Cond.fieldLink RX1 59 "PolicyHouse$Bundle" "nodeRule" "[I", Cond.fieldLink RX1 62 "PolicyHouse$Bundle" "inner" "[I", Cond.methodLink RX2 73 yX2_gather, Cond.instanceMethod yX2_gather, Cond.selects RX2 yX2_gather yX2_gather, Cond.code yX2_gather cX2_gather 4 none, Cond.fieldLink RX2 99 "PolicyHouse$Bundle" "count" "I", Cond.fieldLink RX2 100 "PolicyHouse$Bundle" "mods" "[LPolicyHouse$Tree;", Cond.fieldLink RX2 104 "PolicyHouse$Tree" "pack" "I", Cond.fieldLink RX2 109 "PolicyHouse$Bundle" "inner" "[I", Cond.fieldLink RX2 112 "PolicyHouse$Names" "parent" "[I"]
def wsX13_init_r20 : List Cond := [Cond.fieldLink RX2 115 "PolicyHouse$Tree" "first" "[I", Cond.fieldLink RX2 118 "PolicyHouse$Tree" "root" "I", Cond.fieldLink RX2 125 "PolicyHouse$Tree" "next" "[I", Cond.fieldLink RX2 128 "PolicyHouse$Bundle" "rules" "I", Cond.fieldLink RX2 131 "PolicyHouse$Bundle" "words" "I", Cond.methodLink RX2 121 yX2_addPart, Cond.instanceMethod yX2_addPart, Cond.selects RX2 yX2_addPart yX2_addPart, Cond.code yX2_addPart cX2_addPart 7 none, Cond.fieldLink RX2 134 "PolicyHouse$Tree" "ref" "[I", Cond.fieldLink RX2 141 "PolicyHouse$Bundle" "part" "[I", Cond.fieldLink RX2 144 "PolicyHouse$Bundle" "nodeRule" "[I", Cond.fieldLink RX2 147 "PolicyHouse$Bundle" "rule" "[I", Cond.fieldLink RX2 154 "PolicyHouse$Tree" "b" "[I", Cond.methodLink RX2 137 yX1_ruleAt, Cond.instanceMethod yX1_ruleAt, Cond.selects RX1 yX1_ruleAt yX1_ruleAt, Cond.code yX1_ruleAt cX1_ruleAt 2 (some .int), Cond.methodLink RX2 150 yX1_of, Cond.instanceMethod yX1_of, Cond.selects RX1 yX1_of yX1_of, Cond.code yX1_of cX1_of 3 (some .int), Cond.methodLink RX2 76 yX2_findClash, Cond.instanceMethod yX2_findClash]
def wsX13_init_r21 : List Cond := [Cond.selects RX2 yX2_findClash yX2_findClash, Cond.code yX2_findClash cX2_findClash 5 none, Cond.fieldLink RX2 156 "PolicyHouse$Tree" "imports" "I", Cond.fieldLink RX2 163 "PolicyHouse$Tree" "at" "[I", Cond.methodLink RX2 159 yX2_isClash, Cond.instanceMethod yX2_isClash, Cond.selects RX2 yX2_isClash yX2_isClash, Cond.code yX2_isClash cX2_isClash 5 (some .boolean), Cond.fieldLink RX2 170 "PolicyHouse$Tree" "c" "[I", Cond.fieldLink RX2 173 "PolicyHouse$Names" "input" "I", Cond.fieldLink RX2 176 "PolicyHouse$Names" "data" "I", Cond.methodLink RX2 179 yX6_find, Cond.methodLink RX2 89 yX1_fail, Cond.instanceMethod yX1_fail, Cond.selects RX1 yX1_fail yX1_fail, Cond.code yX1_fail cX1_fail 4 none, Cond.methodLink RX2 166 yX2_isPartClash, Cond.instanceMethod yX2_isPartClash, Cond.selects RX2 yX2_isPartClash yX2_isPartClash, Cond.code yX2_isPartClash cX2_isPartClash 8 (some .boolean), Cond.fieldLink RX2 182 "PolicyHouse$Tree" "a" "[I", Cond.methodLink RX2 185 yX1_isInner, Cond.instanceMethod yX1_isInner, Cond.selects RX1 yX1_isInner yX1_isInner]
def wsX13_init_r22 : List Cond := [Cond.code yX1_isInner cX1_isInner 2 (some .boolean), Cond.methodLink RX2 85 yX2_scanPart, Cond.instanceMethod yX2_scanPart, Cond.selects RX2 yX2_scanPart yX2_scanPart, Cond.code yX2_scanPart cX2_scanPart 5 none, Cond.fieldLink RX2 193 "PolicyHouse$Tree" "kind" "[I", Cond.fieldLink RX2 207 "PolicyHouse$Tree" "res" "[I", Cond.methodLink RX2 189 yX2_begin, Cond.instanceMethod yX2_begin, Cond.selects RX2 yX2_begin yX2_begin, Cond.code yX2_begin cX2_begin 3 none, Cond.methodLink RX2 195 yX2_newScope, Cond.instanceMethod yX2_newScope, Cond.selects RX2 yX2_newScope yX2_newScope, Cond.code yX2_newScope cX2_newScope 4 (some .int), Cond.methodLink RX2 198 yX2_declareAll, Cond.instanceMethod yX2_declareAll, Cond.selects RX2 yX2_declareAll yX2_declareAll, Cond.code yX2_declareAll cX2_declareAll 4 none, Cond.methodLink RX2 219 yX2_declare, Cond.instanceMethod yX2_declare, Cond.selects RX2 yX2_declare yX2_declare, Cond.code yX2_declare cX2_declare 6 none, Cond.methodLink RX2 222 yX2_addVariable]
def wsX13_init_r23 : List Cond := [Cond.instanceMethod yX2_addVariable, Cond.selects RX2 yX2_addVariable yX2_addVariable, Cond.code yX2_addVariable cX2_addVariable 3 none, Cond.methodLink RX2 225 yX2_declareEvery, Cond.instanceMethod yX2_declareEvery, Cond.selects RX2 yX2_declareEvery yX2_declareEvery, Cond.methodLink RX2 228 yX12_isComprehension, Cond.instanceMethod yX12_isComprehension, Cond.selects RX12 yX12_isComprehension yX12_isComprehension, Cond.initialized RX12, Cond.code yX12_isComprehension cX12_isComprehension 2 (some .boolean), Cond.fieldLink RX12 25 "PolicyHouse$Tree" "kind" "[I", Cond.methodLink RX2 201 yX2_declarePattern, Cond.instanceMethod yX2_declarePattern, Cond.selects RX2 yX2_declarePattern yX2_declarePattern, Cond.code yX2_declareEvery cX2_declareEvery 5 none, Cond.code yX2_declarePattern cX2_declarePattern 3 none, Cond.instanceMethod yX12_isPattern, Cond.selects RX12 yX12_isPattern yX12_isPattern, Cond.code yX12_isPattern cX12_isPattern 3 (some .boolean), Cond.fieldLink RX12 41 "PolicyHouse$Tree" "first" "[I", Cond.fieldLink RX12 44 "PolicyHouse$Tree" "next" "[I", Cond.methodLink RX12 60 yX12_isPattern, Cond.methodLink RX12 56 yX12_isConstant]
def wsX13_init_r24 : List Cond := [Cond.instanceMethod yX12_isConstant, Cond.selects RX12 yX12_isConstant yX12_isConstant, Cond.code yX12_isConstant cX12_isConstant 3 (some .boolean), Cond.methodLink RX2 234 yX2_addPattern, Cond.instanceMethod yX2_addPattern, Cond.selects RX2 yX2_addPattern yX2_addPattern, Cond.code yX2_addPattern cX2_addPattern 4 none, Cond.fieldLink RX2 240 "PolicyHouse$Names" "blank" "I", Cond.methodLink RX2 237 yX2_report, Cond.instanceMethod yX2_report, Cond.selects RX2 yX2_report yX2_report, Cond.code yX2_report cX2_report 4 none, Cond.methodLink RX2 204 yX2_checkDeclared, Cond.instanceMethod yX2_checkDeclared, Cond.selects RX2 yX2_checkDeclared yX2_checkDeclared, Cond.code yX2_checkDeclared cX2_checkDeclared 5 none, Cond.methodLink RX2 243 yX2_aliasOf, Cond.instanceMethod yX2_aliasOf, Cond.selects RX2 yX2_aliasOf yX2_aliasOf, Cond.code yX2_aliasOf cX2_aliasOf 3 (some .int), Cond.methodLink RX2 246 yX2_ruleOf, Cond.instanceMethod yX2_ruleOf, Cond.selects RX2 yX2_ruleOf yX2_ruleOf, Cond.code yX2_ruleOf cX2_ruleOf 2 (some .int)]
def wsX13_init_r25 : List Cond := [Cond.methodLink RX2 249 yX2_isAround, Cond.instanceMethod yX2_isAround, Cond.selects RX2 yX2_isAround yX2_isAround, Cond.code yX2_isAround cX2_isAround 5 (some .boolean), Cond.methodLink RX2 210 yX2_resolveAll, Cond.instanceMethod yX2_resolveAll, Cond.selects RX2 yX2_resolveAll yX2_resolveAll, Cond.code yX2_resolveAll cX2_resolveAll 4 none, Cond.methodLink RX2 253 yX2_resolve, Cond.instanceMethod yX2_resolve, Cond.selects RX2 yX2_resolve yX2_resolve, Cond.code yX2_resolve cX2_resolve 6 none, Cond.methodLink RX2 256 yX2_resolveName, Cond.instanceMethod yX2_resolveName, Cond.selects RX2 yX2_resolveName yX2_resolveName, Cond.code yX2_resolveName cX2_resolveName 7 none, Cond.methodLink RX2 274 yX2_variable, Cond.instanceMethod yX2_variable, Cond.selects RX2 yX2_variable yX2_variable, Cond.code yX2_variable cX2_variable 4 (some .int), Cond.methodLink RX2 259 yX2_resolveStep, Cond.instanceMethod yX2_resolveStep, Cond.selects RX2 yX2_resolveStep yX2_resolveStep, Cond.methodLink RX2 262 yX2_resolveSide]
def wsX13_init_r26 : List Cond := [Cond.instanceMethod yX2_resolveSide, Cond.selects RX2 yX2_resolveSide yX2_resolveSide, Cond.methodLink RX2 213 yX2_resolvePattern, Cond.instanceMethod yX2_resolvePattern, Cond.selects RX2 yX2_resolvePattern yX2_resolvePattern, Cond.methodLink RX2 265 yX2_resolveCall, Cond.instanceMethod yX2_resolveCall, Cond.selects RX2 yX2_resolveCall yX2_resolveCall, Cond.code yX2_resolveCall cX2_resolveCall 7 none, Cond.fieldLink RX2 280 "PolicyHouse$Names" "builtin" "[I", Cond.fieldLink RX2 283 "PolicyHouse$Names" "arity" "[I", Cond.methodLink RX2 277 yX2_functionOf, Cond.instanceMethod yX2_functionOf, Cond.selects RX2 yX2_functionOf yX2_functionOf, Cond.code yX2_functionOf cX2_functionOf 6 (some .int), Cond.methodLink RX2 268 yX2_isBadTarget, Cond.instanceMethod yX2_isBadTarget, Cond.selects RX2 yX2_isBadTarget yX2_isBadTarget, Cond.code yX2_isBadTarget cX2_isBadTarget 3 (some .boolean), Cond.code yX2_resolvePattern cX2_resolvePattern 3 none, Cond.code yX2_resolveSide cX2_resolveSide 4 none, Cond.methodLink RX2 271 yX12_isName, Cond.instanceMethod yX12_isName, Cond.selects RX12 yX12_isName yX12_isName]
def wsX13_init_r27 : List Cond := [Cond.code yX12_isName cX12_isName 3 (some .boolean), Cond.fieldLink RX12 32 "PolicyHouse$Tree" "a" "[I", Cond.code yX2_resolveStep cX2_resolveStep 3 none, Cond.methodLink RX2 93 yX2_findReads, Cond.instanceMethod yX2_findReads, Cond.selects RX2 yX2_findReads yX2_findReads, Cond.code yX2_findReads cX2_findReads 4 none, Cond.fieldLink RX2 306 "PolicyHouse$Bundle" "reads" "[I", Cond.methodLink RX2 309 yX2_readRule, Cond.instanceMethod yX2_readRule, Cond.selects RX2 yX2_readRule yX2_readRule, Cond.code yX2_readRule cX2_readRule 4 none, Cond.methodLink RX2 324 yX2_clearBits, Cond.instanceMethod yX2_clearBits, Cond.selects RX2 yX2_clearBits yX2_clearBits, Cond.code yX2_clearBits cX2_clearBits 2 none, Cond.methodLink RX2 292 yX2_collectAll, Cond.instanceMethod yX2_collectAll, Cond.selects RX2 yX2_collectAll yX2_collectAll, Cond.code yX2_collectAll cX2_collectAll 4 none, Cond.methodLink RX2 296 yX2_collect, Cond.instanceMethod yX2_collect, Cond.selects RX2 yX2_collect yX2_collect, Cond.code yX2_collect cX2_collect 6 none]
def wsX13_init_r28 : List Cond := [Cond.methodLink RX2 286 yX2_markReference, Cond.instanceMethod yX2_markReference, Cond.selects RX2 yX2_markReference yX2_markReference, Cond.code yX2_markReference cX2_markReference 7 none, Cond.methodLink RX2 289 yX2_mark, Cond.instanceMethod yX2_mark, Cond.selects RX2 yX2_mark yX2_mark, Cond.code yX2_mark cX2_mark 2 none, Cond.methodLink RX2 299 yX4_kind, Cond.methodLink RX2 303 yX6_within, Cond.instanceMethod yX6_within, Cond.selects RX6 yX6_within yX6_within, Cond.code yX6_within cX6_within 5 (some .boolean), Cond.methodLink RX2 312 yX2_isSet, Cond.static yX2_isSet, Cond.code yX2_isSet cX2_isSet 3 (some .boolean), Cond.methodLink RX2 316 yJ6_bitCount_0f7a4, Cond.static yJ6_bitCount_0f7a4, Cond.code yJ6_bitCount_0f7a4 cJ6_bitCount_0f7a4 1 (some .int), Cond.constant RJ6 265 (1431655765), Cond.constant RJ6 266 (858993459), Cond.constant RJ6 267 (252645135), Cond.methodLink RX2 321 yX1_failAtRule, Cond.instanceMethod yX1_failAtRule]
def wsX13_init_r29 : List Cond := [Cond.selects RX1 yX1_failAtRule yX1_failAtRule, Cond.code yX1_failAtRule cX1_failAtRule 5 none, Cond.fieldLink RX1 69 "PolicyHouse$Tree" "at" "[I", Cond.methodLink RX1 65 yX1_of, Cond.methodLink RX1 72 yX1_fail, Cond.methodLink RX2 96 yX2_findDepth, Cond.instanceMethod yX2_findDepth, Cond.selects RX2 yX2_findDepth yX2_findDepth, Cond.code yX2_findDepth cX2_findDepth 5 none, Cond.fieldLink RX2 327 "PolicyHouse$Bundle" "rank" "[I", Cond.methodLink RX2 330 yX2_rowOf, Cond.instanceMethod yX2_rowOf, Cond.selects RX2 yX2_rowOf yX2_rowOf, Cond.code yX2_rowOf cX2_rowOf 5 (some .int), Cond.methodLink RX2 337 Lib.Math.max.name, Cond.methodLink RX2 334 yX2_findWiths, Cond.instanceMethod yX2_findWiths, Cond.selects RX2 yX2_findWiths yX2_findWiths, Cond.code yX2_findWiths cX2_findWiths 4 none, Cond.methodLink RX2 342 yX2_withsIn, Cond.instanceMethod yX2_withsIn, Cond.selects RX2 yX2_withsIn yX2_withsIn, Cond.code yX2_withsIn cX2_withsIn 5 (some .int), Cond.methodLink RX13 181 yX3_finish]
def wsX13_init_r30 : List Cond := [Cond.instanceMethod yX3_finish, Cond.selects RX3 yX3_finish yX3_finish, Cond.code yX3_finish cX3_finish 6 none, Cond.fieldLink RX3 62 "PolicyHouse$Bundle" "rules" "I", Cond.fieldLink RX3 67 "PolicyHouse$Bundle" "kind" "I", Cond.fieldLink RX3 80 "PolicyHouse$Checker" "t" "LPolicyHouse$Tree;", Cond.fieldLink RX3 81 "PolicyHouse$Bundle" "part" "[I", Cond.fieldLink RX3 90 "PolicyHouse$Checker" "module" "I", Cond.methodLink RX3 70 yX1_of, Cond.methodLink RX3 74 yX2_scanPart, Cond.methodLink RX3 84 yX3_checkKinds, Cond.instanceMethod yX3_checkKinds, Cond.selects RX3 yX3_checkKinds yX3_checkKinds, Cond.code yX3_checkKinds cX3_checkKinds 5 none, Cond.fieldLink RX3 102 "PolicyHouse$Tree" "kind" "[I", Cond.fieldLink RX3 104 "PolicyHouse$Tree" "res" "[I", Cond.fieldLink RX3 139 "PolicyHouse$Tree" "ref" "[I", Cond.fieldLink RX3 198 "PolicyHouse$Names" "kinds" "[I", Cond.fieldLink RX3 97 "PolicyHouse$Tree" "first" "[I", Cond.fieldLink RX3 152 "PolicyHouse$Tree" "at" "[I", Cond.fieldLink RX3 111 "PolicyHouse$Tree" "next" "[I", Cond.fieldLink RX3 162 "PolicyHouse$Tree" "b" "[I", Cond.methodLink RX3 208 yJ0_charAt_5068e, Cond.methodLink RX3 214 yX3_kindOf]
def wsX13_init_r31 : List Cond := [Cond.instanceMethod yX3_kindOf, Cond.selects RX3 yX3_kindOf yX3_kindOf, Cond.code yX3_kindOf cX3_kindOf 3 (some .int), Cond.fieldLink RX3 183 "PolicyHouse$Tree" "a" "[I", Cond.methodLink RX3 225 yX4_kind, Cond.methodLink RX3 217 yX3_takes, Cond.static yX3_takes, Cond.code yX3_takes cX3_takes 2 (some .boolean), Cond.methodLink RX3 231 yJ0_indexOf_0f7a4, Cond.instanceMethod yJ0_indexOf_0f7a4, Cond.selects RJ0 yJ0_indexOf_0f7a4 yJ0_indexOf_0f7a4, Cond.code yJ0_indexOf_0f7a4 cJ0_indexOf_0f7a4 2 (some .int), Cond.methodLink RJ0 633 yJ0_indexOf_7cf53, Cond.instanceMethod yJ0_indexOf_7cf53, Cond.selects RJ0 yJ0_indexOf_7cf53 yJ0_indexOf_7cf53, Cond.code yJ0_indexOf_7cf53 cJ0_indexOf_7cf53 3 (some .int), Cond.methodLink RJ0 505 yJ0_length_8abf5, Cond.methodLink RJ0 637 yJ1_indexOf_4cfef, Cond.static yJ1_indexOf_4cfef, Cond.code yJ1_indexOf_4cfef cJ1_indexOf_4cfef 4 (some .int), Cond.methodLink RJ1 92 Lib.Math.max.name, Cond.methodLink RJ1 38 Lib.Math.min.name, Cond.methodLink RJ1 88 yJ1_canEncode_9a6ad, Cond.static yJ1_canEncode_9a6ad]
def wsX13_init_r32 : List Cond := [Cond.code yJ1_canEncode_9a6ad cJ1_canEncode_9a6ad 1 (some .boolean), Cond.methodLink RJ1 95 yJ1_indexOfChar_4cfef, Cond.static yJ1_indexOfChar_4cfef, Cond.code yJ1_indexOfChar_4cfef cJ1_indexOfChar_4cfef 6 (some .int), Cond.methodLink RJ0 640 yJ2_indexOf_4cfef, Cond.static yJ2_indexOf_4cfef, Cond.code yJ2_indexOf_4cfef cJ2_indexOf_4cfef 4 (some .int), Cond.methodLink RJ2 224 Lib.Math.max.name, Cond.methodLink RJ2 183 Lib.Math.min.name, Cond.constant RJ2 227 (65536), Cond.methodLink RJ2 228 yJ2_indexOfChar_4cfef, Cond.static yJ2_indexOfChar_4cfef, Cond.code yJ2_indexOfChar_4cfef cJ2_indexOfChar_4cfef 4 (some .int), Cond.methodLink RJ2 96 yJ2_checkBoundsBeginEnd_d044e, Cond.static yJ2_checkBoundsBeginEnd_d044e, Cond.code yJ2_checkBoundsBeginEnd_d044e cJ2_checkBoundsBeginEnd_d044e 3 none, Cond.methodLink RJ2 241 yJ0_checkBoundsBeginEnd_23922, Cond.static yJ0_checkBoundsBeginEnd_23922, Cond.code yJ0_checkBoundsBeginEnd_23922 cJ0_checkBoundsBeginEnd_23922 3 none, Cond.methodLink RJ0 1062 yJ3_checkFromToIndex_8c36e, Cond.static yJ3_checkFromToIndex_8c36e, Cond.code yJ3_checkFromToIndex_8c36e cJ3_checkFromToIndex_8c36e 4 (some .int), Cond.methodLink RJ2 244 yJ2_indexOfCharUnsafe_4cfef, Cond.static yJ2_indexOfCharUnsafe_4cfef]
def wsX13_init_r33 : List Cond := [Cond.code yJ2_indexOfCharUnsafe_4cfef cJ2_indexOfCharUnsafe_4cfef 5 (some .int), Cond.methodLink RJ2 232 yJ2_indexOfSupplementary_4cfef, Cond.static yJ2_indexOfSupplementary_4cfef, Cond.code yJ2_indexOfSupplementary_4cfef cJ2_indexOfSupplementary_4cfef 7 (some .int), Cond.methodLink RJ2 164 yJ11_isValidCodePoint_9a6ad, Cond.static yJ11_isValidCodePoint_9a6ad, Cond.initialized RJ11, Cond.code yJ11_isValidCodePoint_9a6ad cJ11_isValidCodePoint_9a6ad 2 (some .boolean), Cond.methodLink RJ2 157 yJ11_highSurrogate_5068e, Cond.static yJ11_highSurrogate_5068e, Cond.code yJ11_highSurrogate_5068e cJ11_highSurrogate_5068e 1 (some .char), Cond.constant RJ11 110 (55232), Cond.methodLink RJ2 161 yJ11_lowSurrogate_5068e, Cond.static yJ11_lowSurrogate_5068e, Cond.code yJ11_lowSurrogate_5068e cJ11_lowSurrogate_5068e 1 (some .char), Cond.constant RJ11 76 (56320), Cond.methodLink RX3 155 yX3_report, Cond.instanceMethod yX3_report, Cond.selects RX3 yX3_report yX3_report, Cond.code yX3_report cX3_report 3 none, Cond.methodLink RX3 221 yJ0_length_8abf5, Cond.methodLink RX3 87 yX3_arrangePart, Cond.instanceMethod yX3_arrangePart, Cond.selects RX3 yX3_arrangePart yX3_arrangePart]
def wsX13_init_r34 : List Cond := [Cond.code yX3_arrangePart cX3_arrangePart 3 none, Cond.methodLink RX3 107 yX3_arrange, Cond.instanceMethod yX3_arrange, Cond.selects RX3 yX3_arrange yX3_arrange, Cond.code yX3_arrange cX3_arrange 3 none, Cond.methodLink RX3 132 yX3_bodyOf, Cond.instanceMethod yX3_bodyOf, Cond.selects RX3 yX3_bodyOf yX3_bodyOf, Cond.code yX3_bodyOf cX3_bodyOf 4 (some .int), Cond.methodLink RX3 123 yX3_arrangeBody, Cond.instanceMethod yX3_arrangeBody, Cond.selects RX3 yX3_arrangeBody yX3_arrangeBody, Cond.code yX3_arrangeBody cX3_arrangeBody 8 none, Cond.methodLink RX3 136 yX3_around, Cond.instanceMethod yX3_around, Cond.selects RX3 yX3_around yX3_around, Cond.code yX3_around cX3_around 4 (some .int), Cond.fieldLink RX3 126 "PolicyHouse$Checker" "count" "I", Cond.fieldLink RX3 129 "PolicyHouse$Checker" "scopeOf" "[I", Cond.methodLink RX3 142 yX3_putInOrder, Cond.instanceMethod yX3_putInOrder, Cond.selects RX3 yX3_putInOrder yX3_putInOrder, Cond.code yX3_putInOrder cX3_putInOrder 8 none, Cond.fieldLink RX3 164 "PolicyHouse$Tree" "c" "[I"]
def wsX13_init_r35 : List Cond := [Cond.fieldLink RX3 167 "PolicyHouse$Tree" "size" "I", Cond.methodLink RX3 171 Lib.Math.max.name, Cond.fieldLink RX3 176 "PolicyHouse$Tree" "last" "[I", Cond.methodLink RX3 168 yX3_isReadyLiteral, Cond.instanceMethod yX3_isReadyLiteral, Cond.selects RX3 yX3_isReadyLiteral yX3_isReadyLiteral, Cond.code yX3_isReadyLiteral cX3_isReadyLiteral 6 (some .boolean), Cond.methodLink RX3 148 yX3_isReady, Cond.instanceMethod yX3_isReady, Cond.selects RX3 yX3_isReady yX3_isReady, Cond.code yX3_isReady cX3_isReady 4 (some .boolean), Cond.methodLink RX3 158 yX12_isComprehension, Cond.methodLink RX3 189 yX3_usedFrom, Cond.instanceMethod yX3_usedFrom, Cond.selects RX3 yX3_usedFrom yX3_usedFrom, Cond.code yX3_usedFrom cX3_usedFrom 6 (some .int), Cond.methodLink RX3 195 yX3_isReadyStep, Cond.instanceMethod yX3_isReadyStep, Cond.selects RX3 yX3_isReadyStep yX3_isReadyStep, Cond.code yX3_isReadyStep cX3_isReadyStep 3 (some .boolean), Cond.methodLink RX3 179 yX3_isReadyUnify, Cond.instanceMethod yX3_isReadyUnify, Cond.selects RX3 yX3_isReadyUnify yX3_isReadyUnify, Cond.code yX3_isReadyUnify cX3_isReadyUnify 5 (some .boolean)]
def wsX13_init_r36 : List Cond := [Cond.methodLink RX3 192 yX3_isMatching, Cond.instanceMethod yX3_isMatching, Cond.selects RX3 yX3_isMatching yX3_isMatching, Cond.code yX3_isMatching cX3_isMatching 3 (some .boolean), Cond.methodLink RX3 186 yX3_patternMask, Cond.instanceMethod yX3_patternMask, Cond.selects RX3 yX3_patternMask yX3_patternMask, Cond.code yX3_patternMask cX3_patternMask 5 (some .int), Cond.methodLink RX3 145 yX3_arrangeWithin, Cond.instanceMethod yX3_arrangeWithin, Cond.selects RX3 yX3_arrangeWithin yX3_arrangeWithin, Cond.code yX3_arrangeWithin cX3_arrangeWithin 4 none, Cond.methodLink RX3 93 yX1_fail, Cond.methodLink RX13 185 yX3_encode, Cond.instanceMethod yX3_encode, Cond.selects RX3 yX3_encode yX3_encode, Cond.code yX3_encode cX3_encode 9 none, Cond.fieldLink RX3 238 "PolicyHouse$Bundle" "parts" "I", Cond.fieldLink RX3 257 "PolicyHouse$Bundle" "branch" "[I", Cond.fieldLink RX3 259 "PolicyHouse$Bundle" "code" "[I", Cond.methodLink RX3 241 yX3_match, Cond.instanceMethod yX3_match, Cond.selects RX3 yX3_match yX3_match, Cond.code yX3_match cX3_match 7 none]
def wsX13_init_r37 : List Cond := [Cond.methodLink RX3 272 yX3_putThree, Cond.instanceMethod yX3_putThree, Cond.selects RX3 yX3_putThree yX3_putThree, Cond.code yX3_putThree cX3_putThree 4 none, Cond.methodLink RX3 235 yX3_put, Cond.instanceMethod yX3_put, Cond.selects RX3 yX3_put yX3_put, Cond.code yX3_put cX3_put 2 none, Cond.constant RX3 234 (79999), Cond.methodLink RX3 284 yX3_registers, Cond.instanceMethod yX3_registers, Cond.selects RX3 yX3_registers yX3_registers, Cond.code yX3_registers cX3_registers 3 (some .int), Cond.methodLink RX3 308 yX3_putFour, Cond.instanceMethod yX3_putFour, Cond.selects RX3 yX3_putFour yX3_putFour, Cond.code yX3_putFour cX3_putFour 5 none, Cond.methodLink RX3 312 yX3_matchObject, Cond.instanceMethod yX3_matchObject, Cond.selects RX3 yX3_matchObject yX3_matchObject, Cond.methodLink RX3 263 yX3_expression, Cond.instanceMethod yX3_expression, Cond.selects RX3 yX3_expression yX3_expression, Cond.code yX3_comprehension cX3_comprehension 10 (some .int)]
def wsX13_init_r38 : List Cond := [Cond.methodLink RX3 269 yX3_literals, Cond.instanceMethod yX3_literals, Cond.selects RX3 yX3_literals yX3_literals, Cond.code yX3_every cX3_every 8 none, Cond.methodLink RX3 266 yX3_putTwo, Cond.instanceMethod yX3_putTwo, Cond.selects RX3 yX3_putTwo yX3_putTwo, Cond.code yX3_putTwo cX3_putTwo 3 none, Cond.code yX3_expression cX3_expression 3 (some .int), Cond.methodLink RX3 315 yX4_tooGreat, Cond.instanceMethod yX4_tooGreat, Cond.selects RX4 yX4_tooGreat yX4_tooGreat, Cond.code yX4_tooGreat cX4_tooGreat 2 (some .boolean), Cond.methodLink RX3 318 yX3_reference, Cond.instanceMethod yX3_reference, Cond.selects RX3 yX3_reference yX3_reference, Cond.methodLink RX3 321 yX3_signs, Cond.instanceMethod yX3_signs, Cond.selects RX3 yX3_signs yX3_signs, Cond.methodLink RX3 324 yX3_row, Cond.instanceMethod yX3_row, Cond.selects RX3 yX3_row yX3_row, Cond.methodLink RX3 328 yX3_comprehension, Cond.instanceMethod yX3_comprehension]
def wsX13_init_r39 : List Cond := [Cond.selects RX3 yX3_comprehension yX3_comprehension, Cond.code yX3_literal cX3_literal 7 none, Cond.methodLink RX3 278 yX3_with, Cond.instanceMethod yX3_with, Cond.selects RX3 yX3_with yX3_with, Cond.methodLink RX3 281 yX3_someIn, Cond.instanceMethod yX3_someIn, Cond.selects RX3 yX3_someIn yX3_someIn, Cond.methodLink RX3 286 yX3_every, Cond.instanceMethod yX3_every, Cond.selects RX3 yX3_every yX3_every, Cond.code yX3_literals cX3_literals 3 none, Cond.methodLink RX3 275 yX3_literal, Cond.instanceMethod yX3_literal, Cond.selects RX3 yX3_literal yX3_literal, Cond.code yX3_matchObject cX3_matchObject 8 none, Cond.code yX3_reference cX3_reference 8 (some .int), Cond.methodLink RX3 331 yX3_step, Cond.instanceMethod yX3_step, Cond.selects RX3 yX3_step yX3_step, Cond.code yX3_row cX3_row 7 (some .int), Cond.methodLink RX3 289 yX3_keep, Cond.instanceMethod yX3_keep, Cond.selects RX3 yX3_keep yX3_keep]
def wsX13_init_r40 : List Cond := [Cond.code yX3_keep cX3_keep 2 none, Cond.code yX3_signs cX3_signs 5 (some .int), Cond.code yX3_someIn cX3_someIn 6 none, Cond.code yX3_step cX3_step 6 (some .int), Cond.code yX3_with cX3_with 8 (some .int), Cond.fieldLink RX3 302 "PolicyHouse$Bundle" "words" "I", Cond.fieldLink RX3 305 "PolicyHouse$Checker" "bits" "[I", Cond.methodLink RX3 292 yX1_ruleAt, Cond.methodLink RX3 295 yX2_clearBits, Cond.methodLink RX3 244 yX3_branch, Cond.instanceMethod yX3_branch, Cond.selects RX3 yX3_branch yX3_branch, Cond.code yX3_branch cX3_branch 8 none, Cond.fieldLink RX3 260 "PolicyHouse$Bundle" "rule" "[I", Cond.methodLink RX3 248 yX3_setFrame, Cond.instanceMethod yX3_setFrame, Cond.selects RX3 yX3_setFrame yX3_setFrame, Cond.code yX3_setFrame cX3_setFrame 3 none, Cond.methodLink RX3 251 yJ7_copyOf_59c91, Cond.static yJ7_copyOf_59c91, Cond.initialized RJ7, Cond.code yJ7_copyOf_59c91 cJ7_copyOf_59c91 3 (some (.array .int)), Cond.methodLink RJ7 316 ⟨"[I", "clone", "()Ljava/lang/Object;"⟩, Cond.sameMethod "[I" "java/lang/Object" "clone" "()Ljava/lang/Object;"]
def wsX13_init_r41 : List Cond := [Cond.native ⟨"java/lang/Object", "clone", "()Ljava/lang/Object;"⟩, Cond.instanceMethod ⟨"java/lang/Object", "clone", "()Ljava/lang/Object;"⟩, Cond.selects "[I" ⟨"[I", "clone", "()Ljava/lang/Object;"⟩ ⟨"java/lang/Object", "clone", "()Ljava/lang/Object;"⟩, Cond.classLink RJ7 317 "[I", Cond.methodLink RJ7 304 Lib.Math.min.name, Cond.methodLink RJ7 150 arraycopyName]
def wsX13_init : List Cond := .code yX13_init cX13_init 2 none :: ((wsX13_init_r1 ++ (wsX13_init_r2 ++ (wsX13_init_r3 ++ (wsX13_init_r4 ++ (wsX13_init_r5 ++ (wsX13_init_r6 ++ (wsX13_init_r7 ++ (wsX13_init_r8 ++ (wsX13_init_r9 ++ (wsX13_init_r10 ++ (wsX13_init_r11 ++ (wsX13_init_r12 ++ (wsX13_init_r13 ++ (wsX13_init_r14 ++ (wsX13_init_r15 ++ (wsX13_init_r16 ++ (wsX13_init_r17 ++ (wsX13_init_r18 ++ (wsX13_init_r19 ++ (wsX13_init_r20 ++ (wsX13_init_r21 ++ (wsX13_init_r22 ++ (wsX13_init_r23 ++ (wsX13_init_r24 ++ (wsX13_init_r25 ++ (wsX13_init_r26 ++ (wsX13_init_r27 ++ (wsX13_init_r28 ++ (wsX13_init_r29 ++ (wsX13_init_r30 ++ (wsX13_init_r31 ++ (wsX13_init_r32 ++ (wsX13_init_r33 ++ (wsX13_init_r34 ++ (wsX13_init_r35 ++ (wsX13_init_r36 ++ (wsX13_init_r37 ++ (wsX13_init_r38 ++ (wsX13_init_r39 ++ (wsX13_init_r40 ++ wsX13_init_r41)))))))))))))))))))))))))))))))))))))))) ++ wsX40 ++ wsX130 ++ wsX110 ++ wsX60 ++ wsX80 ++ wsX20 ++ wsX30 ++ wsX90 ++ wsX100 ++ wsX50 ++ wsX00 ++ wsX10 ++ wsX120)
set_option maxRecDepth 20000 in
theorem ggX0_init_J0_charAt_5068e : GoodIn wsX0_init wsJ0_charAt_5068e := goodIn_r _ [18, 19, 20, 21, 22, 17, 23, 24, 25, 26, 27, 28, 29, 30, 31, 32, 33, 34, 35, 36, 37, 38, 39, 40, 41, 42, 43, 44, 45, 46, 47, 48, 49, 50, 51, 52, 53, 54] (by decide +kernel) (by decide +kernel)
set_option maxRecDepth 20000 in
theorem gX0_init_J0_charAt_5068e : GoodIn wsX0_init (wsV RX0 43 RJ0 yJ0_charAt_5068e wsJ0_charAt_5068e) := goodIn_app (goodIn_of _ (by decide +kernel)) ggX0_init_J0_charAt_5068e
set_option maxRecDepth 20000 in
theorem ggX0_init_X6_sym : GoodIn wsX0_init wsX6_sym := goodIn_r _ [59, 60, 61, 62, 63, 64, 65, 66, 67, 68, 69, 70, 71, 72, 73, 74, 75, 76, 77, 58, 78, 79, 89, 90, 91, 92, 93, 94, 95, 96, 97, 98, 99, 100, 101, 102, 103, 104, 105, 106, 107, 108, 109, 110, 111, 112] (by decide +kernel) (by decide +kernel)
set_option maxRecDepth 20000 in
theorem gX0_init_X6_sym : GoodIn wsX0_init (wsV RX0 49 RX6 yX6_sym wsX6_sym) := goodIn_app (goodIn_of _ (by decide +kernel)) ggX0_init_X6_sym
theorem dX0_init_0 : decode cX0_init 0 = .ok (.aload_n 0, 1) := by decide +kernel
theorem dX0_init_1 : decode cX0_init 1 = .ok (.invokespecial 1, 3) := by decide +kernel
theorem dX0_init_4 : decode cX0_init 4 = .ok (.aload_n 0, 1) := by decide +kernel
theorem dX0_init_5 : decode cX0_init 5 = .ok (.iconst 4, 1) := by decide +kernel
theorem dX0_init_6 : decode cX0_init 6 = .ok (.newarray .int, 2) := by decide +kernel
theorem dX0_init_8 : decode cX0_init 8 = .ok (.putfield 7, 3) := by decide +kernel
theorem dX0_init_11 : decode cX0_init 11 = .ok (.aload_n 0, 1) := by decide +kernel
theorem dX0_init_12 : decode cX0_init 12 = .ok (.iconst 0, 1) := by decide +kernel
theorem dX0_init_13 : decode cX0_init 13 = .ok (.putfield 13, 3) := by decide +kernel
theorem dX0_init_16 : decode cX0_init 16 = .ok (.aload_n 0, 1) := by decide +kernel
theorem dX0_init_17 : decode cX0_init 17 = .ok (.bipush 60, 2) := by decide +kernel
theorem dX0_init_19 : decode cX0_init 19 = .ok (.newarray .int, 2) := by decide +kernel
theorem dX0_init_21 : decode cX0_init 21 = .ok (.putfield 17, 3) := by decide +kernel
theorem dX0_init_24 : decode cX0_init 24 = .ok (.aload_n 0, 1) := by decide +kernel
theorem dX0_init_25 : decode cX0_init 25 = .ok (.bipush 60, 2) := by decide +kernel
theorem dX0_init_27 : decode cX0_init 27 = .ok (.newarray .int, 2) := by decide +kernel
theorem dX0_init_29 : decode cX0_init 29 = .ok (.putfield 20, 3) := by decide +kernel
theorem dX0_init_32 : decode cX0_init 32 = .ok (.aload_n 0, 1) := by decide +kernel
theorem dX0_init_33 : decode cX0_init 33 = .ok (.iconst 4, 1) := by decide +kernel
theorem dX0_init_34 : decode cX0_init 34 = .ok (.newarray .int, 2) := by decide +kernel
theorem dX0_init_36 : decode cX0_init 36 = .ok (.putfield 23, 3) := by decide +kernel
theorem dX0_init_39 : decode cX0_init 39 = .ok (.aload_n 0, 1) := by decide +kernel
theorem dX0_init_40 : decode cX0_init 40 = .ok (.iconst 0, 1) := by decide +kernel
theorem dX0_init_41 : decode cX0_init 41 = .ok (.putfield 26, 3) := by decide +kernel
theorem dX0_init_44 : decode cX0_init 44 = .ok (.aload_n 0, 1) := by decide +kernel
theorem dX0_init_45 : decode cX0_init 45 = .ok (.aload_n 1, 1) := by decide +kernel
theorem dX0_init_46 : decode cX0_init 46 = .ok (.putfield 29, 3) := by decide +kernel
theorem dX0_init_49 : decode cX0_init 49 = .ok (.aload_n 0, 1) := by decide +kernel
theorem dX0_init_50 : decode cX0_init 50 = .ok (.aload_n 2, 1) := by decide +kernel
theorem dX0_init_51 : decode cX0_init 51 = .ok (.putfield 33, 3) := by decide +kernel
theorem dX0_init_54 : decode cX0_init 54 = .ok (.aload_n 0, 1) := by decide +kernel
theorem dX0_init_55 : decode cX0_init 55 = .ok (.aload 4, 2) := by decide +kernel
theorem dX0_init_57 : decode cX0_init 57 = .ok (.putfield 37, 3) := by decide +kernel
theorem dX0_init_60 : decode cX0_init 60 = .ok (.ldc 41, 2) := by decide +kernel
theorem dX0_init_62 : decode cX0_init 62 = .ok (.astore 5, 2) := by decide +kernel
theorem dX0_init_64 : decode cX0_init 64 = .ok (.iconst 5, 1) := by decide +kernel
theorem dX0_init_65 : decode cX0_init 65 = .ok (.newarray .int, 2) := by decide +kernel
theorem dX0_init_67 : decode cX0_init 67 = .ok (.astore 6, 2) := by decide +kernel
theorem dX0_init_69 : decode cX0_init 69 = .ok (.iconst 0, 1) := by decide +kernel
theorem dX0_init_70 : decode cX0_init 70 = .ok (.istore 7, 2) := by decide +kernel
theorem dX0_init_72 : decode cX0_init 72 = .ok (.iload 7, 2) := by decide +kernel
theorem dX0_init_74 : decode cX0_init 74 = .ok (.iconst 4, 1) := by decide +kernel
theorem dX0_init_75 : decode cX0_init 75 = .ok (.if_icmp .ge 81, 3) := by decide +kernel
theorem dX0_init_78 : decode cX0_init 78 = .ok (.iconst 0, 1) := by decide +kernel
theorem dX0_init_79 : decode cX0_init 79 = .ok (.istore 8, 2) := by decide +kernel
theorem dX0_init_81 : decode cX0_init 81 = .ok (.iload 8, 2) := by decide +kernel
theorem dX0_init_83 : decode cX0_init 83 = .ok (.iconst 4, 1) := by decide +kernel
theorem dX0_init_84 : decode cX0_init 84 = .ok (.if_icmp .ge 26, 3) := by decide +kernel
theorem dX0_init_87 : decode cX0_init 87 = .ok (.aload 6, 2) := by decide +kernel
theorem dX0_init_89 : decode cX0_init 89 = .ok (.iload 8, 2) := by decide +kernel
theorem dX0_init_91 : decode cX0_init 91 = .ok (.aload 5, 2) := by decide +kernel
theorem dX0_init_93 : decode cX0_init 93 = .ok (.iconst 4, 1) := by decide +kernel
theorem dX0_init_94 : decode cX0_init 94 = .ok (.iload 7, 2) := by decide +kernel
theorem dX0_init_96 : decode cX0_init 96 = .ok (.imul, 1) := by decide +kernel
theorem dX0_init_97 : decode cX0_init 97 = .ok (.iload 8, 2) := by decide +kernel
theorem dX0_init_99 : decode cX0_init 99 = .ok (.iadd, 1) := by decide +kernel
theorem dX0_init_100 : decode cX0_init 100 = .ok (.invokevirtual 43, 3) := by decide +kernel
theorem dX0_init_103 : decode cX0_init 103 = .ok (.iastore, 1) := by decide +kernel
theorem dX0_init_104 : decode cX0_init 104 = .ok (.iinc 8 1, 3) := by decide +kernel
theorem dX0_init_107 : decode cX0_init 107 = .ok (.goto (-26), 3) := by decide +kernel
theorem dX0_init_110 : decode cX0_init 110 = .ok (.aload 6, 2) := by decide +kernel
theorem dX0_init_112 : decode cX0_init 112 = .ok (.iconst 4, 1) := by decide +kernel
theorem dX0_init_113 : decode cX0_init 113 = .ok (.bipush 101, 2) := by decide +kernel
theorem dX0_init_115 : decode cX0_init 115 = .ok (.iastore, 1) := by decide +kernel
theorem dX0_init_116 : decode cX0_init 116 = .ok (.aload_n 0, 1) := by decide +kernel
theorem dX0_init_117 : decode cX0_init 117 = .ok (.getfield 23, 3) := by decide +kernel
theorem dX0_init_120 : decode cX0_init 120 = .ok (.iload 7, 2) := by decide +kernel
theorem dX0_init_122 : decode cX0_init 122 = .ok (.aload_n 3, 1) := by decide +kernel
theorem dX0_init_123 : decode cX0_init 123 = .ok (.aload 6, 2) := by decide +kernel
theorem dX0_init_125 : decode cX0_init 125 = .ok (.iconst 0, 1) := by decide +kernel
theorem dX0_init_126 : decode cX0_init 126 = .ok (.iload 7, 2) := by decide +kernel
theorem dX0_init_128 : decode cX0_init 128 = .ok (.ifCond .ne 7, 3) := by decide +kernel
theorem dX0_init_131 : decode cX0_init 131 = .ok (.iconst 2, 1) := by decide +kernel
theorem dX0_init_132 : decode cX0_init 132 = .ok (.goto 14, 3) := by decide +kernel
theorem dX0_init_135 : decode cX0_init 135 = .ok (.iload 7, 2) := by decide +kernel
theorem dX0_init_137 : decode cX0_init 137 = .ok (.iconst 3, 1) := by decide +kernel
theorem dX0_init_138 : decode cX0_init 138 = .ok (.if_icmp .ne 7, 3) := by decide +kernel
theorem dX0_init_141 : decode cX0_init 141 = .ok (.iconst 5, 1) := by decide +kernel
theorem dX0_init_142 : decode cX0_init 142 = .ok (.goto 4, 3) := by decide +kernel
theorem dX0_init_145 : decode cX0_init 145 = .ok (.iconst 4, 1) := by decide +kernel
theorem dX0_init_146 : decode cX0_init 146 = .ok (.invokevirtual 49, 3) := by decide +kernel
theorem dX0_init_149 : decode cX0_init 149 = .ok (.iastore, 1) := by decide +kernel
theorem dX0_init_150 : decode cX0_init 150 = .ok (.iinc 7 1, 3) := by decide +kernel
theorem dX0_init_153 : decode cX0_init 153 = .ok (.goto (-81), 3) := by decide +kernel
theorem dX0_init_156 : decode cX0_init 156 = .ok (.return_, 1) := by decide +kernel
theorem dX1_init_0 : decode cX1_init 0 = .ok (.aload_n 0, 1) := by decide +kernel
theorem dX1_init_1 : decode cX1_init 1 = .ok (.invokespecial 3, 3) := by decide +kernel
theorem dX1_init_4 : decode cX1_init 4 = .ok (.aload_n 0, 1) := by decide +kernel
theorem dX1_init_5 : decode cX1_init 5 = .ok (.iconst 0, 1) := by decide +kernel
theorem dX1_init_6 : decode cX1_init 6 = .ok (.putfield 9, 3) := by decide +kernel
theorem dX1_init_9 : decode cX1_init 9 = .ok (.aload_n 0, 1) := by decide +kernel
theorem dX1_init_10 : decode cX1_init 10 = .ok (.iconst 0, 1) := by decide +kernel
theorem dX1_init_11 : decode cX1_init 11 = .ok (.putfield 15, 3) := by decide +kernel
theorem dX1_init_14 : decode cX1_init 14 = .ok (.aload_n 0, 1) := by decide +kernel
theorem dX1_init_15 : decode cX1_init 15 = .ok (.iconst 1, 1) := by decide +kernel
theorem dX1_init_16 : decode cX1_init 16 = .ok (.putfield 18, 3) := by decide +kernel
theorem dX1_init_19 : decode cX1_init 19 = .ok (.aload_n 0, 1) := by decide +kernel
theorem dX1_init_20 : decode cX1_init 20 = .ok (.aconst_null, 1) := by decide +kernel
theorem dX1_init_21 : decode cX1_init 21 = .ok (.putfield 21, 3) := by decide +kernel
theorem dX1_init_24 : decode cX1_init 24 = .ok (.aload_n 0, 1) := by decide +kernel
theorem dX1_init_25 : decode cX1_init 25 = .ok (.aconst_null, 1) := by decide +kernel
theorem dX1_init_26 : decode cX1_init 26 = .ok (.putfield 25, 3) := by decide +kernel
theorem dX1_init_29 : decode cX1_init 29 = .ok (.aload_n 0, 1) := by decide +kernel
theorem dX1_init_30 : decode cX1_init 30 = .ok (.aconst_null, 1) := by decide +kernel
theorem dX1_init_31 : decode cX1_init 31 = .ok (.putfield 28, 3) := by decide +kernel
theorem dX1_init_34 : decode cX1_init 34 = .ok (.aload_n 0, 1) := by decide +kernel
theorem dX1_init_35 : decode cX1_init 35 = .ok (.aconst_null, 1) := by decide +kernel
theorem dX1_init_36 : decode cX1_init 36 = .ok (.putfield 31, 3) := by decide +kernel
theorem dX1_init_39 : decode cX1_init 39 = .ok (.aload_n 0, 1) := by decide +kernel
theorem dX1_init_40 : decode cX1_init 40 = .ok (.iconst 0, 1) := by decide +kernel
theorem dX1_init_41 : decode cX1_init 41 = .ok (.putfield 34, 3) := by decide +kernel
theorem dX1_init_44 : decode cX1_init 44 = .ok (.aload_n 0, 1) := by decide +kernel
theorem dX1_init_45 : decode cX1_init 45 = .ok (.iconst (-1), 1) := by decide +kernel
theorem dX1_init_46 : decode cX1_init 46 = .ok (.putfield 37, 3) := by decide +kernel
theorem dX1_init_49 : decode cX1_init 49 = .ok (.aload_n 0, 1) := by decide +kernel
theorem dX1_init_50 : decode cX1_init 50 = .ok (.iconst (-1), 1) := by decide +kernel
theorem dX1_init_51 : decode cX1_init 51 = .ok (.putfield 40, 3) := by decide +kernel
theorem dX1_init_54 : decode cX1_init 54 = .ok (.aload_n 0, 1) := by decide +kernel
theorem dX1_init_55 : decode cX1_init 55 = .ok (.iload_n 2, 1) := by decide +kernel
theorem dX1_init_56 : decode cX1_init 56 = .ok (.anewarray 43, 3) := by decide +kernel
theorem dX1_init_59 : decode cX1_init 59 = .ok (.putfield 45, 3) := by decide +kernel
theorem dX1_init_62 : decode cX1_init 62 = .ok (.iconst 0, 1) := by decide +kernel
theorem dX1_init_63 : decode cX1_init 63 = .ok (.istore 4, 2) := by decide +kernel
theorem dX1_init_65 : decode cX1_init 65 = .ok (.iconst 0, 1) := by decide +kernel
theorem dX1_init_66 : decode cX1_init 66 = .ok (.istore 5, 2) := by decide +kernel
theorem dX1_init_68 : decode cX1_init 68 = .ok (.iload 5, 2) := by decide +kernel
theorem dX1_init_70 : decode cX1_init 70 = .ok (.iload_n 2, 1) := by decide +kernel
theorem dX1_init_71 : decode cX1_init 71 = .ok (.if_icmp .ge 32, 3) := by decide +kernel
theorem dX1_init_103 : decode cX1_init 103 = .ok (.aload_n 0, 1) := by decide +kernel
theorem dX1_init_104 : decode cX1_init 104 = .ok (.iload_n 2, 1) := by decide +kernel
theorem dX1_init_105 : decode cX1_init 105 = .ok (.putfield 50, 3) := by decide +kernel
theorem dX1_init_108 : decode cX1_init 108 = .ok (.aload_n 0, 1) := by decide +kernel
theorem dX1_init_109 : decode cX1_init 109 = .ok (.iload 4, 2) := by decide +kernel
theorem dX1_init_111 : decode cX1_init 111 = .ok (.bipush 10, 2) := by decide +kernel
theorem dX1_init_113 : decode cX1_init 113 = .ok (.imul, 1) := by decide +kernel
theorem dX1_init_114 : decode cX1_init 114 = .ok (.newarray .int, 2) := by decide +kernel
theorem dX1_init_116 : decode cX1_init 116 = .ok (.putfield 53, 3) := by decide +kernel
theorem dX1_init_119 : decode cX1_init 119 = .ok (.aload_n 0, 1) := by decide +kernel
theorem dX1_init_120 : decode cX1_init 120 = .ok (.iload 4, 2) := by decide +kernel
theorem dX1_init_122 : decode cX1_init 122 = .ok (.bipush 6, 2) := by decide +kernel
theorem dX1_init_124 : decode cX1_init 124 = .ok (.imul, 1) := by decide +kernel
theorem dX1_init_125 : decode cX1_init 125 = .ok (.newarray .int, 2) := by decide +kernel
theorem dX1_init_127 : decode cX1_init 127 = .ok (.putfield 56, 3) := by decide +kernel
theorem dX1_init_130 : decode cX1_init 130 = .ok (.aload_n 0, 1) := by decide +kernel
theorem dX1_init_131 : decode cX1_init 131 = .ok (.iload_n 3, 1) := by decide +kernel
theorem dX1_init_132 : decode cX1_init 132 = .ok (.newarray .int, 2) := by decide +kernel
theorem dX1_init_134 : decode cX1_init 134 = .ok (.putfield 59, 3) := by decide +kernel
theorem dX1_init_137 : decode cX1_init 137 = .ok (.aload_n 0, 1) := by decide +kernel
theorem dX1_init_138 : decode cX1_init 138 = .ok (.iload_n 3, 1) := by decide +kernel
theorem dX1_init_139 : decode cX1_init 139 = .ok (.newarray .int, 2) := by decide +kernel
theorem dX1_init_141 : decode cX1_init 141 = .ok (.putfield 62, 3) := by decide +kernel
theorem dX1_init_144 : decode cX1_init 144 = .ok (.return_, 1) := by decide +kernel
theorem dX2_init_0 : decode cX2_init 0 = .ok (.aload_n 0, 1) := by decide +kernel
theorem dX2_init_1 : decode cX2_init 1 = .ok (.invokespecial 1, 3) := by decide +kernel
theorem dX2_init_4 : decode cX2_init 4 = .ok (.aload_n 0, 1) := by decide +kernel
theorem dX2_init_5 : decode cX2_init 5 = .ok (.aconst_null, 1) := by decide +kernel
theorem dX2_init_6 : decode cX2_init 6 = .ok (.putfield 7, 3) := by decide +kernel
theorem dX2_init_9 : decode cX2_init 9 = .ok (.aload_n 0, 1) := by decide +kernel
theorem dX2_init_10 : decode cX2_init 10 = .ok (.aconst_null, 1) := by decide +kernel
theorem dX2_init_11 : decode cX2_init 11 = .ok (.putfield 13, 3) := by decide +kernel
theorem dX2_init_14 : decode cX2_init 14 = .ok (.aload_n 0, 1) := by decide +kernel
theorem dX2_init_15 : decode cX2_init 15 = .ok (.iconst 0, 1) := by decide +kernel
theorem dX2_init_16 : decode cX2_init 16 = .ok (.putfield 17, 3) := by decide +kernel
theorem dX2_init_19 : decode cX2_init 19 = .ok (.aload_n 0, 1) := by decide +kernel
theorem dX2_init_20 : decode cX2_init 20 = .ok (.sipush 6100, 3) := by decide +kernel
theorem dX2_init_23 : decode cX2_init 23 = .ok (.newarray .int, 2) := by decide +kernel
theorem dX2_init_25 : decode cX2_init 25 = .ok (.putfield 21, 3) := by decide +kernel
theorem dX2_init_28 : decode cX2_init 28 = .ok (.aload_n 0, 1) := by decide +kernel
theorem dX2_init_29 : decode cX2_init 29 = .ok (.sipush 6100, 3) := by decide +kernel
theorem dX2_init_32 : decode cX2_init 32 = .ok (.newarray .int, 2) := by decide +kernel
theorem dX2_init_34 : decode cX2_init 34 = .ok (.putfield 25, 3) := by decide +kernel
theorem dX2_init_37 : decode cX2_init 37 = .ok (.aload_n 0, 1) := by decide +kernel
theorem dX2_init_38 : decode cX2_init 38 = .ok (.sipush 6100, 3) := by decide +kernel
theorem dX2_init_41 : decode cX2_init 41 = .ok (.newarray .int, 2) := by decide +kernel
theorem dX2_init_43 : decode cX2_init 43 = .ok (.putfield 28, 3) := by decide +kernel
theorem dX2_init_46 : decode cX2_init 46 = .ok (.aload_n 0, 1) := by decide +kernel
theorem dX2_init_47 : decode cX2_init 47 = .ok (.iconst 0, 1) := by decide +kernel
theorem dX2_init_48 : decode cX2_init 48 = .ok (.putfield 31, 3) := by decide +kernel
theorem dX2_init_51 : decode cX2_init 51 = .ok (.aload_n 0, 1) := by decide +kernel
theorem dX2_init_52 : decode cX2_init 52 = .ok (.sipush 6100, 3) := by decide +kernel
theorem dX2_init_55 : decode cX2_init 55 = .ok (.newarray .int, 2) := by decide +kernel
theorem dX2_init_57 : decode cX2_init 57 = .ok (.putfield 34, 3) := by decide +kernel
theorem dX2_init_60 : decode cX2_init 60 = .ok (.aload_n 0, 1) := by decide +kernel
theorem dX2_init_61 : decode cX2_init 61 = .ok (.iconst 0, 1) := by decide +kernel
theorem dX2_init_62 : decode cX2_init 62 = .ok (.putfield 37, 3) := by decide +kernel
theorem dX2_init_65 : decode cX2_init 65 = .ok (.aload_n 0, 1) := by decide +kernel
theorem dX2_init_66 : decode cX2_init 66 = .ok (.iconst 0, 1) := by decide +kernel
theorem dX2_init_67 : decode cX2_init 67 = .ok (.putfield 40, 3) := by decide +kernel
theorem dX2_init_70 : decode cX2_init 70 = .ok (.aload_n 0, 1) := by decide +kernel
theorem dX2_init_71 : decode cX2_init 71 = .ok (.iconst 0, 1) := by decide +kernel
theorem dX2_init_72 : decode cX2_init 72 = .ok (.putfield 43, 3) := by decide +kernel
theorem dX2_init_75 : decode cX2_init 75 = .ok (.aload_n 0, 1) := by decide +kernel
theorem dX2_init_76 : decode cX2_init 76 = .ok (.bipush 16, 2) := by decide +kernel
theorem dX2_init_78 : decode cX2_init 78 = .ok (.newarray .int, 2) := by decide +kernel
theorem dX2_init_80 : decode cX2_init 80 = .ok (.putfield 46, 3) := by decide +kernel
theorem dX2_init_83 : decode cX2_init 83 = .ok (.aload_n 0, 1) := by decide +kernel
theorem dX2_init_84 : decode cX2_init 84 = .ok (.sipush 6400, 3) := by decide +kernel
theorem dX2_init_87 : decode cX2_init 87 = .ok (.newarray .int, 2) := by decide +kernel
theorem dX2_init_89 : decode cX2_init 89 = .ok (.putfield 49, 3) := by decide +kernel
theorem dX2_init_92 : decode cX2_init 92 = .ok (.aload_n 0, 1) := by decide +kernel
theorem dX2_init_93 : decode cX2_init 93 = .ok (.sipush 6400, 3) := by decide +kernel
theorem dX2_init_96 : decode cX2_init 96 = .ok (.newarray .int, 2) := by decide +kernel
theorem dX2_init_98 : decode cX2_init 98 = .ok (.putfield 52, 3) := by decide +kernel
theorem dX2_init_101 : decode cX2_init 101 = .ok (.aload_n 0, 1) := by decide +kernel
theorem dX2_init_102 : decode cX2_init 102 = .ok (.aload_n 1, 1) := by decide +kernel
theorem dX2_init_103 : decode cX2_init 103 = .ok (.putfield 55, 3) := by decide +kernel
theorem dX2_init_106 : decode cX2_init 106 = .ok (.aload_n 0, 1) := by decide +kernel
theorem dX2_init_107 : decode cX2_init 107 = .ok (.aload_n 2, 1) := by decide +kernel
theorem dX2_init_108 : decode cX2_init 108 = .ok (.putfield 59, 3) := by decide +kernel
theorem dX2_init_111 : decode cX2_init 111 = .ok (.return_, 1) := by decide +kernel
set_option maxRecDepth 20000 in
theorem ggX2_bundle_X1_init : GoodIn wsX2_bundle wsX1_init := goodIn_r _ [14, 15, 16, 17, 18, 19, 20, 21, 22, 23, 24, 25, 26, 27, 28, 29, 30, 31, 32, 33, 34, 35, 36, 314, 315, 316, 317, 318, 319, 320, 321, 322, 323, 324, 325, 326, 327, 328, 329, 362, 363, 364, 365, 366, 367, 368, 369, 370, 371, 372, 373, 374, 375, 376] (by decide +kernel) (by decide +kernel)
set_option maxRecDepth 20000 in
theorem gX2_bundle_X1_init : GoodIn wsX2_bundle (wsX1_init) := ggX2_bundle_X1_init
set_option maxRecDepth 20000 in
theorem ggX2_bundle_X2_gather : GoodIn wsX2_bundle wsX2_gather := goodIn_r _ [41, 6, 42, 43, 44, 45, 4, 46, 47, 48, 49, 50, 51, 52, 53, 54, 40, 55, 56, 7, 57, 58, 59, 60, 61, 62, 63, 3, 64, 35, 65, 66, 67, 68, 33, 330, 331, 332, 333, 334, 335, 336, 337, 338, 339, 340, 341, 342, 343, 344, 345, 314, 315, 316, 317, 318, 319, 320, 321, 322, 323, 324, 325, 326, 327, 328, 329, 362, 363, 364, 365, 366, 367, 368, 369, 370, 371, 372, 373, 374, 375, 376, 346, 347, 348, 349, 350, 351, 352, 353, 354, 355, 356, 357, 358, 359, 360, 361] (by decide +kernel) (by decide +kernel)
set_option maxRecDepth 20000 in
theorem gX2_bundle_X2_gather : GoodIn wsX2_bundle (wsV RX2 73 RX2 yX2_gather wsX2_gather) := goodIn_app (goodIn_of _ (by decide +kernel)) ggX2_bundle_X2_gather
set_option maxRecDepth 20000 in
theorem ggX2_bundle_X2_findClash : GoodIn wsX2_bundle wsX2_findClash := goodIn_r _ [72, 6, 50, 59, 42, 43, 73, 8, 74, 49, 7, 57, 65, 66, 67, 3, 68, 33, 75, 76, 77, 40, 78, 79, 4, 80, 81, 44, 82, 83, 84, 85, 86, 87, 88, 89, 61, 62, 63, 64, 35, 90, 91, 92, 93, 25, 26, 27, 94, 95, 96, 97, 60, 98, 99, 100, 101, 102, 36, 330, 331, 332, 333, 334, 335, 336, 337, 338, 339, 340, 341, 342, 343, 344, 345, 314, 315, 316, 317, 318, 319, 320, 321, 322, 323, 324, 325, 326, 327, 328, 329, 362, 363, 364, 365, 366, 367, 368, 369, 370, 371, 372, 373, 374, 375, 376, 346, 347, 348, 349, 350, 351, 352, 353, 354, 355, 356, 357, 358, 359, 360, 361] (by decide +kernel) (by decide +kernel)
set_option maxRecDepth 20000 in
theorem gX2_bundle_X2_findClash : GoodIn wsX2_bundle (wsV RX2 76 RX2 yX2_findClash wsX2_findClash) := goodIn_app (goodIn_of _ (by decide +kernel)) ggX2_bundle_X2_findClash
set_option maxRecDepth 20000 in
theorem ggX2_bundle_X2_findReads : GoodIn wsX2_bundle wsX2_findReads := goodIn_r _ [235, 6, 50, 51, 32, 236, 237, 238, 239, 59, 240, 241, 242, 40, 243, 43, 57, 107, 244, 245, 246, 247, 65, 66, 67, 3, 68, 33, 248, 249, 250, 251, 47, 49, 252, 253, 254, 255, 108, 60, 109, 56, 256, 257, 258, 259, 98, 4, 46, 260, 61, 62, 63, 64, 35, 261, 262, 263, 264, 265, 266, 267, 268, 269, 270, 82, 83, 84, 85, 86, 87, 88, 89, 271, 272, 273, 274, 275, 276, 277, 278, 279, 280, 281, 282, 283, 284, 285, 286, 287, 288, 289, 34, 29, 290, 291, 292, 91, 92, 93, 25, 26, 27, 330, 331, 332, 333, 334, 335, 336, 337, 338, 339, 340, 341, 342, 343, 344, 345, 314, 315, 316, 317, 318, 319, 320, 321, 322, 323, 324, 325, 326, 327, 328, 329, 362, 363, 364, 365, 366, 367, 368, 369, 370, 371, 372, 373, 374, 375, 376, 346, 347, 348, 349, 350, 351, 352, 353, 354, 355, 356, 357, 358, 359, 360, 361, 377, 378, 379, 380, 381, 382, 383, 384] (by decide +kernel) (by decide +kernel)
set_option maxRecDepth 20000 in
theorem gX2_bundle_X2_findReads : GoodIn wsX2_bundle (wsV RX2 93 RX2 yX2_findReads wsX2_findReads) := goodIn_app (goodIn_of _ (by decide +kernel)) ggX2_bundle_X2_findReads
set_option maxRecDepth 20000 in
theorem ggX2_bundle_X2_findDepth : GoodIn wsX2_bundle wsX2_findDepth := goodIn_r _ [296, 6, 8, 50, 32, 297, 298, 299, 300, 40, 301, 238, 302, 303, 304, 305, 276, 277, 278, 306, 307, 308, 309, 43, 57, 107, 59, 65, 66, 67, 3, 68, 33, 310, 311, 312, 313, 108, 237, 109, 56, 47, 49, 60, 244, 245, 246, 247, 256, 257, 258, 259, 98, 4, 46, 260, 61, 62, 63, 64, 35, 261, 262, 263, 264, 265, 266, 267, 268, 269, 270, 82, 83, 84, 85, 86, 87, 88, 89, 271, 272, 273, 274, 275, 286, 287, 288, 289, 34, 29, 290, 291, 292, 91, 92, 93, 25, 26, 27, 330, 331, 332, 333, 334, 335, 336, 337, 338, 339, 340, 341, 342, 343, 344, 345, 314, 315, 316, 317, 318, 319, 320, 321, 322, 323, 324, 325, 326, 327, 328, 329, 362, 363, 364, 365, 366, 367, 368, 369, 370, 371, 372, 373, 374, 375, 376, 346, 347, 348, 349, 350, 351, 352, 353, 354, 355, 356, 357, 358, 359, 360, 361, 377, 378, 379, 380, 381, 382, 383, 384] (by decide +kernel) (by decide +kernel)
set_option maxRecDepth 20000 in
theorem gX2_bundle_X2_findDepth : GoodIn wsX2_bundle (wsV RX2 96 RX2 yX2_findDepth wsX2_findDepth) := goodIn_app (goodIn_of _ (by decide +kernel)) ggX2_bundle_X2_findDepth
theorem dX2_bundle_0 : decode cX2_bundle 0 = .ok (.aload_n 0, 1) := by decide +kernel
theorem dX2_bundle_1 : decode cX2_bundle 1 = .ok (.new 63, 3) := by decide +kernel
theorem dX2_bundle_4 : decode cX2_bundle 4 = .ok (.dup, 1) := by decide +kernel
theorem dX2_bundle_5 : decode cX2_bundle 5 = .ok (.aload_n 1, 1) := by decide +kernel
theorem dX2_bundle_6 : decode cX2_bundle 6 = .ok (.iload_n 2, 1) := by decide +kernel
theorem dX2_bundle_7 : decode cX2_bundle 7 = .ok (.aload_n 0, 1) := by decide +kernel
theorem dX2_bundle_8 : decode cX2_bundle 8 = .ok (.getfield 59, 3) := by decide +kernel
theorem dX2_bundle_11 : decode cX2_bundle 11 = .ok (.getfield 65, 3) := by decide +kernel
theorem dX2_bundle_14 : decode cX2_bundle 14 = .ok (.invokespecial 70, 3) := by decide +kernel
theorem dX2_bundle_17 : decode cX2_bundle 17 = .ok (.putfield 7, 3) := by decide +kernel
theorem dX2_bundle_20 : decode cX2_bundle 20 = .ok (.aload_n 0, 1) := by decide +kernel
theorem dX2_bundle_21 : decode cX2_bundle 21 = .ok (.invokevirtual 73, 3) := by decide +kernel
theorem dX2_bundle_24 : decode cX2_bundle 24 = .ok (.aload_n 0, 1) := by decide +kernel
theorem dX2_bundle_25 : decode cX2_bundle 25 = .ok (.invokevirtual 76, 3) := by decide +kernel
theorem dX2_bundle_28 : decode cX2_bundle 28 = .ok (.iconst 0, 1) := by decide +kernel
theorem dX2_bundle_29 : decode cX2_bundle 29 = .ok (.istore_n 3, 1) := by decide +kernel
theorem dX2_bundle_30 : decode cX2_bundle 30 = .ok (.iload_n 3, 1) := by decide +kernel
theorem dX2_bundle_31 : decode cX2_bundle 31 = .ok (.aload_n 0, 1) := by decide +kernel
theorem dX2_bundle_32 : decode cX2_bundle 32 = .ok (.getfield 7, 3) := by decide +kernel
theorem dX2_bundle_35 : decode cX2_bundle 35 = .ok (.getfield 79, 3) := by decide +kernel
theorem dX2_bundle_38 : decode cX2_bundle 38 = .ok (.if_icmp .ge 50, 3) := by decide +kernel
theorem dX2_bundle_88 : decode cX2_bundle 88 = .ok (.aload_n 0, 1) := by decide +kernel
theorem dX2_bundle_89 : decode cX2_bundle 89 = .ok (.getfield 7, 3) := by decide +kernel
theorem dX2_bundle_92 : decode cX2_bundle 92 = .ok (.getfield 82, 3) := by decide +kernel
theorem dX2_bundle_95 : decode cX2_bundle 95 = .ok (.ifCond .ne 11, 3) := by decide +kernel
theorem dX2_bundle_98 : decode cX2_bundle 98 = .ok (.aload_n 0, 1) := by decide +kernel
theorem dX2_bundle_99 : decode cX2_bundle 99 = .ok (.invokevirtual 93, 3) := by decide +kernel
theorem dX2_bundle_102 : decode cX2_bundle 102 = .ok (.aload_n 0, 1) := by decide +kernel
theorem dX2_bundle_103 : decode cX2_bundle 103 = .ok (.invokevirtual 96, 3) := by decide +kernel
theorem dX2_bundle_106 : decode cX2_bundle 106 = .ok (.aload_n 0, 1) := by decide +kernel
theorem dX2_bundle_107 : decode cX2_bundle 107 = .ok (.getfield 7, 3) := by decide +kernel
theorem dX2_bundle_110 : decode cX2_bundle 110 = .ok (.areturn, 1) := by decide +kernel
theorem dX2_gather_0 : decode cX2_gather 0 = .ok (.iconst 0, 1) := by decide +kernel
theorem dX2_gather_1 : decode cX2_gather 1 = .ok (.istore_n 1, 1) := by decide +kernel
theorem dX2_gather_2 : decode cX2_gather 2 = .ok (.iload_n 1, 1) := by decide +kernel
theorem dX2_gather_3 : decode cX2_gather 3 = .ok (.aload_n 0, 1) := by decide +kernel
theorem dX2_gather_4 : decode cX2_gather 4 = .ok (.getfield 7, 3) := by decide +kernel
theorem dX2_gather_7 : decode cX2_gather 7 = .ok (.getfield 99, 3) := by decide +kernel
theorem dX2_gather_10 : decode cX2_gather 10 = .ok (.if_icmp .ge 56, 3) := by decide +kernel
theorem dX2_gather_66 : decode cX2_gather 66 = .ok (.iconst 0, 1) := by decide +kernel
theorem dX2_gather_67 : decode cX2_gather 67 = .ok (.istore_n 1, 1) := by decide +kernel
theorem dX2_gather_68 : decode cX2_gather 68 = .ok (.iload_n 1, 1) := by decide +kernel
theorem dX2_gather_69 : decode cX2_gather 69 = .ok (.aload_n 0, 1) := by decide +kernel
theorem dX2_gather_70 : decode cX2_gather 70 = .ok (.getfield 7, 3) := by decide +kernel
theorem dX2_gather_73 : decode cX2_gather 73 = .ok (.getfield 99, 3) := by decide +kernel
theorem dX2_gather_76 : decode cX2_gather 76 = .ok (.if_icmp .ge 49, 3) := by decide +kernel
theorem dX2_gather_125 : decode cX2_gather 125 = .ok (.aload_n 0, 1) := by decide +kernel
theorem dX2_gather_126 : decode cX2_gather 126 = .ok (.getfield 7, 3) := by decide +kernel
theorem dX2_gather_129 : decode cX2_gather 129 = .ok (.aload_n 0, 1) := by decide +kernel
theorem dX2_gather_130 : decode cX2_gather 130 = .ok (.getfield 7, 3) := by decide +kernel
theorem dX2_gather_133 : decode cX2_gather 133 = .ok (.getfield 128, 3) := by decide +kernel
theorem dX2_gather_136 : decode cX2_gather 136 = .ok (.bipush 31, 2) := by decide +kernel
theorem dX2_gather_138 : decode cX2_gather 138 = .ok (.iadd, 1) := by decide +kernel
theorem dX2_gather_139 : decode cX2_gather 139 = .ok (.bipush 32, 2) := by decide +kernel
theorem dX2_gather_141 : decode cX2_gather 141 = .ok (.idiv, 1) := by decide +kernel
theorem dX2_gather_142 : decode cX2_gather 142 = .ok (.putfield 131, 3) := by decide +kernel
theorem dX2_gather_145 : decode cX2_gather 145 = .ok (.return_, 1) := by decide +kernel
theorem dX2_findClash_0 : decode cX2_findClash 0 = .ok (.iconst 0, 1) := by decide +kernel
theorem dX2_findClash_1 : decode cX2_findClash 1 = .ok (.istore_n 1, 1) := by decide +kernel
theorem dX2_findClash_2 : decode cX2_findClash 2 = .ok (.iload_n 1, 1) := by decide +kernel
theorem dX2_findClash_3 : decode cX2_findClash 3 = .ok (.aload_n 0, 1) := by decide +kernel
theorem dX2_findClash_4 : decode cX2_findClash 4 = .ok (.getfield 7, 3) := by decide +kernel
theorem dX2_findClash_7 : decode cX2_findClash 7 = .ok (.getfield 128, 3) := by decide +kernel
theorem dX2_findClash_10 : decode cX2_findClash 10 = .ok (.if_icmp .ge 36, 3) := by decide +kernel
theorem dX2_findClash_46 : decode cX2_findClash 46 = .ok (.iconst 0, 1) := by decide +kernel
theorem dX2_findClash_47 : decode cX2_findClash 47 = .ok (.istore_n 1, 1) := by decide +kernel
theorem dX2_findClash_48 : decode cX2_findClash 48 = .ok (.iconst 0, 1) := by decide +kernel
theorem dX2_findClash_49 : decode cX2_findClash 49 = .ok (.istore_n 2, 1) := by decide +kernel
theorem dX2_findClash_50 : decode cX2_findClash 50 = .ok (.iload_n 2, 1) := by decide +kernel
theorem dX2_findClash_51 : decode cX2_findClash 51 = .ok (.aload_n 0, 1) := by decide +kernel
theorem dX2_findClash_52 : decode cX2_findClash 52 = .ok (.getfield 7, 3) := by decide +kernel
theorem dX2_findClash_55 : decode cX2_findClash 55 = .ok (.getfield 99, 3) := by decide +kernel
theorem dX2_findClash_58 : decode cX2_findClash 58 = .ok (.if_icmp .ge 166, 3) := by decide +kernel
theorem dX2_findClash_224 : decode cX2_findClash 224 = .ok (.return_, 1) := by decide +kernel
theorem dX2_findReads_0 : decode cX2_findReads 0 = .ok (.aload_n 0, 1) := by decide +kernel
theorem dX2_findReads_1 : decode cX2_findReads 1 = .ok (.getfield 7, 3) := by decide +kernel
theorem dX2_findReads_4 : decode cX2_findReads 4 = .ok (.aload_n 0, 1) := by decide +kernel
theorem dX2_findReads_5 : decode cX2_findReads 5 = .ok (.getfield 7, 3) := by decide +kernel
theorem dX2_findReads_8 : decode cX2_findReads 8 = .ok (.getfield 128, 3) := by decide +kernel
theorem dX2_findReads_11 : decode cX2_findReads 11 = .ok (.aload_n 0, 1) := by decide +kernel
theorem dX2_findReads_12 : decode cX2_findReads 12 = .ok (.getfield 7, 3) := by decide +kernel
theorem dX2_findReads_15 : decode cX2_findReads 15 = .ok (.getfield 131, 3) := by decide +kernel
theorem dX2_findReads_18 : decode cX2_findReads 18 = .ok (.imul, 1) := by decide +kernel
theorem dX2_findReads_19 : decode cX2_findReads 19 = .ok (.newarray .int, 2) := by decide +kernel
theorem dX2_findReads_21 : decode cX2_findReads 21 = .ok (.putfield 306, 3) := by decide +kernel
theorem dX2_findReads_24 : decode cX2_findReads 24 = .ok (.iconst 0, 1) := by decide +kernel
theorem dX2_findReads_25 : decode cX2_findReads 25 = .ok (.istore_n 1, 1) := by decide +kernel
theorem dX2_findReads_26 : decode cX2_findReads 26 = .ok (.iload_n 1, 1) := by decide +kernel
theorem dX2_findReads_27 : decode cX2_findReads 27 = .ok (.aload_n 0, 1) := by decide +kernel
theorem dX2_findReads_28 : decode cX2_findReads 28 = .ok (.getfield 7, 3) := by decide +kernel
theorem dX2_findReads_31 : decode cX2_findReads 31 = .ok (.getfield 128, 3) := by decide +kernel
theorem dX2_findReads_34 : decode cX2_findReads 34 = .ok (.if_icmp .ge 118, 3) := by decide +kernel
theorem dX2_findReads_152 : decode cX2_findReads 152 = .ok (.iconst 0, 1) := by decide +kernel
theorem dX2_findReads_153 : decode cX2_findReads 153 = .ok (.istore_n 1, 1) := by decide +kernel
theorem dX2_findReads_154 : decode cX2_findReads 154 = .ok (.iload_n 1, 1) := by decide +kernel
theorem dX2_findReads_155 : decode cX2_findReads 155 = .ok (.aload_n 0, 1) := by decide +kernel
theorem dX2_findReads_156 : decode cX2_findReads 156 = .ok (.getfield 7, 3) := by decide +kernel
theorem dX2_findReads_159 : decode cX2_findReads 159 = .ok (.getfield 128, 3) := by decide +kernel
theorem dX2_findReads_162 : decode cX2_findReads 162 = .ok (.if_icmp .ge 87, 3) := by decide +kernel
theorem dX2_findReads_249 : decode cX2_findReads 249 = .ok (.aload_n 0, 1) := by decide +kernel
theorem dX2_findReads_250 : decode cX2_findReads 250 = .ok (.getfield 7, 3) := by decide +kernel
theorem dX2_findReads_253 : decode cX2_findReads 253 = .ok (.getfield 128, 3) := by decide +kernel
theorem dX2_findReads_256 : decode cX2_findReads 256 = .ok (.iconst 1, 1) := by decide +kernel
theorem dX2_findReads_257 : decode cX2_findReads 257 = .ok (.isub, 1) := by decide +kernel
theorem dX2_findReads_258 : decode cX2_findReads 258 = .ok (.istore_n 1, 1) := by decide +kernel
theorem dX2_findReads_259 : decode cX2_findReads 259 = .ok (.iload_n 1, 1) := by decide +kernel
theorem dX2_findReads_260 : decode cX2_findReads 260 = .ok (.ifCond .lt 85, 3) := by decide +kernel
theorem dX2_findReads_345 : decode cX2_findReads 345 = .ok (.return_, 1) := by decide +kernel
theorem dX2_findDepth_0 : decode cX2_findDepth 0 = .ok (.aload_n 0, 1) := by decide +kernel
theorem dX2_findDepth_1 : decode cX2_findDepth 1 = .ok (.getfield 7, 3) := by decide +kernel
theorem dX2_findDepth_4 : decode cX2_findDepth 4 = .ok (.getfield 82, 3) := by decide +kernel
theorem dX2_findDepth_7 : decode cX2_findDepth 7 = .ok (.ifCond .eq 4, 3) := by decide +kernel
theorem dX2_findDepth_11 : decode cX2_findDepth 11 = .ok (.aload_n 0, 1) := by decide +kernel
theorem dX2_findDepth_12 : decode cX2_findDepth 12 = .ok (.getfield 7, 3) := by decide +kernel
theorem dX2_findDepth_15 : decode cX2_findDepth 15 = .ok (.aload_n 0, 1) := by decide +kernel
theorem dX2_findDepth_16 : decode cX2_findDepth 16 = .ok (.getfield 7, 3) := by decide +kernel
theorem dX2_findDepth_19 : decode cX2_findDepth 19 = .ok (.getfield 128, 3) := by decide +kernel
theorem dX2_findDepth_22 : decode cX2_findDepth 22 = .ok (.newarray .int, 2) := by decide +kernel
theorem dX2_findDepth_24 : decode cX2_findDepth 24 = .ok (.putfield 327, 3) := by decide +kernel
theorem dX2_findDepth_27 : decode cX2_findDepth 27 = .ok (.aload_n 0, 1) := by decide +kernel
theorem dX2_findDepth_28 : decode cX2_findDepth 28 = .ok (.getfield 7, 3) := by decide +kernel
theorem dX2_findDepth_31 : decode cX2_findDepth 31 = .ok (.getfield 128, 3) := by decide +kernel
theorem dX2_findDepth_34 : decode cX2_findDepth 34 = .ok (.newarray .int, 2) := by decide +kernel
theorem dX2_findDepth_36 : decode cX2_findDepth 36 = .ok (.astore_n 1, 1) := by decide +kernel
theorem dX2_findDepth_37 : decode cX2_findDepth 37 = .ok (.iconst 0, 1) := by decide +kernel
theorem dX2_findDepth_38 : decode cX2_findDepth 38 = .ok (.istore_n 2, 1) := by decide +kernel
theorem dX2_findDepth_39 : decode cX2_findDepth 39 = .ok (.iload_n 2, 1) := by decide +kernel
theorem dX2_findDepth_40 : decode cX2_findDepth 40 = .ok (.aload_n 0, 1) := by decide +kernel
theorem dX2_findDepth_41 : decode cX2_findDepth 41 = .ok (.getfield 7, 3) := by decide +kernel
theorem dX2_findDepth_44 : decode cX2_findDepth 44 = .ok (.getfield 128, 3) := by decide +kernel
theorem dX2_findDepth_47 : decode cX2_findDepth 47 = .ok (.if_icmp .ge 85, 3) := by decide +kernel
theorem dX2_findDepth_132 : decode cX2_findDepth 132 = .ok (.aload_n 0, 1) := by decide +kernel
theorem dX2_findDepth_133 : decode cX2_findDepth 133 = .ok (.getfield 7, 3) := by decide +kernel
theorem dX2_findDepth_136 : decode cX2_findDepth 136 = .ok (.getfield 128, 3) := by decide +kernel
theorem dX2_findDepth_139 : decode cX2_findDepth 139 = .ok (.iconst 1, 1) := by decide +kernel
theorem dX2_findDepth_140 : decode cX2_findDepth 140 = .ok (.isub, 1) := by decide +kernel
theorem dX2_findDepth_141 : decode cX2_findDepth 141 = .ok (.istore_n 2, 1) := by decide +kernel
theorem dX2_findDepth_142 : decode cX2_findDepth 142 = .ok (.iload_n 2, 1) := by decide +kernel
theorem dX2_findDepth_143 : decode cX2_findDepth 143 = .ok (.ifCond .lt 27, 3) := by decide +kernel
theorem dX2_findDepth_170 : decode cX2_findDepth 170 = .ok (.return_, 1) := by decide +kernel
theorem dX3_init_0 : decode cX3_init 0 = .ok (.aload_n 0, 1) := by decide +kernel
theorem dX3_init_1 : decode cX3_init 1 = .ok (.invokespecial 1, 3) := by decide +kernel
theorem dX3_init_4 : decode cX3_init 4 = .ok (.aload_n 0, 1) := by decide +kernel
theorem dX3_init_5 : decode cX3_init 5 = .ok (.aconst_null, 1) := by decide +kernel
theorem dX3_init_6 : decode cX3_init 6 = .ok (.putfield 7, 3) := by decide +kernel
theorem dX3_init_9 : decode cX3_init 9 = .ok (.aload_n 0, 1) := by decide +kernel
theorem dX3_init_10 : decode cX3_init 10 = .ok (.aconst_null, 1) := by decide +kernel
theorem dX3_init_11 : decode cX3_init 11 = .ok (.putfield 13, 3) := by decide +kernel
theorem dX3_init_14 : decode cX3_init 14 = .ok (.aload_n 0, 1) := by decide +kernel
theorem dX3_init_15 : decode cX3_init 15 = .ok (.ldc 17, 2) := by decide +kernel
theorem dX3_init_17 : decode cX3_init 17 = .ok (.newarray .int, 2) := by decide +kernel
theorem dX3_init_19 : decode cX3_init 19 = .ok (.putfield 18, 3) := by decide +kernel
theorem dX3_init_22 : decode cX3_init 22 = .ok (.aload_n 0, 1) := by decide +kernel
theorem dX3_init_23 : decode cX3_init 23 = .ok (.iconst 0, 1) := by decide +kernel
theorem dX3_init_24 : decode cX3_init 24 = .ok (.putfield 22, 3) := by decide +kernel
theorem dX3_init_27 : decode cX3_init 27 = .ok (.aload_n 0, 1) := by decide +kernel
theorem dX3_init_28 : decode cX3_init 28 = .ok (.iconst 0, 1) := by decide +kernel
theorem dX3_init_29 : decode cX3_init 29 = .ok (.putfield 26, 3) := by decide +kernel
theorem dX3_init_32 : decode cX3_init 32 = .ok (.aload_n 0, 1) := by decide +kernel
theorem dX3_init_33 : decode cX3_init 33 = .ok (.iconst 0, 1) := by decide +kernel
theorem dX3_init_34 : decode cX3_init 34 = .ok (.putfield 29, 3) := by decide +kernel
theorem dX3_init_37 : decode cX3_init 37 = .ok (.aload_n 0, 1) := by decide +kernel
theorem dX3_init_38 : decode cX3_init 38 = .ok (.iconst 0, 1) := by decide +kernel
theorem dX3_init_39 : decode cX3_init 39 = .ok (.putfield 32, 3) := by decide +kernel
theorem dX3_init_42 : decode cX3_init 42 = .ok (.aload_n 0, 1) := by decide +kernel
theorem dX3_init_43 : decode cX3_init 43 = .ok (.iconst 0, 1) := by decide +kernel
theorem dX3_init_44 : decode cX3_init 44 = .ok (.putfield 35, 3) := by decide +kernel
theorem dX3_init_47 : decode cX3_init 47 = .ok (.aload_n 0, 1) := by decide +kernel
theorem dX3_init_48 : decode cX3_init 48 = .ok (.iconst 0, 1) := by decide +kernel
theorem dX3_init_49 : decode cX3_init 49 = .ok (.putfield 38, 3) := by decide +kernel
theorem dX3_init_52 : decode cX3_init 52 = .ok (.aload_n 0, 1) := by decide +kernel
theorem dX3_init_53 : decode cX3_init 53 = .ok (.iconst 0, 1) := by decide +kernel
theorem dX3_init_54 : decode cX3_init 54 = .ok (.putfield 41, 3) := by decide +kernel
theorem dX3_init_57 : decode cX3_init 57 = .ok (.aload_n 0, 1) := by decide +kernel
theorem dX3_init_58 : decode cX3_init 58 = .ok (.sipush 6100, 3) := by decide +kernel
theorem dX3_init_61 : decode cX3_init 61 = .ok (.newarray .int, 2) := by decide +kernel
theorem dX3_init_63 : decode cX3_init 63 = .ok (.putfield 44, 3) := by decide +kernel
theorem dX3_init_66 : decode cX3_init 66 = .ok (.aload_n 0, 1) := by decide +kernel
theorem dX3_init_67 : decode cX3_init 67 = .ok (.iconst 0, 1) := by decide +kernel
theorem dX3_init_68 : decode cX3_init 68 = .ok (.putfield 47, 3) := by decide +kernel
theorem dX3_init_71 : decode cX3_init 71 = .ok (.aload_n 0, 1) := by decide +kernel
theorem dX3_init_72 : decode cX3_init 72 = .ok (.aload_n 1, 1) := by decide +kernel
theorem dX3_init_73 : decode cX3_init 73 = .ok (.putfield 50, 3) := by decide +kernel
theorem dX3_init_76 : decode cX3_init 76 = .ok (.aload_n 0, 1) := by decide +kernel
theorem dX3_init_77 : decode cX3_init 77 = .ok (.aload_n 2, 1) := by decide +kernel
theorem dX3_init_78 : decode cX3_init 78 = .ok (.putfield 54, 3) := by decide +kernel
theorem dX3_init_81 : decode cX3_init 81 = .ok (.aload_n 0, 1) := by decide +kernel
theorem dX3_init_82 : decode cX3_init 82 = .ok (.aload_n 3, 1) := by decide +kernel
theorem dX3_init_83 : decode cX3_init 83 = .ok (.putfield 58, 3) := by decide +kernel
theorem dX3_init_86 : decode cX3_init 86 = .ok (.return_, 1) := by decide +kernel
theorem dX3_finish_0 : decode cX3_finish 0 = .ok (.aload_n 0, 1) := by decide +kernel
theorem dX3_finish_1 : decode cX3_finish 1 = .ok (.aload_n 1, 1) := by decide +kernel
theorem dX3_finish_2 : decode cX3_finish 2 = .ok (.putfield 7, 3) := by decide +kernel
theorem dX3_finish_5 : decode cX3_finish 5 = .ok (.bipush 8, 2) := by decide +kernel
theorem dX3_finish_7 : decode cX3_finish 7 = .ok (.istore_n 2, 1) := by decide +kernel
theorem dX3_finish_8 : decode cX3_finish 8 = .ok (.iload_n 2, 1) := by decide +kernel
theorem dX3_finish_9 : decode cX3_finish 9 = .ok (.bipush 9, 2) := by decide +kernel
theorem dX3_finish_11 : decode cX3_finish 11 = .ok (.if_icmp .gt 176, 3) := by decide +kernel
theorem dX3_finish_14 : decode cX3_finish 14 = .ok (.iconst 0, 1) := by decide +kernel
theorem dX3_finish_15 : decode cX3_finish 15 = .ok (.istore_n 3, 1) := by decide +kernel
theorem dX3_finish_16 : decode cX3_finish 16 = .ok (.iload_n 3, 1) := by decide +kernel
theorem dX3_finish_17 : decode cX3_finish 17 = .ok (.aload_n 0, 1) := by decide +kernel
theorem dX3_finish_18 : decode cX3_finish 18 = .ok (.getfield 7, 3) := by decide +kernel
theorem dX3_finish_21 : decode cX3_finish 21 = .ok (.getfield 62, 3) := by decide +kernel
theorem dX3_finish_24 : decode cX3_finish 24 = .ok (.if_icmp .ge 157, 3) := by decide +kernel
theorem dX3_finish_181 : decode cX3_finish 181 = .ok (.iinc 2 1, 3) := by decide +kernel
theorem dX3_finish_184 : decode cX3_finish 184 = .ok (.goto (-176), 3) := by decide +kernel
theorem dX3_finish_187 : decode cX3_finish 187 = .ok (.return_, 1) := by decide +kernel
set_option maxRecDepth 20000 in
theorem ggX3_encode_J7_copyOf_59c91 : GoodIn wsX3_encode wsJ7_copyOf_59c91 := goodIn_r _ [355, 356, 357, 358, 359, 360, 361, 4, 362, 363, 350, 364, 365, 366, 367, 368] (by decide +kernel) (by decide +kernel)
set_option maxRecDepth 20000 in
theorem gX3_encode_J7_copyOf_59c91 : GoodIn wsX3_encode (va_wsS RX3 251 yJ7_copyOf_59c91 wsJ7_copyOf_59c91) := goodIn_app (goodIn_of _ (by decide +kernel)) ggX3_encode_J7_copyOf_59c91
theorem dX3_encode_0 : decode cX3_encode 0 = .ok (.aload_n 0, 1) := by decide +kernel
theorem dX3_encode_1 : decode cX3_encode 1 = .ok (.iconst 0, 1) := by decide +kernel
theorem dX3_encode_2 : decode cX3_encode 2 = .ok (.putfield 22, 3) := by decide +kernel
theorem dX3_encode_5 : decode cX3_encode 5 = .ok (.aload_n 0, 1) := by decide +kernel
theorem dX3_encode_6 : decode cX3_encode 6 = .ok (.getfield 7, 3) := by decide +kernel
theorem dX3_encode_9 : decode cX3_encode 9 = .ok (.getfield 238, 3) := by decide +kernel
theorem dX3_encode_12 : decode cX3_encode 12 = .ok (.bipush 9, 2) := by decide +kernel
theorem dX3_encode_14 : decode cX3_encode 14 = .ok (.imul, 1) := by decide +kernel
theorem dX3_encode_15 : decode cX3_encode 15 = .ok (.iconst 1, 1) := by decide +kernel
theorem dX3_encode_16 : decode cX3_encode 16 = .ok (.iadd, 1) := by decide +kernel
theorem dX3_encode_17 : decode cX3_encode 17 = .ok (.newarray .int, 2) := by decide +kernel
theorem dX3_encode_19 : decode cX3_encode 19 = .ok (.astore_n 1, 1) := by decide +kernel
theorem dX3_encode_20 : decode cX3_encode 20 = .ok (.iconst 0, 1) := by decide +kernel
theorem dX3_encode_21 : decode cX3_encode 21 = .ok (.istore_n 2, 1) := by decide +kernel
theorem dX3_encode_22 : decode cX3_encode 22 = .ok (.iconst 0, 1) := by decide +kernel
theorem dX3_encode_23 : decode cX3_encode 23 = .ok (.istore_n 3, 1) := by decide +kernel
theorem dX3_encode_24 : decode cX3_encode 24 = .ok (.iload_n 3, 1) := by decide +kernel
theorem dX3_encode_25 : decode cX3_encode 25 = .ok (.aload_n 0, 1) := by decide +kernel
theorem dX3_encode_26 : decode cX3_encode 26 = .ok (.getfield 7, 3) := by decide +kernel
theorem dX3_encode_29 : decode cX3_encode 29 = .ok (.getfield 238, 3) := by decide +kernel
theorem dX3_encode_32 : decode cX3_encode 32 = .ok (.if_icmp .ge 255, 3) := by decide +kernel
theorem dX3_encode_287 : decode cX3_encode 287 = .ok (.aload_n 0, 1) := by decide +kernel
theorem dX3_encode_288 : decode cX3_encode 288 = .ok (.getfield 7, 3) := by decide +kernel
theorem dX3_encode_291 : decode cX3_encode 291 = .ok (.aload_n 1, 1) := by decide +kernel
theorem dX3_encode_292 : decode cX3_encode 292 = .ok (.iload_n 2, 1) := by decide +kernel
theorem dX3_encode_293 : decode cX3_encode 293 = .ok (.iconst 1, 1) := by decide +kernel
theorem dX3_encode_294 : decode cX3_encode 294 = .ok (.iadd, 1) := by decide +kernel
theorem dX3_encode_295 : decode cX3_encode 295 = .ok (.invokestatic 251, 3) := by decide +kernel
theorem dX3_encode_298 : decode cX3_encode 298 = .ok (.putfield 257, 3) := by decide +kernel
theorem dX3_encode_301 : decode cX3_encode 301 = .ok (.aload_n 0, 1) := by decide +kernel
theorem dX3_encode_302 : decode cX3_encode 302 = .ok (.getfield 7, 3) := by decide +kernel
theorem dX3_encode_305 : decode cX3_encode 305 = .ok (.aload_n 0, 1) := by decide +kernel
theorem dX3_encode_306 : decode cX3_encode 306 = .ok (.getfield 18, 3) := by decide +kernel
theorem dX3_encode_309 : decode cX3_encode 309 = .ok (.aload_n 0, 1) := by decide +kernel
theorem dX3_encode_310 : decode cX3_encode 310 = .ok (.getfield 22, 3) := by decide +kernel
theorem dX3_encode_313 : decode cX3_encode 313 = .ok (.invokestatic 251, 3) := by decide +kernel
theorem dX3_encode_316 : decode cX3_encode 316 = .ok (.putfield 259, 3) := by decide +kernel
theorem dX3_encode_319 : decode cX3_encode 319 = .ok (.return_, 1) := by decide +kernel
set_option maxRecDepth 20000 in
theorem ggX4_init_X4_empty : GoodIn wsX4_init wsX4_empty := goodIn_r _ [20] (by decide +kernel) (by decide +kernel)
set_option maxRecDepth 20000 in
theorem gX4_init_X4_empty : GoodIn wsX4_init (va_wsS RX4 40 yX4_empty wsX4_empty) := goodIn_app (goodIn_of _ (by decide +kernel)) ggX4_init_X4_empty
theorem dX4_init_0 : decode cX4_init 0 = .ok (.aload_n 0, 1) := by decide +kernel
theorem dX4_init_1 : decode cX4_init 1 = .ok (.invokespecial 1, 3) := by decide +kernel
theorem dX4_init_4 : decode cX4_init 4 = .ok (.aload_n 0, 1) := by decide +kernel
theorem dX4_init_5 : decode cX4_init 5 = .ok (.ldc 9, 2) := by decide +kernel
theorem dX4_init_7 : decode cX4_init 7 = .ok (.newarray .int, 2) := by decide +kernel
theorem dX4_init_9 : decode cX4_init 9 = .ok (.putfield 10, 3) := by decide +kernel
theorem dX4_init_12 : decode cX4_init 12 = .ok (.aload_n 0, 1) := by decide +kernel
theorem dX4_init_13 : decode cX4_init 13 = .ok (.ldc 14, 2) := by decide +kernel
theorem dX4_init_15 : decode cX4_init 15 = .ok (.newarray .int, 2) := by decide +kernel
theorem dX4_init_17 : decode cX4_init 17 = .ok (.putfield 15, 3) := by decide +kernel
theorem dX4_init_20 : decode cX4_init 20 = .ok (.aload_n 0, 1) := by decide +kernel
theorem dX4_init_21 : decode cX4_init 21 = .ok (.ldc 14, 2) := by decide +kernel
theorem dX4_init_23 : decode cX4_init 23 = .ok (.newarray .int, 2) := by decide +kernel
theorem dX4_init_25 : decode cX4_init 25 = .ok (.putfield 18, 3) := by decide +kernel
theorem dX4_init_28 : decode cX4_init 28 = .ok (.aload_n 0, 1) := by decide +kernel
theorem dX4_init_29 : decode cX4_init 29 = .ok (.iconst 0, 1) := by decide +kernel
theorem dX4_init_30 : decode cX4_init 30 = .ok (.putfield 21, 3) := by decide +kernel
theorem dX4_init_33 : decode cX4_init 33 = .ok (.aload_n 0, 1) := by decide +kernel
theorem dX4_init_34 : decode cX4_init 34 = .ok (.bipush 16, 2) := by decide +kernel
theorem dX4_init_36 : decode cX4_init 36 = .ok (.putfield 25, 3) := by decide +kernel
theorem dX4_init_39 : decode cX4_init 39 = .ok (.aload_n 0, 1) := by decide +kernel
theorem dX4_init_40 : decode cX4_init 40 = .ok (.ldc 28, 2) := by decide +kernel
theorem dX4_init_42 : decode cX4_init 42 = .ok (.putfield 29, 3) := by decide +kernel
theorem dX4_init_45 : decode cX4_init 45 = .ok (.aload_n 0, 1) := by decide +kernel
theorem dX4_init_46 : decode cX4_init 46 = .ok (.ldc 32, 2) := by decide +kernel
theorem dX4_init_48 : decode cX4_init 48 = .ok (.putfield 33, 3) := by decide +kernel
theorem dX4_init_51 : decode cX4_init 51 = .ok (.aload_n 0, 1) := by decide +kernel
theorem dX4_init_52 : decode cX4_init 52 = .ok (.iconst 0, 1) := by decide +kernel
theorem dX4_init_53 : decode cX4_init 53 = .ok (.putfield 36, 3) := by decide +kernel
theorem dX4_init_56 : decode cX4_init 56 = .ok (.aload_n 0, 1) := by decide +kernel
theorem dX4_init_57 : decode cX4_init 57 = .ok (.getfield 10, 3) := by decide +kernel
theorem dX4_init_60 : decode cX4_init 60 = .ok (.iconst 2, 1) := by decide +kernel
theorem dX4_init_61 : decode cX4_init 61 = .ok (.iconst 1, 1) := by decide +kernel
theorem dX4_init_62 : decode cX4_init 62 = .ok (.iastore, 1) := by decide +kernel
theorem dX4_init_63 : decode cX4_init 63 = .ok (.aload_n 0, 1) := by decide +kernel
theorem dX4_init_64 : decode cX4_init 64 = .ok (.getfield 10, 3) := by decide +kernel
theorem dX4_init_67 : decode cX4_init 67 = .ok (.iconst 3, 1) := by decide +kernel
theorem dX4_init_68 : decode cX4_init 68 = .ok (.iconst 2, 1) := by decide +kernel
theorem dX4_init_69 : decode cX4_init 69 = .ok (.iastore, 1) := by decide +kernel
theorem dX4_init_70 : decode cX4_init 70 = .ok (.iconst 5, 1) := by decide +kernel
theorem dX4_init_71 : decode cX4_init 71 = .ok (.istore_n 1, 1) := by decide +kernel
theorem dX4_init_72 : decode cX4_init 72 = .ok (.iload_n 1, 1) := by decide +kernel
theorem dX4_init_73 : decode cX4_init 73 = .ok (.bipush 7, 2) := by decide +kernel
theorem dX4_init_75 : decode cX4_init 75 = .ok (.if_icmp .gt 32, 3) := by decide +kernel
theorem dX4_init_78 : decode cX4_init 78 = .ok (.aload_n 0, 1) := by decide +kernel
theorem dX4_init_79 : decode cX4_init 79 = .ok (.getfield 10, 3) := by decide +kernel
theorem dX4_init_82 : decode cX4_init 82 = .ok (.iload_n 1, 1) := by decide +kernel
theorem dX4_init_83 : decode cX4_init 83 = .ok (.invokestatic 40, 3) := by decide +kernel
theorem dX4_init_86 : decode cX4_init 86 = .ok (.iload_n 1, 1) := by decide +kernel
theorem dX4_init_87 : decode cX4_init 87 = .ok (.iastore, 1) := by decide +kernel
theorem dX4_init_88 : decode cX4_init 88 = .ok (.aload_n 0, 1) := by decide +kernel
theorem dX4_init_89 : decode cX4_init 89 = .ok (.getfield 10, 3) := by decide +kernel
theorem dX4_init_92 : decode cX4_init 92 = .ok (.iload_n 1, 1) := by decide +kernel
theorem dX4_init_93 : decode cX4_init 93 = .ok (.invokestatic 40, 3) := by decide +kernel
theorem dX4_init_96 : decode cX4_init 96 = .ok (.iconst 1, 1) := by decide +kernel
theorem dX4_init_97 : decode cX4_init 97 = .ok (.iadd, 1) := by decide +kernel
theorem dX4_init_98 : decode cX4_init 98 = .ok (.bipush 65, 2) := by decide +kernel
theorem dX4_init_100 : decode cX4_init 100 = .ok (.iastore, 1) := by decide +kernel
theorem dX4_init_101 : decode cX4_init 101 = .ok (.iinc 1 1, 3) := by decide +kernel
theorem dX4_init_104 : decode cX4_init 104 = .ok (.goto (-32), 3) := by decide +kernel
theorem dX4_init_107 : decode cX4_init 107 = .ok (.return_, 1) := by decide +kernel
theorem dX4_empty_0 : decode cX4_empty 0 = .ok (.iconst 4, 1) := by decide +kernel
theorem dX4_empty_1 : decode cX4_empty 1 = .ok (.iconst 2, 1) := by decide +kernel
theorem dX4_empty_2 : decode cX4_empty 2 = .ok (.iload_n 0, 1) := by decide +kernel
theorem dX4_empty_3 : decode cX4_empty 3 = .ok (.iconst 5, 1) := by decide +kernel
theorem dX4_empty_4 : decode cX4_empty 4 = .ok (.isub, 1) := by decide +kernel
theorem dX4_empty_5 : decode cX4_empty 5 = .ok (.imul, 1) := by decide +kernel
theorem dX4_empty_6 : decode cX4_empty 6 = .ok (.iadd, 1) := by decide +kernel
theorem dX4_empty_7 : decode cX4_empty 7 = .ok (.ireturn, 1) := by decide +kernel
theorem dX4_room_0 : decode cX4_room 0 = .ok (.aload_n 0, 1) := by decide +kernel
theorem dX4_room_1 : decode cX4_room 1 = .ok (.getfield 29, 3) := by decide +kernel
theorem dX4_room_4 : decode cX4_room 4 = .ok (.iload_n 1, 1) := by decide +kernel
theorem dX4_room_5 : decode cX4_room 5 = .ok (.iadd, 1) := by decide +kernel
theorem dX4_room_6 : decode cX4_room 6 = .ok (.aload_n 0, 1) := by decide +kernel
theorem dX4_room_7 : decode cX4_room 7 = .ok (.getfield 33, 3) := by decide +kernel
theorem dX4_room_10 : decode cX4_room 10 = .ok (.if_icmp .le 20, 3) := by decide +kernel
theorem dX4_room_30 : decode cX4_room 30 = .ok (.aload_n 0, 1) := by decide +kernel
theorem dX4_room_31 : decode cX4_room 31 = .ok (.getfield 29, 3) := by decide +kernel
theorem dX4_room_34 : decode cX4_room 34 = .ok (.istore_n 2, 1) := by decide +kernel
theorem dX4_room_35 : decode cX4_room 35 = .ok (.aload_n 0, 1) := by decide +kernel
theorem dX4_room_36 : decode cX4_room 36 = .ok (.dup, 1) := by decide +kernel
theorem dX4_room_37 : decode cX4_room 37 = .ok (.getfield 29, 3) := by decide +kernel
theorem dX4_room_40 : decode cX4_room 40 = .ok (.iload_n 1, 1) := by decide +kernel
theorem dX4_room_41 : decode cX4_room 41 = .ok (.iadd, 1) := by decide +kernel
theorem dX4_room_42 : decode cX4_room 42 = .ok (.putfield 29, 3) := by decide +kernel
theorem dX4_room_45 : decode cX4_room 45 = .ok (.iload_n 2, 1) := by decide +kernel
theorem dX4_room_46 : decode cX4_room 46 = .ok (.ireturn, 1) := by decide +kernel
theorem dX4_reset_0 : decode cX4_reset 0 = .ok (.aload_n 0, 1) := by decide +kernel
theorem dX4_reset_1 : decode cX4_reset 1 = .ok (.iload_n 1, 1) := by decide +kernel
theorem dX4_reset_2 : decode cX4_reset 2 = .ok (.putfield 29, 3) := by decide +kernel
theorem dX4_reset_5 : decode cX4_reset 5 = .ok (.aload_n 0, 1) := by decide +kernel
theorem dX4_reset_6 : decode cX4_reset 6 = .ok (.ldc 32, 2) := by decide +kernel
theorem dX4_reset_8 : decode cX4_reset 8 = .ok (.putfield 33, 3) := by decide +kernel
theorem dX4_reset_11 : decode cX4_reset 11 = .ok (.aload_n 0, 1) := by decide +kernel
theorem dX4_reset_12 : decode cX4_reset 12 = .ok (.iconst 0, 1) := by decide +kernel
theorem dX4_reset_13 : decode cX4_reset 13 = .ok (.putfield 36, 3) := by decide +kernel
theorem dX4_reset_16 : decode cX4_reset 16 = .ok (.aload_n 0, 1) := by decide +kernel
theorem dX4_reset_17 : decode cX4_reset 17 = .ok (.iconst 0, 1) := by decide +kernel
theorem dX4_reset_18 : decode cX4_reset 18 = .ok (.putfield 21, 3) := by decide +kernel
theorem dX4_reset_21 : decode cX4_reset 21 = .ok (.return_, 1) := by decide +kernel
theorem dX4_kind_0 : decode cX4_kind 0 = .ok (.aload_n 0, 1) := by decide +kernel
theorem dX4_kind_1 : decode cX4_kind 1 = .ok (.getfield 10, 3) := by decide +kernel
theorem dX4_kind_4 : decode cX4_kind 4 = .ok (.iload_n 1, 1) := by decide +kernel
theorem dX4_kind_5 : decode cX4_kind 5 = .ok (.iaload, 1) := by decide +kernel
theorem dX4_kind_6 : decode cX4_kind 6 = .ok (.bipush 15, 2) := by decide +kernel
theorem dX4_kind_8 : decode cX4_kind 8 = .ok (.iand, 1) := by decide +kernel
theorem dX4_kind_9 : decode cX4_kind 9 = .ok (.ireturn, 1) := by decide +kernel
theorem dX4_size_0 : decode cX4_size 0 = .ok (.aload_n 0, 1) := by decide +kernel
theorem dX4_size_1 : decode cX4_size 1 = .ok (.getfield 10, 3) := by decide +kernel
theorem dX4_size_4 : decode cX4_size 4 = .ok (.iload_n 1, 1) := by decide +kernel
theorem dX4_size_5 : decode cX4_size 5 = .ok (.iaload, 1) := by decide +kernel
theorem dX4_size_6 : decode cX4_size 6 = .ok (.iconst 4, 1) := by decide +kernel
theorem dX4_size_7 : decode cX4_size 7 = .ok (.iushr, 1) := by decide +kernel
theorem dX4_size_8 : decode cX4_size 8 = .ok (.ireturn, 1) := by decide +kernel
set_option maxRecDepth 20000 in
theorem ggX4_made_X4_empty : GoodIn wsX4_made wsX4_empty := goodIn_r _ [16] (by decide +kernel) (by decide +kernel)
set_option maxRecDepth 20000 in
theorem gX4_made_X4_empty : GoodIn wsX4_made (va_wsS RX4 40 yX4_empty wsX4_empty) := goodIn_app (goodIn_of _ (by decide +kernel)) ggX4_made_X4_empty
theorem dX4_made_0 : decode cX4_made 0 = .ok (.iload_n 1, 1) := by decide +kernel
theorem dX4_made_1 : decode cX4_made 1 = .ok (.bipush 6, 2) := by decide +kernel
theorem dX4_made_3 : decode cX4_made 3 = .ok (.if_icmp .ne 7, 3) := by decide +kernel
theorem dX4_made_6 : decode cX4_made 6 = .ok (.iconst 2, 1) := by decide +kernel
theorem dX4_made_7 : decode cX4_made 7 = .ok (.goto 4, 3) := by decide +kernel
theorem dX4_made_11 : decode cX4_made 11 = .ok (.istore 4, 2) := by decide +kernel
theorem dX4_made_13 : decode cX4_made 13 = .ok (.aload_n 0, 1) := by decide +kernel
theorem dX4_made_14 : decode cX4_made 14 = .ok (.getfield 21, 3) := by decide +kernel
theorem dX4_made_17 : decode cX4_made 17 = .ok (.iload_n 2, 1) := by decide +kernel
theorem dX4_made_18 : decode cX4_made 18 = .ok (.isub, 1) := by decide +kernel
theorem dX4_made_19 : decode cX4_made 19 = .ok (.iload 4, 2) := by decide +kernel
theorem dX4_made_21 : decode cX4_made 21 = .ok (.idiv, 1) := by decide +kernel
theorem dX4_made_22 : decode cX4_made 22 = .ok (.istore 5, 2) := by decide +kernel
theorem dX4_made_24 : decode cX4_made 24 = .ok (.aload_n 0, 1) := by decide +kernel
theorem dX4_made_25 : decode cX4_made 25 = .ok (.iload_n 2, 1) := by decide +kernel
theorem dX4_made_26 : decode cX4_made 26 = .ok (.putfield 21, 3) := by decide +kernel
theorem dX4_made_29 : decode cX4_made 29 = .ok (.iload 5, 2) := by decide +kernel
theorem dX4_made_31 : decode cX4_made 31 = .ok (.ifCond .gt 8, 3) := by decide +kernel
theorem dX4_made_34 : decode cX4_made 34 = .ok (.iload_n 1, 1) := by decide +kernel
theorem dX4_made_35 : decode cX4_made 35 = .ok (.invokestatic 40, 3) := by decide +kernel
theorem dX4_made_38 : decode cX4_made 38 = .ok (.ireturn, 1) := by decide +kernel
set_option maxRecDepth 20000 in
theorem ggX4_copy_X4_kind : GoodIn wsX4_copy wsX4_kind := goodIn_r _ [10, 1, 27, 28, 29, 30, 31, 32, 33, 34] (by decide +kernel) (by decide +kernel)
set_option maxRecDepth 20000 in
theorem gX4_copy_X4_kind : GoodIn wsX4_copy (wsV RX4 46 RX4 yX4_kind wsX4_kind) := goodIn_app (goodIn_of _ (by decide +kernel)) ggX4_copy_X4_kind
set_option maxRecDepth 20000 in
theorem ggX4_copy_X4_size : GoodIn wsX4_copy wsX4_size := goodIn_r _ [14, 1, 27, 28, 29, 30, 31, 32, 33, 34] (by decide +kernel) (by decide +kernel)
set_option maxRecDepth 20000 in
theorem gX4_copy_X4_size : GoodIn wsX4_copy (wsV RX4 110 RX4 yX4_size wsX4_size) := goodIn_app (goodIn_of _ (by decide +kernel)) ggX4_copy_X4_size
set_option maxRecDepth 20000 in
theorem ggX4_copy_X4_room : GoodIn wsX4_copy wsX4_room := goodIn_r _ [18, 19, 20, 21, 22, 23, 27, 28, 29, 30, 31, 32, 33, 34] (by decide +kernel) (by decide +kernel)
set_option maxRecDepth 20000 in
theorem gX4_copy_X4_room : GoodIn wsX4_copy (wsV RX4 65 RX4 yX4_room wsX4_room) := goodIn_app (goodIn_of _ (by decide +kernel)) ggX4_copy_X4_room
theorem dX4_copy_0 : decode cX4_copy 0 = .ok (.aload_n 0, 1) := by decide +kernel
theorem dX4_copy_1 : decode cX4_copy 1 = .ok (.iload_n 1, 1) := by decide +kernel
theorem dX4_copy_2 : decode cX4_copy 2 = .ok (.invokevirtual 46, 3) := by decide +kernel
theorem dX4_copy_5 : decode cX4_copy 5 = .ok (.istore_n 2, 1) := by decide +kernel
theorem dX4_copy_6 : decode cX4_copy 6 = .ok (.iload_n 2, 1) := by decide +kernel
theorem dX4_copy_7 : decode cX4_copy 7 = .ok (.iconst 3, 1) := by decide +kernel
theorem dX4_copy_8 : decode cX4_copy 8 = .ok (.if_icmp .ge 5, 3) := by decide +kernel
theorem dX4_copy_13 : decode cX4_copy 13 = .ok (.aload_n 0, 1) := by decide +kernel
theorem dX4_copy_14 : decode cX4_copy 14 = .ok (.iload_n 1, 1) := by decide +kernel
theorem dX4_copy_15 : decode cX4_copy 15 = .ok (.invokevirtual 110, 3) := by decide +kernel
theorem dX4_copy_18 : decode cX4_copy 18 = .ok (.istore_n 3, 1) := by decide +kernel
theorem dX4_copy_19 : decode cX4_copy 19 = .ok (.iload_n 2, 1) := by decide +kernel
theorem dX4_copy_20 : decode cX4_copy 20 = .ok (.iconst 3, 1) := by decide +kernel
theorem dX4_copy_21 : decode cX4_copy 21 = .ok (.if_icmp .ne 7, 3) := by decide +kernel
theorem dX4_copy_28 : decode cX4_copy 28 = .ok (.iload_n 2, 1) := by decide +kernel
theorem dX4_copy_29 : decode cX4_copy 29 = .ok (.iconst 4, 1) := by decide +kernel
theorem dX4_copy_30 : decode cX4_copy 30 = .ok (.if_icmp .ne 9, 3) := by decide +kernel
theorem dX4_copy_39 : decode cX4_copy 39 = .ok (.iload_n 2, 1) := by decide +kernel
theorem dX4_copy_40 : decode cX4_copy 40 = .ok (.bipush 6, 2) := by decide +kernel
theorem dX4_copy_42 : decode cX4_copy 42 = .ok (.if_icmp .ne 11, 3) := by decide +kernel
theorem dX4_copy_45 : decode cX4_copy 45 = .ok (.iconst 2, 1) := by decide +kernel
theorem dX4_copy_46 : decode cX4_copy 46 = .ok (.iload_n 3, 1) := by decide +kernel
theorem dX4_copy_47 : decode cX4_copy 47 = .ok (.imul, 1) := by decide +kernel
theorem dX4_copy_48 : decode cX4_copy 48 = .ok (.iconst 2, 1) := by decide +kernel
theorem dX4_copy_49 : decode cX4_copy 49 = .ok (.iadd, 1) := by decide +kernel
theorem dX4_copy_50 : decode cX4_copy 50 = .ok (.goto 6, 3) := by decide +kernel
theorem dX4_copy_56 : decode cX4_copy 56 = .ok (.istore 4, 2) := by decide +kernel
theorem dX4_copy_58 : decode cX4_copy 58 = .ok (.aload_n 0, 1) := by decide +kernel
theorem dX4_copy_59 : decode cX4_copy 59 = .ok (.iload 4, 2) := by decide +kernel
theorem dX4_copy_61 : decode cX4_copy 61 = .ok (.invokevirtual 65, 3) := by decide +kernel
theorem dX4_copy_64 : decode cX4_copy 64 = .ok (.istore 5, 2) := by decide +kernel
theorem dX4_copy_66 : decode cX4_copy 66 = .ok (.aload_n 0, 1) := by decide +kernel
theorem dX4_copy_67 : decode cX4_copy 67 = .ok (.getfield 10, 3) := by decide +kernel
theorem dX4_copy_70 : decode cX4_copy 70 = .ok (.iload_n 1, 1) := by decide +kernel
theorem dX4_copy_71 : decode cX4_copy 71 = .ok (.aload_n 0, 1) := by decide +kernel
theorem dX4_copy_72 : decode cX4_copy 72 = .ok (.getfield 10, 3) := by decide +kernel
theorem dX4_copy_75 : decode cX4_copy 75 = .ok (.iload 5, 2) := by decide +kernel
theorem dX4_copy_77 : decode cX4_copy 77 = .ok (.iload 4, 2) := by decide +kernel
theorem dX4_copy_79 : decode cX4_copy 79 = .ok (.invokestatic 76, 3) := by decide +kernel
theorem dX4_copy_82 : decode cX4_copy 82 = .ok (.iload_n 2, 1) := by decide +kernel
theorem dX4_copy_83 : decode cX4_copy 83 = .ok (.iconst 5, 1) := by decide +kernel
theorem dX4_copy_84 : decode cX4_copy 84 = .ok (.if_icmp .lt 42, 3) := by decide +kernel
theorem dX4_copy_87 : decode cX4_copy 87 = .ok (.iconst 2, 1) := by decide +kernel
theorem dX4_copy_88 : decode cX4_copy 88 = .ok (.istore 6, 2) := by decide +kernel
theorem dX4_copy_90 : decode cX4_copy 90 = .ok (.iload 6, 2) := by decide +kernel
theorem dX4_copy_92 : decode cX4_copy 92 = .ok (.iload 4, 2) := by decide +kernel
theorem dX4_copy_94 : decode cX4_copy 94 = .ok (.if_icmp .ge 32, 3) := by decide +kernel
theorem dX4_copy_126 : decode cX4_copy 126 = .ok (.iload 5, 2) := by decide +kernel
theorem dX4_copy_128 : decode cX4_copy 128 = .ok (.ireturn, 1) := by decide +kernel
set_option maxRecDepth 20000 in
theorem ggX4_copyTo_X4_copy : GoodIn wsX4_copyTo wsX4_copy := goodIn_r _ [7, 8, 9, 10, 11, 12, 13, 14, 15, 6, 16, 17, 18, 19, 20, 21, 22, 23, 24, 1, 25, 26, 27, 28, 3, 4, 5, 29, 30, 31, 32, 33, 34, 35, 36] (by decide +kernel) (by decide +kernel)
set_option maxRecDepth 20000 in
theorem gX4_copyTo_X4_copy : GoodIn wsX4_copyTo (wsV RX4 116 RX4 yX4_copy wsX4_copy) := goodIn_app (goodIn_of _ (by decide +kernel)) ggX4_copyTo_X4_copy
theorem dX4_copyTo_0 : decode cX4_copyTo 0 = .ok (.aload_n 0, 1) := by decide +kernel
theorem dX4_copyTo_1 : decode cX4_copyTo 1 = .ok (.getfield 29, 3) := by decide +kernel
theorem dX4_copyTo_4 : decode cX4_copyTo 4 = .ok (.istore_n 3, 1) := by decide +kernel
theorem dX4_copyTo_5 : decode cX4_copyTo 5 = .ok (.aload_n 0, 1) := by decide +kernel
theorem dX4_copyTo_6 : decode cX4_copyTo 6 = .ok (.ldc 82, 2) := by decide +kernel
theorem dX4_copyTo_8 : decode cX4_copyTo 8 = .ok (.iload_n 1, 1) := by decide +kernel
theorem dX4_copyTo_9 : decode cX4_copyTo 9 = .ok (.sipush 16500, 3) := by decide +kernel
theorem dX4_copyTo_12 : decode cX4_copyTo 12 = .ok (.imul, 1) := by decide +kernel
theorem dX4_copyTo_13 : decode cX4_copyTo 13 = .ok (.iadd, 1) := by decide +kernel
theorem dX4_copyTo_14 : decode cX4_copyTo 14 = .ok (.putfield 29, 3) := by decide +kernel
theorem dX4_copyTo_17 : decode cX4_copyTo 17 = .ok (.aload_n 0, 1) := by decide +kernel
theorem dX4_copyTo_18 : decode cX4_copyTo 18 = .ok (.iload_n 2, 1) := by decide +kernel
theorem dX4_copyTo_19 : decode cX4_copyTo 19 = .ok (.invokevirtual 116, 3) := by decide +kernel
theorem dX4_copyTo_22 : decode cX4_copyTo 22 = .ok (.istore 4, 2) := by decide +kernel
theorem dX4_copyTo_24 : decode cX4_copyTo 24 = .ok (.aload_n 0, 1) := by decide +kernel
theorem dX4_copyTo_25 : decode cX4_copyTo 25 = .ok (.iload_n 3, 1) := by decide +kernel
theorem dX4_copyTo_26 : decode cX4_copyTo 26 = .ok (.putfield 29, 3) := by decide +kernel
theorem dX4_copyTo_29 : decode cX4_copyTo 29 = .ok (.iload 4, 2) := by decide +kernel
theorem dX4_copyTo_31 : decode cX4_copyTo 31 = .ok (.ireturn, 1) := by decide +kernel
theorem dX5_init_0 : decode cX5_init 0 = .ok (.aload_n 0, 1) := by decide +kernel
theorem dX5_init_1 : decode cX5_init 1 = .ok (.invokespecial 1, 3) := by decide +kernel
theorem dX5_init_4 : decode cX5_init 4 = .ok (.aload_n 0, 1) := by decide +kernel
theorem dX5_init_5 : decode cX5_init 5 = .ok (.sipush 20000, 3) := by decide +kernel
theorem dX5_init_8 : decode cX5_init 8 = .ok (.newarray .int, 2) := by decide +kernel
theorem dX5_init_10 : decode cX5_init 10 = .ok (.putfield 7, 3) := by decide +kernel
theorem dX5_init_13 : decode cX5_init 13 = .ok (.aload_n 0, 1) := by decide +kernel
theorem dX5_init_14 : decode cX5_init 14 = .ok (.ldc 13, 2) := by decide +kernel
theorem dX5_init_16 : decode cX5_init 16 = .ok (.newarray .int, 2) := by decide +kernel
theorem dX5_init_18 : decode cX5_init 18 = .ok (.putfield 14, 3) := by decide +kernel
theorem dX5_init_21 : decode cX5_init 21 = .ok (.aload_n 0, 1) := by decide +kernel
theorem dX5_init_22 : decode cX5_init 22 = .ok (.iconst 0, 1) := by decide +kernel
theorem dX5_init_23 : decode cX5_init 23 = .ok (.putfield 17, 3) := by decide +kernel
theorem dX5_init_26 : decode cX5_init 26 = .ok (.aload_n 0, 1) := by decide +kernel
theorem dX5_init_27 : decode cX5_init 27 = .ok (.iconst 0, 1) := by decide +kernel
theorem dX5_init_28 : decode cX5_init 28 = .ok (.putfield 21, 3) := by decide +kernel
theorem dX5_init_31 : decode cX5_init 31 = .ok (.aload_n 0, 1) := by decide +kernel
theorem dX5_init_32 : decode cX5_init 32 = .ok (.iconst 0, 1) := by decide +kernel
theorem dX5_init_33 : decode cX5_init 33 = .ok (.putfield 24, 3) := by decide +kernel
theorem dX5_init_36 : decode cX5_init 36 = .ok (.aload_n 0, 1) := by decide +kernel
theorem dX5_init_37 : decode cX5_init 37 = .ok (.iconst 0, 1) := by decide +kernel
theorem dX5_init_38 : decode cX5_init 38 = .ok (.putfield 27, 3) := by decide +kernel
theorem dX5_init_41 : decode cX5_init 41 = .ok (.aload_n 0, 1) := by decide +kernel
theorem dX5_init_42 : decode cX5_init 42 = .ok (.iconst 0, 1) := by decide +kernel
theorem dX5_init_43 : decode cX5_init 43 = .ok (.putfield 30, 3) := by decide +kernel
theorem dX5_init_46 : decode cX5_init 46 = .ok (.aload_n 0, 1) := by decide +kernel
theorem dX5_init_47 : decode cX5_init 47 = .ok (.iconst 0, 1) := by decide +kernel
theorem dX5_init_48 : decode cX5_init 48 = .ok (.putfield 34, 3) := by decide +kernel
theorem dX5_init_51 : decode cX5_init 51 = .ok (.aload_n 0, 1) := by decide +kernel
theorem dX5_init_52 : decode cX5_init 52 = .ok (.iconst 0, 1) := by decide +kernel
theorem dX5_init_53 : decode cX5_init 53 = .ok (.putfield 37, 3) := by decide +kernel
theorem dX5_init_56 : decode cX5_init 56 = .ok (.aload_n 0, 1) := by decide +kernel
theorem dX5_init_57 : decode cX5_init 57 = .ok (.aconst_null, 1) := by decide +kernel
theorem dX5_init_58 : decode cX5_init 58 = .ok (.putfield 40, 3) := by decide +kernel
theorem dX5_init_61 : decode cX5_init 61 = .ok (.aload_n 0, 1) := by decide +kernel
theorem dX5_init_62 : decode cX5_init 62 = .ok (.aconst_null, 1) := by decide +kernel
theorem dX5_init_63 : decode cX5_init 63 = .ok (.putfield 44, 3) := by decide +kernel
theorem dX5_init_66 : decode cX5_init 66 = .ok (.aload_n 0, 1) := by decide +kernel
theorem dX5_init_67 : decode cX5_init 67 = .ok (.aconst_null, 1) := by decide +kernel
theorem dX5_init_68 : decode cX5_init 68 = .ok (.putfield 47, 3) := by decide +kernel
theorem dX5_init_71 : decode cX5_init 71 = .ok (.aload_n 0, 1) := by decide +kernel
theorem dX5_init_72 : decode cX5_init 72 = .ok (.iconst 0, 1) := by decide +kernel
theorem dX5_init_73 : decode cX5_init 73 = .ok (.putfield 50, 3) := by decide +kernel
theorem dX5_init_76 : decode cX5_init 76 = .ok (.aload_n 0, 1) := by decide +kernel
theorem dX5_init_77 : decode cX5_init 77 = .ok (.iconst 0, 1) := by decide +kernel
theorem dX5_init_78 : decode cX5_init 78 = .ok (.putfield 53, 3) := by decide +kernel
theorem dX5_init_81 : decode cX5_init 81 = .ok (.aload_n 0, 1) := by decide +kernel
theorem dX5_init_82 : decode cX5_init 82 = .ok (.iconst 0, 1) := by decide +kernel
theorem dX5_init_83 : decode cX5_init 83 = .ok (.putfield 56, 3) := by decide +kernel
theorem dX5_init_86 : decode cX5_init 86 = .ok (.aload_n 0, 1) := by decide +kernel
theorem dX5_init_87 : decode cX5_init 87 = .ok (.sipush 400, 3) := by decide +kernel
theorem dX5_init_90 : decode cX5_init 90 = .ok (.newarray .int, 2) := by decide +kernel
theorem dX5_init_92 : decode cX5_init 92 = .ok (.putfield 59, 3) := by decide +kernel
theorem dX5_init_95 : decode cX5_init 95 = .ok (.aload_n 0, 1) := by decide +kernel
theorem dX5_init_96 : decode cX5_init 96 = .ok (.aload_n 1, 1) := by decide +kernel
theorem dX5_init_97 : decode cX5_init 97 = .ok (.putfield 62, 3) := by decide +kernel
theorem dX5_init_100 : decode cX5_init 100 = .ok (.aload_n 0, 1) := by decide +kernel
theorem dX5_init_101 : decode cX5_init 101 = .ok (.aload_n 2, 1) := by decide +kernel
theorem dX5_init_102 : decode cX5_init 102 = .ok (.putfield 66, 3) := by decide +kernel
theorem dX5_init_105 : decode cX5_init 105 = .ok (.aload_n 0, 1) := by decide +kernel
theorem dX5_init_106 : decode cX5_init 106 = .ok (.aload_n 3, 1) := by decide +kernel
theorem dX5_init_107 : decode cX5_init 107 = .ok (.putfield 70, 3) := by decide +kernel
theorem dX5_init_110 : decode cX5_init 110 = .ok (.return_, 1) := by decide +kernel
theorem dX8_init_0 : decode cX8_init 0 = .ok (.aload_n 0, 1) := by decide +kernel
theorem dX8_init_1 : decode cX8_init 1 = .ok (.invokespecial 1, 3) := by decide +kernel
theorem dX8_init_4 : decode cX8_init 4 = .ok (.aload_n 0, 1) := by decide +kernel
theorem dX8_init_5 : decode cX8_init 5 = .ok (.sipush 6002, 3) := by decide +kernel
theorem dX8_init_8 : decode cX8_init 8 = .ok (.newarray .int, 2) := by decide +kernel
theorem dX8_init_10 : decode cX8_init 10 = .ok (.putfield 9, 3) := by decide +kernel
theorem dX8_init_13 : decode cX8_init 13 = .ok (.aload_n 0, 1) := by decide +kernel
theorem dX8_init_14 : decode cX8_init 14 = .ok (.sipush 6002, 3) := by decide +kernel
theorem dX8_init_17 : decode cX8_init 17 = .ok (.newarray .int, 2) := by decide +kernel
theorem dX8_init_19 : decode cX8_init 19 = .ok (.putfield 13, 3) := by decide +kernel
theorem dX8_init_22 : decode cX8_init 22 = .ok (.aload_n 0, 1) := by decide +kernel
theorem dX8_init_23 : decode cX8_init 23 = .ok (.sipush 6002, 3) := by decide +kernel
theorem dX8_init_26 : decode cX8_init 26 = .ok (.newarray .int, 2) := by decide +kernel
theorem dX8_init_28 : decode cX8_init 28 = .ok (.putfield 16, 3) := by decide +kernel
theorem dX8_init_31 : decode cX8_init 31 = .ok (.aload_n 0, 1) := by decide +kernel
theorem dX8_init_32 : decode cX8_init 32 = .ok (.sipush 6002, 3) := by decide +kernel
theorem dX8_init_35 : decode cX8_init 35 = .ok (.newarray .int, 2) := by decide +kernel
theorem dX8_init_37 : decode cX8_init 37 = .ok (.putfield 19, 3) := by decide +kernel
theorem dX8_init_40 : decode cX8_init 40 = .ok (.aload_n 0, 1) := by decide +kernel
theorem dX8_init_41 : decode cX8_init 41 = .ok (.iconst (-1), 1) := by decide +kernel
theorem dX8_init_42 : decode cX8_init 42 = .ok (.putfield 22, 3) := by decide +kernel
theorem dX8_init_45 : decode cX8_init 45 = .ok (.aload_n 0, 1) := by decide +kernel
theorem dX8_init_46 : decode cX8_init 46 = .ok (.iconst 0, 1) := by decide +kernel
theorem dX8_init_47 : decode cX8_init 47 = .ok (.putfield 26, 3) := by decide +kernel
theorem dX8_init_50 : decode cX8_init 50 = .ok (.aload_n 0, 1) := by decide +kernel
theorem dX8_init_51 : decode cX8_init 51 = .ok (.iconst 0, 1) := by decide +kernel
theorem dX8_init_52 : decode cX8_init 52 = .ok (.putfield 29, 3) := by decide +kernel
theorem dX8_init_55 : decode cX8_init 55 = .ok (.aload_n 0, 1) := by decide +kernel
theorem dX8_init_56 : decode cX8_init 56 = .ok (.iconst 0, 1) := by decide +kernel
theorem dX8_init_57 : decode cX8_init 57 = .ok (.putfield 32, 3) := by decide +kernel
theorem dX8_init_60 : decode cX8_init 60 = .ok (.aload_n 0, 1) := by decide +kernel
theorem dX8_init_61 : decode cX8_init 61 = .ok (.iconst (-1), 1) := by decide +kernel
theorem dX8_init_62 : decode cX8_init 62 = .ok (.putfield 35, 3) := by decide +kernel
theorem dX8_init_65 : decode cX8_init 65 = .ok (.aload_n 0, 1) := by decide +kernel
theorem dX8_init_66 : decode cX8_init 66 = .ok (.iconst 0, 1) := by decide +kernel
theorem dX8_init_67 : decode cX8_init 67 = .ok (.putfield 38, 3) := by decide +kernel
theorem dX8_init_70 : decode cX8_init 70 = .ok (.aload_n 0, 1) := by decide +kernel
theorem dX8_init_71 : decode cX8_init 71 = .ok (.iconst 0, 1) := by decide +kernel
theorem dX8_init_72 : decode cX8_init 72 = .ok (.putfield 41, 3) := by decide +kernel
theorem dX8_init_75 : decode cX8_init 75 = .ok (.aload_n 0, 1) := by decide +kernel
theorem dX8_init_76 : decode cX8_init 76 = .ok (.aconst_null, 1) := by decide +kernel
theorem dX8_init_77 : decode cX8_init 77 = .ok (.putfield 44, 3) := by decide +kernel
theorem dX8_init_80 : decode cX8_init 80 = .ok (.aload_n 0, 1) := by decide +kernel
theorem dX8_init_81 : decode cX8_init 81 = .ok (.aload_n 1, 1) := by decide +kernel
theorem dX8_init_82 : decode cX8_init 82 = .ok (.putfield 48, 3) := by decide +kernel
theorem dX8_init_85 : decode cX8_init 85 = .ok (.aload_n 0, 1) := by decide +kernel
theorem dX8_init_86 : decode cX8_init 86 = .ok (.aload_n 2, 1) := by decide +kernel
theorem dX8_init_87 : decode cX8_init 87 = .ok (.putfield 52, 3) := by decide +kernel
theorem dX8_init_90 : decode cX8_init 90 = .ok (.aload_n 0, 1) := by decide +kernel
theorem dX8_init_91 : decode cX8_init 91 = .ok (.aload_n 3, 1) := by decide +kernel
theorem dX8_init_92 : decode cX8_init 92 = .ok (.putfield 56, 3) := by decide +kernel
theorem dX8_init_95 : decode cX8_init 95 = .ok (.return_, 1) := by decide +kernel
theorem dX9_init_0 : decode cX9_init 0 = .ok (.aload_n 0, 1) := by decide +kernel
theorem dX9_init_1 : decode cX9_init 1 = .ok (.invokespecial 5, 3) := by decide +kernel
theorem dX9_init_4 : decode cX9_init 4 = .ok (.aload_n 0, 1) := by decide +kernel
theorem dX9_init_5 : decode cX9_init 5 = .ok (.aconst_null, 1) := by decide +kernel
theorem dX9_init_6 : decode cX9_init 6 = .ok (.putfield 11, 3) := by decide +kernel
theorem dX9_init_9 : decode cX9_init 9 = .ok (.aload_n 0, 1) := by decide +kernel
theorem dX9_init_10 : decode cX9_init 10 = .ok (.iconst 0, 1) := by decide +kernel
theorem dX9_init_11 : decode cX9_init 11 = .ok (.putfield 15, 3) := by decide +kernel
theorem dX9_init_14 : decode cX9_init 14 = .ok (.aload_n 0, 1) := by decide +kernel
theorem dX9_init_15 : decode cX9_init 15 = .ok (.iconst (-1), 1) := by decide +kernel
theorem dX9_init_16 : decode cX9_init 16 = .ok (.putfield 19, 3) := by decide +kernel
theorem dX9_init_19 : decode cX9_init 19 = .ok (.aload_n 0, 1) := by decide +kernel
theorem dX9_init_20 : decode cX9_init 20 = .ok (.iconst 0, 1) := by decide +kernel
theorem dX9_init_21 : decode cX9_init 21 = .ok (.putfield 22, 3) := by decide +kernel
theorem dX9_init_24 : decode cX9_init 24 = .ok (.aload_n 0, 1) := by decide +kernel
theorem dX9_init_25 : decode cX9_init 25 = .ok (.bipush 10, 2) := by decide +kernel
theorem dX9_init_27 : decode cX9_init 27 = .ok (.newarray .int, 2) := by decide +kernel
theorem dX9_init_29 : decode cX9_init 29 = .ok (.putfield 25, 3) := by decide +kernel
theorem dX9_init_32 : decode cX9_init 32 = .ok (.aload_n 0, 1) := by decide +kernel
theorem dX9_init_33 : decode cX9_init 33 = .ok (.bipush 16, 2) := by decide +kernel
theorem dX9_init_35 : decode cX9_init 35 = .ok (.newarray .int, 2) := by decide +kernel
theorem dX9_init_37 : decode cX9_init 37 = .ok (.putfield 29, 3) := by decide +kernel
theorem dX9_init_40 : decode cX9_init 40 = .ok (.aload_n 0, 1) := by decide +kernel
theorem dX9_init_41 : decode cX9_init 41 = .ok (.iconst 0, 1) := by decide +kernel
theorem dX9_init_42 : decode cX9_init 42 = .ok (.putfield 32, 3) := by decide +kernel
theorem dX9_init_45 : decode cX9_init 45 = .ok (.aload_n 0, 1) := by decide +kernel
theorem dX9_init_46 : decode cX9_init 46 = .ok (.iconst 0, 1) := by decide +kernel
theorem dX9_init_47 : decode cX9_init 47 = .ok (.putfield 35, 3) := by decide +kernel
theorem dX9_init_50 : decode cX9_init 50 = .ok (.aload_n 0, 1) := by decide +kernel
theorem dX9_init_51 : decode cX9_init 51 = .ok (.iconst 0, 1) := by decide +kernel
theorem dX9_init_52 : decode cX9_init 52 = .ok (.putfield 39, 3) := by decide +kernel
theorem dX9_init_55 : decode cX9_init 55 = .ok (.aload_n 0, 1) := by decide +kernel
theorem dX9_init_56 : decode cX9_init 56 = .ok (.iconst 0, 1) := by decide +kernel
theorem dX9_init_57 : decode cX9_init 57 = .ok (.putfield 42, 3) := by decide +kernel
theorem dX9_init_60 : decode cX9_init 60 = .ok (.aload_n 0, 1) := by decide +kernel
theorem dX9_init_61 : decode cX9_init 61 = .ok (.iconst 0, 1) := by decide +kernel
theorem dX9_init_62 : decode cX9_init 62 = .ok (.putfield 45, 3) := by decide +kernel
theorem dX9_init_65 : decode cX9_init 65 = .ok (.aload_n 0, 1) := by decide +kernel
theorem dX9_init_66 : decode cX9_init 66 = .ok (.iconst (-1), 1) := by decide +kernel
theorem dX9_init_67 : decode cX9_init 67 = .ok (.putfield 48, 3) := by decide +kernel
theorem dX9_init_70 : decode cX9_init 70 = .ok (.aload_n 0, 1) := by decide +kernel
theorem dX9_init_71 : decode cX9_init 71 = .ok (.iconst (-1), 1) := by decide +kernel
theorem dX9_init_72 : decode cX9_init 72 = .ok (.putfield 51, 3) := by decide +kernel
theorem dX9_init_75 : decode cX9_init 75 = .ok (.aload_n 0, 1) := by decide +kernel
theorem dX9_init_76 : decode cX9_init 76 = .ok (.sipush 402, 3) := by decide +kernel
theorem dX9_init_79 : decode cX9_init 79 = .ok (.newarray .int, 2) := by decide +kernel
theorem dX9_init_81 : decode cX9_init 81 = .ok (.putfield 54, 3) := by decide +kernel
theorem dX9_init_84 : decode cX9_init 84 = .ok (.aload_n 0, 1) := by decide +kernel
theorem dX9_init_85 : decode cX9_init 85 = .ok (.aload_n 1, 1) := by decide +kernel
theorem dX9_init_86 : decode cX9_init 86 = .ok (.putfield 57, 3) := by decide +kernel
theorem dX9_init_89 : decode cX9_init 89 = .ok (.aload_n 0, 1) := by decide +kernel
theorem dX9_init_90 : decode cX9_init 90 = .ok (.aload_n 2, 1) := by decide +kernel
theorem dX9_init_91 : decode cX9_init 91 = .ok (.putfield 61, 3) := by decide +kernel
theorem dX9_init_94 : decode cX9_init 94 = .ok (.return_, 1) := by decide +kernel
theorem dX10_init_0 : decode cX10_init 0 = .ok (.aload_n 0, 1) := by decide +kernel
theorem dX10_init_1 : decode cX10_init 1 = .ok (.invokespecial 1, 3) := by decide +kernel
theorem dX10_init_4 : decode cX10_init 4 = .ok (.aload_n 0, 1) := by decide +kernel
theorem dX10_init_5 : decode cX10_init 5 = .ok (.sipush 4004, 3) := by decide +kernel
theorem dX10_init_8 : decode cX10_init 8 = .ok (.newarray .int, 2) := by decide +kernel
theorem dX10_init_10 : decode cX10_init 10 = .ok (.putfield 7, 3) := by decide +kernel
theorem dX10_init_13 : decode cX10_init 13 = .ok (.aload_n 0, 1) := by decide +kernel
theorem dX10_init_14 : decode cX10_init 14 = .ok (.iconst 0, 1) := by decide +kernel
theorem dX10_init_15 : decode cX10_init 15 = .ok (.putfield 13, 3) := by decide +kernel
theorem dX10_init_18 : decode cX10_init 18 = .ok (.aload_n 0, 1) := by decide +kernel
theorem dX10_init_19 : decode cX10_init 19 = .ok (.iconst 0, 1) := by decide +kernel
theorem dX10_init_20 : decode cX10_init 20 = .ok (.putfield 17, 3) := by decide +kernel
theorem dX10_init_23 : decode cX10_init 23 = .ok (.aload_n 0, 1) := by decide +kernel
theorem dX10_init_24 : decode cX10_init 24 = .ok (.sipush 16400, 3) := by decide +kernel
theorem dX10_init_27 : decode cX10_init 27 = .ok (.newarray .int, 2) := by decide +kernel
theorem dX10_init_29 : decode cX10_init 29 = .ok (.putfield 21, 3) := by decide +kernel
theorem dX10_init_32 : decode cX10_init 32 = .ok (.aload_n 0, 1) := by decide +kernel
theorem dX10_init_33 : decode cX10_init 33 = .ok (.sipush 16400, 3) := by decide +kernel
theorem dX10_init_36 : decode cX10_init 36 = .ok (.newarray .int, 2) := by decide +kernel
theorem dX10_init_38 : decode cX10_init 38 = .ok (.putfield 24, 3) := by decide +kernel
theorem dX10_init_41 : decode cX10_init 41 = .ok (.aload_n 0, 1) := by decide +kernel
theorem dX10_init_42 : decode cX10_init 42 = .ok (.sipush 16400, 3) := by decide +kernel
theorem dX10_init_45 : decode cX10_init 45 = .ok (.newarray .int, 2) := by decide +kernel
theorem dX10_init_47 : decode cX10_init 47 = .ok (.putfield 27, 3) := by decide +kernel
theorem dX10_init_50 : decode cX10_init 50 = .ok (.aload_n 0, 1) := by decide +kernel
theorem dX10_init_51 : decode cX10_init 51 = .ok (.sipush 16400, 3) := by decide +kernel
theorem dX10_init_54 : decode cX10_init 54 = .ok (.newarray .int, 2) := by decide +kernel
theorem dX10_init_56 : decode cX10_init 56 = .ok (.putfield 30, 3) := by decide +kernel
theorem dX10_init_59 : decode cX10_init 59 = .ok (.aload_n 0, 1) := by decide +kernel
theorem dX10_init_60 : decode cX10_init 60 = .ok (.sipush 16400, 3) := by decide +kernel
theorem dX10_init_63 : decode cX10_init 63 = .ok (.newarray .int, 2) := by decide +kernel
theorem dX10_init_65 : decode cX10_init 65 = .ok (.putfield 33, 3) := by decide +kernel
theorem dX10_init_68 : decode cX10_init 68 = .ok (.aload_n 0, 1) := by decide +kernel
theorem dX10_init_69 : decode cX10_init 69 = .ok (.sipush 16400, 3) := by decide +kernel
theorem dX10_init_72 : decode cX10_init 72 = .ok (.newarray .int, 2) := by decide +kernel
theorem dX10_init_74 : decode cX10_init 74 = .ok (.putfield 36, 3) := by decide +kernel
theorem dX10_init_77 : decode cX10_init 77 = .ok (.aload_n 0, 1) := by decide +kernel
theorem dX10_init_78 : decode cX10_init 78 = .ok (.iconst 0, 1) := by decide +kernel
theorem dX10_init_79 : decode cX10_init 79 = .ok (.putfield 39, 3) := by decide +kernel
theorem dX10_init_82 : decode cX10_init 82 = .ok (.aload_n 0, 1) := by decide +kernel
theorem dX10_init_83 : decode cX10_init 83 = .ok (.sipush 16800, 3) := by decide +kernel
theorem dX10_init_86 : decode cX10_init 86 = .ok (.newarray .int, 2) := by decide +kernel
theorem dX10_init_88 : decode cX10_init 88 = .ok (.putfield 42, 3) := by decide +kernel
theorem dX10_init_91 : decode cX10_init 91 = .ok (.aload_n 0, 1) := by decide +kernel
theorem dX10_init_92 : decode cX10_init 92 = .ok (.iconst 0, 1) := by decide +kernel
theorem dX10_init_93 : decode cX10_init 93 = .ok (.putfield 45, 3) := by decide +kernel
theorem dX10_init_96 : decode cX10_init 96 = .ok (.aload_n 0, 1) := by decide +kernel
theorem dX10_init_97 : decode cX10_init 97 = .ok (.iconst 0, 1) := by decide +kernel
theorem dX10_init_98 : decode cX10_init 98 = .ok (.putfield 48, 3) := by decide +kernel
theorem dX10_init_101 : decode cX10_init 101 = .ok (.aload_n 0, 1) := by decide +kernel
theorem dX10_init_102 : decode cX10_init 102 = .ok (.iconst 0, 1) := by decide +kernel
theorem dX10_init_103 : decode cX10_init 103 = .ok (.putfield 51, 3) := by decide +kernel
theorem dX10_init_106 : decode cX10_init 106 = .ok (.aload_n 0, 1) := by decide +kernel
theorem dX10_init_107 : decode cX10_init 107 = .ok (.iconst 0, 1) := by decide +kernel
theorem dX10_init_108 : decode cX10_init 108 = .ok (.putfield 54, 3) := by decide +kernel
theorem dX10_init_111 : decode cX10_init 111 = .ok (.aload_n 0, 1) := by decide +kernel
theorem dX10_init_112 : decode cX10_init 112 = .ok (.iconst 0, 1) := by decide +kernel
theorem dX10_init_113 : decode cX10_init 113 = .ok (.putfield 57, 3) := by decide +kernel
theorem dX10_init_116 : decode cX10_init 116 = .ok (.aload_n 0, 1) := by decide +kernel
theorem dX10_init_117 : decode cX10_init 117 = .ok (.aload_n 1, 1) := by decide +kernel
theorem dX10_init_118 : decode cX10_init 118 = .ok (.putfield 60, 3) := by decide +kernel
theorem dX10_init_121 : decode cX10_init 121 = .ok (.aload_n 0, 1) := by decide +kernel
theorem dX10_init_122 : decode cX10_init 122 = .ok (.aload_n 2, 1) := by decide +kernel
theorem dX10_init_123 : decode cX10_init 123 = .ok (.putfield 64, 3) := by decide +kernel
theorem dX10_init_126 : decode cX10_init 126 = .ok (.aload_n 0, 1) := by decide +kernel
theorem dX10_init_127 : decode cX10_init 127 = .ok (.aload_n 3, 1) := by decide +kernel
theorem dX10_init_128 : decode cX10_init 128 = .ok (.putfield 68, 3) := by decide +kernel
theorem dX10_init_131 : decode cX10_init 131 = .ok (.return_, 1) := by decide +kernel
theorem dX11_init_0 : decode cX11_init 0 = .ok (.aload_n 0, 1) := by decide +kernel
theorem dX11_init_1 : decode cX11_init 1 = .ok (.invokespecial 1, 3) := by decide +kernel
theorem dX11_init_4 : decode cX11_init 4 = .ok (.aload_n 0, 1) := by decide +kernel
theorem dX11_init_5 : decode cX11_init 5 = .ok (.aconst_null, 1) := by decide +kernel
theorem dX11_init_6 : decode cX11_init 6 = .ok (.putfield 7, 3) := by decide +kernel
theorem dX11_init_9 : decode cX11_init 9 = .ok (.aload_n 0, 1) := by decide +kernel
theorem dX11_init_10 : decode cX11_init 10 = .ok (.iconst 0, 1) := by decide +kernel
theorem dX11_init_11 : decode cX11_init 11 = .ok (.putfield 13, 3) := by decide +kernel
theorem dX11_init_14 : decode cX11_init 14 = .ok (.aload_n 0, 1) := by decide +kernel
theorem dX11_init_15 : decode cX11_init 15 = .ok (.iconst 0, 1) := by decide +kernel
theorem dX11_init_16 : decode cX11_init 16 = .ok (.putfield 17, 3) := by decide +kernel
theorem dX11_init_19 : decode cX11_init 19 = .ok (.aload_n 0, 1) := by decide +kernel
theorem dX11_init_20 : decode cX11_init 20 = .ok (.iconst (-1), 1) := by decide +kernel
theorem dX11_init_21 : decode cX11_init 21 = .ok (.putfield 20, 3) := by decide +kernel
theorem dX11_init_24 : decode cX11_init 24 = .ok (.aload_n 0, 1) := by decide +kernel
theorem dX11_init_25 : decode cX11_init 25 = .ok (.iconst 0, 1) := by decide +kernel
theorem dX11_init_26 : decode cX11_init 26 = .ok (.putfield 23, 3) := by decide +kernel
theorem dX11_init_29 : decode cX11_init 29 = .ok (.aload_n 0, 1) := by decide +kernel
theorem dX11_init_30 : decode cX11_init 30 = .ok (.lconst 0, 1) := by decide +kernel
theorem dX11_init_31 : decode cX11_init 31 = .ok (.putfield 26, 3) := by decide +kernel
theorem dX11_init_34 : decode cX11_init 34 = .ok (.aload_n 0, 1) := by decide +kernel
theorem dX11_init_35 : decode cX11_init 35 = .ok (.sipush 6004, 3) := by decide +kernel
theorem dX11_init_38 : decode cX11_init 38 = .ok (.newarray .int, 2) := by decide +kernel
theorem dX11_init_40 : decode cX11_init 40 = .ok (.putfield 30, 3) := by decide +kernel
theorem dX11_init_43 : decode cX11_init 43 = .ok (.aload_n 0, 1) := by decide +kernel
theorem dX11_init_44 : decode cX11_init 44 = .ok (.iconst 0, 1) := by decide +kernel
theorem dX11_init_45 : decode cX11_init 45 = .ok (.putfield 33, 3) := by decide +kernel
theorem dX11_init_48 : decode cX11_init 48 = .ok (.aload_n 0, 1) := by decide +kernel
theorem dX11_init_49 : decode cX11_init 49 = .ok (.sipush 4000, 3) := by decide +kernel
theorem dX11_init_52 : decode cX11_init 52 = .ok (.newarray .int, 2) := by decide +kernel
theorem dX11_init_54 : decode cX11_init 54 = .ok (.putfield 38, 3) := by decide +kernel
theorem dX11_init_57 : decode cX11_init 57 = .ok (.aload_n 0, 1) := by decide +kernel
theorem dX11_init_58 : decode cX11_init 58 = .ok (.iconst 1, 1) := by decide +kernel
theorem dX11_init_59 : decode cX11_init 59 = .ok (.putfield 41, 3) := by decide +kernel
theorem dX11_init_62 : decode cX11_init 62 = .ok (.aload_n 0, 1) := by decide +kernel
theorem dX11_init_63 : decode cX11_init 63 = .ok (.aconst_null, 1) := by decide +kernel
theorem dX11_init_64 : decode cX11_init 64 = .ok (.putfield 45, 3) := by decide +kernel
theorem dX11_init_67 : decode cX11_init 67 = .ok (.aload_n 0, 1) := by decide +kernel
theorem dX11_init_68 : decode cX11_init 68 = .ok (.iconst 0, 1) := by decide +kernel
theorem dX11_init_69 : decode cX11_init 69 = .ok (.putfield 49, 3) := by decide +kernel
theorem dX11_init_72 : decode cX11_init 72 = .ok (.aload_n 0, 1) := by decide +kernel
theorem dX11_init_73 : decode cX11_init 73 = .ok (.iconst 0, 1) := by decide +kernel
theorem dX11_init_74 : decode cX11_init 74 = .ok (.putfield 52, 3) := by decide +kernel
theorem dX11_init_77 : decode cX11_init 77 = .ok (.aload_n 0, 1) := by decide +kernel
theorem dX11_init_78 : decode cX11_init 78 = .ok (.iconst 0, 1) := by decide +kernel
theorem dX11_init_79 : decode cX11_init 79 = .ok (.putfield 55, 3) := by decide +kernel
theorem dX11_init_82 : decode cX11_init 82 = .ok (.aload_n 0, 1) := by decide +kernel
theorem dX11_init_83 : decode cX11_init 83 = .ok (.aload_n 1, 1) := by decide +kernel
theorem dX11_init_84 : decode cX11_init 84 = .ok (.putfield 58, 3) := by decide +kernel
theorem dX11_init_87 : decode cX11_init 87 = .ok (.return_, 1) := by decide +kernel
set_option maxRecDepth 20000 in
theorem ggX13_init_X4_init : GoodIn wsX13_init wsX4_init := goodIn_r _ [64, 65, 2, 3, 66, 32, 67, 68, 69, 70, 71, 72, 73, 74, 75, 76, 77, 78, 79, 6, 80, 967, 968, 969, 970, 971, 972, 973, 974] (by decide +kernel) (by decide +kernel)
set_option maxRecDepth 20000 in
theorem gX13_init_X4_init : GoodIn wsX13_init (wsX4_init) := ggX13_init_X4_init
set_option maxRecDepth 20000 in
theorem ggX13_init_X11_init : GoodIn wsX13_init wsX11_init := goodIn_r _ [83, 84, 2, 3, 85, 86, 87, 88, 89, 90, 32, 91, 92, 93, 94, 95, 96, 97, 98, 99, 998, 999, 1000, 1001, 1002, 1003, 1004, 1005, 1006, 1007, 1008, 1009, 1010, 1011, 1012] (by decide +kernel) (by decide +kernel)
set_option maxRecDepth 20000 in
theorem gX13_init_X11_init : GoodIn wsX13_init (wsX11_init) := ggX13_init_X11_init
set_option maxRecDepth 20000 in
theorem ggX13_init_X6_init : GoodIn wsX13_init wsX6_init := goodIn_r _ [102, 103, 2, 3, 32, 104, 105, 106, 107, 108, 109, 110, 111, 112, 113, 114, 115, 116, 117, 118, 119, 120, 121, 14, 122, 123, 124, 125, 126, 127, 128, 129, 130, 131, 132, 133, 134, 135, 136, 137, 138, 139, 140, 141, 142, 143, 144, 145, 146, 147, 148, 149, 150, 151, 152, 153, 154, 155, 156, 157, 158, 159, 160, 161, 162, 163, 164, 165, 166, 167, 168, 169, 170, 171, 172, 173, 174, 175, 176, 177, 178, 179, 180, 181, 182, 183, 184, 185, 186, 6, 187, 72, 188, 67, 189, 190, 191, 192, 193, 194, 195, 196, 197, 198, 199, 200, 201, 202, 203, 204, 205, 206, 207, 208, 209, 210, 211, 212, 1013, 1014, 1015, 1016, 1017, 1018, 1019, 1020, 1021, 1022, 1023, 1024, 1025, 1026, 1027, 1028, 967, 968, 969, 970, 971, 972, 973, 974] (by decide +kernel) (by decide +kernel)
set_option maxRecDepth 20000 in
theorem gX13_init_X6_init : GoodIn wsX13_init (wsX6_init) := ggX13_init_X6_init
set_option maxRecDepth 20000 in
theorem ggX13_init_X8_init : GoodIn wsX13_init wsX8_init := goodIn_r _ [215, 216, 2, 3, 32, 217, 218, 219, 220, 221, 222, 223, 224, 225, 226, 227, 228, 229, 230, 231, 1029, 1030, 1031, 1032, 1033, 1034, 1035, 1036, 1037, 1038, 1039, 1040, 1041, 1042, 1043] (by decide +kernel) (by decide +kernel)
set_option maxRecDepth 20000 in
theorem gX13_init_X8_init : GoodIn wsX13_init (wsX8_init) := ggX13_init_X8_init
set_option maxRecDepth 20000 in
theorem ggX13_init_X2_init : GoodIn wsX13_init wsX2_init := goodIn_r _ [234, 235, 2, 3, 236, 237, 238, 32, 239, 240, 241, 242, 243, 244, 245, 246, 247, 248, 249, 250, 251, 1044, 1045, 1046, 1047, 1048, 1049, 1050, 1051, 1052, 1053, 1054, 1055, 1056, 1057, 1058, 1059] (by decide +kernel) (by decide +kernel)
set_option maxRecDepth 20000 in
theorem gX13_init_X2_init : GoodIn wsX13_init (wsX2_init) := ggX13_init_X2_init
set_option maxRecDepth 20000 in
theorem ggX13_init_X3_init : GoodIn wsX13_init wsX3_init := goodIn_r _ [254, 255, 2, 3, 256, 257, 258, 32, 259, 260, 261, 262, 263, 264, 265, 266, 267, 268, 269, 270, 271, 1060, 1061, 1062, 1063, 1064, 1065, 1066, 1067, 1068, 1069, 1070, 1071, 1072, 1073, 1074] (by decide +kernel) (by decide +kernel)
set_option maxRecDepth 20000 in
theorem gX13_init_X3_init : GoodIn wsX13_init (wsX3_init) := ggX13_init_X3_init
set_option maxRecDepth 20000 in
theorem ggX13_init_X9_init : GoodIn wsX13_init wsX9_init := goodIn_r _ [274, 275, 2, 3, 276, 277, 278, 279, 32, 280, 281, 282, 283, 284, 285, 286, 287, 288, 289, 290, 291, 1075, 1076, 1077, 1078, 1079, 1080, 1081, 1082, 1083, 1084, 1085, 1086, 1087, 1088, 1089, 1090] (by decide +kernel) (by decide +kernel)
set_option maxRecDepth 20000 in
theorem gX13_init_X9_init : GoodIn wsX13_init (wsX9_init) := ggX13_init_X9_init
set_option maxRecDepth 20000 in
theorem ggX13_init_X10_init : GoodIn wsX13_init wsX10_init := goodIn_r _ [294, 295, 2, 3, 32, 296, 297, 298, 299, 300, 301, 302, 303, 304, 305, 306, 307, 308, 309, 310, 311, 312, 313, 314, 1091, 1092, 1093, 1094, 1095, 1096, 1097, 1098, 1099, 1100, 1101, 1102, 1103, 1104, 1105, 1106, 1107, 1108, 1109] (by decide +kernel) (by decide +kernel)
set_option maxRecDepth 20000 in
theorem gX13_init_X10_init : GoodIn wsX13_init (wsX10_init) := ggX13_init_X10_init
set_option maxRecDepth 20000 in
theorem ggX13_init_X0_init : GoodIn wsX13_init wsX0_init := goodIn_r _ [317, 318, 2, 3, 32, 319, 320, 321, 322, 323, 324, 325, 326, 327, 328, 136, 137, 126, 138, 128, 139, 140, 141, 142, 133, 134, 143, 144, 145, 146, 147, 148, 149, 150, 151, 152, 153, 154, 155, 156, 157, 158, 159, 160, 161, 162, 163, 164, 165, 166, 167, 168, 169, 170, 171, 329, 181, 182, 14, 183, 104, 115, 119, 184, 185, 186, 6, 187, 72, 188, 67, 189, 190, 191, 192, 193, 194, 195, 196, 197, 1129, 1130, 1131, 1132, 1133, 1134, 1135, 1136, 1137, 1013, 1014, 1015, 1016, 1017, 1018, 1019, 1020, 1021, 1022, 1023, 1024, 1025, 1026, 1027, 1028, 967, 968, 969, 970, 971, 972, 973, 974] (by decide +kernel) (by decide +kernel)
set_option maxRecDepth 20000 in
theorem gX13_init_X0_init : GoodIn wsX13_init (wsX0_init) := ggX13_init_X0_init
set_option maxRecDepth 20000 in
theorem ggX13_init_X5_init : GoodIn wsX13_init wsX5_init := goodIn_r _ [332, 333, 2, 3, 32, 334, 335, 336, 337, 338, 339, 340, 341, 342, 343, 344, 345, 346, 347, 348, 349, 350, 351, 352, 353, 1110, 1111, 1112, 1113, 1114, 1115, 1116, 1117, 1118, 1119, 1120, 1121, 1122, 1123, 1124, 1125, 1126, 1127, 1128] (by decide +kernel) (by decide +kernel)
set_option maxRecDepth 20000 in
theorem gX13_init_X5_init : GoodIn wsX13_init (wsX5_init) := ggX13_init_X5_init
set_option maxRecDepth 20000 in
theorem ggX13_init_X4_made : GoodIn wsX13_init wsX4_made := goodIn_r _ [357, 71, 69, 358, 359, 207, 178, 208, 67, 189, 190, 191, 192, 78, 79, 6, 80, 360, 361, 362, 363, 364, 177, 179, 70, 365, 366, 367, 368, 369, 370, 371, 372, 373, 374, 375, 376, 377, 378, 379, 380, 381, 382, 383, 384, 385, 386, 387, 388, 389, 74, 76, 77, 75, 66, 967, 968, 969, 970, 971, 972, 973, 974] (by decide +kernel) (by decide +kernel)
set_option maxRecDepth 20000 in
theorem gX13_init_X4_made : GoodIn wsX13_init (wsV RX13 132 RX4 yX4_made wsX4_made) := goodIn_app (goodIn_of _ (by decide +kernel)) ggX13_init_X4_made
set_option maxRecDepth 20000 in
theorem ggX13_init_X4_copyTo : GoodIn wsX13_init wsX4_copyTo := goodIn_r _ [393, 74, 188, 394, 395, 396, 6, 397, 67, 189, 190, 191, 192, 398, 399, 400, 401, 402, 403, 404, 405, 386, 387, 388, 389, 76, 77, 75, 66, 967, 968, 969, 970, 971, 972, 973, 974] (by decide +kernel) (by decide +kernel)
set_option maxRecDepth 20000 in
theorem gX13_init_X4_copyTo : GoodIn wsX13_init (wsV RX13 136 RX4 yX4_copyTo wsX4_copyTo) := goodIn_app (goodIn_of _ (by decide +kernel)) ggX13_init_X4_copyTo
set_option maxRecDepth 20000 in
theorem ggX13_init_X4_reset : GoodIn wsX13_init wsX4_reset := goodIn_r _ [409, 74, 75, 76, 77, 71, 967, 968, 969, 970, 971, 972, 973, 974] (by decide +kernel) (by decide +kernel)
set_option maxRecDepth 20000 in
theorem gX13_init_X4_reset : GoodIn wsX13_init (wsV RX13 144 RX4 yX4_reset wsX4_reset) := goodIn_app (goodIn_of _ (by decide +kernel)) ggX13_init_X4_reset
set_option maxRecDepth 20000 in
theorem ggX13_init_X13_bundleOfDraft : GoodIn wsX13_init wsX13_bundleOfDraft := goodIn_r _ [414, 39, 23, 37, 38, 415, 27, 416, 417, 418, 22, 419, 420, 421, 422, 251, 423, 236, 424, 425, 245, 238, 246, 426, 427, 428, 429, 2, 3, 430, 431, 432, 433, 434, 435, 436, 437, 438, 439, 440, 441, 442, 443, 32, 444, 445, 446, 447, 448, 449, 450, 451, 452, 453, 454, 455, 456, 457, 458, 459, 460, 461, 462, 463, 464, 465, 466, 467, 468, 469, 470, 471, 472, 473, 474, 475, 476, 477, 478, 479, 480, 481, 482, 483, 484, 485, 486, 487, 488, 489, 490, 491, 492, 210, 211, 14, 212, 107, 106, 108, 493, 494, 495, 496, 497, 498, 499, 500, 501, 502, 503, 504, 505, 506, 507, 508, 509, 237, 510, 511, 512, 513, 514, 515, 242, 244, 243, 516, 517, 518, 519, 520, 521, 522, 523, 524, 525, 526, 527, 528, 529, 530, 531, 239, 240, 241, 532, 533, 534, 535, 536, 537, 538, 539, 540, 541, 542, 543, 544, 545, 546, 547, 548, 549, 550, 551, 552, 553, 554, 555, 556, 557, 558, 559, 560, 561, 562, 563, 564, 565, 566, 567, 568, 569, 570, 571, 572, 573, 574, 575, 576, 577, 578, 579, 580, 581, 582, 583, 584, 585, 586, 587, 588, 589, 590, 591, 592, 593, 594, 595, 596, 597, 598, 599, 600, 601, 602, 603, 604, 605, 606, 607, 608, 609, 610, 611, 612, 613, 614, 615, 616, 617, 618, 619, 620, 621, 622, 623, 624, 625, 626, 627, 628, 629, 630, 631, 632, 247, 248, 249, 633, 634, 635, 636, 637, 638, 639, 640, 641, 642, 643, 644, 645, 646, 647, 648, 649, 650, 651, 652, 250, 653, 654, 655, 656, 657, 399, 400, 6, 401, 67, 658, 659, 660, 661, 105, 662, 663, 664, 665, 666, 372, 667, 668, 669, 670, 671, 672, 673, 674, 675, 676, 677, 678, 679, 680, 681, 682, 683, 684, 685, 686, 687, 207, 178, 208, 688, 689, 690, 691, 692, 693, 694, 695, 696, 697, 698, 26, 699, 256, 700, 701, 265, 271, 702, 257, 703, 704, 266, 705, 706, 707, 708, 709, 710, 711, 712, 713, 270, 714, 715, 716, 717, 718, 719, 136, 137, 126, 138, 128, 139, 140, 141, 142, 133, 134, 143, 144, 145, 146, 147, 148, 149, 150, 151, 152, 153, 154, 155, 156, 157, 158, 159, 160, 161, 162, 163, 164, 165, 166, 167, 168, 169, 170, 171, 720, 721, 722, 723, 269, 724, 725, 726, 727, 728, 729, 730, 731, 732, 733, 734, 735, 736, 737, 124, 125, 127, 129, 130, 131, 132, 738, 739, 740, 741, 742, 177, 179, 743, 744, 745, 746, 747, 748, 749, 750, 751, 752, 753, 754, 755, 756, 757, 758, 759, 760, 761, 762, 763, 764, 765, 766, 767, 768, 769, 770, 771, 772, 773, 774, 775, 776, 777, 778, 779, 780, 781, 782, 783, 784, 785, 786, 787, 788, 789, 790, 791, 792, 793, 794, 795, 796, 797, 798, 799, 800, 801, 802, 803, 804, 805, 263, 264, 806, 807, 808, 809, 810, 811, 812, 813, 814, 815, 816, 817, 818, 819, 820, 821, 822, 823, 824, 825, 826, 827, 828, 829, 830, 831, 832, 833, 834, 835, 836, 837, 838, 839, 840, 841, 842, 843, 844, 845, 846, 847, 848, 849, 850, 851, 852, 853, 854, 855, 856, 857, 260, 858, 262, 261, 859, 259, 860, 861, 862, 863, 864, 865, 866, 867, 868, 869, 870, 871, 872, 258, 873, 874, 875, 876, 877, 878, 879, 880, 881, 882, 883, 884, 885, 886, 887, 888, 889, 890, 891, 892, 893, 894, 895, 896, 897, 898, 899, 900, 901, 378, 379, 380, 381, 382, 383, 384, 385, 902, 903, 904, 905, 906, 907, 908, 909, 910, 911, 912, 913, 914, 915, 916, 917, 918, 919, 920, 921, 922, 923, 924, 925, 926, 927, 928, 929, 930, 931, 932, 933, 268, 267, 934, 935, 936, 937, 938, 939, 940, 941, 942, 943, 944, 945, 946, 947, 948, 949, 950, 951, 952, 953, 954, 955, 956, 957, 958, 959, 960, 961, 962, 963, 964, 965, 966, 190, 191, 192, 975, 976, 977, 978, 979, 980, 981, 982, 983, 984, 985, 986, 987, 988, 989, 990, 991, 992, 993, 994, 995, 996, 997, 1138, 1139, 1140, 1141, 1142, 1143, 1144, 1145, 1146, 1147, 1148, 1149, 1150, 1151, 1152, 1153, 1044, 1045, 1046, 1047, 1048, 1049, 1050, 1051, 1052, 1053, 1054, 1055, 1056, 1057, 1058, 1059, 1013, 1014, 1015, 1016, 1017, 1018, 1019, 1020, 1021, 1022, 1023, 1024, 1025, 1026, 1027, 1028, 1154, 1155, 1156, 1157, 1158, 1159, 1160, 1161, 1162, 1163, 1164, 1165, 1166, 1167, 1168, 967, 968, 969, 970, 971, 972, 973, 974, 1060, 1061, 1062, 1063, 1064, 1065, 1066, 1067, 1068, 1069, 1070, 1071, 1072, 1073, 1074] (by decide +kernel) (by decide +kernel)
set_option maxRecDepth 20000 in
theorem gX13_init_X13_bundleOfDraft : GoodIn wsX13_init (wsV RX13 148 RX13 yX13_bundleOfDraft wsX13_bundleOfDraft) := goodIn_app (goodIn_of _ (by decide +kernel)) ggX13_init_X13_bundleOfDraft
theorem dX13_init_0 : decode cX13_init 0 = .ok (.aload_n 0, 1) := by decide +kernel
theorem dX13_init_1 : decode cX13_init 1 = .ok (.invokespecial 1, 3) := by decide +kernel
theorem dX13_init_4 : decode cX13_init 4 = .ok (.aload_n 0, 1) := by decide +kernel
theorem dX13_init_5 : decode cX13_init 5 = .ok (.new 7, 3) := by decide +kernel
theorem dX13_init_8 : decode cX13_init 8 = .ok (.dup, 1) := by decide +kernel
theorem dX13_init_9 : decode cX13_init 9 = .ok (.invokespecial 9, 3) := by decide +kernel
theorem dX13_init_12 : decode cX13_init 12 = .ok (.putfield 10, 3) := by decide +kernel
theorem dX13_init_15 : decode cX13_init 15 = .ok (.aload_n 0, 1) := by decide +kernel
theorem dX13_init_16 : decode cX13_init 16 = .ok (.new 16, 3) := by decide +kernel
theorem dX13_init_19 : decode cX13_init 19 = .ok (.dup, 1) := by decide +kernel
theorem dX13_init_20 : decode cX13_init 20 = .ok (.aload_n 0, 1) := by decide +kernel
theorem dX13_init_21 : decode cX13_init 21 = .ok (.getfield 10, 3) := by decide +kernel
theorem dX13_init_24 : decode cX13_init 24 = .ok (.invokespecial 18, 3) := by decide +kernel
theorem dX13_init_27 : decode cX13_init 27 = .ok (.putfield 21, 3) := by decide +kernel
theorem dX13_init_30 : decode cX13_init 30 = .ok (.aload_n 0, 1) := by decide +kernel
theorem dX13_init_31 : decode cX13_init 31 = .ok (.new 25, 3) := by decide +kernel
theorem dX13_init_34 : decode cX13_init 34 = .ok (.dup, 1) := by decide +kernel
theorem dX13_init_35 : decode cX13_init 35 = .ok (.aload_n 0, 1) := by decide +kernel
theorem dX13_init_36 : decode cX13_init 36 = .ok (.getfield 10, 3) := by decide +kernel
theorem dX13_init_39 : decode cX13_init 39 = .ok (.invokespecial 27, 3) := by decide +kernel
theorem dX13_init_42 : decode cX13_init 42 = .ok (.putfield 28, 3) := by decide +kernel
theorem dX13_init_45 : decode cX13_init 45 = .ok (.aload_n 0, 1) := by decide +kernel
theorem dX13_init_46 : decode cX13_init 46 = .ok (.new 32, 3) := by decide +kernel
theorem dX13_init_49 : decode cX13_init 49 = .ok (.dup, 1) := by decide +kernel
theorem dX13_init_50 : decode cX13_init 50 = .ok (.aload_n 0, 1) := by decide +kernel
theorem dX13_init_51 : decode cX13_init 51 = .ok (.getfield 10, 3) := by decide +kernel
theorem dX13_init_54 : decode cX13_init 54 = .ok (.aload_n 0, 1) := by decide +kernel
theorem dX13_init_55 : decode cX13_init 55 = .ok (.getfield 21, 3) := by decide +kernel
theorem dX13_init_58 : decode cX13_init 58 = .ok (.aload_n 0, 1) := by decide +kernel
theorem dX13_init_59 : decode cX13_init 59 = .ok (.getfield 28, 3) := by decide +kernel
theorem dX13_init_62 : decode cX13_init 62 = .ok (.invokespecial 34, 3) := by decide +kernel
theorem dX13_init_65 : decode cX13_init 65 = .ok (.putfield 37, 3) := by decide +kernel
theorem dX13_init_68 : decode cX13_init 68 = .ok (.aload_n 0, 1) := by decide +kernel
theorem dX13_init_69 : decode cX13_init 69 = .ok (.new 41, 3) := by decide +kernel
theorem dX13_init_72 : decode cX13_init 72 = .ok (.dup, 1) := by decide +kernel
theorem dX13_init_73 : decode cX13_init 73 = .ok (.aload_n 0, 1) := by decide +kernel
theorem dX13_init_74 : decode cX13_init 74 = .ok (.getfield 10, 3) := by decide +kernel
theorem dX13_init_77 : decode cX13_init 77 = .ok (.aload_n 0, 1) := by decide +kernel
theorem dX13_init_78 : decode cX13_init 78 = .ok (.getfield 28, 3) := by decide +kernel
theorem dX13_init_81 : decode cX13_init 81 = .ok (.invokespecial 43, 3) := by decide +kernel
theorem dX13_init_84 : decode cX13_init 84 = .ok (.putfield 46, 3) := by decide +kernel
theorem dX13_init_87 : decode cX13_init 87 = .ok (.aload_n 0, 1) := by decide +kernel
theorem dX13_init_88 : decode cX13_init 88 = .ok (.new 50, 3) := by decide +kernel
theorem dX13_init_91 : decode cX13_init 91 = .ok (.dup, 1) := by decide +kernel
theorem dX13_init_92 : decode cX13_init 92 = .ok (.aload_n 0, 1) := by decide +kernel
theorem dX13_init_93 : decode cX13_init 93 = .ok (.getfield 10, 3) := by decide +kernel
theorem dX13_init_96 : decode cX13_init 96 = .ok (.aload_n 0, 1) := by decide +kernel
theorem dX13_init_97 : decode cX13_init 97 = .ok (.getfield 28, 3) := by decide +kernel
theorem dX13_init_100 : decode cX13_init 100 = .ok (.aload_n 0, 1) := by decide +kernel
theorem dX13_init_101 : decode cX13_init 101 = .ok (.getfield 46, 3) := by decide +kernel
theorem dX13_init_104 : decode cX13_init 104 = .ok (.invokespecial 52, 3) := by decide +kernel
theorem dX13_init_107 : decode cX13_init 107 = .ok (.putfield 55, 3) := by decide +kernel
theorem dX13_init_110 : decode cX13_init 110 = .ok (.aload_n 0, 1) := by decide +kernel
theorem dX13_init_111 : decode cX13_init 111 = .ok (.new 59, 3) := by decide +kernel
theorem dX13_init_114 : decode cX13_init 114 = .ok (.dup, 1) := by decide +kernel
theorem dX13_init_115 : decode cX13_init 115 = .ok (.aload_n 0, 1) := by decide +kernel
theorem dX13_init_116 : decode cX13_init 116 = .ok (.getfield 10, 3) := by decide +kernel
theorem dX13_init_119 : decode cX13_init 119 = .ok (.aload_n 0, 1) := by decide +kernel
theorem dX13_init_120 : decode cX13_init 120 = .ok (.getfield 28, 3) := by decide +kernel
theorem dX13_init_123 : decode cX13_init 123 = .ok (.invokespecial 61, 3) := by decide +kernel
theorem dX13_init_126 : decode cX13_init 126 = .ok (.putfield 62, 3) := by decide +kernel
theorem dX13_init_129 : decode cX13_init 129 = .ok (.aload_n 0, 1) := by decide +kernel
theorem dX13_init_130 : decode cX13_init 130 = .ok (.sipush 6000, 3) := by decide +kernel
theorem dX13_init_133 : decode cX13_init 133 = .ok (.newarray .int, 2) := by decide +kernel
theorem dX13_init_135 : decode cX13_init 135 = .ok (.putfield 66, 3) := by decide +kernel
theorem dX13_init_138 : decode cX13_init 138 = .ok (.aload_n 0, 1) := by decide +kernel
theorem dX13_init_139 : decode cX13_init 139 = .ok (.iconst 0, 1) := by decide +kernel
theorem dX13_init_140 : decode cX13_init 140 = .ok (.putfield 70, 3) := by decide +kernel
theorem dX13_init_143 : decode cX13_init 143 = .ok (.aload_n 0, 1) := by decide +kernel
theorem dX13_init_144 : decode cX13_init 144 = .ok (.iconst 0, 1) := by decide +kernel
theorem dX13_init_145 : decode cX13_init 145 = .ok (.putfield 74, 3) := by decide +kernel
theorem dX13_init_148 : decode cX13_init 148 = .ok (.aload_n 0, 1) := by decide +kernel
theorem dX13_init_149 : decode cX13_init 149 = .ok (.iconst 4, 1) := by decide +kernel
theorem dX13_init_150 : decode cX13_init 150 = .ok (.anewarray 77, 3) := by decide +kernel
theorem dX13_init_153 : decode cX13_init 153 = .ok (.putfield 79, 3) := by decide +kernel
theorem dX13_init_156 : decode cX13_init 156 = .ok (.aload_n 0, 1) := by decide +kernel
theorem dX13_init_157 : decode cX13_init 157 = .ok (.iconst 0, 1) := by decide +kernel
theorem dX13_init_158 : decode cX13_init 158 = .ok (.putfield 83, 3) := by decide +kernel
theorem dX13_init_161 : decode cX13_init 161 = .ok (.aload_n 0, 1) := by decide +kernel
theorem dX13_init_162 : decode cX13_init 162 = .ok (.aconst_null, 1) := by decide +kernel
theorem dX13_init_163 : decode cX13_init 163 = .ok (.putfield 86, 3) := by decide +kernel
theorem dX13_init_166 : decode cX13_init 166 = .ok (.aload_n 0, 1) := by decide +kernel
theorem dX13_init_167 : decode cX13_init 167 = .ok (.iconst 4, 1) := by decide +kernel
theorem dX13_init_168 : decode cX13_init 168 = .ok (.anewarray 90, 3) := by decide +kernel
theorem dX13_init_171 : decode cX13_init 171 = .ok (.putfield 92, 3) := by decide +kernel
theorem dX13_init_174 : decode cX13_init 174 = .ok (.aload_n 0, 1) := by decide +kernel
theorem dX13_init_175 : decode cX13_init 175 = .ok (.iconst 3, 1) := by decide +kernel
theorem dX13_init_176 : decode cX13_init 176 = .ok (.newarray .int, 2) := by decide +kernel
theorem dX13_init_178 : decode cX13_init 178 = .ok (.dup, 1) := by decide +kernel
theorem dX13_init_179 : decode cX13_init 179 = .ok (.iconst 0, 1) := by decide +kernel
theorem dX13_init_180 : decode cX13_init 180 = .ok (.iconst 0, 1) := by decide +kernel
theorem dX13_init_181 : decode cX13_init 181 = .ok (.iastore, 1) := by decide +kernel
theorem dX13_init_182 : decode cX13_init 182 = .ok (.dup, 1) := by decide +kernel
theorem dX13_init_183 : decode cX13_init 183 = .ok (.iconst 1, 1) := by decide +kernel
theorem dX13_init_184 : decode cX13_init 184 = .ok (.iconst (-1), 1) := by decide +kernel
theorem dX13_init_185 : decode cX13_init 185 = .ok (.iastore, 1) := by decide +kernel
theorem dX13_init_186 : decode cX13_init 186 = .ok (.dup, 1) := by decide +kernel
theorem dX13_init_187 : decode cX13_init 187 = .ok (.iconst 2, 1) := by decide +kernel
theorem dX13_init_188 : decode cX13_init 188 = .ok (.iconst (-1), 1) := by decide +kernel
theorem dX13_init_189 : decode cX13_init 189 = .ok (.iastore, 1) := by decide +kernel
theorem dX13_init_190 : decode cX13_init 190 = .ok (.putfield 96, 3) := by decide +kernel
theorem dX13_init_193 : decode cX13_init 193 = .ok (.aload_n 0, 1) := by decide +kernel
theorem dX13_init_194 : decode cX13_init 194 = .ok (.iconst 0, 1) := by decide +kernel
theorem dX13_init_195 : decode cX13_init 195 = .ok (.putfield 99, 3) := by decide +kernel
theorem dX13_init_198 : decode cX13_init 198 = .ok (.aload_n 0, 1) := by decide +kernel
theorem dX13_init_199 : decode cX13_init 199 = .ok (.iconst 0, 1) := by decide +kernel
theorem dX13_init_200 : decode cX13_init 200 = .ok (.putfield 102, 3) := by decide +kernel
theorem dX13_init_203 : decode cX13_init 203 = .ok (.aload_n 0, 1) := by decide +kernel
theorem dX13_init_204 : decode cX13_init 204 = .ok (.iconst 0, 1) := by decide +kernel
theorem dX13_init_205 : decode cX13_init 205 = .ok (.putfield 105, 3) := by decide +kernel
theorem dX13_init_208 : decode cX13_init 208 = .ok (.aload_n 0, 1) := by decide +kernel
theorem dX13_init_209 : decode cX13_init 209 = .ok (.sipush 12500, 3) := by decide +kernel
theorem dX13_init_212 : decode cX13_init 212 = .ok (.newarray .long, 2) := by decide +kernel
theorem dX13_init_214 : decode cX13_init 214 = .ok (.putfield 108, 3) := by decide +kernel
theorem dX13_init_217 : decode cX13_init 217 = .ok (.aload_n 0, 1) := by decide +kernel
theorem dX13_init_218 : decode cX13_init 218 = .ok (.iconst 0, 1) := by decide +kernel
theorem dX13_init_219 : decode cX13_init 219 = .ok (.putfield 112, 3) := by decide +kernel
theorem dX13_init_222 : decode cX13_init 222 = .ok (.new 115, 3) := by decide +kernel
theorem dX13_init_225 : decode cX13_init 225 = .ok (.dup, 1) := by decide +kernel
theorem dX13_init_226 : decode cX13_init 226 = .ok (.aload_n 0, 1) := by decide +kernel
theorem dX13_init_227 : decode cX13_init 227 = .ok (.getfield 10, 3) := by decide +kernel
theorem dX13_init_230 : decode cX13_init 230 = .ok (.aload_n 0, 1) := by decide +kernel
theorem dX13_init_231 : decode cX13_init 231 = .ok (.getfield 21, 3) := by decide +kernel
theorem dX13_init_234 : decode cX13_init 234 = .ok (.aload_n 0, 1) := by decide +kernel
theorem dX13_init_235 : decode cX13_init 235 = .ok (.getfield 28, 3) := by decide +kernel
theorem dX13_init_238 : decode cX13_init 238 = .ok (.invokespecial 117, 3) := by decide +kernel
theorem dX13_init_241 : decode cX13_init 241 = .ok (.astore_n 1, 1) := by decide +kernel
theorem dX13_init_242 : decode cX13_init 242 = .ok (.aload_n 0, 1) := by decide +kernel
theorem dX13_init_243 : decode cX13_init 243 = .ok (.new 118, 3) := by decide +kernel
theorem dX13_init_246 : decode cX13_init 246 = .ok (.dup, 1) := by decide +kernel
theorem dX13_init_247 : decode cX13_init 247 = .ok (.aload_n 0, 1) := by decide +kernel
theorem dX13_init_248 : decode cX13_init 248 = .ok (.getfield 10, 3) := by decide +kernel
theorem dX13_init_251 : decode cX13_init 251 = .ok (.aload_n 0, 1) := by decide +kernel
theorem dX13_init_252 : decode cX13_init 252 = .ok (.getfield 62, 3) := by decide +kernel
theorem dX13_init_255 : decode cX13_init 255 = .ok (.new 120, 3) := by decide +kernel
theorem dX13_init_258 : decode cX13_init 258 = .ok (.dup, 1) := by decide +kernel
theorem dX13_init_259 : decode cX13_init 259 = .ok (.aload_n 0, 1) := by decide +kernel
theorem dX13_init_260 : decode cX13_init 260 = .ok (.getfield 10, 3) := by decide +kernel
theorem dX13_init_263 : decode cX13_init 263 = .ok (.aload_n 0, 1) := by decide +kernel
theorem dX13_init_264 : decode cX13_init 264 = .ok (.getfield 21, 3) := by decide +kernel
theorem dX13_init_267 : decode cX13_init 267 = .ok (.aload_n 0, 1) := by decide +kernel
theorem dX13_init_268 : decode cX13_init 268 = .ok (.getfield 28, 3) := by decide +kernel
theorem dX13_init_271 : decode cX13_init 271 = .ok (.aload_n 1, 1) := by decide +kernel
theorem dX13_init_272 : decode cX13_init 272 = .ok (.invokespecial 122, 3) := by decide +kernel
theorem dX13_init_275 : decode cX13_init 275 = .ok (.invokespecial 125, 3) := by decide +kernel
theorem dX13_init_278 : decode cX13_init 278 = .ok (.putfield 128, 3) := by decide +kernel
theorem dX13_init_281 : decode cX13_init 281 = .ok (.aload_n 0, 1) := by decide +kernel
theorem dX13_init_282 : decode cX13_init 282 = .ok (.aload_n 0, 1) := by decide +kernel
theorem dX13_init_283 : decode cX13_init 283 = .ok (.getfield 10, 3) := by decide +kernel
theorem dX13_init_286 : decode cX13_init 286 = .ok (.iconst 0, 1) := by decide +kernel
theorem dX13_init_287 : decode cX13_init 287 = .ok (.aload_n 0, 1) := by decide +kernel
theorem dX13_init_288 : decode cX13_init 288 = .ok (.getfield 10, 3) := by decide +kernel
theorem dX13_init_291 : decode cX13_init 291 = .ok (.bipush 6, 2) := by decide +kernel
theorem dX13_init_293 : decode cX13_init 293 = .ok (.iconst 0, 1) := by decide +kernel
theorem dX13_init_294 : decode cX13_init 294 = .ok (.iconst 1, 1) := by decide +kernel
theorem dX13_init_295 : decode cX13_init 295 = .ok (.invokevirtual 132, 3) := by decide +kernel
theorem dX13_init_298 : decode cX13_init 298 = .ok (.invokevirtual 136, 3) := by decide +kernel
theorem dX13_init_301 : decode cX13_init 301 = .ok (.putfield 140, 3) := by decide +kernel
theorem dX13_init_304 : decode cX13_init 304 = .ok (.aload_n 0, 1) := by decide +kernel
theorem dX13_init_305 : decode cX13_init 305 = .ok (.getfield 10, 3) := by decide +kernel
theorem dX13_init_308 : decode cX13_init 308 = .ok (.ldc 143, 2) := by decide +kernel
theorem dX13_init_310 : decode cX13_init 310 = .ok (.invokevirtual 144, 3) := by decide +kernel
theorem dX13_init_313 : decode cX13_init 313 = .ok (.aload_n 0, 1) := by decide +kernel
theorem dX13_init_314 : decode cX13_init 314 = .ok (.aload_n 0, 1) := by decide +kernel
theorem dX13_init_315 : decode cX13_init 315 = .ok (.invokevirtual 148, 3) := by decide +kernel
theorem dX13_init_318 : decode cX13_init 318 = .ok (.putfield 152, 3) := by decide +kernel
theorem dX13_init_321 : decode cX13_init 321 = .ok (.return_, 1) := by decide +kernel
set_option maxRecDepth 20000 in
theorem ggX13_bundleOfDraft_X2_bundle : GoodIn wsX13_bundleOfDraft wsX2_bundle := goodIn_r _ [11, 12, 13, 14, 15, 16, 17, 18, 19, 20, 21, 22, 23, 24, 25, 26, 27, 28, 29, 30, 31, 32, 33, 34, 35, 36, 37, 38, 39, 40, 41, 42, 43, 44, 45, 46, 47, 48, 49, 50, 10, 51, 52, 53, 54, 55, 56, 57, 58, 59, 60, 61, 62, 63, 64, 65, 66, 67, 68, 69, 70, 71, 72, 73, 74, 75, 76, 77, 78, 79, 80, 81, 82, 83, 84, 85, 86, 87, 88, 89, 90, 91, 92, 93, 94, 95, 96, 97, 98, 99, 100, 101, 102, 103, 104, 105, 106, 107, 108, 109, 110, 111, 112, 113, 114, 115, 116, 117, 118, 119, 120, 121, 122, 123, 124, 125, 126, 127, 128, 129, 130, 131, 132, 133, 134, 135, 136, 137, 138, 139, 140, 141, 142, 143, 144, 145, 146, 147, 148, 149, 150, 151, 152, 153, 154, 155, 156, 157, 158, 159, 160, 161, 162, 163, 164, 165, 166, 167, 168, 169, 170, 171, 172, 173, 174, 175, 176, 177, 178, 179, 180, 181, 182, 183, 184, 185, 186, 187, 188, 189, 190, 191, 192, 193, 194, 195, 196, 197, 198, 199, 200, 201, 202, 203, 204, 205, 206, 207, 208, 209, 210, 211, 212, 213, 214, 215, 216, 217, 218, 219, 220, 221, 222, 223, 224, 225, 226, 227, 228, 229, 230, 231, 232, 233, 234, 235, 236, 237, 238, 239, 240, 241, 242, 243, 244, 245, 246, 247, 248, 249, 250, 251, 252, 253, 254, 255, 256, 257, 258, 259, 260, 261, 262, 263, 264, 265, 266, 267, 268, 269, 270, 271, 272, 273, 274, 275, 276, 277, 278, 279, 280, 281, 282, 283, 284, 285, 286, 287, 288, 289, 290, 291, 292, 293, 294, 295, 296, 297, 298, 299, 300, 301, 302, 303, 304, 305, 306, 307, 308, 309, 310, 311, 312, 313, 314, 315, 316, 317, 318, 319, 320, 321, 322, 323, 695, 696, 697, 698, 699, 700, 701, 702, 703, 704, 705, 706, 707, 708, 709, 710, 711, 712, 713, 714, 715, 716, 717, 718, 719, 720, 721, 722, 723, 724, 725, 726, 727, 728, 729, 730, 731, 732, 733, 734, 735, 736, 737, 738, 739, 740, 741, 742, 743, 744, 745, 746, 747, 748, 749, 750, 751, 752, 753, 754, 755, 756, 757, 758, 759, 760, 761, 762, 763, 764, 765] (by decide +kernel) (by decide +kernel)
set_option maxRecDepth 20000 in
theorem gX13_bundleOfDraft_X2_bundle : GoodIn wsX13_bundleOfDraft (wsV RX13 172 RX2 yX2_bundle wsX2_bundle) := goodIn_app (goodIn_of _ (by decide +kernel)) ggX13_bundleOfDraft_X2_bundle
set_option maxRecDepth 20000 in
theorem ggX13_bundleOfDraft_X3_finish : GoodIn wsX13_bundleOfDraft wsX3_finish := goodIn_r _ [328, 329, 330, 331, 332, 333, 334, 335, 336, 337, 338, 339, 76, 77, 14, 78, 44, 340, 114, 115, 10, 116, 17, 67, 53, 117, 57, 118, 59, 119, 120, 121, 122, 123, 21, 124, 125, 126, 20, 22, 127, 128, 129, 130, 131, 132, 133, 134, 135, 136, 137, 138, 108, 70, 139, 140, 141, 142, 66, 143, 144, 145, 84, 146, 147, 148, 149, 150, 151, 152, 153, 154, 155, 156, 157, 158, 159, 160, 161, 162, 163, 164, 165, 166, 167, 168, 169, 170, 171, 172, 173, 15, 174, 175, 176, 177, 178, 179, 180, 181, 182, 90, 91, 183, 184, 185, 186, 83, 89, 187, 188, 189, 190, 54, 92, 93, 94, 95, 96, 97, 98, 99, 71, 72, 73, 74, 46, 191, 192, 193, 194, 195, 196, 197, 198, 199, 200, 201, 202, 203, 204, 205, 206, 207, 208, 209, 210, 211, 212, 213, 214, 215, 216, 217, 218, 219, 220, 221, 222, 223, 224, 225, 226, 227, 228, 229, 75, 230, 231, 232, 233, 56, 109, 110, 111, 112, 47, 234, 235, 236, 237, 238, 239, 240, 241, 341, 342, 343, 327, 344, 345, 346, 347, 348, 349, 350, 351, 352, 353, 354, 355, 356, 357, 358, 359, 360, 361, 362, 363, 364, 365, 366, 367, 368, 369, 370, 371, 372, 373, 374, 375, 376, 377, 378, 379, 380, 381, 382, 383, 384, 385, 386, 387, 388, 389, 390, 391, 392, 393, 394, 395, 396, 397, 398, 399, 400, 401, 276, 277, 278, 279, 280, 402, 403, 404, 405, 406, 407, 408, 409, 410, 411, 412, 413, 414, 415, 416, 417, 418, 419, 420, 421, 422, 423, 424, 313, 314, 315, 425, 426, 427, 428, 429, 430, 431, 432, 433, 434, 435, 436, 437, 438, 439, 440, 441, 442, 443, 444, 445, 446, 447, 448, 449, 450, 451, 452, 453, 454, 455, 456, 457, 458, 459, 460, 461, 462, 463, 464, 465, 466, 467, 468, 469, 470, 471, 472, 473, 474, 475, 476, 477, 478, 479, 480, 481, 482, 483, 484, 485, 486, 487, 488, 489, 490, 491, 492, 493, 494, 495, 496, 497, 498, 499, 500, 501, 502, 503, 504, 505, 506, 507, 508, 509, 510, 511, 512, 513, 514, 515, 516, 517, 518, 519, 520, 521, 522, 523, 524, 525, 526, 527, 528, 529, 530, 531, 532, 533, 534, 535, 536, 537, 538, 539, 540, 101, 102, 103, 36, 37, 38, 766, 767, 768, 769, 770, 771, 772, 773, 774, 775, 776, 777, 778, 779, 780, 695, 696, 697, 698, 699, 700, 701, 702, 703, 704, 705, 706, 707, 708, 709, 710, 711, 712, 713, 714, 715, 716, 717, 718, 719, 720, 721, 722, 723, 724, 725, 726, 743, 744, 745, 746, 747, 748, 749, 750, 751, 752, 753, 754, 755, 756, 757, 727, 728, 729, 730, 731, 732, 733, 734, 735, 736, 737, 738, 739, 740, 741, 742, 758, 759, 760, 761, 762, 763, 764, 765] (by decide +kernel) (by decide +kernel)
set_option maxRecDepth 20000 in
theorem gX13_bundleOfDraft_X3_finish : GoodIn wsX13_bundleOfDraft (wsV RX13 181 RX3 yX3_finish wsX3_finish) := goodIn_app (goodIn_of _ (by decide +kernel)) ggX13_bundleOfDraft_X3_finish
set_option maxRecDepth 20000 in
theorem ggX13_bundleOfDraft_X3_encode : GoodIn wsX13_bundleOfDraft wsX3_encode := goodIn_r _ [544, 545, 329, 546, 43, 336, 333, 334, 335, 547, 497, 548, 350, 345, 491, 352, 353, 549, 550, 551, 340, 114, 115, 10, 116, 17, 67, 53, 117, 57, 118, 59, 119, 120, 121, 122, 123, 21, 124, 125, 126, 20, 22, 127, 128, 129, 130, 131, 132, 133, 134, 135, 136, 137, 138, 108, 70, 139, 140, 141, 142, 66, 143, 144, 145, 84, 146, 147, 148, 149, 150, 151, 152, 153, 154, 155, 156, 157, 158, 159, 160, 161, 162, 163, 164, 165, 166, 167, 168, 169, 170, 171, 172, 173, 15, 174, 175, 176, 177, 178, 179, 180, 181, 182, 90, 91, 183, 184, 185, 186, 83, 89, 187, 188, 189, 190, 54, 92, 93, 94, 95, 96, 97, 98, 99, 71, 72, 73, 14, 74, 46, 191, 192, 193, 194, 195, 196, 197, 198, 199, 200, 201, 202, 203, 204, 205, 206, 207, 208, 209, 210, 211, 212, 213, 214, 215, 216, 217, 218, 219, 220, 221, 222, 223, 224, 225, 226, 227, 228, 229, 75, 76, 77, 78, 44, 230, 231, 232, 233, 56, 109, 110, 111, 112, 47, 234, 235, 236, 237, 238, 239, 240, 241, 552, 553, 554, 327, 555, 346, 347, 556, 557, 558, 559, 560, 561, 562, 563, 564, 565, 566, 567, 568, 569, 570, 571, 572, 573, 574, 575, 576, 577, 578, 579, 580, 483, 484, 485, 486, 493, 494, 495, 496, 498, 581, 582, 583, 584, 400, 585, 586, 587, 588, 589, 399, 590, 591, 592, 278, 593, 594, 595, 596, 597, 280, 598, 599, 600, 601, 602, 603, 604, 605, 606, 607, 608, 609, 610, 611, 612, 613, 614, 503, 615, 616, 617, 618, 619, 620, 621, 622, 623, 624, 506, 625, 626, 627, 628, 629, 339, 630, 631, 632, 633, 634, 635, 636, 637, 638, 639, 640, 641, 642, 643, 644, 645, 646, 647, 255, 256, 257, 247, 259, 260, 261, 262, 263, 264, 265, 266, 267, 268, 269, 270, 60, 271, 272, 273, 274, 275, 276, 277, 279, 281, 282, 283, 284, 285, 258, 648, 649, 650, 651, 652, 653, 654, 655, 656, 505, 313, 314, 315, 657, 658, 659, 660, 661, 662, 663, 664, 665, 666, 667, 426, 427, 668, 669, 670, 671, 766, 767, 768, 769, 770, 771, 772, 773, 774, 775, 776, 777, 778, 779, 780, 695, 696, 697, 698, 699, 700, 701, 702, 703, 704, 705, 706, 707, 708, 709, 710, 711, 712, 713, 714, 715, 716, 717, 718, 719, 720, 721, 722, 723, 724, 725, 726, 743, 744, 745, 746, 747, 748, 749, 750, 751, 752, 753, 754, 755, 756, 757, 727, 728, 729, 730, 731, 732, 733, 734, 735, 736, 737, 738, 739, 740, 741, 742, 758, 759, 760, 761, 762, 763, 764, 765] (by decide +kernel) (by decide +kernel)
set_option maxRecDepth 20000 in
theorem gX13_bundleOfDraft_X3_encode : GoodIn wsX13_bundleOfDraft (wsV RX13 185 RX3 yX3_encode wsX3_encode) := goodIn_app (goodIn_of _ (by decide +kernel)) ggX13_bundleOfDraft_X3_encode
theorem dX13_bundleOfDraft_0 : decode cX13_bundleOfDraft 0 = .ok (.aload_n 0, 1) := by decide +kernel
theorem dX13_bundleOfDraft_1 : decode cX13_bundleOfDraft 1 = .ok (.getfield 86, 3) := by decide +kernel
theorem dX13_bundleOfDraft_4 : decode cX13_bundleOfDraft 4 = .ok (.ifnull 8, 3) := by decide +kernel
theorem dX13_bundleOfDraft_12 : decode cX13_bundleOfDraft 12 = .ok (.aload_n 0, 1) := by decide +kernel
theorem dX13_bundleOfDraft_13 : decode cX13_bundleOfDraft 13 = .ok (.getfield 46, 3) := by decide +kernel
theorem dX13_bundleOfDraft_16 : decode cX13_bundleOfDraft 16 = .ok (.aload_n 0, 1) := by decide +kernel
theorem dX13_bundleOfDraft_17 : decode cX13_bundleOfDraft 17 = .ok (.getfield 79, 3) := by decide +kernel
theorem dX13_bundleOfDraft_20 : decode cX13_bundleOfDraft 20 = .ok (.aload_n 0, 1) := by decide +kernel
theorem dX13_bundleOfDraft_21 : decode cX13_bundleOfDraft 21 = .ok (.getfield 83, 3) := by decide +kernel
theorem dX13_bundleOfDraft_24 : decode cX13_bundleOfDraft 24 = .ok (.invokevirtual 172, 3) := by decide +kernel
theorem dX13_bundleOfDraft_27 : decode cX13_bundleOfDraft 27 = .ok (.astore_n 1, 1) := by decide +kernel
theorem dX13_bundleOfDraft_28 : decode cX13_bundleOfDraft 28 = .ok (.aload_n 1, 1) := by decide +kernel
theorem dX13_bundleOfDraft_29 : decode cX13_bundleOfDraft 29 = .ok (.getfield 176, 3) := by decide +kernel
theorem dX13_bundleOfDraft_32 : decode cX13_bundleOfDraft 32 = .ok (.ifCond .ne 11, 3) := by decide +kernel
theorem dX13_bundleOfDraft_35 : decode cX13_bundleOfDraft 35 = .ok (.aload_n 0, 1) := by decide +kernel
theorem dX13_bundleOfDraft_36 : decode cX13_bundleOfDraft 36 = .ok (.getfield 55, 3) := by decide +kernel
theorem dX13_bundleOfDraft_39 : decode cX13_bundleOfDraft 39 = .ok (.aload_n 1, 1) := by decide +kernel
theorem dX13_bundleOfDraft_40 : decode cX13_bundleOfDraft 40 = .ok (.invokevirtual 181, 3) := by decide +kernel
theorem dX13_bundleOfDraft_43 : decode cX13_bundleOfDraft 43 = .ok (.aload_n 1, 1) := by decide +kernel
theorem dX13_bundleOfDraft_44 : decode cX13_bundleOfDraft 44 = .ok (.getfield 176, 3) := by decide +kernel
theorem dX13_bundleOfDraft_47 : decode cX13_bundleOfDraft 47 = .ok (.ifCond .ne 10, 3) := by decide +kernel
theorem dX13_bundleOfDraft_50 : decode cX13_bundleOfDraft 50 = .ok (.aload_n 0, 1) := by decide +kernel
theorem dX13_bundleOfDraft_51 : decode cX13_bundleOfDraft 51 = .ok (.getfield 55, 3) := by decide +kernel
theorem dX13_bundleOfDraft_54 : decode cX13_bundleOfDraft 54 = .ok (.invokevirtual 185, 3) := by decide +kernel
theorem dX13_bundleOfDraft_57 : decode cX13_bundleOfDraft 57 = .ok (.aload_n 0, 1) := by decide +kernel
theorem dX13_bundleOfDraft_58 : decode cX13_bundleOfDraft 58 = .ok (.aload_n 1, 1) := by decide +kernel
theorem dX13_bundleOfDraft_59 : decode cX13_bundleOfDraft 59 = .ok (.putfield 86, 3) := by decide +kernel
theorem dX13_bundleOfDraft_62 : decode cX13_bundleOfDraft 62 = .ok (.aload_n 1, 1) := by decide +kernel
theorem dX13_bundleOfDraft_63 : decode cX13_bundleOfDraft 63 = .ok (.areturn, 1) := by decide +kernel
theorem dJ7_copyOf_59c91_0 : decode cJ7_copyOf_59c91 0 = .ok (.iload_n 1, 1) := by decide +kernel
theorem dJ7_copyOf_59c91_1 : decode cJ7_copyOf_59c91 1 = .ok (.aload_n 0, 1) := by decide +kernel
theorem dJ7_copyOf_59c91_2 : decode cJ7_copyOf_59c91 2 = .ok (.arraylength, 1) := by decide +kernel
theorem dJ7_copyOf_59c91_3 : decode cJ7_copyOf_59c91 3 = .ok (.if_icmp .ne 11, 3) := by decide +kernel
theorem dJ7_copyOf_59c91_6 : decode cJ7_copyOf_59c91 6 = .ok (.aload_n 0, 1) := by decide +kernel
theorem dJ7_copyOf_59c91_7 : decode cJ7_copyOf_59c91 7 = .ok (.invokevirtual 316, 3) := by decide +kernel
theorem dJ7_copyOf_59c91_10 : decode cJ7_copyOf_59c91 10 = .ok (.checkcast 317, 3) := by decide +kernel
theorem dJ7_copyOf_59c91_13 : decode cJ7_copyOf_59c91 13 = .ok (.areturn, 1) := by decide +kernel
theorem dJ7_copyOf_59c91_14 : decode cJ7_copyOf_59c91 14 = .ok (.iload_n 1, 1) := by decide +kernel
theorem dJ7_copyOf_59c91_15 : decode cJ7_copyOf_59c91 15 = .ok (.newarray .int, 2) := by decide +kernel
theorem dJ7_copyOf_59c91_17 : decode cJ7_copyOf_59c91 17 = .ok (.astore_n 2, 1) := by decide +kernel
theorem dJ7_copyOf_59c91_18 : decode cJ7_copyOf_59c91 18 = .ok (.aload_n 0, 1) := by decide +kernel
theorem dJ7_copyOf_59c91_19 : decode cJ7_copyOf_59c91 19 = .ok (.iconst 0, 1) := by decide +kernel
theorem dJ7_copyOf_59c91_20 : decode cJ7_copyOf_59c91 20 = .ok (.aload_n 2, 1) := by decide +kernel
theorem dJ7_copyOf_59c91_21 : decode cJ7_copyOf_59c91 21 = .ok (.iconst 0, 1) := by decide +kernel
theorem dJ7_copyOf_59c91_22 : decode cJ7_copyOf_59c91 22 = .ok (.aload_n 0, 1) := by decide +kernel
theorem dJ7_copyOf_59c91_23 : decode cJ7_copyOf_59c91 23 = .ok (.arraylength, 1) := by decide +kernel
theorem dJ7_copyOf_59c91_24 : decode cJ7_copyOf_59c91 24 = .ok (.iload_n 1, 1) := by decide +kernel
theorem dJ7_copyOf_59c91_25 : decode cJ7_copyOf_59c91 25 = .ok (.invokestatic 304, 3) := by decide +kernel
theorem dJ7_copyOf_59c91_28 : decode cJ7_copyOf_59c91 28 = .ok (.invokestatic 150, 3) := by decide +kernel
theorem dJ7_copyOf_59c91_31 : decode cJ7_copyOf_59c91 31 = .ok (.aload_n 2, 1) := by decide +kernel
theorem dJ7_copyOf_59c91_32 : decode cJ7_copyOf_59c91 32 = .ok (.areturn, 1) := by decide +kernel
theorem inX0_init_X0 : ∀ w ∈ wsX00, w ∈ wsX0_init := fun _ h => (List.mem_cons_of_mem _ (List.mem_append_left _ (List.mem_append_left _ (List.mem_append_right _ h))))
theorem inX10_init_X10 : ∀ w ∈ wsX100, w ∈ wsX10_init := fun _ h => (List.mem_cons_of_mem _ (List.mem_append_right _ h))
theorem inX11_init_X11 : ∀ w ∈ wsX110, w ∈ wsX11_init := fun _ h => (List.mem_cons_of_mem _ (List.mem_append_right _ h))
theorem inX13_bundleOfDraft_X1 : ∀ w ∈ wsX10, w ∈ wsX13_bundleOfDraft := fun _ h => (List.mem_cons_of_mem _ (List.mem_append_left _ (List.mem_append_left _ (List.mem_append_left _ (List.mem_append_left _ (List.mem_append_left _ (List.mem_append_right _ h)))))))
theorem inX13_bundleOfDraft_X13 : ∀ w ∈ wsX130, w ∈ wsX13_bundleOfDraft := fun _ h => (List.mem_cons_of_mem _ (List.mem_append_left _ (List.mem_append_left _ (List.mem_append_left _ (List.mem_append_left _ (List.mem_append_left _ (List.mem_append_left _ (List.mem_append_right _ h))))))))
theorem inX13_init_X0 : ∀ w ∈ wsX00, w ∈ wsX13_init := fun _ h => (List.mem_cons_of_mem _ (List.mem_append_left _ (List.mem_append_left _ (List.mem_append_right _ h))))
theorem inX13_init_X10 : ∀ w ∈ wsX100, w ∈ wsX13_init := fun _ h => (List.mem_cons_of_mem _ (List.mem_append_left _ (List.mem_append_left _ (List.mem_append_left _ (List.mem_append_left _ (List.mem_append_right _ h))))))
theorem inX13_init_X11 : ∀ w ∈ wsX110, w ∈ wsX13_init := fun _ h => (List.mem_cons_of_mem _ (List.mem_append_left _ (List.mem_append_left _ (List.mem_append_left _ (List.mem_append_left _ (List.mem_append_left _ (List.mem_append_left _ (List.mem_append_left _ (List.mem_append_left _ (List.mem_append_left _ (List.mem_append_left _ (List.mem_append_right _ h))))))))))))
theorem inX13_init_X13 : ∀ w ∈ wsX130, w ∈ wsX13_init := fun _ h => (List.mem_cons_of_mem _ (List.mem_append_left _ (List.mem_append_left _ (List.mem_append_left _ (List.mem_append_left _ (List.mem_append_left _ (List.mem_append_left _ (List.mem_append_left _ (List.mem_append_left _ (List.mem_append_left _ (List.mem_append_left _ (List.mem_append_left _ (List.mem_append_right _ h)))))))))))))
theorem inX13_init_X2 : ∀ w ∈ wsX20, w ∈ wsX13_init := fun _ h => (List.mem_cons_of_mem _ (List.mem_append_left _ (List.mem_append_left _ (List.mem_append_left _ (List.mem_append_left _ (List.mem_append_left _ (List.mem_append_left _ (List.mem_append_left _ (List.mem_append_right _ h)))))))))
theorem inX13_init_X3 : ∀ w ∈ wsX30, w ∈ wsX13_init := fun _ h => (List.mem_cons_of_mem _ (List.mem_append_left _ (List.mem_append_left _ (List.mem_append_left _ (List.mem_append_left _ (List.mem_append_left _ (List.mem_append_left _ (List.mem_append_right _ h))))))))
theorem inX13_init_X4 : ∀ w ∈ wsX40, w ∈ wsX13_init := fun _ h => (List.mem_cons_of_mem _ (List.mem_append_left _ (List.mem_append_left _ (List.mem_append_left _ (List.mem_append_left _ (List.mem_append_left _ (List.mem_append_left _ (List.mem_append_left _ (List.mem_append_left _ (List.mem_append_left _ (List.mem_append_left _ (List.mem_append_left _ (List.mem_append_left _ (List.mem_append_right _ h))))))))))))))
theorem inX13_init_X5 : ∀ w ∈ wsX50, w ∈ wsX13_init := fun _ h => (List.mem_cons_of_mem _ (List.mem_append_left _ (List.mem_append_left _ (List.mem_append_left _ (List.mem_append_right _ h)))))
theorem inX13_init_X6 : ∀ w ∈ wsX60, w ∈ wsX13_init := fun _ h => (List.mem_cons_of_mem _ (List.mem_append_left _ (List.mem_append_left _ (List.mem_append_left _ (List.mem_append_left _ (List.mem_append_left _ (List.mem_append_left _ (List.mem_append_left _ (List.mem_append_left _ (List.mem_append_left _ (List.mem_append_right _ h)))))))))))
theorem inX13_init_X8 : ∀ w ∈ wsX80, w ∈ wsX13_init := fun _ h => (List.mem_cons_of_mem _ (List.mem_append_left _ (List.mem_append_left _ (List.mem_append_left _ (List.mem_append_left _ (List.mem_append_left _ (List.mem_append_left _ (List.mem_append_left _ (List.mem_append_left _ (List.mem_append_right _ h))))))))))
theorem inX13_init_X9 : ∀ w ∈ wsX90, w ∈ wsX13_init := fun _ h => (List.mem_cons_of_mem _ (List.mem_append_left _ (List.mem_append_left _ (List.mem_append_left _ (List.mem_append_left _ (List.mem_append_left _ (List.mem_append_right _ h)))))))
theorem inX1_init_X1 : ∀ w ∈ wsX10, w ∈ wsX1_init := fun _ h => (List.mem_cons_of_mem _ (List.mem_append_left _ (List.mem_append_right _ h)))
theorem inX2_bundle_X1 : ∀ w ∈ wsX10, w ∈ wsX2_bundle := fun _ h => (List.mem_cons_of_mem _ (List.mem_append_left _ (List.mem_append_left _ (List.mem_append_left _ (List.mem_append_left _ (List.mem_append_right _ h))))))
theorem inX2_bundle_X2 : ∀ w ∈ wsX20, w ∈ wsX2_bundle := fun _ h => (List.mem_cons_of_mem _ (List.mem_append_left _ (List.mem_append_left _ (List.mem_append_left _ (List.mem_append_right _ h)))))
theorem inX2_bundle_X6 : ∀ w ∈ wsX60, w ∈ wsX2_bundle := fun _ h => (List.mem_cons_of_mem _ (List.mem_append_left _ (List.mem_append_left _ (List.mem_append_right _ h))))
theorem inX2_findClash_X1 : ∀ w ∈ wsX10, w ∈ wsX2_findClash := fun _ h => (List.mem_cons_of_mem _ (List.mem_append_left _ (List.mem_append_left _ (List.mem_append_right _ h))))
theorem inX2_findClash_X2 : ∀ w ∈ wsX20, w ∈ wsX2_findClash := fun _ h => (List.mem_cons_of_mem _ (List.mem_append_left _ (List.mem_append_left _ (List.mem_append_left _ (List.mem_append_right _ h)))))
theorem inX2_findDepth_X1 : ∀ w ∈ wsX10, w ∈ wsX2_findDepth := fun _ h => (List.mem_cons_of_mem _ (List.mem_append_left _ (List.mem_append_left _ (List.mem_append_left _ (List.mem_append_right _ h)))))
theorem inX2_findDepth_X2 : ∀ w ∈ wsX20, w ∈ wsX2_findDepth := fun _ h => (List.mem_cons_of_mem _ (List.mem_append_left _ (List.mem_append_left _ (List.mem_append_left _ (List.mem_append_left _ (List.mem_append_right _ h))))))
theorem inX2_findReads_X1 : ∀ w ∈ wsX10, w ∈ wsX2_findReads := fun _ h => (List.mem_cons_of_mem _ (List.mem_append_left _ (List.mem_append_left _ (List.mem_append_left _ (List.mem_append_right _ h)))))
theorem inX2_findReads_X2 : ∀ w ∈ wsX20, w ∈ wsX2_findReads := fun _ h => (List.mem_cons_of_mem _ (List.mem_append_left _ (List.mem_append_left _ (List.mem_append_left _ (List.mem_append_left _ (List.mem_append_right _ h))))))
theorem inX2_gather_X1 : ∀ w ∈ wsX10, w ∈ wsX2_gather := fun _ h => (List.mem_cons_of_mem _ (List.mem_append_left _ (List.mem_append_left _ (List.mem_append_right _ h))))
theorem inX2_gather_X2 : ∀ w ∈ wsX20, w ∈ wsX2_gather := fun _ h => (List.mem_cons_of_mem _ (List.mem_append_left _ (List.mem_append_left _ (List.mem_append_left _ (List.mem_append_right _ h)))))
theorem inX2_init_X2 : ∀ w ∈ wsX20, w ∈ wsX2_init := fun _ h => (List.mem_cons_of_mem _ (List.mem_append_right _ h))
theorem inX3_encode_X1 : ∀ w ∈ wsX10, w ∈ wsX3_encode := fun _ h => (List.mem_cons_of_mem _ (List.mem_append_left _ (List.mem_append_left _ (List.mem_append_left _ (List.mem_append_left _ (List.mem_append_right _ h))))))
theorem inX3_encode_X3 : ∀ w ∈ wsX30, w ∈ wsX3_encode := fun _ h => (List.mem_cons_of_mem _ (List.mem_append_left _ (List.mem_append_left _ (List.mem_append_left _ (List.mem_append_left _ (List.mem_append_left _ (List.mem_append_right _ h)))))))
theorem inX3_finish_X1 : ∀ w ∈ wsX10, w ∈ wsX3_finish := fun _ h => (List.mem_cons_of_mem _ (List.mem_append_left _ (List.mem_append_left _ (List.mem_append_left _ (List.mem_append_left _ (List.mem_append_right _ h))))))
theorem inX3_finish_X3 : ∀ w ∈ wsX30, w ∈ wsX3_finish := fun _ h => (List.mem_cons_of_mem _ (List.mem_append_left _ (List.mem_append_left _ (List.mem_append_left _ (List.mem_append_left _ (List.mem_append_left _ (List.mem_append_right _ h)))))))
theorem inX3_init_X3 : ∀ w ∈ wsX30, w ∈ wsX3_init := fun _ h => (List.mem_cons_of_mem _ (List.mem_append_right _ h))
theorem inX4_copyTo_X4 : ∀ w ∈ wsX40, w ∈ wsX4_copyTo := fun _ h => (List.mem_cons_of_mem _ (List.mem_append_right _ h))
theorem inX4_copy_X4 : ∀ w ∈ wsX40, w ∈ wsX4_copy := fun _ h => (List.mem_cons_of_mem _ (List.mem_append_right _ h))
theorem inX4_init_X4 : ∀ w ∈ wsX40, w ∈ wsX4_init := fun _ h => (List.mem_cons_of_mem _ (List.mem_append_right _ h))
theorem inX4_kind_X4 : ∀ w ∈ wsX40, w ∈ wsX4_kind := fun _ h => (List.mem_cons_of_mem _ (List.mem_append_right _ h))
theorem inX4_made_X4 : ∀ w ∈ wsX40, w ∈ wsX4_made := fun _ h => (List.mem_cons_of_mem _ (List.mem_append_right _ h))
theorem inX4_reset_X4 : ∀ w ∈ wsX40, w ∈ wsX4_reset := fun _ h => (List.mem_cons_of_mem _ (List.mem_append_right _ h))
theorem inX4_room_X4 : ∀ w ∈ wsX40, w ∈ wsX4_room := fun _ h => (List.mem_cons_of_mem _ (List.mem_append_right _ h))
theorem inX4_size_X4 : ∀ w ∈ wsX40, w ∈ wsX4_size := fun _ h => (List.mem_cons_of_mem _ (List.mem_append_right _ h))
theorem inX5_init_X5 : ∀ w ∈ wsX50, w ∈ wsX5_init := fun _ h => (List.mem_cons_of_mem _ (List.mem_append_right _ h))
theorem inX8_init_X8 : ∀ w ∈ wsX80, w ∈ wsX8_init := fun _ h => (List.mem_cons_of_mem _ (List.mem_append_right _ h))
theorem inX9_init_X9 : ∀ w ∈ wsX90, w ∈ wsX9_init := fun _ h => (List.mem_cons_of_mem _ (List.mem_append_right _ h))
