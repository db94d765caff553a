def tyX1 : Nat → FieldType := fun k => match k with
  | 0 => .array (.object "PolicyHouse$Tree")
  | 1 => .int
  | 2 => .int
  | 3 => .int
  | 4 => .array .int
  | 5 => .array .int
  | 6 => .array .int
  | 7 => .array .int
  | 8 => .int
  | 9 => .array .int
  | 10 => .array .int
  | 11 => .array .int
  | 12 => .array .int
  | 13 => .int
  | 14 => .int
  | _ => .int
abbrev wsX10 : List Cond := u_ws RX1 TX1 16
theorem nmX1 : ∀ a, a < 16 → ∀ b, b < 16 → a ≠ b → (TX1 a).2.1 ≠ (TX1 b).2.1 := by decide +kernel
theorem tyX1_ok : ∀ k, k < 16 → parseFieldDescriptor (TX1 k).2.2.1 = some (tyX1 k) := by decide +kernel
abbrev cX1_init : ByteArray := prog_3_method_1_code
def yX1_init : MethodName := ⟨RX1, "<init>", "([LPolicyHouse$Tree;II)V"⟩
abbrev cX1_of : ByteArray := prog_3_method_2_code
def yX1_of : MethodName := ⟨RX1, "of", "(II)I"⟩
abbrev cX1_ruleAt : ByteArray := prog_3_method_3_code
def yX1_ruleAt : MethodName := ⟨RX1, "ruleAt", "(I)I"⟩
abbrev cX1_isInner : ByteArray := prog_3_method_4_code
def yX1_isInner : MethodName := ⟨RX1, "isInner", "(I)Z"⟩
abbrev cX1_fail : ByteArray := prog_3_method_5_code
def yX1_fail : MethodName := ⟨RX1, "fail", "(III)V"⟩
abbrev cX1_failAtRule : ByteArray := prog_3_method_6_code
def yX1_failAtRule : MethodName := ⟨RX1, "failAtRule", "(II)V"⟩
abbrev cX2_bundle : ByteArray := prog_4_method_2_code
def yX2_bundle : MethodName := ⟨RX2, "bundle", "([LPolicyHouse$Tree;I)LPolicyHouse$Bundle;"⟩
abbrev cX2_gather : ByteArray := prog_4_method_3_code
def yX2_gather : MethodName := ⟨RX2, "gather", "()V"⟩
abbrev cX2_addPart : ByteArray := prog_4_method_4_code
def yX2_addPart : MethodName := ⟨RX2, "addPart", "(II)V"⟩
abbrev cX2_findClash : ByteArray := prog_4_method_5_code
def yX2_findClash : MethodName := ⟨RX2, "findClash", "()V"⟩
abbrev cX2_isClash : ByteArray := prog_4_method_6_code
def yX2_isClash : MethodName := ⟨RX2, "isClash", "(LPolicyHouse$Tree;I)Z"⟩
abbrev cX2_isPartClash : ByteArray := prog_4_method_7_code
def yX2_isPartClash : MethodName := ⟨RX2, "isPartClash", "(LPolicyHouse$Tree;II)Z"⟩
abbrev cX2_report : ByteArray := prog_4_method_8_code
def yX2_report : MethodName := ⟨RX2, "report", "(II)V"⟩
abbrev cX2_begin : ByteArray := prog_4_method_9_code
def yX2_begin : MethodName := ⟨RX2, "begin", "(LPolicyHouse$Tree;I)V"⟩
abbrev cX2_scanPart : ByteArray := prog_4_method_10_code
def yX2_scanPart : MethodName := ⟨RX2, "scanPart", "(I)V"⟩
abbrev cX2_newScope : ByteArray := prog_4_method_12_code
def yX2_newScope : MethodName := ⟨RX2, "newScope", "(II)I"⟩
abbrev cX2_addVariable : ByteArray := prog_4_method_13_code
def yX2_addVariable : MethodName := ⟨RX2, "addVariable", "(II)V"⟩
abbrev cX2_declareAll : ByteArray := prog_4_method_14_code
def yX2_declareAll : MethodName := ⟨RX2, "declareAll", "(II)V"⟩
abbrev cX2_declare : ByteArray := prog_4_method_15_code
def yX2_declare : MethodName := ⟨RX2, "declare", "(II)V"⟩
abbrev cX2_declareEvery : ByteArray := prog_4_method_16_code
def yX2_declareEvery : MethodName := ⟨RX2, "declareEvery", "(II)V"⟩
abbrev cX2_declarePattern : ByteArray := prog_4_method_17_code
def yX2_declarePattern : MethodName := ⟨RX2, "declarePattern", "(II)V"⟩
abbrev cX2_addPattern : ByteArray := prog_4_method_18_code
def yX2_addPattern : MethodName := ⟨RX2, "addPattern", "(II)V"⟩
abbrev cX2_isAround : ByteArray := prog_4_method_19_code
def yX2_isAround : MethodName := ⟨RX2, "isAround", "(II)Z"⟩
abbrev cX2_checkDeclared : ByteArray := prog_4_method_20_code
def yX2_checkDeclared : MethodName := ⟨RX2, "checkDeclared", "()V"⟩
abbrev cX2_aliasOf : ByteArray := prog_4_method_21_code
def yX2_aliasOf : MethodName := ⟨RX2, "aliasOf", "(I)I"⟩
abbrev cX2_ruleOf : ByteArray := prog_4_method_22_code
def yX2_ruleOf : MethodName := ⟨RX2, "ruleOf", "(I)I"⟩
abbrev cX2_variable : ByteArray := prog_4_method_23_code
def yX2_variable : MethodName := ⟨RX2, "variable", "(II)I"⟩
abbrev cX2_resolveAll : ByteArray := prog_4_method_24_code
def yX2_resolveAll : MethodName := ⟨RX2, "resolveAll", "(II)V"⟩
abbrev cX2_resolve : ByteArray := prog_4_method_25_code
def yX2_resolve : MethodName := ⟨RX2, "resolve", "(II)V"⟩
abbrev cX2_resolveStep : ByteArray := prog_4_method_26_code
def yX2_resolveStep : MethodName := ⟨RX2, "resolveStep", "(II)V"⟩
abbrev cX2_resolvePattern : ByteArray := prog_4_method_27_code
def yX2_resolvePattern : MethodName := ⟨RX2, "resolvePattern", "(II)V"⟩
abbrev cX2_resolveSide : ByteArray := prog_4_method_28_code
def yX2_resolveSide : MethodName := ⟨RX2, "resolveSide", "(II)V"⟩
abbrev cX2_resolveName : ByteArray := prog_4_method_29_code
def yX2_resolveName : MethodName := ⟨RX2, "resolveName", "(II)V"⟩
abbrev cX2_resolveCall : ByteArray := prog_4_method_30_code
def yX2_resolveCall : MethodName := ⟨RX2, "resolveCall", "(I)V"⟩
abbrev cX2_functionOf : ByteArray := prog_4_method_31_code
def yX2_functionOf : MethodName := ⟨RX2, "functionOf", "(I)I"⟩
abbrev cX2_isBadTarget : ByteArray := prog_4_method_32_code
def yX2_isBadTarget : MethodName := ⟨RX2, "isBadTarget", "(I)Z"⟩
abbrev cX2_clearBits : ByteArray := prog_4_method_33_code
def yX2_clearBits : MethodName := ⟨RX2, "clearBits", "()V"⟩
abbrev cX2_mark : ByteArray := prog_4_method_34_code
def yX2_mark : MethodName := ⟨RX2, "mark", "(I)V"⟩
abbrev cX2_collect : ByteArray := prog_4_method_35_code
def yX2_collect : MethodName := ⟨RX2, "collect", "(IZ)V"⟩
abbrev cX2_collectAll : ByteArray := prog_4_method_36_code
def yX2_collectAll : MethodName := ⟨RX2, "collectAll", "(IZ)V"⟩
abbrev cX2_markReference : ByteArray := prog_4_method_37_code
def yX2_markReference : MethodName := ⟨RX2, "markReference", "(I)V"⟩
abbrev cX2_findReads : ByteArray := prog_4_method_38_code
def yX2_findReads : MethodName := ⟨RX2, "findReads", "()V"⟩
abbrev cX2_readRule : ByteArray := prog_4_method_39_code
def yX2_readRule : MethodName := ⟨RX2, "readRule", "(IZ)V"⟩
abbrev cX2_isSet : ByteArray := prog_4_method_40_code
def yX2_isSet : MethodName := ⟨RX2, "isSet", "([III)Z"⟩
abbrev cX2_findDepth : ByteArray := prog_4_method_41_code
def yX2_findDepth : MethodName := ⟨RX2, "findDepth", "()V"⟩
abbrev cX2_rowOf : ByteArray := prog_4_method_42_code
def yX2_rowOf : MethodName := ⟨RX2, "rowOf", "(I[I)I"⟩
abbrev cX2_findWiths : ByteArray := prog_4_method_43_code
def yX2_findWiths : MethodName := ⟨RX2, "findWiths", "(I)V"⟩
abbrev cX2_withsIn : ByteArray := prog_4_method_44_code
def yX2_withsIn : MethodName := ⟨RX2, "withsIn", "(I)I"⟩
abbrev cX3_finish : ByteArray := prog_5_method_2_code
def yX3_finish : MethodName := ⟨RX3, "finish", "(LPolicyHouse$Bundle;)V"⟩
abbrev cX3_arrangePart : ByteArray := prog_5_method_3_code
def yX3_arrangePart : MethodName := ⟨RX3, "arrangePart", "(I)V"⟩
abbrev cX3_report : ByteArray := prog_5_method_5_code
def yX3_report : MethodName := ⟨RX3, "report", "(II)V"⟩
abbrev cX3_around : ByteArray := prog_5_method_6_code
def yX3_around : MethodName := ⟨RX3, "around", "(I)I"⟩
abbrev cX3_bodyOf : ByteArray := prog_5_method_7_code
def yX3_bodyOf : MethodName := ⟨RX3, "bodyOf", "(I)I"⟩
abbrev cX3_arrange : ByteArray := prog_5_method_8_code
def yX3_arrange : MethodName := ⟨RX3, "arrange", "(II)V"⟩
abbrev cX3_arrangeBody : ByteArray := prog_5_method_9_code
def yX3_arrangeBody : MethodName := ⟨RX3, "arrangeBody", "(III)V"⟩
abbrev cX3_arrangeWithin : ByteArray := prog_5_method_10_code
def yX3_arrangeWithin : MethodName := ⟨RX3, "arrangeWithin", "(I)V"⟩
abbrev cX3_putInOrder : ByteArray := prog_5_method_11_code
def yX3_putInOrder : MethodName := ⟨RX3, "putInOrder", "(I)V"⟩
abbrev cX3_isReadyLiteral : ByteArray := prog_5_method_12_code
def yX3_isReadyLiteral : MethodName := ⟨RX3, "isReadyLiteral", "(I)Z"⟩
abbrev cX3_isReadyUnify : ByteArray := prog_5_method_13_code
def yX3_isReadyUnify : MethodName := ⟨RX3, "isReadyUnify", "(III)Z"⟩
abbrev cX3_patternMask : ByteArray := prog_5_method_14_code
def yX3_patternMask : MethodName := ⟨RX3, "patternMask", "(I)I"⟩
abbrev cX3_usedFrom : ByteArray := prog_5_method_15_code
def yX3_usedFrom : MethodName := ⟨RX3, "usedFrom", "(II)I"⟩
abbrev cX3_isReady : ByteArray := prog_5_method_16_code
def yX3_isReady : MethodName := ⟨RX3, "isReady", "(IZ)Z"⟩
abbrev cX3_isReadyStep : ByteArray := prog_5_method_17_code
def yX3_isReadyStep : MethodName := ⟨RX3, "isReadyStep", "(IZ)Z"⟩
abbrev cX3_isMatching : ByteArray := prog_5_method_18_code
def yX3_isMatching : MethodName := ⟨RX3, "isMatching", "(I)Z"⟩
abbrev cX3_checkKinds : ByteArray := prog_5_method_19_code
def yX3_checkKinds : MethodName := ⟨RX3, "checkKinds", "(I)V"⟩
abbrev cX3_kindOf : ByteArray := prog_5_method_20_code
def yX3_kindOf : MethodName := ⟨RX3, "kindOf", "(I)I"⟩
abbrev cX3_takes : ByteArray := prog_5_method_21_code
def yX3_takes : MethodName := ⟨RX3, "takes", "(CI)Z"⟩
abbrev cX3_put : ByteArray := prog_5_method_22_code
def yX3_put : MethodName := ⟨RX3, "put", "(I)V"⟩
abbrev cX3_putTwo : ByteArray := prog_5_method_23_code
def yX3_putTwo : MethodName := ⟨RX3, "putTwo", "(II)V"⟩
abbrev cX3_putThree : ByteArray := prog_5_method_24_code
def yX3_putThree : MethodName := ⟨RX3, "putThree", "(III)V"⟩
abbrev cX3_putFour : ByteArray := prog_5_method_25_code
def yX3_putFour : MethodName := ⟨RX3, "putFour", "(IIII)V"⟩
abbrev cX3_registers : ByteArray := prog_5_method_26_code
def yX3_registers : MethodName := ⟨RX3, "registers", "(I)I"⟩
abbrev cX3_encode : ByteArray := prog_5_method_27_code
def yX3_encode : MethodName := ⟨RX3, "encode", "()V"⟩
abbrev cX3_setFrame : ByteArray := prog_5_method_28_code
def yX3_setFrame : MethodName := ⟨RX3, "setFrame", "(I)V"⟩
abbrev cX3_branch : ByteArray := prog_5_method_29_code
def yX3_branch : MethodName := ⟨RX3, "branch", "(IIZ)V"⟩
abbrev cX3_literals : ByteArray := prog_5_method_31_code
def yX3_literals : MethodName := ⟨RX3, "literals", "(I)V"⟩
abbrev cX3_literal : ByteArray := prog_5_method_32_code
def yX3_literal : MethodName := ⟨RX3, "literal", "(I)V"⟩
abbrev cX3_with : ByteArray := prog_5_method_33_code
def yX3_with : MethodName := ⟨RX3, "with", "(I)I"⟩
abbrev cX3_keep : ByteArray := prog_5_method_34_code
def yX3_keep : MethodName := ⟨RX3, "keep", "(I)V"⟩
abbrev cX3_someIn : ByteArray := prog_5_method_35_code
def yX3_someIn : MethodName := ⟨RX3, "someIn", "(I)V"⟩
abbrev cX3_every : ByteArray := prog_5_method_36_code
def yX3_every : MethodName := ⟨RX3, "every", "(I)V"⟩
abbrev cX3_match : ByteArray := prog_5_method_37_code
def yX3_match : MethodName := ⟨RX3, "match", "(II)V"⟩
abbrev cX3_matchObject : ByteArray := prog_5_method_38_code
def yX3_matchObject : MethodName := ⟨RX3, "matchObject", "(II)V"⟩
abbrev cX3_expression : ByteArray := prog_5_method_39_code
def yX3_expression : MethodName := ⟨RX3, "expression", "(I)I"⟩
abbrev cX3_row : ByteArray := prog_5_method_40_code
def yX3_row : MethodName := ⟨RX3, "row", "(III)I"⟩
abbrev cX3_signs : ByteArray := prog_5_method_41_code
def yX3_signs : MethodName := ⟨RX3, "signs", "(I)I"⟩
abbrev cX3_reference : ByteArray := prog_5_method_42_code
def yX3_reference : MethodName := ⟨RX3, "reference", "(I)I"⟩
abbrev cX3_step : ByteArray := prog_5_method_43_code
def yX3_step : MethodName := ⟨RX3, "step", "(II)I"⟩
abbrev cX3_comprehension : ByteArray := prog_5_method_44_code
def yX3_comprehension : MethodName := ⟨RX3, "comprehension", "(I)I"⟩
abbrev cX4_tooGreat : ByteArray := prog_6_method_11_code
def yX4_tooGreat : MethodName := ⟨RX4, "tooGreat", "(I)Z"⟩
abbrev cX6_within : ByteArray := prog_8_method_10_code
def yX6_within : MethodName := ⟨RX6, "within", "(II)Z"⟩
abbrev wsX120 : List Cond := u_ws RX12 TX12 15
abbrev cX12_isComprehension : ByteArray := prog_14_method_4_code
def yX12_isComprehension : MethodName := ⟨RX12, "isComprehension", "(I)Z"⟩
abbrev cX12_isConstant : ByteArray := prog_14_method_5_code
def yX12_isConstant : MethodName := ⟨RX12, "isConstant", "(I)Z"⟩
abbrev cX12_isPattern : ByteArray := prog_14_method_6_code
def yX12_isPattern : MethodName := ⟨RX12, "isPattern", "(I)Z"⟩
abbrev cX12_isName : ByteArray := prog_14_method_7_code
def yX12_isName : MethodName := ⟨RX12, "isName", "(II)Z"⟩
def RJ11 : String := "java/lang/Character"
abbrev cJ11_isValidCodePoint_9a6ad : ByteArray := prog_21_method_11_code
def yJ11_isValidCodePoint_9a6ad : MethodName := ⟨RJ11, "isValidCodePoint", "(I)Z"⟩
abbrev cJ11_highSurrogate_5068e : ByteArray := prog_21_method_28_code
def yJ11_highSurrogate_5068e : MethodName := ⟨RJ11, "highSurrogate", "(I)C"⟩
abbrev cJ11_lowSurrogate_5068e : ByteArray := prog_21_method_29_code
def yJ11_lowSurrogate_5068e : MethodName := ⟨RJ11, "lowSurrogate", "(I)C"⟩
abbrev cJ6_bitCount_0f7a4 : ByteArray := prog_25_method_49_code
def yJ6_bitCount_0f7a4 : MethodName := ⟨RJ6, "bitCount", "(I)I"⟩
abbrev cJ0_indexOf_0f7a4 : ByteArray := prog_29_method_79_code
def yJ0_indexOf_0f7a4 : MethodName := ⟨RJ0, "indexOf", "(I)I"⟩
abbrev cJ0_indexOf_7cf53 : ByteArray := prog_29_method_80_code
def yJ0_indexOf_7cf53 : MethodName := ⟨RJ0, "indexOf", "(II)I"⟩
abbrev cJ0_checkBoundsBeginEnd_23922 : ByteArray := prog_29_method_158_code
def yJ0_checkBoundsBeginEnd_23922 : MethodName := ⟨RJ0, "checkBoundsBeginEnd", "(III)V"⟩
abbrev cJ1_canEncode_9a6ad : ByteArray := prog_30_method_4_code
def yJ1_canEncode_9a6ad : MethodName := ⟨RJ1, "canEncode", "(I)Z"⟩
abbrev cJ1_indexOf_4cfef : ByteArray := prog_30_method_22_code
def yJ1_indexOf_4cfef : MethodName := ⟨RJ1, "indexOf", "([BIII)I"⟩
abbrev cJ1_indexOfChar_4cfef : ByteArray := prog_30_method_23_code
def yJ1_indexOfChar_4cfef : MethodName := ⟨RJ1, "indexOfChar", "([BIII)I"⟩
abbrev cJ2_indexOf_4cfef : ByteArray := prog_31_method_40_code
def yJ2_indexOf_4cfef : MethodName := ⟨RJ2, "indexOf", "([BIII)I"⟩
abbrev cJ2_indexOfChar_4cfef : ByteArray := prog_31_method_47_code
def yJ2_indexOfChar_4cfef : MethodName := ⟨RJ2, "indexOfChar", "([BIII)I"⟩
abbrev cJ2_indexOfCharUnsafe_4cfef : ByteArray := prog_31_method_48_code
def yJ2_indexOfCharUnsafe_4cfef : MethodName := ⟨RJ2, "indexOfCharUnsafe", "([BIII)I"⟩
abbrev cJ2_indexOfSupplementary_4cfef : ByteArray := prog_31_method_49_code
def yJ2_indexOfSupplementary_4cfef : MethodName := ⟨RJ2, "indexOfSupplementary", "([BIII)I"⟩
abbrev cJ2_checkBoundsBeginEnd_d044e : ByteArray := prog_31_method_93_code
def yJ2_checkBoundsBeginEnd_d044e : MethodName := ⟨RJ2, "checkBoundsBeginEnd", "(II[B)V"⟩
def RJ7 : String := "java/util/Arrays"
abbrev cJ7_copyOf_59c91 : ByteArray := prog_36_method_123_code
def yJ7_copyOf_59c91 : MethodName := ⟨RJ7, "copyOf", "([II)[I"⟩
abbrev cJ3_checkFromToIndex_8c36e : ByteArray := prog_38_method_12_code
def yJ3_checkFromToIndex_8c36e : MethodName := ⟨RJ3, "checkFromToIndex", "(IIILjava/util/function/BiFunction;)I"⟩
def wsX1_init : List Cond := .code yX1_init cX1_init 6 none :: ([.methodLink RX1 3 objectInit, .instanceMethod objectInit, .code objectInit ⟨#[0xb1]⟩ 1 none, .fieldLink RX1 9 "PolicyHouse$Bundle" "rules" "I", .fieldLink RX1 15 "PolicyHouse$Bundle" "parts" "I", .fieldLink RX1 18 "PolicyHouse$Bundle" "words" "I", .fieldLink RX1 21 "PolicyHouse$Bundle" "reads" "[I", .fieldLink RX1 25 "PolicyHouse$Bundle" "rank" "[I", .fieldLink RX1 28 "PolicyHouse$Bundle" "branch" "[I", .fieldLink RX1 31 "PolicyHouse$Bundle" "code" "[I", .fieldLink RX1 34 "PolicyHouse$Bundle" "kind" "I", .fieldLink RX1 37 "PolicyHouse$Bundle" "module" "I", .fieldLink RX1 40 "PolicyHouse$Bundle" "place" "I", .classLink RX1 43 RX12, .fieldLink RX1 45 "PolicyHouse$Bundle" "mods" "[LPolicyHouse$Tree;", .fieldLink RX1 49 "PolicyHouse$Tree" "rules" "I", .fieldLink RX1 50 "PolicyHouse$Bundle" "count" "I", .arrayClass .int, .fieldLink RX1 53 "PolicyHouse$Bundle" "rule" "[I", .fieldLink RX1 56 "PolicyHouse$Bundle" "part" "[I", .fieldLink RX1 59 "PolicyHouse$Bundle" "nodeRule" "[I", .fieldLink RX1 62 "PolicyHouse$Bundle" "inner" "[I"] ++ wsX10 ++ wsX120)
def wsX2_gather_r1 : List Cond := [Cond.fieldLink RX2 7 "PolicyHouse$Checker" "b" "LPolicyHouse$Bundle;", Cond.fieldLink RX2 99 "PolicyHouse$Bundle" "count" "I", Cond.fieldLink RX2 100 "PolicyHouse$Bundle" "mods" "[LPolicyHouse$Tree;", Cond.fieldLink RX2 104 "PolicyHouse$Tree" "pack" "I", Cond.fieldLink RX2 109 "PolicyHouse$Bundle" "inner" "[I", Cond.fieldLink RX2 59 "PolicyHouse$Checker" "names" "LPolicyHouse$Names;", Cond.fieldLink RX2 112 "PolicyHouse$Names" "parent" "[I", Cond.fieldLink RX2 115 "PolicyHouse$Tree" "first" "[I", Cond.fieldLink RX2 118 "PolicyHouse$Tree" "root" "I", Cond.fieldLink RX2 125 "PolicyHouse$Tree" "next" "[I", Cond.fieldLink RX2 128 "PolicyHouse$Bundle" "rules" "I", Cond.fieldLink RX2 131 "PolicyHouse$Bundle" "words" "I", Cond.methodLink RX2 121 yX2_addPart, Cond.instanceMethod yX2_addPart, Cond.selects RX2 yX2_addPart yX2_addPart, Cond.initialized RX2, Cond.code yX2_addPart cX2_addPart 7 none, Cond.fieldLink RX2 134 "PolicyHouse$Tree" "ref" "[I", Cond.fieldLink RX2 79 "PolicyHouse$Bundle" "parts" "I", Cond.fieldLink RX2 141 "PolicyHouse$Bundle" "part" "[I", Cond.fieldLink RX2 144 "PolicyHouse$Bundle" "nodeRule" "[I", Cond.fieldLink RX2 147 "PolicyHouse$Bundle" "rule" "[I", Cond.fieldLink RX2 154 "PolicyHouse$Tree" "b" "[I", Cond.methodLink RX2 137 yX1_ruleAt]
def wsX2_gather_r2 : List Cond := [Cond.instanceMethod yX1_ruleAt, Cond.selects RX1 yX1_ruleAt yX1_ruleAt, Cond.initialized RX1, Cond.code yX1_ruleAt cX1_ruleAt 2 (some .int), Cond.fieldLink RX1 59 "PolicyHouse$Bundle" "nodeRule" "[I", Cond.methodLink RX2 150 yX1_of, Cond.instanceMethod yX1_of, Cond.selects RX1 yX1_of yX1_of, Cond.code yX1_of cX1_of 3 (some .int), Cond.fieldLink RX1 53 "PolicyHouse$Bundle" "rule" "[I"]
def wsX2_gather : List Cond := .code yX2_gather cX2_gather 4 none :: ((wsX2_gather_r1 ++ wsX2_gather_r2) ++ wsX20 ++ wsX10 ++ wsX120 ++ wsX60)
def wsX2_findClash_r1 : List Cond := [Cond.fieldLink RX2 7 "PolicyHouse$Checker" "b" "LPolicyHouse$Bundle;", Cond.fieldLink RX2 128 "PolicyHouse$Bundle" "rules" "I", Cond.fieldLink RX2 147 "PolicyHouse$Bundle" "rule" "[I", Cond.fieldLink RX2 99 "PolicyHouse$Bundle" "count" "I", Cond.fieldLink RX2 100 "PolicyHouse$Bundle" "mods" "[LPolicyHouse$Tree;", Cond.fieldLink RX2 156 "PolicyHouse$Tree" "imports" "I", Cond.fieldLink RX2 82 "PolicyHouse$Bundle" "kind" "I", Cond.fieldLink RX2 163 "PolicyHouse$Tree" "at" "[I", Cond.fieldLink RX2 125 "PolicyHouse$Tree" "next" "[I", Cond.fieldLink RX2 79 "PolicyHouse$Bundle" "parts" "I", Cond.fieldLink RX2 141 "PolicyHouse$Bundle" "part" "[I", Cond.methodLink RX2 150 yX1_of, Cond.instanceMethod yX1_of, Cond.selects RX1 yX1_of yX1_of, Cond.initialized RX1, Cond.code yX1_of cX1_of 3 (some .int), Cond.fieldLink RX1 53 "PolicyHouse$Bundle" "rule" "[I", Cond.methodLink RX2 159 yX2_isClash, Cond.instanceMethod yX2_isClash, Cond.selects RX2 yX2_isClash yX2_isClash, Cond.initialized RX2, Cond.code yX2_isClash cX2_isClash 5 (some .boolean), Cond.fieldLink RX2 170 "PolicyHouse$Tree" "c" "[I", Cond.fieldLink RX2 59 "PolicyHouse$Checker" "names" "LPolicyHouse$Names;"]
def wsX2_findClash_r2 : List Cond := [Cond.fieldLink RX2 173 "PolicyHouse$Names" "input" "I", Cond.fieldLink RX2 176 "PolicyHouse$Names" "data" "I", Cond.fieldLink RX2 104 "PolicyHouse$Tree" "pack" "I", Cond.methodLink RX2 179 yX6_find, Cond.instanceMethod yX6_find, Cond.selects RX6 yX6_find yX6_find, Cond.initialized RX6, Cond.code yX6_find cX6_find 4 (some .int), Cond.fieldLink RX6 19 "PolicyHouse$Names" "child" "[I", Cond.fieldLink RX6 16 "PolicyHouse$Names" "name" "[I", Cond.fieldLink RX6 22 "PolicyHouse$Names" "sibling" "[I", Cond.methodLink RX2 137 yX1_ruleAt, Cond.instanceMethod yX1_ruleAt, Cond.selects RX1 yX1_ruleAt yX1_ruleAt, Cond.code yX1_ruleAt cX1_ruleAt 2 (some .int), Cond.fieldLink RX1 59 "PolicyHouse$Bundle" "nodeRule" "[I", Cond.methodLink RX2 89 yX1_fail, Cond.instanceMethod yX1_fail, Cond.selects RX1 yX1_fail yX1_fail, Cond.code yX1_fail cX1_fail 4 none, Cond.fieldLink RX1 34 "PolicyHouse$Bundle" "kind" "I", Cond.fieldLink RX1 37 "PolicyHouse$Bundle" "module" "I", Cond.fieldLink RX1 40 "PolicyHouse$Bundle" "place" "I", Cond.methodLink RX2 166 yX2_isPartClash]
def wsX2_findClash_r3 : List Cond := [Cond.instanceMethod yX2_isPartClash, Cond.selects RX2 yX2_isPartClash yX2_isPartClash, Cond.code yX2_isPartClash cX2_isPartClash 8 (some .boolean), Cond.fieldLink RX2 154 "PolicyHouse$Tree" "b" "[I", Cond.fieldLink RX2 182 "PolicyHouse$Tree" "a" "[I", Cond.methodLink RX2 185 yX1_isInner, Cond.instanceMethod yX1_isInner, Cond.selects RX1 yX1_isInner yX1_isInner, Cond.code yX1_isInner cX1_isInner 2 (some .boolean), Cond.fieldLink RX1 62 "PolicyHouse$Bundle" "inner" "[I"]
def wsX2_findClash : List Cond := .code yX2_findClash cX2_findClash 5 none :: ((wsX2_findClash_r1 ++ (wsX2_findClash_r2 ++ wsX2_findClash_r3)) ++ wsX20 ++ wsX10 ++ wsX120 ++ wsX60)
def wsX2_findReads_r1 : List Cond := [Cond.fieldLink RX2 7 "PolicyHouse$Checker" "b" "LPolicyHouse$Bundle;", Cond.fieldLink RX2 128 "PolicyHouse$Bundle" "rules" "I", Cond.fieldLink RX2 131 "PolicyHouse$Bundle" "words" "I", Cond.arrayClass .int, Cond.fieldLink RX2 306 "PolicyHouse$Bundle" "reads" "[I", Cond.fieldLink RX2 46 "PolicyHouse$Checker" "bits" "[I", Cond.fieldLink RX2 49 "PolicyHouse$Checker" "direct" "[I", Cond.fieldLink RX2 52 "PolicyHouse$Checker" "all" "[I", Cond.fieldLink RX2 147 "PolicyHouse$Bundle" "rule" "[I", Cond.methodLink RX2 309 yX2_readRule, Cond.instanceMethod yX2_readRule, Cond.selects RX2 yX2_readRule yX2_readRule, Cond.initialized RX2, Cond.code yX2_readRule cX2_readRule 4 none, Cond.fieldLink RX2 100 "PolicyHouse$Bundle" "mods" "[LPolicyHouse$Tree;", Cond.fieldLink RX2 141 "PolicyHouse$Bundle" "part" "[I", Cond.fieldLink RX2 13 "PolicyHouse$Checker" "t" "LPolicyHouse$Tree;", Cond.methodLink RX2 324 yX2_clearBits, Cond.instanceMethod yX2_clearBits, Cond.selects RX2 yX2_clearBits yX2_clearBits, Cond.code yX2_clearBits cX2_clearBits 2 none, Cond.methodLink RX2 150 yX1_of, Cond.instanceMethod yX1_of, Cond.selects RX1 yX1_of yX1_of]
def wsX2_findReads_r2 : List Cond := [Cond.initialized RX1, Cond.code yX1_of cX1_of 3 (some .int), Cond.fieldLink RX1 53 "PolicyHouse$Bundle" "rule" "[I", Cond.methodLink RX2 292 yX2_collectAll, Cond.instanceMethod yX2_collectAll, Cond.selects RX2 yX2_collectAll yX2_collectAll, Cond.code yX2_collectAll cX2_collectAll 4 none, Cond.fieldLink RX2 115 "PolicyHouse$Tree" "first" "[I", Cond.fieldLink RX2 125 "PolicyHouse$Tree" "next" "[I", Cond.methodLink RX2 296 yX2_collect, Cond.instanceMethod yX2_collect, Cond.selects RX2 yX2_collect yX2_collect, Cond.code yX2_collect cX2_collect 6 none, Cond.fieldLink RX2 193 "PolicyHouse$Tree" "kind" "[I", Cond.fieldLink RX2 154 "PolicyHouse$Tree" "b" "[I", Cond.fieldLink RX2 207 "PolicyHouse$Tree" "res" "[I", Cond.fieldLink RX2 134 "PolicyHouse$Tree" "ref" "[I", Cond.methodLink RX2 286 yX2_markReference, Cond.instanceMethod yX2_markReference, Cond.selects RX2 yX2_markReference yX2_markReference, Cond.code yX2_markReference cX2_markReference 7 none, Cond.fieldLink RX2 182 "PolicyHouse$Tree" "a" "[I", Cond.fieldLink RX2 59 "PolicyHouse$Checker" "names" "LPolicyHouse$Names;", Cond.fieldLink RX2 112 "PolicyHouse$Names" "parent" "[I"]
def wsX2_findReads_r3 : List Cond := [Cond.fieldLink RX2 55 "PolicyHouse$Checker" "heap" "LPolicyHouse$Heap;", Cond.methodLink RX2 137 yX1_ruleAt, Cond.instanceMethod yX1_ruleAt, Cond.selects RX1 yX1_ruleAt yX1_ruleAt, Cond.code yX1_ruleAt cX1_ruleAt 2 (some .int), Cond.fieldLink RX1 59 "PolicyHouse$Bundle" "nodeRule" "[I", Cond.methodLink RX2 289 yX2_mark, Cond.instanceMethod yX2_mark, Cond.selects RX2 yX2_mark yX2_mark, Cond.code yX2_mark cX2_mark 2 none, Cond.methodLink RX2 299 yX4_kind, Cond.instanceMethod yX4_kind, Cond.selects RX4 yX4_kind yX4_kind, Cond.initialized RX4, Cond.code yX4_kind cX4_kind 2 (some .int), Cond.fieldLink RX4 10 "PolicyHouse$Heap" "cell" "[I", Cond.methodLink RX2 179 yX6_find, Cond.instanceMethod yX6_find, Cond.selects RX6 yX6_find yX6_find, Cond.initialized RX6, Cond.code yX6_find cX6_find 4 (some .int), Cond.fieldLink RX6 19 "PolicyHouse$Names" "child" "[I", Cond.fieldLink RX6 16 "PolicyHouse$Names" "name" "[I", Cond.fieldLink RX6 22 "PolicyHouse$Names" "sibling" "[I"]
def wsX2_findReads_r4 : List Cond := [Cond.methodLink RX2 303 yX6_within, Cond.instanceMethod yX6_within, Cond.selects RX6 yX6_within yX6_within, Cond.code yX6_within cX6_within 5 (some .boolean), Cond.fieldLink RX6 13 "PolicyHouse$Names" "parent" "[I", Cond.methodLink RX2 312 yX2_isSet, Cond.static yX2_isSet, Cond.code yX2_isSet cX2_isSet 3 (some .boolean), Cond.methodLink RX2 316 yJ6_bitCount_0f7a4, Cond.static yJ6_bitCount_0f7a4, Cond.initialized RJ6, Cond.code yJ6_bitCount_0f7a4 cJ6_bitCount_0f7a4 1 (some .int), Cond.constant RJ6 265 (1431655765), Cond.constant RJ6 266 (858993459), Cond.constant RJ6 267 (252645135), Cond.methodLink RX2 321 yX1_failAtRule, Cond.instanceMethod yX1_failAtRule, Cond.selects RX1 yX1_failAtRule yX1_failAtRule, Cond.code yX1_failAtRule cX1_failAtRule 5 none, Cond.fieldLink RX1 56 "PolicyHouse$Bundle" "part" "[I", Cond.fieldLink RX1 45 "PolicyHouse$Bundle" "mods" "[LPolicyHouse$Tree;", Cond.fieldLink RX1 69 "PolicyHouse$Tree" "at" "[I", Cond.methodLink RX1 65 yX1_of, Cond.methodLink RX1 72 yX1_fail]
def wsX2_findReads_r5 : List Cond := [Cond.instanceMethod yX1_fail, Cond.selects RX1 yX1_fail yX1_fail, Cond.code yX1_fail cX1_fail 4 none, Cond.fieldLink RX1 34 "PolicyHouse$Bundle" "kind" "I", Cond.fieldLink RX1 37 "PolicyHouse$Bundle" "module" "I", Cond.fieldLink RX1 40 "PolicyHouse$Bundle" "place" "I"]
def wsX2_findReads : List Cond := .code yX2_findReads cX2_findReads 4 none :: ((wsX2_findReads_r1 ++ (wsX2_findReads_r2 ++ (wsX2_findReads_r3 ++ (wsX2_findReads_r4 ++ wsX2_findReads_r5)))) ++ wsX20 ++ wsX10 ++ wsX120 ++ wsX60 ++ wsX40)
def wsX2_findDepth_r1 : List Cond := [Cond.fieldLink RX2 7 "PolicyHouse$Checker" "b" "LPolicyHouse$Bundle;", Cond.fieldLink RX2 82 "PolicyHouse$Bundle" "kind" "I", Cond.fieldLink RX2 128 "PolicyHouse$Bundle" "rules" "I", Cond.arrayClass .int, Cond.fieldLink RX2 327 "PolicyHouse$Bundle" "rank" "[I", Cond.methodLink RX2 330 yX2_rowOf, Cond.instanceMethod yX2_rowOf, Cond.selects RX2 yX2_rowOf yX2_rowOf, Cond.initialized RX2, Cond.code yX2_rowOf cX2_rowOf 5 (some .int), Cond.fieldLink RX2 49 "PolicyHouse$Checker" "direct" "[I", Cond.methodLink RX2 337 Lib.Math.max.name, Cond.static Lib.Math.max.name, Cond.initialized "java/lang/Math", Cond.code Lib.Math.max.name Lib.Math.max.code 2 (some .int), Cond.methodLink RX2 312 yX2_isSet, Cond.static yX2_isSet, Cond.code yX2_isSet cX2_isSet 3 (some .boolean), Cond.methodLink RX2 334 yX2_findWiths, Cond.instanceMethod yX2_findWiths, Cond.selects RX2 yX2_findWiths yX2_findWiths, Cond.code yX2_findWiths cX2_findWiths 4 none, Cond.fieldLink RX2 100 "PolicyHouse$Bundle" "mods" "[LPolicyHouse$Tree;", Cond.fieldLink RX2 141 "PolicyHouse$Bundle" "part" "[I"]
def wsX2_findDepth_r2 : List Cond := [Cond.fieldLink RX2 13 "PolicyHouse$Checker" "t" "LPolicyHouse$Tree;", Cond.fieldLink RX2 147 "PolicyHouse$Bundle" "rule" "[I", Cond.methodLink RX2 150 yX1_of, Cond.instanceMethod yX1_of, Cond.selects RX1 yX1_of yX1_of, Cond.initialized RX1, Cond.code yX1_of cX1_of 3 (some .int), Cond.fieldLink RX1 53 "PolicyHouse$Bundle" "rule" "[I", Cond.methodLink RX2 342 yX2_withsIn, Cond.instanceMethod yX2_withsIn, Cond.selects RX2 yX2_withsIn yX2_withsIn, Cond.code yX2_withsIn cX2_withsIn 5 (some .int), Cond.fieldLink RX2 193 "PolicyHouse$Tree" "kind" "[I", Cond.fieldLink RX2 46 "PolicyHouse$Checker" "bits" "[I", Cond.fieldLink RX2 207 "PolicyHouse$Tree" "res" "[I", Cond.fieldLink RX2 134 "PolicyHouse$Tree" "ref" "[I", Cond.fieldLink RX2 115 "PolicyHouse$Tree" "first" "[I", Cond.fieldLink RX2 125 "PolicyHouse$Tree" "next" "[I", Cond.fieldLink RX2 154 "PolicyHouse$Tree" "b" "[I", Cond.methodLink RX2 324 yX2_clearBits, Cond.instanceMethod yX2_clearBits, Cond.selects RX2 yX2_clearBits yX2_clearBits, Cond.code yX2_clearBits cX2_clearBits 2 none, Cond.methodLink RX2 286 yX2_markReference]
def wsX2_findDepth_r3 : List Cond := [Cond.instanceMethod yX2_markReference, Cond.selects RX2 yX2_markReference yX2_markReference, Cond.code yX2_markReference cX2_markReference 7 none, Cond.fieldLink RX2 182 "PolicyHouse$Tree" "a" "[I", Cond.fieldLink RX2 59 "PolicyHouse$Checker" "names" "LPolicyHouse$Names;", Cond.fieldLink RX2 112 "PolicyHouse$Names" "parent" "[I", Cond.fieldLink RX2 55 "PolicyHouse$Checker" "heap" "LPolicyHouse$Heap;", Cond.methodLink RX2 137 yX1_ruleAt, Cond.instanceMethod yX1_ruleAt, Cond.selects RX1 yX1_ruleAt yX1_ruleAt, Cond.code yX1_ruleAt cX1_ruleAt 2 (some .int), Cond.fieldLink RX1 59 "PolicyHouse$Bundle" "nodeRule" "[I", Cond.methodLink RX2 289 yX2_mark, Cond.instanceMethod yX2_mark, Cond.selects RX2 yX2_mark yX2_mark, Cond.code yX2_mark cX2_mark 2 none, Cond.methodLink RX2 299 yX4_kind, Cond.instanceMethod yX4_kind, Cond.selects RX4 yX4_kind yX4_kind, Cond.initialized RX4, Cond.code yX4_kind cX4_kind 2 (some .int), Cond.fieldLink RX4 10 "PolicyHouse$Heap" "cell" "[I", Cond.methodLink RX2 179 yX6_find, Cond.instanceMethod yX6_find]
def wsX2_findDepth_r4 : List Cond := [Cond.selects RX6 yX6_find yX6_find, Cond.initialized RX6, Cond.code yX6_find cX6_find 4 (some .int), Cond.fieldLink RX6 19 "PolicyHouse$Names" "child" "[I", Cond.fieldLink RX6 16 "PolicyHouse$Names" "name" "[I", Cond.fieldLink RX6 22 "PolicyHouse$Names" "sibling" "[I", Cond.methodLink RX2 303 yX6_within, Cond.instanceMethod yX6_within, Cond.selects RX6 yX6_within yX6_within, Cond.code yX6_within cX6_within 5 (some .boolean), Cond.fieldLink RX6 13 "PolicyHouse$Names" "parent" "[I", Cond.methodLink RX2 321 yX1_failAtRule, Cond.instanceMethod yX1_failAtRule, Cond.selects RX1 yX1_failAtRule yX1_failAtRule, Cond.code yX1_failAtRule cX1_failAtRule 5 none, Cond.fieldLink RX1 56 "PolicyHouse$Bundle" "part" "[I", Cond.fieldLink RX1 45 "PolicyHouse$Bundle" "mods" "[LPolicyHouse$Tree;", Cond.fieldLink RX1 69 "PolicyHouse$Tree" "at" "[I", Cond.methodLink RX1 65 yX1_of, Cond.methodLink RX1 72 yX1_fail, Cond.instanceMethod yX1_fail, Cond.selects RX1 yX1_fail yX1_fail, Cond.code yX1_fail cX1_fail 4 none, Cond.fieldLink RX1 34 "PolicyHouse$Bundle" "kind" "I"]
def wsX2_findDepth_r5 : List Cond := [Cond.fieldLink RX1 37 "PolicyHouse$Bundle" "module" "I", Cond.fieldLink RX1 40 "PolicyHouse$Bundle" "place" "I"]
def wsX2_findDepth : List Cond := .code yX2_findDepth cX2_findDepth 5 none :: ((wsX2_findDepth_r1 ++ (wsX2_findDepth_r2 ++ (wsX2_findDepth_r3 ++ (wsX2_findDepth_r4 ++ wsX2_findDepth_r5)))) ++ wsX20 ++ wsX10 ++ wsX120 ++ wsX60 ++ wsX40)
def wsX2_bundle_r1 : List Cond := [Cond.classLink RX2 63 RX1, Cond.instantiable RX1 16, Cond.initialized RX1, Cond.fieldLink RX2 59 "PolicyHouse$Checker" "names" "LPolicyHouse$Names;", Cond.fieldLink RX2 65 "PolicyHouse$Names" "nodes" "I", Cond.fieldLink RX2 7 "PolicyHouse$Checker" "b" "LPolicyHouse$Bundle;", Cond.fieldLink RX2 79 "PolicyHouse$Bundle" "parts" "I", Cond.fieldLink RX2 82 "PolicyHouse$Bundle" "kind" "I", Cond.fieldLink RX2 40 "PolicyHouse$Checker" "badKind" "I", Cond.fieldLink RX2 17 "PolicyHouse$Checker" "module" "I", Cond.fieldLink RX2 43 "PolicyHouse$Checker" "badPlace" "I", Cond.methodLink RX2 70 yX1_init, Cond.instanceMethod yX1_init, Cond.code yX1_init cX1_init 6 none, Cond.methodLink RX1 3 objectInit, Cond.instanceMethod objectInit, Cond.code objectInit ⟨#[0xb1]⟩ 1 none, Cond.fieldLink RX1 9 "PolicyHouse$Bundle" "rules" "I", Cond.fieldLink RX1 15 "PolicyHouse$Bundle" "parts" "I", Cond.fieldLink RX1 18 "PolicyHouse$Bundle" "words" "I", Cond.fieldLink RX1 21 "PolicyHouse$Bundle" "reads" "[I", Cond.fieldLink RX1 25 "PolicyHouse$Bundle" "rank" "[I", Cond.fieldLink RX1 28 "PolicyHouse$Bundle" "branch" "[I", Cond.fieldLink RX1 31 "PolicyHouse$Bundle" "code" "[I"]
def wsX2_bundle_r2 : List Cond := [Cond.fieldLink RX1 34 "PolicyHouse$Bundle" "kind" "I", Cond.fieldLink RX1 37 "PolicyHouse$Bundle" "module" "I", Cond.fieldLink RX1 40 "PolicyHouse$Bundle" "place" "I", Cond.classLink RX1 43 RX12, Cond.fieldLink RX1 45 "PolicyHouse$Bundle" "mods" "[LPolicyHouse$Tree;", Cond.fieldLink RX1 49 "PolicyHouse$Tree" "rules" "I", Cond.fieldLink RX1 50 "PolicyHouse$Bundle" "count" "I", Cond.arrayClass .int, Cond.fieldLink RX1 53 "PolicyHouse$Bundle" "rule" "[I", Cond.fieldLink RX1 56 "PolicyHouse$Bundle" "part" "[I", Cond.fieldLink RX1 59 "PolicyHouse$Bundle" "nodeRule" "[I", Cond.fieldLink RX1 62 "PolicyHouse$Bundle" "inner" "[I", Cond.methodLink RX2 73 yX2_gather, Cond.instanceMethod yX2_gather, Cond.selects RX2 yX2_gather yX2_gather, Cond.initialized RX2, Cond.code yX2_gather cX2_gather 4 none, Cond.fieldLink RX2 99 "PolicyHouse$Bundle" "count" "I", Cond.fieldLink RX2 100 "PolicyHouse$Bundle" "mods" "[LPolicyHouse$Tree;", Cond.fieldLink RX2 104 "PolicyHouse$Tree" "pack" "I", Cond.fieldLink RX2 109 "PolicyHouse$Bundle" "inner" "[I", Cond.fieldLink RX2 112 "PolicyHouse$Names" "parent" "[I", Cond.fieldLink RX2 115 "PolicyHouse$Tree" "first" "[I", Cond.fieldLink RX2 118 "PolicyHouse$Tree" "root" "I"]
def wsX2_bundle_r3 : List Cond := [Cond.fieldLink RX2 125 "PolicyHouse$Tree" "next" "[I", Cond.fieldLink RX2 128 "PolicyHouse$Bundle" "rules" "I", Cond.fieldLink RX2 131 "PolicyHouse$Bundle" "words" "I", Cond.methodLink RX2 121 yX2_addPart, Cond.instanceMethod yX2_addPart, Cond.selects RX2 yX2_addPart yX2_addPart, Cond.code yX2_addPart cX2_addPart 7 none, Cond.fieldLink RX2 134 "PolicyHouse$Tree" "ref" "[I", Cond.fieldLink RX2 141 "PolicyHouse$Bundle" "part" "[I", Cond.fieldLink RX2 144 "PolicyHouse$Bundle" "nodeRule" "[I", Cond.fieldLink RX2 147 "PolicyHouse$Bundle" "rule" "[I", Cond.fieldLink RX2 154 "PolicyHouse$Tree" "b" "[I", Cond.methodLink RX2 137 yX1_ruleAt, Cond.instanceMethod yX1_ruleAt, Cond.selects RX1 yX1_ruleAt yX1_ruleAt, Cond.code yX1_ruleAt cX1_ruleAt 2 (some .int), Cond.methodLink RX2 150 yX1_of, Cond.instanceMethod yX1_of, Cond.selects RX1 yX1_of yX1_of, Cond.code yX1_of cX1_of 3 (some .int), Cond.methodLink RX2 76 yX2_findClash, Cond.instanceMethod yX2_findClash, Cond.selects RX2 yX2_findClash yX2_findClash, Cond.code yX2_findClash cX2_findClash 5 none]
def wsX2_bundle_r4 : List Cond := [Cond.fieldLink RX2 156 "PolicyHouse$Tree" "imports" "I", Cond.fieldLink RX2 163 "PolicyHouse$Tree" "at" "[I", Cond.methodLink RX2 159 yX2_isClash, Cond.instanceMethod yX2_isClash, Cond.selects RX2 yX2_isClash yX2_isClash, Cond.code yX2_isClash cX2_isClash 5 (some .boolean), Cond.fieldLink RX2 170 "PolicyHouse$Tree" "c" "[I", Cond.fieldLink RX2 173 "PolicyHouse$Names" "input" "I", Cond.fieldLink RX2 176 "PolicyHouse$Names" "data" "I", Cond.methodLink RX2 179 yX6_find, Cond.instanceMethod yX6_find, Cond.selects RX6 yX6_find yX6_find, Cond.initialized RX6, Cond.code yX6_find cX6_find 4 (some .int), Cond.fieldLink RX6 19 "PolicyHouse$Names" "child" "[I", Cond.fieldLink RX6 16 "PolicyHouse$Names" "name" "[I", Cond.fieldLink RX6 22 "PolicyHouse$Names" "sibling" "[I", Cond.methodLink RX2 89 yX1_fail, Cond.instanceMethod yX1_fail, Cond.selects RX1 yX1_fail yX1_fail, Cond.code yX1_fail cX1_fail 4 none, Cond.methodLink RX2 166 yX2_isPartClash, Cond.instanceMethod yX2_isPartClash, Cond.selects RX2 yX2_isPartClash yX2_isPartClash]
def wsX2_bundle_r5 : List Cond := [Cond.code yX2_isPartClash cX2_isPartClash 8 (some .boolean), Cond.fieldLink RX2 182 "PolicyHouse$Tree" "a" "[I", Cond.methodLink RX2 185 yX1_isInner, Cond.instanceMethod yX1_isInner, Cond.selects RX1 yX1_isInner yX1_isInner, Cond.code yX1_isInner cX1_isInner 2 (some .boolean), Cond.methodLink RX2 85 yX2_scanPart, Cond.instanceMethod yX2_scanPart, Cond.selects RX2 yX2_scanPart yX2_scanPart, Cond.code yX2_scanPart cX2_scanPart 5 none, Cond.fieldLink RX2 13 "PolicyHouse$Checker" "t" "LPolicyHouse$Tree;", Cond.fieldLink RX2 193 "PolicyHouse$Tree" "kind" "[I", Cond.fieldLink RX2 207 "PolicyHouse$Tree" "res" "[I", Cond.methodLink RX2 189 yX2_begin, Cond.instanceMethod yX2_begin, Cond.selects RX2 yX2_begin yX2_begin, Cond.code yX2_begin cX2_begin 3 none, Cond.fieldLink RX2 31 "PolicyHouse$Checker" "count" "I", Cond.fieldLink RX2 37 "PolicyHouse$Checker" "scopes" "I", Cond.fieldLink RX2 34 "PolicyHouse$Checker" "around" "[I", Cond.methodLink RX2 195 yX2_newScope, Cond.instanceMethod yX2_newScope, Cond.selects RX2 yX2_newScope yX2_newScope, Cond.code yX2_newScope cX2_newScope 4 (some .int)]
def wsX2_bundle_r6 : List Cond := [Cond.methodLink RX2 198 yX2_declareAll, Cond.instanceMethod yX2_declareAll, Cond.selects RX2 yX2_declareAll yX2_declareAll, Cond.code yX2_declareAll cX2_declareAll 4 none, Cond.methodLink RX2 219 yX2_declare, Cond.instanceMethod yX2_declare, Cond.selects RX2 yX2_declare yX2_declare, Cond.code yX2_declare cX2_declare 6 none, Cond.methodLink RX2 222 yX2_addVariable, Cond.instanceMethod yX2_addVariable, Cond.selects RX2 yX2_addVariable yX2_addVariable, Cond.code yX2_addVariable cX2_addVariable 3 none, Cond.fieldLink RX2 21 "PolicyHouse$Checker" "declared" "[I", Cond.fieldLink RX2 25 "PolicyHouse$Checker" "scopeOf" "[I", Cond.fieldLink RX2 28 "PolicyHouse$Checker" "placeOf" "[I", Cond.methodLink RX2 225 yX2_declareEvery, Cond.instanceMethod yX2_declareEvery, Cond.selects RX2 yX2_declareEvery yX2_declareEvery, Cond.methodLink RX2 228 yX12_isComprehension, Cond.instanceMethod yX12_isComprehension, Cond.selects RX12 yX12_isComprehension yX12_isComprehension, Cond.initialized RX12, Cond.code yX12_isComprehension cX12_isComprehension 2 (some .boolean), Cond.fieldLink RX12 25 "PolicyHouse$Tree" "kind" "[I"]
def wsX2_bundle_r7 : List Cond := [Cond.methodLink RX2 201 yX2_declarePattern, Cond.instanceMethod yX2_declarePattern, Cond.selects RX2 yX2_declarePattern yX2_declarePattern, Cond.code yX2_declareEvery cX2_declareEvery 5 none, Cond.code yX2_declarePattern cX2_declarePattern 3 none, Cond.instanceMethod yX12_isPattern, Cond.selects RX12 yX12_isPattern yX12_isPattern, Cond.code yX12_isPattern cX12_isPattern 3 (some .boolean), Cond.fieldLink RX12 41 "PolicyHouse$Tree" "first" "[I", Cond.fieldLink RX12 44 "PolicyHouse$Tree" "next" "[I", Cond.methodLink RX12 60 yX12_isPattern, Cond.methodLink RX12 56 yX12_isConstant, Cond.instanceMethod yX12_isConstant, Cond.selects RX12 yX12_isConstant yX12_isConstant, Cond.code yX12_isConstant cX12_isConstant 3 (some .boolean), Cond.methodLink RX2 234 yX2_addPattern, Cond.instanceMethod yX2_addPattern, Cond.selects RX2 yX2_addPattern yX2_addPattern, Cond.code yX2_addPattern cX2_addPattern 4 none, Cond.fieldLink RX2 240 "PolicyHouse$Names" "blank" "I", Cond.methodLink RX2 237 yX2_report, Cond.instanceMethod yX2_report, Cond.selects RX2 yX2_report yX2_report, Cond.code yX2_report cX2_report 4 none]
def wsX2_bundle_r8 : List Cond := [Cond.methodLink RX2 204 yX2_checkDeclared, Cond.instanceMethod yX2_checkDeclared, Cond.selects RX2 yX2_checkDeclared yX2_checkDeclared, Cond.code yX2_checkDeclared cX2_checkDeclared 5 none, Cond.methodLink RX2 243 yX2_aliasOf, Cond.instanceMethod yX2_aliasOf, Cond.selects RX2 yX2_aliasOf yX2_aliasOf, Cond.code yX2_aliasOf cX2_aliasOf 3 (some .int), Cond.methodLink RX2 246 yX2_ruleOf, Cond.instanceMethod yX2_ruleOf, Cond.selects RX2 yX2_ruleOf yX2_ruleOf, Cond.code yX2_ruleOf cX2_ruleOf 2 (some .int), Cond.methodLink RX2 249 yX2_isAround, Cond.instanceMethod yX2_isAround, Cond.selects RX2 yX2_isAround yX2_isAround, Cond.code yX2_isAround cX2_isAround 5 (some .boolean), Cond.methodLink RX2 210 yX2_resolveAll, Cond.instanceMethod yX2_resolveAll, Cond.selects RX2 yX2_resolveAll yX2_resolveAll, Cond.code yX2_resolveAll cX2_resolveAll 4 none, Cond.methodLink RX2 253 yX2_resolve, Cond.instanceMethod yX2_resolve, Cond.selects RX2 yX2_resolve yX2_resolve, Cond.code yX2_resolve cX2_resolve 6 none]
def wsX2_bundle_r9 : List Cond := [Cond.methodLink RX2 256 yX2_resolveName, Cond.instanceMethod yX2_resolveName, Cond.selects RX2 yX2_resolveName yX2_resolveName, Cond.code yX2_resolveName cX2_resolveName 7 none, Cond.methodLink RX2 274 yX2_variable, Cond.instanceMethod yX2_variable, Cond.selects RX2 yX2_variable yX2_variable, Cond.code yX2_variable cX2_variable 4 (some .int), Cond.methodLink RX2 259 yX2_resolveStep, Cond.instanceMethod yX2_resolveStep, Cond.selects RX2 yX2_resolveStep yX2_resolveStep, Cond.methodLink RX2 262 yX2_resolveSide, Cond.instanceMethod yX2_resolveSide, Cond.selects RX2 yX2_resolveSide yX2_resolveSide, Cond.methodLink RX2 213 yX2_resolvePattern, Cond.instanceMethod yX2_resolvePattern, Cond.selects RX2 yX2_resolvePattern yX2_resolvePattern, Cond.methodLink RX2 265 yX2_resolveCall, Cond.instanceMethod yX2_resolveCall, Cond.selects RX2 yX2_resolveCall yX2_resolveCall, Cond.code yX2_resolveCall cX2_resolveCall 7 none, Cond.fieldLink RX2 280 "PolicyHouse$Names" "builtin" "[I", Cond.fieldLink RX2 283 "PolicyHouse$Names" "arity" "[I", Cond.methodLink RX2 277 yX2_functionOf]
def wsX2_bundle_r10 : List Cond := [Cond.instanceMethod yX2_functionOf, Cond.selects RX2 yX2_functionOf yX2_functionOf, Cond.code yX2_functionOf cX2_functionOf 6 (some .int), Cond.methodLink RX2 268 yX2_isBadTarget, Cond.instanceMethod yX2_isBadTarget, Cond.selects RX2 yX2_isBadTarget yX2_isBadTarget, Cond.code yX2_isBadTarget cX2_isBadTarget 3 (some .boolean), Cond.code yX2_resolvePattern cX2_resolvePattern 3 none, Cond.code yX2_resolveSide cX2_resolveSide 4 none, Cond.methodLink RX2 271 yX12_isName, Cond.instanceMethod yX12_isName, Cond.selects RX12 yX12_isName yX12_isName, Cond.code yX12_isName cX12_isName 3 (some .boolean), Cond.fieldLink RX12 32 "PolicyHouse$Tree" "a" "[I", Cond.code yX2_resolveStep cX2_resolveStep 3 none, Cond.methodLink RX2 93 yX2_findReads, Cond.instanceMethod yX2_findReads, Cond.selects RX2 yX2_findReads yX2_findReads, Cond.code yX2_findReads cX2_findReads 4 none, Cond.fieldLink RX2 306 "PolicyHouse$Bundle" "reads" "[I", Cond.fieldLink RX2 46 "PolicyHouse$Checker" "bits" "[I", Cond.fieldLink RX2 49 "PolicyHouse$Checker" "direct" "[I", Cond.fieldLink RX2 52 "PolicyHouse$Checker" "all" "[I", Cond.methodLink RX2 309 yX2_readRule]
def wsX2_bundle_r11 : List Cond := [Cond.instanceMethod yX2_readRule, Cond.selects RX2 yX2_readRule yX2_readRule, Cond.code yX2_readRule cX2_readRule 4 none, Cond.methodLink RX2 324 yX2_clearBits, Cond.instanceMethod yX2_clearBits, Cond.selects RX2 yX2_clearBits yX2_clearBits, Cond.code yX2_clearBits cX2_clearBits 2 none, Cond.methodLink RX2 292 yX2_collectAll, Cond.instanceMethod yX2_collectAll, Cond.selects RX2 yX2_collectAll yX2_collectAll, Cond.code yX2_collectAll cX2_collectAll 4 none, Cond.methodLink RX2 296 yX2_collect, Cond.instanceMethod yX2_collect, Cond.selects RX2 yX2_collect yX2_collect, Cond.code yX2_collect cX2_collect 6 none, Cond.methodLink RX2 286 yX2_markReference, Cond.instanceMethod yX2_markReference, Cond.selects RX2 yX2_markReference yX2_markReference, Cond.code yX2_markReference cX2_markReference 7 none, Cond.fieldLink RX2 55 "PolicyHouse$Checker" "heap" "LPolicyHouse$Heap;", Cond.methodLink RX2 289 yX2_mark, Cond.instanceMethod yX2_mark, Cond.selects RX2 yX2_mark yX2_mark, Cond.code yX2_mark cX2_mark 2 none]
def wsX2_bundle_r12 : List Cond := [Cond.methodLink RX2 299 yX4_kind, Cond.instanceMethod yX4_kind, Cond.selects RX4 yX4_kind yX4_kind, Cond.initialized RX4, Cond.code yX4_kind cX4_kind 2 (some .int), Cond.fieldLink RX4 10 "PolicyHouse$Heap" "cell" "[I", Cond.methodLink RX2 303 yX6_within, Cond.instanceMethod yX6_within, Cond.selects RX6 yX6_within yX6_within, Cond.code yX6_within cX6_within 5 (some .boolean), Cond.fieldLink RX6 13 "PolicyHouse$Names" "parent" "[I", Cond.methodLink RX2 312 yX2_isSet, Cond.static yX2_isSet, Cond.code yX2_isSet cX2_isSet 3 (some .boolean), Cond.methodLink RX2 316 yJ6_bitCount_0f7a4, Cond.static yJ6_bitCount_0f7a4, Cond.initialized RJ6, Cond.code yJ6_bitCount_0f7a4 cJ6_bitCount_0f7a4 1 (some .int), Cond.constant RJ6 265 (1431655765), Cond.constant RJ6 266 (858993459), Cond.constant RJ6 267 (252645135), Cond.methodLink RX2 321 yX1_failAtRule, Cond.instanceMethod yX1_failAtRule, Cond.selects RX1 yX1_failAtRule yX1_failAtRule]
def wsX2_bundle_r13 : List Cond := [Cond.code yX1_failAtRule cX1_failAtRule 5 none, Cond.fieldLink RX1 69 "PolicyHouse$Tree" "at" "[I", Cond.methodLink RX1 65 yX1_of, Cond.methodLink RX1 72 yX1_fail, Cond.methodLink RX2 96 yX2_findDepth, Cond.instanceMethod yX2_findDepth, Cond.selects RX2 yX2_findDepth yX2_findDepth, Cond.code yX2_findDepth cX2_findDepth 5 none, Cond.fieldLink RX2 327 "PolicyHouse$Bundle" "rank" "[I", Cond.methodLink RX2 330 yX2_rowOf, Cond.instanceMethod yX2_rowOf, Cond.selects RX2 yX2_rowOf yX2_rowOf, Cond.code yX2_rowOf cX2_rowOf 5 (some .int), Cond.methodLink RX2 337 Lib.Math.max.name, Cond.static Lib.Math.max.name, Cond.initialized "java/lang/Math", Cond.code Lib.Math.max.name Lib.Math.max.code 2 (some .int), Cond.methodLink RX2 334 yX2_findWiths, Cond.instanceMethod yX2_findWiths, Cond.selects RX2 yX2_findWiths yX2_findWiths, Cond.code yX2_findWiths cX2_findWiths 4 none, Cond.methodLink RX2 342 yX2_withsIn, Cond.instanceMethod yX2_withsIn, Cond.selects RX2 yX2_withsIn yX2_withsIn]
def wsX2_bundle_r14 : List Cond := [Cond.code yX2_withsIn cX2_withsIn 5 (some .int)]
def wsX2_bundle : List Cond := .code yX2_bundle cX2_bundle 4 (some (.object "PolicyHouse$Bundle")) :: ((wsX2_bundle_r1 ++ (wsX2_bundle_r2 ++ (wsX2_bundle_r3 ++ (wsX2_bundle_r4 ++ (wsX2_bundle_r5 ++ (wsX2_bundle_r6 ++ (wsX2_bundle_r7 ++ (wsX2_bundle_r8 ++ (wsX2_bundle_r9 ++ (wsX2_bundle_r10 ++ (wsX2_bundle_r11 ++ (wsX2_bundle_r12 ++ (wsX2_bundle_r13 ++ wsX2_bundle_r14))))))))))))) ++ wsX10 ++ wsX20 ++ wsX60 ++ wsX120 ++ wsX40)
def wsX3_finish_r1 : List Cond := [Cond.fieldLink RX3 7 "PolicyHouse$Coder" "b" "LPolicyHouse$Bundle;", Cond.fieldLink RX3 62 "PolicyHouse$Bundle" "rules" "I", Cond.fieldLink RX3 67 "PolicyHouse$Bundle" "kind" "I", Cond.fieldLink RX3 38 "PolicyHouse$Coder" "badKind" "I", Cond.fieldLink RX3 58 "PolicyHouse$Coder" "checker" "LPolicyHouse$Checker;", Cond.fieldLink RX3 80 "PolicyHouse$Checker" "t" "LPolicyHouse$Tree;", Cond.fieldLink RX3 13 "PolicyHouse$Coder" "t" "LPolicyHouse$Tree;", Cond.fieldLink RX3 81 "PolicyHouse$Bundle" "part" "[I", Cond.fieldLink RX3 90 "PolicyHouse$Checker" "module" "I", Cond.fieldLink RX3 41 "PolicyHouse$Coder" "badPlace" "I", Cond.methodLink RX3 70 yX1_of, Cond.instanceMethod yX1_of, Cond.selects RX1 yX1_of yX1_of, Cond.initialized RX1, Cond.code yX1_of cX1_of 3 (some .int), Cond.fieldLink RX1 53 "PolicyHouse$Bundle" "rule" "[I", Cond.methodLink RX3 74 yX2_scanPart, Cond.instanceMethod yX2_scanPart, Cond.selects RX2 yX2_scanPart yX2_scanPart, Cond.initialized RX2, Cond.code yX2_scanPart cX2_scanPart 5 none, Cond.fieldLink RX2 7 "PolicyHouse$Checker" "b" "LPolicyHouse$Bundle;", Cond.fieldLink RX2 141 "PolicyHouse$Bundle" "part" "[I", Cond.fieldLink RX2 100 "PolicyHouse$Bundle" "mods" "[LPolicyHouse$Tree;"]
def wsX3_finish_r2 : List Cond := [Cond.fieldLink RX2 13 "PolicyHouse$Checker" "t" "LPolicyHouse$Tree;", Cond.fieldLink RX2 115 "PolicyHouse$Tree" "first" "[I", Cond.fieldLink RX2 193 "PolicyHouse$Tree" "kind" "[I", Cond.fieldLink RX2 125 "PolicyHouse$Tree" "next" "[I", Cond.fieldLink RX2 207 "PolicyHouse$Tree" "res" "[I", Cond.methodLink RX2 189 yX2_begin, Cond.instanceMethod yX2_begin, Cond.selects RX2 yX2_begin yX2_begin, Cond.code yX2_begin cX2_begin 3 none, Cond.fieldLink RX2 17 "PolicyHouse$Checker" "module" "I", Cond.fieldLink RX2 31 "PolicyHouse$Checker" "count" "I", Cond.fieldLink RX2 37 "PolicyHouse$Checker" "scopes" "I", Cond.fieldLink RX2 34 "PolicyHouse$Checker" "around" "[I", Cond.fieldLink RX2 40 "PolicyHouse$Checker" "badKind" "I", Cond.fieldLink RX2 43 "PolicyHouse$Checker" "badPlace" "I", Cond.methodLink RX2 195 yX2_newScope, Cond.instanceMethod yX2_newScope, Cond.selects RX2 yX2_newScope yX2_newScope, Cond.code yX2_newScope cX2_newScope 4 (some .int), Cond.methodLink RX2 198 yX2_declareAll, Cond.instanceMethod yX2_declareAll, Cond.selects RX2 yX2_declareAll yX2_declareAll, Cond.code yX2_declareAll cX2_declareAll 4 none, Cond.methodLink RX2 219 yX2_declare]
def wsX3_finish_r3 : List Cond := [Cond.instanceMethod yX2_declare, Cond.selects RX2 yX2_declare yX2_declare, Cond.code yX2_declare cX2_declare 6 none, Cond.fieldLink RX2 182 "PolicyHouse$Tree" "a" "[I", Cond.fieldLink RX2 154 "PolicyHouse$Tree" "b" "[I", Cond.methodLink RX2 222 yX2_addVariable, Cond.instanceMethod yX2_addVariable, Cond.selects RX2 yX2_addVariable yX2_addVariable, Cond.code yX2_addVariable cX2_addVariable 3 none, Cond.fieldLink RX2 134 "PolicyHouse$Tree" "ref" "[I", Cond.fieldLink RX2 21 "PolicyHouse$Checker" "declared" "[I", Cond.fieldLink RX2 25 "PolicyHouse$Checker" "scopeOf" "[I", Cond.fieldLink RX2 28 "PolicyHouse$Checker" "placeOf" "[I", Cond.fieldLink RX2 163 "PolicyHouse$Tree" "at" "[I", Cond.methodLink RX2 225 yX2_declareEvery, Cond.instanceMethod yX2_declareEvery, Cond.selects RX2 yX2_declareEvery yX2_declareEvery, Cond.methodLink RX2 228 yX12_isComprehension, Cond.instanceMethod yX12_isComprehension, Cond.selects RX12 yX12_isComprehension yX12_isComprehension, Cond.initialized RX12, Cond.code yX12_isComprehension cX12_isComprehension 2 (some .boolean), Cond.fieldLink RX12 25 "PolicyHouse$Tree" "kind" "[I", Cond.methodLink RX2 201 yX2_declarePattern]
def wsX3_finish_r4 : List Cond := [Cond.instanceMethod yX2_declarePattern, Cond.selects RX2 yX2_declarePattern yX2_declarePattern, Cond.code yX2_declareEvery cX2_declareEvery 5 none, Cond.code yX2_declarePattern cX2_declarePattern 3 none, Cond.instanceMethod yX12_isPattern, Cond.selects RX12 yX12_isPattern yX12_isPattern, Cond.code yX12_isPattern cX12_isPattern 3 (some .boolean), Cond.fieldLink RX12 41 "PolicyHouse$Tree" "first" "[I", Cond.fieldLink RX12 44 "PolicyHouse$Tree" "next" "[I", Cond.methodLink RX12 60 yX12_isPattern, Cond.methodLink RX12 56 yX12_isConstant, Cond.instanceMethod yX12_isConstant, Cond.selects RX12 yX12_isConstant yX12_isConstant, Cond.code yX12_isConstant cX12_isConstant 3 (some .boolean), Cond.methodLink RX2 234 yX2_addPattern, Cond.instanceMethod yX2_addPattern, Cond.selects RX2 yX2_addPattern yX2_addPattern, Cond.code yX2_addPattern cX2_addPattern 4 none, Cond.fieldLink RX2 59 "PolicyHouse$Checker" "names" "LPolicyHouse$Names;", Cond.fieldLink RX2 240 "PolicyHouse$Names" "blank" "I", Cond.methodLink RX2 237 yX2_report, Cond.instanceMethod yX2_report, Cond.selects RX2 yX2_report yX2_report, Cond.code yX2_report cX2_report 4 none]
def wsX3_finish_r5 : List Cond := [Cond.methodLink RX2 204 yX2_checkDeclared, Cond.instanceMethod yX2_checkDeclared, Cond.selects RX2 yX2_checkDeclared yX2_checkDeclared, Cond.code yX2_checkDeclared cX2_checkDeclared 5 none, Cond.fieldLink RX2 173 "PolicyHouse$Names" "input" "I", Cond.fieldLink RX2 176 "PolicyHouse$Names" "data" "I", Cond.methodLink RX2 243 yX2_aliasOf, Cond.instanceMethod yX2_aliasOf, Cond.selects RX2 yX2_aliasOf yX2_aliasOf, Cond.code yX2_aliasOf cX2_aliasOf 3 (some .int), Cond.fieldLink RX2 156 "PolicyHouse$Tree" "imports" "I", Cond.fieldLink RX2 170 "PolicyHouse$Tree" "c" "[I", Cond.methodLink RX2 246 yX2_ruleOf, Cond.instanceMethod yX2_ruleOf, Cond.selects RX2 yX2_ruleOf yX2_ruleOf, Cond.code yX2_ruleOf cX2_ruleOf 2 (some .int), Cond.fieldLink RX2 104 "PolicyHouse$Tree" "pack" "I", Cond.methodLink RX2 179 yX6_find, Cond.instanceMethod yX6_find, Cond.selects RX6 yX6_find yX6_find, Cond.initialized RX6, Cond.code yX6_find cX6_find 4 (some .int), Cond.fieldLink RX6 19 "PolicyHouse$Names" "child" "[I", Cond.fieldLink RX6 16 "PolicyHouse$Names" "name" "[I"]
def wsX3_finish_r6 : List Cond := [Cond.fieldLink RX6 22 "PolicyHouse$Names" "sibling" "[I", Cond.methodLink RX2 137 yX1_ruleAt, Cond.instanceMethod yX1_ruleAt, Cond.selects RX1 yX1_ruleAt yX1_ruleAt, Cond.code yX1_ruleAt cX1_ruleAt 2 (some .int), Cond.fieldLink RX1 59 "PolicyHouse$Bundle" "nodeRule" "[I", Cond.methodLink RX2 249 yX2_isAround, Cond.instanceMethod yX2_isAround, Cond.selects RX2 yX2_isAround yX2_isAround, Cond.code yX2_isAround cX2_isAround 5 (some .boolean), Cond.methodLink RX2 210 yX2_resolveAll, Cond.instanceMethod yX2_resolveAll, Cond.selects RX2 yX2_resolveAll yX2_resolveAll, Cond.code yX2_resolveAll cX2_resolveAll 4 none, Cond.methodLink RX2 253 yX2_resolve, Cond.instanceMethod yX2_resolve, Cond.selects RX2 yX2_resolve yX2_resolve, Cond.code yX2_resolve cX2_resolve 6 none, Cond.methodLink RX2 256 yX2_resolveName, Cond.instanceMethod yX2_resolveName, Cond.selects RX2 yX2_resolveName yX2_resolveName, Cond.code yX2_resolveName cX2_resolveName 7 none, Cond.methodLink RX2 274 yX2_variable, Cond.instanceMethod yX2_variable]
def wsX3_finish_r7 : List Cond := [Cond.selects RX2 yX2_variable yX2_variable, Cond.code yX2_variable cX2_variable 4 (some .int), Cond.methodLink RX2 259 yX2_resolveStep, Cond.instanceMethod yX2_resolveStep, Cond.selects RX2 yX2_resolveStep yX2_resolveStep, Cond.methodLink RX2 262 yX2_resolveSide, Cond.instanceMethod yX2_resolveSide, Cond.selects RX2 yX2_resolveSide yX2_resolveSide, Cond.methodLink RX2 213 yX2_resolvePattern, Cond.instanceMethod yX2_resolvePattern, Cond.selects RX2 yX2_resolvePattern yX2_resolvePattern, Cond.methodLink RX2 265 yX2_resolveCall, Cond.instanceMethod yX2_resolveCall, Cond.selects RX2 yX2_resolveCall yX2_resolveCall, Cond.code yX2_resolveCall cX2_resolveCall 7 none, Cond.fieldLink RX2 280 "PolicyHouse$Names" "builtin" "[I", Cond.fieldLink RX2 283 "PolicyHouse$Names" "arity" "[I", Cond.methodLink RX2 277 yX2_functionOf, Cond.instanceMethod yX2_functionOf, Cond.selects RX2 yX2_functionOf yX2_functionOf, Cond.code yX2_functionOf cX2_functionOf 6 (some .int), Cond.methodLink RX2 150 yX1_of, Cond.methodLink RX2 268 yX2_isBadTarget, Cond.instanceMethod yX2_isBadTarget]
def wsX3_finish_r8 : List Cond := [Cond.selects RX2 yX2_isBadTarget yX2_isBadTarget, Cond.code yX2_isBadTarget cX2_isBadTarget 3 (some .boolean), Cond.fieldLink RX2 112 "PolicyHouse$Names" "parent" "[I", Cond.methodLink RX2 185 yX1_isInner, Cond.instanceMethod yX1_isInner, Cond.selects RX1 yX1_isInner yX1_isInner, Cond.code yX1_isInner cX1_isInner 2 (some .boolean), Cond.fieldLink RX1 62 "PolicyHouse$Bundle" "inner" "[I", Cond.code yX2_resolvePattern cX2_resolvePattern 3 none, Cond.code yX2_resolveSide cX2_resolveSide 4 none, Cond.methodLink RX2 271 yX12_isName, Cond.instanceMethod yX12_isName, Cond.selects RX12 yX12_isName yX12_isName, Cond.code yX12_isName cX12_isName 3 (some .boolean), Cond.fieldLink RX12 32 "PolicyHouse$Tree" "a" "[I", Cond.code yX2_resolveStep cX2_resolveStep 3 none, Cond.methodLink RX3 84 yX3_checkKinds, Cond.instanceMethod yX3_checkKinds, Cond.selects RX3 yX3_checkKinds yX3_checkKinds, Cond.initialized RX3, Cond.code yX3_checkKinds cX3_checkKinds 5 none, Cond.fieldLink RX3 102 "PolicyHouse$Tree" "kind" "[I", Cond.fieldLink RX3 104 "PolicyHouse$Tree" "res" "[I", Cond.fieldLink RX3 139 "PolicyHouse$Tree" "ref" "[I"]
def wsX3_finish_r9 : List Cond := [Cond.fieldLink RX3 54 "PolicyHouse$Coder" "names" "LPolicyHouse$Names;", Cond.fieldLink RX3 198 "PolicyHouse$Names" "kinds" "[I", Cond.fieldLink RX3 97 "PolicyHouse$Tree" "first" "[I", Cond.fieldLink RX3 152 "PolicyHouse$Tree" "at" "[I", Cond.fieldLink RX3 111 "PolicyHouse$Tree" "next" "[I", Cond.fieldLink RX3 162 "PolicyHouse$Tree" "b" "[I", Cond.methodLink RX3 208 yJ0_charAt_5068e, Cond.instanceMethod yJ0_charAt_5068e, Cond.selects RJ0 yJ0_charAt_5068e yJ0_charAt_5068e, Cond.initialized RJ0, Cond.code yJ0_charAt_5068e cJ0_charAt_5068e 2 (some .char), Cond.fieldLink RJ0 9 "java/lang/String" "value" "[B", Cond.methodLink RJ0 492 yJ0_isLatin1_aae02, Cond.instanceMethod yJ0_isLatin1_aae02, Cond.selects RJ0 yJ0_isLatin1_aae02 yJ0_isLatin1_aae02, Cond.code yJ0_isLatin1_aae02 cJ0_isLatin1_aae02 1 (some .boolean), Cond.fieldLink RJ0 38 "java/lang/String" "COMPACT_STRINGS" "Z", Cond.fieldLink RJ0 15 "java/lang/String" "coder" "B", Cond.methodLink RJ0 495 yJ1_charAt_3b067, Cond.static yJ1_charAt_3b067, Cond.initialized RJ1, Cond.code yJ1_charAt_3b067 cJ1_charAt_3b067 2 (some .char), Cond.methodLink RJ1 9 yJ0_checkIndex_df160, Cond.static yJ0_checkIndex_df160]
def wsX3_finish_r10 : List Cond := [Cond.code yJ0_checkIndex_df160 cJ0_checkIndex_df160 2 none, Cond.fieldLink RJ0 1053 "jdk/internal/util/Preconditions" "SIOOBE_FORMATTER" "Ljava/util/function/BiFunction;", Cond.methodLink RJ0 1059 yJ3_checkIndex_8e157, Cond.static yJ3_checkIndex_8e157, Cond.initialized RJ3, Cond.code yJ3_checkIndex_8e157 cJ3_checkIndex_8e157 3 (some .int), Cond.methodLink RJ0 498 yJ2_charAt_3b067, Cond.static yJ2_charAt_3b067, Cond.initialized RJ2, Cond.code yJ2_charAt_3b067 cJ2_charAt_3b067 2 (some .char), Cond.methodLink RJ2 67 yJ2_checkIndex_2214a, Cond.static yJ2_checkIndex_2214a, Cond.code yJ2_checkIndex_2214a cJ2_checkIndex_2214a 2 none, Cond.methodLink RJ2 48 yJ2_length_9d52b, Cond.static yJ2_length_9d52b, Cond.code yJ2_length_9d52b cJ2_length_9d52b 1 (some .int), Cond.methodLink RJ2 414 yJ0_checkIndex_df160, Cond.methodLink RJ2 71 yJ2_getChar_3b067, Cond.static yJ2_getChar_3b067, Cond.code yJ2_getChar_3b067 cJ2_getChar_3b067 2 (some .char), Cond.fieldLink RJ2 44 "java/lang/StringUTF16" "$assertionsDisabled" "Z", Cond.fieldLink RJ2 59 "java/lang/StringUTF16" "HI_BYTE_SHIFT" "I", Cond.fieldLink RJ2 63 "java/lang/StringUTF16" "LO_BYTE_SHIFT" "I", Cond.methodLink RX3 214 yX3_kindOf]
def wsX3_finish_r11 : List Cond := [Cond.instanceMethod yX3_kindOf, Cond.selects RX3 yX3_kindOf yX3_kindOf, Cond.code yX3_kindOf cX3_kindOf 3 (some .int), Cond.fieldLink RX3 50 "PolicyHouse$Coder" "heap" "LPolicyHouse$Heap;", Cond.fieldLink RX3 183 "PolicyHouse$Tree" "a" "[I", Cond.methodLink RX3 225 yX4_kind, Cond.instanceMethod yX4_kind, Cond.selects RX4 yX4_kind yX4_kind, Cond.initialized RX4, Cond.code yX4_kind cX4_kind 2 (some .int), Cond.fieldLink RX4 10 "PolicyHouse$Heap" "cell" "[I", Cond.methodLink RX3 217 yX3_takes, Cond.static yX3_takes, Cond.code yX3_takes cX3_takes 2 (some .boolean), Cond.methodLink RX3 231 yJ0_indexOf_0f7a4, Cond.instanceMethod yJ0_indexOf_0f7a4, Cond.selects RJ0 yJ0_indexOf_0f7a4 yJ0_indexOf_0f7a4, Cond.code yJ0_indexOf_0f7a4 cJ0_indexOf_0f7a4 2 (some .int), Cond.methodLink RJ0 633 yJ0_indexOf_7cf53, Cond.instanceMethod yJ0_indexOf_7cf53, Cond.selects RJ0 yJ0_indexOf_7cf53 yJ0_indexOf_7cf53, Cond.code yJ0_indexOf_7cf53 cJ0_indexOf_7cf53 3 (some .int), Cond.methodLink RJ0 505 yJ0_length_8abf5, Cond.instanceMethod yJ0_length_8abf5]
def wsX3_finish_r12 : List Cond := [Cond.selects RJ0 yJ0_length_8abf5 yJ0_length_8abf5, Cond.code yJ0_length_8abf5 cJ0_length_8abf5 1 (some .int), Cond.methodLink RJ0 335 yJ0_coder_7d493, Cond.instanceMethod yJ0_coder_7d493, Cond.selects RJ0 yJ0_coder_7d493 yJ0_coder_7d493, Cond.code yJ0_coder_7d493 cJ0_coder_7d493 1 (some .byte), Cond.methodLink RJ0 637 yJ1_indexOf_4cfef, Cond.static yJ1_indexOf_4cfef, Cond.code yJ1_indexOf_4cfef cJ1_indexOf_4cfef 4 (some .int), Cond.methodLink RJ1 92 Lib.Math.max.name, Cond.static Lib.Math.max.name, Cond.initialized "java/lang/Math", Cond.code Lib.Math.max.name Lib.Math.max.code 2 (some .int), Cond.methodLink RJ1 38 Lib.Math.min.name, Cond.static Lib.Math.min.name, Cond.code Lib.Math.min.name Lib.Math.min.code 2 (some .int), Cond.methodLink RJ1 88 yJ1_canEncode_9a6ad, Cond.static yJ1_canEncode_9a6ad, Cond.code yJ1_canEncode_9a6ad cJ1_canEncode_9a6ad 1 (some .boolean), Cond.methodLink RJ1 95 yJ1_indexOfChar_4cfef, Cond.static yJ1_indexOfChar_4cfef, Cond.code yJ1_indexOfChar_4cfef cJ1_indexOfChar_4cfef 6 (some .int), Cond.methodLink RJ0 640 yJ2_indexOf_4cfef, Cond.static yJ2_indexOf_4cfef]
def wsX3_finish_r13 : List Cond := [Cond.code yJ2_indexOf_4cfef cJ2_indexOf_4cfef 4 (some .int), Cond.methodLink RJ2 224 Lib.Math.max.name, Cond.methodLink RJ2 183 Lib.Math.min.name, Cond.constant RJ2 227 (65536), Cond.methodLink RJ2 228 yJ2_indexOfChar_4cfef, Cond.static yJ2_indexOfChar_4cfef, Cond.code yJ2_indexOfChar_4cfef cJ2_indexOfChar_4cfef 4 (some .int), Cond.methodLink RJ2 96 yJ2_checkBoundsBeginEnd_d044e, Cond.static yJ2_checkBoundsBeginEnd_d044e, Cond.code yJ2_checkBoundsBeginEnd_d044e cJ2_checkBoundsBeginEnd_d044e 3 none, Cond.methodLink RJ2 241 yJ0_checkBoundsBeginEnd_23922, Cond.static yJ0_checkBoundsBeginEnd_23922, Cond.code yJ0_checkBoundsBeginEnd_23922 cJ0_checkBoundsBeginEnd_23922 3 none, Cond.methodLink RJ0 1062 yJ3_checkFromToIndex_8c36e, Cond.static yJ3_checkFromToIndex_8c36e, Cond.code yJ3_checkFromToIndex_8c36e cJ3_checkFromToIndex_8c36e 4 (some .int), Cond.methodLink RJ2 244 yJ2_indexOfCharUnsafe_4cfef, Cond.static yJ2_indexOfCharUnsafe_4cfef, Cond.code yJ2_indexOfCharUnsafe_4cfef cJ2_indexOfCharUnsafe_4cfef 5 (some .int), Cond.methodLink RJ2 232 yJ2_indexOfSupplementary_4cfef, Cond.static yJ2_indexOfSupplementary_4cfef, Cond.code yJ2_indexOfSupplementary_4cfef cJ2_indexOfSupplementary_4cfef 7 (some .int), Cond.methodLink RJ2 164 yJ11_isValidCodePoint_9a6ad, Cond.static yJ11_isValidCodePoint_9a6ad]
def wsX3_finish_r14 : List Cond := [Cond.initialized RJ11, Cond.code yJ11_isValidCodePoint_9a6ad cJ11_isValidCodePoint_9a6ad 2 (some .boolean), Cond.methodLink RJ2 157 yJ11_highSurrogate_5068e, Cond.static yJ11_highSurrogate_5068e, Cond.code yJ11_highSurrogate_5068e cJ11_highSurrogate_5068e 1 (some .char), Cond.constant RJ11 110 (55232), Cond.methodLink RJ2 161 yJ11_lowSurrogate_5068e, Cond.static yJ11_lowSurrogate_5068e, Cond.code yJ11_lowSurrogate_5068e cJ11_lowSurrogate_5068e 1 (some .char), Cond.constant RJ11 76 (56320), Cond.methodLink RX3 155 yX3_report, Cond.instanceMethod yX3_report, Cond.selects RX3 yX3_report yX3_report, Cond.code yX3_report cX3_report 3 none, Cond.methodLink RX3 221 yJ0_length_8abf5, Cond.methodLink RX3 87 yX3_arrangePart, Cond.instanceMethod yX3_arrangePart, Cond.selects RX3 yX3_arrangePart yX3_arrangePart, Cond.code yX3_arrangePart cX3_arrangePart 3 none, Cond.methodLink RX3 107 yX3_arrange, Cond.instanceMethod yX3_arrange, Cond.selects RX3 yX3_arrange yX3_arrange, Cond.code yX3_arrange cX3_arrange 3 none, Cond.methodLink RX3 132 yX3_bodyOf]
def wsX3_finish_r15 : List Cond := [Cond.instanceMethod yX3_bodyOf, Cond.selects RX3 yX3_bodyOf yX3_bodyOf, Cond.code yX3_bodyOf cX3_bodyOf 4 (some .int), Cond.methodLink RX3 123 yX3_arrangeBody, Cond.instanceMethod yX3_arrangeBody, Cond.selects RX3 yX3_arrangeBody yX3_arrangeBody, Cond.code yX3_arrangeBody cX3_arrangeBody 8 none, Cond.fieldLink RX3 32 "PolicyHouse$Coder" "known" "I", Cond.fieldLink RX3 35 "PolicyHouse$Coder" "scope" "I", Cond.methodLink RX3 136 yX3_around, Cond.instanceMethod yX3_around, Cond.selects RX3 yX3_around yX3_around, Cond.code yX3_around cX3_around 4 (some .int), Cond.fieldLink RX3 126 "PolicyHouse$Checker" "count" "I", Cond.fieldLink RX3 129 "PolicyHouse$Checker" "scopeOf" "[I", Cond.methodLink RX3 142 yX3_putInOrder, Cond.instanceMethod yX3_putInOrder, Cond.selects RX3 yX3_putInOrder yX3_putInOrder, Cond.code yX3_putInOrder cX3_putInOrder 8 none, Cond.fieldLink RX3 164 "PolicyHouse$Tree" "c" "[I", Cond.fieldLink RX3 167 "PolicyHouse$Tree" "size" "I", Cond.methodLink RX3 171 Lib.Math.max.name, Cond.fieldLink RX3 176 "PolicyHouse$Tree" "last" "[I", Cond.methodLink RX3 168 yX3_isReadyLiteral]
def wsX3_finish_r16 : List Cond := [Cond.instanceMethod yX3_isReadyLiteral, Cond.selects RX3 yX3_isReadyLiteral yX3_isReadyLiteral, Cond.code yX3_isReadyLiteral cX3_isReadyLiteral 6 (some .boolean), Cond.methodLink RX3 148 yX3_isReady, Cond.instanceMethod yX3_isReady, Cond.selects RX3 yX3_isReady yX3_isReady, Cond.code yX3_isReady cX3_isReady 4 (some .boolean), Cond.methodLink RX3 158 yX12_isComprehension, Cond.methodLink RX3 189 yX3_usedFrom, Cond.instanceMethod yX3_usedFrom, Cond.selects RX3 yX3_usedFrom yX3_usedFrom, Cond.code yX3_usedFrom cX3_usedFrom 6 (some .int), Cond.methodLink RX3 195 yX3_isReadyStep, Cond.instanceMethod yX3_isReadyStep, Cond.selects RX3 yX3_isReadyStep yX3_isReadyStep, Cond.code yX3_isReadyStep cX3_isReadyStep 3 (some .boolean), Cond.methodLink RX3 179 yX3_isReadyUnify, Cond.instanceMethod yX3_isReadyUnify, Cond.selects RX3 yX3_isReadyUnify yX3_isReadyUnify, Cond.code yX3_isReadyUnify cX3_isReadyUnify 5 (some .boolean), Cond.methodLink RX3 192 yX3_isMatching, Cond.instanceMethod yX3_isMatching, Cond.selects RX3 yX3_isMatching yX3_isMatching, Cond.code yX3_isMatching cX3_isMatching 3 (some .boolean)]
def wsX3_finish_r17 : List Cond := [Cond.methodLink RX3 186 yX3_patternMask, Cond.instanceMethod yX3_patternMask, Cond.selects RX3 yX3_patternMask yX3_patternMask, Cond.code yX3_patternMask cX3_patternMask 5 (some .int), Cond.methodLink RX3 145 yX3_arrangeWithin, Cond.instanceMethod yX3_arrangeWithin, Cond.selects RX3 yX3_arrangeWithin yX3_arrangeWithin, Cond.code yX3_arrangeWithin cX3_arrangeWithin 4 none, Cond.methodLink RX3 93 yX1_fail, Cond.instanceMethod yX1_fail, Cond.selects RX1 yX1_fail yX1_fail, Cond.code yX1_fail cX1_fail 4 none, Cond.fieldLink RX1 34 "PolicyHouse$Bundle" "kind" "I", Cond.fieldLink RX1 37 "PolicyHouse$Bundle" "module" "I", Cond.fieldLink RX1 40 "PolicyHouse$Bundle" "place" "I"]
def wsX3_finish : List Cond := .code yX3_finish cX3_finish 6 none :: ((wsX3_finish_r1 ++ (wsX3_finish_r2 ++ (wsX3_finish_r3 ++ (wsX3_finish_r4 ++ (wsX3_finish_r5 ++ (wsX3_finish_r6 ++ (wsX3_finish_r7 ++ (wsX3_finish_r8 ++ (wsX3_finish_r9 ++ (wsX3_finish_r10 ++ (wsX3_finish_r11 ++ (wsX3_finish_r12 ++ (wsX3_finish_r13 ++ (wsX3_finish_r14 ++ (wsX3_finish_r15 ++ (wsX3_finish_r16 ++ wsX3_finish_r17)))))))))))))))) ++ wsX30 ++ wsX10 ++ wsX20 ++ wsX120 ++ wsX60 ++ wsX40)
def wsJ7_copyOf_59c91 : List Cond := .code yJ7_copyOf_59c91 cJ7_copyOf_59c91 3 (some (.array .int)) :: ([.methodLink RJ7 316 ⟨"[I", "clone", "()Ljava/lang/Object;"⟩, .sameMethod "[I" "java/lang/Object" "clone" "()Ljava/lang/Object;", .native ⟨"java/lang/Object", "clone", "()Ljava/lang/Object;"⟩, .instanceMethod ⟨"java/lang/Object", "clone", "()Ljava/lang/Object;"⟩, .selects "[I" ⟨"[I", "clone", "()Ljava/lang/Object;"⟩ ⟨"java/lang/Object", "clone", "()Ljava/lang/Object;"⟩, .classLink RJ7 317 "[I", .arrayClass .int, .methodLink RJ7 304 Lib.Math.min.name, .static Lib.Math.min.name, .initialized "java/lang/Math", .code Lib.Math.min.name Lib.Math.min.code 2 (some .int), .methodLink RJ7 150 arraycopyName, .native arraycopyName, .static arraycopyName, .initialized "java/lang/System"])
def wsX3_encode_r1 : List Cond := [Cond.fieldLink RX3 22 "PolicyHouse$Coder" "size" "I", Cond.fieldLink RX3 7 "PolicyHouse$Coder" "b" "LPolicyHouse$Bundle;", Cond.fieldLink RX3 238 "PolicyHouse$Bundle" "parts" "I", Cond.arrayClass .int, Cond.fieldLink RX3 81 "PolicyHouse$Bundle" "part" "[I", Cond.fieldLink RX3 58 "PolicyHouse$Coder" "checker" "LPolicyHouse$Checker;", Cond.fieldLink RX3 80 "PolicyHouse$Checker" "t" "LPolicyHouse$Tree;", Cond.fieldLink RX3 13 "PolicyHouse$Coder" "t" "LPolicyHouse$Tree;", Cond.fieldLink RX3 29 "PolicyHouse$Coder" "owner" "I", Cond.fieldLink RX3 126 "PolicyHouse$Checker" "count" "I", Cond.fieldLink RX3 26 "PolicyHouse$Coder" "registers" "I", Cond.fieldLink RX3 97 "PolicyHouse$Tree" "first" "[I", Cond.fieldLink RX3 102 "PolicyHouse$Tree" "kind" "[I", Cond.fieldLink RX3 32 "PolicyHouse$Coder" "known" "I", Cond.fieldLink RX3 111 "PolicyHouse$Tree" "next" "[I", Cond.fieldLink RX3 162 "PolicyHouse$Tree" "b" "[I", Cond.fieldLink RX3 257 "PolicyHouse$Bundle" "branch" "[I", Cond.fieldLink RX3 18 "PolicyHouse$Coder" "code" "[I", Cond.fieldLink RX3 259 "PolicyHouse$Bundle" "code" "[I", Cond.methodLink RX3 74 yX2_scanPart, Cond.instanceMethod yX2_scanPart, Cond.selects RX2 yX2_scanPart yX2_scanPart, Cond.initialized RX2, Cond.code yX2_scanPart cX2_scanPart 5 none]
def wsX3_encode_r2 : List Cond := [Cond.fieldLink RX2 7 "PolicyHouse$Checker" "b" "LPolicyHouse$Bundle;", Cond.fieldLink RX2 141 "PolicyHouse$Bundle" "part" "[I", Cond.fieldLink RX2 100 "PolicyHouse$Bundle" "mods" "[LPolicyHouse$Tree;", Cond.fieldLink RX2 13 "PolicyHouse$Checker" "t" "LPolicyHouse$Tree;", Cond.fieldLink RX2 115 "PolicyHouse$Tree" "first" "[I", Cond.fieldLink RX2 193 "PolicyHouse$Tree" "kind" "[I", Cond.fieldLink RX2 125 "PolicyHouse$Tree" "next" "[I", Cond.fieldLink RX2 207 "PolicyHouse$Tree" "res" "[I", Cond.methodLink RX2 189 yX2_begin, Cond.instanceMethod yX2_begin, Cond.selects RX2 yX2_begin yX2_begin, Cond.code yX2_begin cX2_begin 3 none, Cond.fieldLink RX2 17 "PolicyHouse$Checker" "module" "I", Cond.fieldLink RX2 31 "PolicyHouse$Checker" "count" "I", Cond.fieldLink RX2 37 "PolicyHouse$Checker" "scopes" "I", Cond.fieldLink RX2 34 "PolicyHouse$Checker" "around" "[I", Cond.fieldLink RX2 40 "PolicyHouse$Checker" "badKind" "I", Cond.fieldLink RX2 43 "PolicyHouse$Checker" "badPlace" "I", Cond.methodLink RX2 195 yX2_newScope, Cond.instanceMethod yX2_newScope, Cond.selects RX2 yX2_newScope yX2_newScope, Cond.code yX2_newScope cX2_newScope 4 (some .int), Cond.methodLink RX2 198 yX2_declareAll, Cond.instanceMethod yX2_declareAll]
def wsX3_encode_r3 : List Cond := [Cond.selects RX2 yX2_declareAll yX2_declareAll, Cond.code yX2_declareAll cX2_declareAll 4 none, Cond.methodLink RX2 219 yX2_declare, Cond.instanceMethod yX2_declare, Cond.selects RX2 yX2_declare yX2_declare, Cond.code yX2_declare cX2_declare 6 none, Cond.fieldLink RX2 182 "PolicyHouse$Tree" "a" "[I", Cond.fieldLink RX2 154 "PolicyHouse$Tree" "b" "[I", Cond.methodLink RX2 222 yX2_addVariable, Cond.instanceMethod yX2_addVariable, Cond.selects RX2 yX2_addVariable yX2_addVariable, Cond.code yX2_addVariable cX2_addVariable 3 none, Cond.fieldLink RX2 134 "PolicyHouse$Tree" "ref" "[I", Cond.fieldLink RX2 21 "PolicyHouse$Checker" "declared" "[I", Cond.fieldLink RX2 25 "PolicyHouse$Checker" "scopeOf" "[I", Cond.fieldLink RX2 28 "PolicyHouse$Checker" "placeOf" "[I", Cond.fieldLink RX2 163 "PolicyHouse$Tree" "at" "[I", Cond.methodLink RX2 225 yX2_declareEvery, Cond.instanceMethod yX2_declareEvery, Cond.selects RX2 yX2_declareEvery yX2_declareEvery, Cond.methodLink RX2 228 yX12_isComprehension, Cond.instanceMethod yX12_isComprehension, Cond.selects RX12 yX12_isComprehension yX12_isComprehension, Cond.initialized RX12]
def wsX3_encode_r4 : List Cond := [Cond.code yX12_isComprehension cX12_isComprehension 2 (some .boolean), Cond.fieldLink RX12 25 "PolicyHouse$Tree" "kind" "[I", Cond.methodLink RX2 201 yX2_declarePattern, Cond.instanceMethod yX2_declarePattern, Cond.selects RX2 yX2_declarePattern yX2_declarePattern, Cond.code yX2_declareEvery cX2_declareEvery 5 none, Cond.code yX2_declarePattern cX2_declarePattern 3 none, Cond.instanceMethod yX12_isPattern, Cond.selects RX12 yX12_isPattern yX12_isPattern, Cond.code yX12_isPattern cX12_isPattern 3 (some .boolean), Cond.fieldLink RX12 41 "PolicyHouse$Tree" "first" "[I", Cond.fieldLink RX12 44 "PolicyHouse$Tree" "next" "[I", Cond.methodLink RX12 60 yX12_isPattern, Cond.methodLink RX12 56 yX12_isConstant, Cond.instanceMethod yX12_isConstant, Cond.selects RX12 yX12_isConstant yX12_isConstant, Cond.code yX12_isConstant cX12_isConstant 3 (some .boolean), Cond.methodLink RX2 234 yX2_addPattern, Cond.instanceMethod yX2_addPattern, Cond.selects RX2 yX2_addPattern yX2_addPattern, Cond.code yX2_addPattern cX2_addPattern 4 none, Cond.fieldLink RX2 59 "PolicyHouse$Checker" "names" "LPolicyHouse$Names;", Cond.fieldLink RX2 240 "PolicyHouse$Names" "blank" "I", Cond.methodLink RX2 237 yX2_report]
def wsX3_encode_r5 : List Cond := [Cond.instanceMethod yX2_report, Cond.selects RX2 yX2_report yX2_report, Cond.code yX2_report cX2_report 4 none, Cond.methodLink RX2 204 yX2_checkDeclared, Cond.instanceMethod yX2_checkDeclared, Cond.selects RX2 yX2_checkDeclared yX2_checkDeclared, Cond.code yX2_checkDeclared cX2_checkDeclared 5 none, Cond.fieldLink RX2 173 "PolicyHouse$Names" "input" "I", Cond.fieldLink RX2 176 "PolicyHouse$Names" "data" "I", Cond.methodLink RX2 243 yX2_aliasOf, Cond.instanceMethod yX2_aliasOf, Cond.selects RX2 yX2_aliasOf yX2_aliasOf, Cond.code yX2_aliasOf cX2_aliasOf 3 (some .int), Cond.fieldLink RX2 156 "PolicyHouse$Tree" "imports" "I", Cond.fieldLink RX2 170 "PolicyHouse$Tree" "c" "[I", Cond.methodLink RX2 246 yX2_ruleOf, Cond.instanceMethod yX2_ruleOf, Cond.selects RX2 yX2_ruleOf yX2_ruleOf, Cond.code yX2_ruleOf cX2_ruleOf 2 (some .int), Cond.fieldLink RX2 104 "PolicyHouse$Tree" "pack" "I", Cond.methodLink RX2 179 yX6_find, Cond.instanceMethod yX6_find, Cond.selects RX6 yX6_find yX6_find, Cond.initialized RX6]
def wsX3_encode_r6 : List Cond := [Cond.code yX6_find cX6_find 4 (some .int), Cond.fieldLink RX6 19 "PolicyHouse$Names" "child" "[I", Cond.fieldLink RX6 16 "PolicyHouse$Names" "name" "[I", Cond.fieldLink RX6 22 "PolicyHouse$Names" "sibling" "[I", Cond.methodLink RX2 137 yX1_ruleAt, Cond.instanceMethod yX1_ruleAt, Cond.selects RX1 yX1_ruleAt yX1_ruleAt, Cond.initialized RX1, Cond.code yX1_ruleAt cX1_ruleAt 2 (some .int), Cond.fieldLink RX1 59 "PolicyHouse$Bundle" "nodeRule" "[I", Cond.methodLink RX2 249 yX2_isAround, Cond.instanceMethod yX2_isAround, Cond.selects RX2 yX2_isAround yX2_isAround, Cond.code yX2_isAround cX2_isAround 5 (some .boolean), Cond.methodLink RX2 210 yX2_resolveAll, Cond.instanceMethod yX2_resolveAll, Cond.selects RX2 yX2_resolveAll yX2_resolveAll, Cond.code yX2_resolveAll cX2_resolveAll 4 none, Cond.methodLink RX2 253 yX2_resolve, Cond.instanceMethod yX2_resolve, Cond.selects RX2 yX2_resolve yX2_resolve, Cond.code yX2_resolve cX2_resolve 6 none, Cond.methodLink RX2 256 yX2_resolveName, Cond.instanceMethod yX2_resolveName]
def wsX3_encode_r7 : List Cond := [Cond.selects RX2 yX2_resolveName yX2_resolveName, Cond.code yX2_resolveName cX2_resolveName 7 none, Cond.methodLink RX2 274 yX2_variable, Cond.instanceMethod yX2_variable, Cond.selects RX2 yX2_variable yX2_variable, Cond.code yX2_variable cX2_variable 4 (some .int), Cond.methodLink RX2 259 yX2_resolveStep, Cond.instanceMethod yX2_resolveStep, Cond.selects RX2 yX2_resolveStep yX2_resolveStep, Cond.methodLink RX2 262 yX2_resolveSide, Cond.instanceMethod yX2_resolveSide, Cond.selects RX2 yX2_resolveSide yX2_resolveSide, Cond.methodLink RX2 213 yX2_resolvePattern, Cond.instanceMethod yX2_resolvePattern, Cond.selects RX2 yX2_resolvePattern yX2_resolvePattern, Cond.methodLink RX2 265 yX2_resolveCall, Cond.instanceMethod yX2_resolveCall, Cond.selects RX2 yX2_resolveCall yX2_resolveCall, Cond.code yX2_resolveCall cX2_resolveCall 7 none, Cond.fieldLink RX2 280 "PolicyHouse$Names" "builtin" "[I", Cond.fieldLink RX2 283 "PolicyHouse$Names" "arity" "[I", Cond.methodLink RX2 277 yX2_functionOf, Cond.instanceMethod yX2_functionOf, Cond.selects RX2 yX2_functionOf yX2_functionOf]
def wsX3_encode_r8 : List Cond := [Cond.code yX2_functionOf cX2_functionOf 6 (some .int), Cond.methodLink RX2 150 yX1_of, Cond.instanceMethod yX1_of, Cond.selects RX1 yX1_of yX1_of, Cond.code yX1_of cX1_of 3 (some .int), Cond.fieldLink RX1 53 "PolicyHouse$Bundle" "rule" "[I", Cond.methodLink RX2 268 yX2_isBadTarget, Cond.instanceMethod yX2_isBadTarget, Cond.selects RX2 yX2_isBadTarget yX2_isBadTarget, Cond.code yX2_isBadTarget cX2_isBadTarget 3 (some .boolean), Cond.fieldLink RX2 112 "PolicyHouse$Names" "parent" "[I", Cond.methodLink RX2 185 yX1_isInner, Cond.instanceMethod yX1_isInner, Cond.selects RX1 yX1_isInner yX1_isInner, Cond.code yX1_isInner cX1_isInner 2 (some .boolean), Cond.fieldLink RX1 62 "PolicyHouse$Bundle" "inner" "[I", Cond.code yX2_resolvePattern cX2_resolvePattern 3 none, Cond.code yX2_resolveSide cX2_resolveSide 4 none, Cond.methodLink RX2 271 yX12_isName, Cond.instanceMethod yX12_isName, Cond.selects RX12 yX12_isName yX12_isName, Cond.code yX12_isName cX12_isName 3 (some .boolean), Cond.fieldLink RX12 32 "PolicyHouse$Tree" "a" "[I", Cond.code yX2_resolveStep cX2_resolveStep 3 none]
def wsX3_encode_r9 : List Cond := [Cond.methodLink RX3 241 yX3_match, Cond.instanceMethod yX3_match, Cond.selects RX3 yX3_match yX3_match, Cond.initialized RX3, Cond.code yX3_match cX3_match 7 none, Cond.fieldLink RX3 104 "PolicyHouse$Tree" "res" "[I", Cond.fieldLink RX3 139 "PolicyHouse$Tree" "ref" "[I", Cond.methodLink RX3 272 yX3_putThree, Cond.instanceMethod yX3_putThree, Cond.selects RX3 yX3_putThree yX3_putThree, Cond.code yX3_putThree cX3_putThree 4 none, Cond.methodLink RX3 235 yX3_put, Cond.instanceMethod yX3_put, Cond.selects RX3 yX3_put yX3_put, Cond.code yX3_put cX3_put 2 none, Cond.constant RX3 17 (80000), Cond.constant RX3 234 (79999), Cond.methodLink RX3 284 yX3_registers, Cond.instanceMethod yX3_registers, Cond.selects RX3 yX3_registers yX3_registers, Cond.code yX3_registers cX3_registers 3 (some .int), Cond.methodLink RX3 308 yX3_putFour, Cond.instanceMethod yX3_putFour, Cond.selects RX3 yX3_putFour yX3_putFour]
def wsX3_encode_r10 : List Cond := [Cond.code yX3_putFour cX3_putFour 5 none, Cond.methodLink RX3 312 yX3_matchObject, Cond.instanceMethod yX3_matchObject, Cond.selects RX3 yX3_matchObject yX3_matchObject, Cond.methodLink RX3 263 yX3_expression, Cond.instanceMethod yX3_expression, Cond.selects RX3 yX3_expression yX3_expression, Cond.code yX3_comprehension cX3_comprehension 10 (some .int), Cond.methodLink RX3 132 yX3_bodyOf, Cond.instanceMethod yX3_bodyOf, Cond.selects RX3 yX3_bodyOf yX3_bodyOf, Cond.code yX3_bodyOf cX3_bodyOf 4 (some .int), Cond.methodLink RX3 136 yX3_around, Cond.instanceMethod yX3_around, Cond.selects RX3 yX3_around yX3_around, Cond.code yX3_around cX3_around 4 (some .int), Cond.fieldLink RX3 129 "PolicyHouse$Checker" "scopeOf" "[I", Cond.methodLink RX3 269 yX3_literals, Cond.instanceMethod yX3_literals, Cond.selects RX3 yX3_literals yX3_literals, Cond.code yX3_every cX3_every 8 none, Cond.fieldLink RX3 183 "PolicyHouse$Tree" "a" "[I", Cond.methodLink RX3 266 yX3_putTwo, Cond.instanceMethod yX3_putTwo]
def wsX3_encode_r11 : List Cond := [Cond.selects RX3 yX3_putTwo yX3_putTwo, Cond.code yX3_putTwo cX3_putTwo 3 none, Cond.code yX3_expression cX3_expression 3 (some .int), Cond.fieldLink RX3 50 "PolicyHouse$Coder" "heap" "LPolicyHouse$Heap;", Cond.methodLink RX3 315 yX4_tooGreat, Cond.instanceMethod yX4_tooGreat, Cond.selects RX4 yX4_tooGreat yX4_tooGreat, Cond.initialized RX4, Cond.code yX4_tooGreat cX4_tooGreat 2 (some .boolean), Cond.methodLink RX4 52 yX4_weight, Cond.instanceMethod yX4_weight, Cond.selects RX4 yX4_weight yX4_weight, Cond.code yX4_weight cX4_weight 3 (some .int), Cond.fieldLink RX4 10 "PolicyHouse$Heap" "cell" "[I", Cond.methodLink RX4 55 yX4_depth, Cond.instanceMethod yX4_depth, Cond.selects RX4 yX4_depth yX4_depth, Cond.code yX4_depth cX4_depth 2 (some .int), Cond.methodLink RX3 318 yX3_reference, Cond.instanceMethod yX3_reference, Cond.selects RX3 yX3_reference yX3_reference, Cond.methodLink RX3 321 yX3_signs, Cond.instanceMethod yX3_signs, Cond.selects RX3 yX3_signs yX3_signs]
def wsX3_encode_r12 : List Cond := [Cond.methodLink RX3 324 yX3_row, Cond.instanceMethod yX3_row, Cond.selects RX3 yX3_row yX3_row, Cond.methodLink RX3 328 yX3_comprehension, Cond.instanceMethod yX3_comprehension, Cond.selects RX3 yX3_comprehension yX3_comprehension, Cond.code yX3_literal cX3_literal 7 none, Cond.fieldLink RX3 164 "PolicyHouse$Tree" "c" "[I", Cond.methodLink RX3 278 yX3_with, Cond.instanceMethod yX3_with, Cond.selects RX3 yX3_with yX3_with, Cond.methodLink RX3 281 yX3_someIn, Cond.instanceMethod yX3_someIn, Cond.selects RX3 yX3_someIn yX3_someIn, Cond.methodLink RX3 286 yX3_every, Cond.instanceMethod yX3_every, Cond.selects RX3 yX3_every yX3_every, Cond.code yX3_literals cX3_literals 3 none, Cond.fieldLink RX3 176 "PolicyHouse$Tree" "last" "[I", Cond.methodLink RX3 275 yX3_literal, Cond.instanceMethod yX3_literal, Cond.selects RX3 yX3_literal yX3_literal, Cond.code yX3_matchObject cX3_matchObject 8 none, Cond.code yX3_reference cX3_reference 8 (some .int)]
def wsX3_encode_r13 : List Cond := [Cond.methodLink RX3 70 yX1_of, Cond.methodLink RX3 331 yX3_step, Cond.instanceMethod yX3_step, Cond.selects RX3 yX3_step yX3_step, Cond.code yX3_row cX3_row 7 (some .int), Cond.fieldLink RX3 47 "PolicyHouse$Coder" "used" "I", Cond.fieldLink RX3 44 "PolicyHouse$Coder" "ops" "[I", Cond.methodLink RX3 289 yX3_keep, Cond.instanceMethod yX3_keep, Cond.selects RX3 yX3_keep yX3_keep, Cond.code yX3_keep cX3_keep 2 none, Cond.code yX3_signs cX3_signs 5 (some .int), Cond.code yX3_someIn cX3_someIn 6 none, Cond.code yX3_step cX3_step 6 (some .int), Cond.code yX3_with cX3_with 8 (some .int), Cond.fieldLink RX3 302 "PolicyHouse$Bundle" "words" "I", Cond.fieldLink RX3 305 "PolicyHouse$Checker" "bits" "[I", Cond.methodLink RX3 292 yX1_ruleAt, Cond.methodLink RX3 295 yX2_clearBits, Cond.instanceMethod yX2_clearBits, Cond.selects RX2 yX2_clearBits yX2_clearBits, Cond.code yX2_clearBits cX2_clearBits 2 none, Cond.fieldLink RX2 46 "PolicyHouse$Checker" "bits" "[I", Cond.instanceMethod yX2_collectAll]
def wsX3_encode_r14 : List Cond := [Cond.selects RX2 yX2_collectAll yX2_collectAll, Cond.code yX2_collectAll cX2_collectAll 4 none, Cond.methodLink RX2 296 yX2_collect, Cond.instanceMethod yX2_collect, Cond.selects RX2 yX2_collect yX2_collect, Cond.code yX2_collect cX2_collect 6 none, Cond.methodLink RX2 286 yX2_markReference, Cond.instanceMethod yX2_markReference, Cond.selects RX2 yX2_markReference yX2_markReference, Cond.code yX2_markReference cX2_markReference 7 none, Cond.fieldLink RX2 55 "PolicyHouse$Checker" "heap" "LPolicyHouse$Heap;", Cond.fieldLink RX2 128 "PolicyHouse$Bundle" "rules" "I", Cond.methodLink RX2 289 yX2_mark, Cond.instanceMethod yX2_mark, Cond.selects RX2 yX2_mark yX2_mark, Cond.code yX2_mark cX2_mark 2 none, Cond.methodLink RX2 299 yX4_kind, Cond.instanceMethod yX4_kind, Cond.selects RX4 yX4_kind yX4_kind, Cond.code yX4_kind cX4_kind 2 (some .int), Cond.methodLink RX2 303 yX6_within, Cond.instanceMethod yX6_within, Cond.selects RX6 yX6_within yX6_within, Cond.code yX6_within cX6_within 5 (some .boolean)]
def wsX3_encode_r15 : List Cond := [Cond.fieldLink RX6 13 "PolicyHouse$Names" "parent" "[I", Cond.methodLink RX2 292 yX2_collectAll, Cond.methodLink RX3 244 yX3_branch, Cond.instanceMethod yX3_branch, Cond.selects RX3 yX3_branch yX3_branch, Cond.code yX3_branch cX3_branch 8 none, Cond.fieldLink RX3 260 "PolicyHouse$Bundle" "rule" "[I", Cond.methodLink RX3 248 yX3_setFrame, Cond.instanceMethod yX3_setFrame, Cond.selects RX3 yX3_setFrame yX3_setFrame, Cond.code yX3_setFrame cX3_setFrame 3 none, Cond.methodLink RX3 171 Lib.Math.max.name, Cond.static Lib.Math.max.name, Cond.initialized "java/lang/Math", Cond.code Lib.Math.max.name Lib.Math.max.code 2 (some .int), Cond.methodLink RX3 251 yJ7_copyOf_59c91, Cond.static yJ7_copyOf_59c91, Cond.initialized RJ7, Cond.code yJ7_copyOf_59c91 cJ7_copyOf_59c91 3 (some (.array .int)), Cond.methodLink RJ7 316 ⟨"[I", "clone", "()Ljava/lang/Object;"⟩, Cond.sameMethod "[I" "java/lang/Object" "clone" "()Ljava/lang/Object;", Cond.native ⟨"java/lang/Object", "clone", "()Ljava/lang/Object;"⟩, Cond.instanceMethod ⟨"java/lang/Object", "clone", "()Ljava/lang/Object;"⟩, Cond.selects "[I" ⟨"[I", "clone", "()Ljava/lang/Object;"⟩ ⟨"java/lang/Object", "clone", "()Ljava/lang/Object;"⟩]
def wsX3_encode_r16 : List Cond := [Cond.classLink RJ7 317 "[I", Cond.methodLink RJ7 304 Lib.Math.min.name, Cond.static Lib.Math.min.name, Cond.code Lib.Math.min.name Lib.Math.min.code 2 (some .int), Cond.methodLink RJ7 150 arraycopyName, Cond.native arraycopyName, Cond.static arraycopyName, Cond.initialized "java/lang/System"]
def wsX3_encode : List Cond := .code yX3_encode cX3_encode 9 none :: ((wsX3_encode_r1 ++ (wsX3_encode_r2 ++ (wsX3_encode_r3 ++ (wsX3_encode_r4 ++ (wsX3_encode_r5 ++ (wsX3_encode_r6 ++ (wsX3_encode_r7 ++ (wsX3_encode_r8 ++ (wsX3_encode_r9 ++ (wsX3_encode_r10 ++ (wsX3_encode_r11 ++ (wsX3_encode_r12 ++ (wsX3_encode_r13 ++ (wsX3_encode_r14 ++ (wsX3_encode_r15 ++ wsX3_encode_r16))))))))))))))) ++ wsX30 ++ wsX10 ++ wsX20 ++ wsX120 ++ wsX60 ++ wsX40)
theorem dX1_init_0 : decode cX1_init 0 = .ok (.aload_n 0, 1) := by decide +kernel
theorem dX1_init_1 : decode cX1_init 1 = .ok (.invokespecial 3, 3) := by decide +kernel
theorem dX1_init_4 : decode cX1_init 4 = .ok (.aload_n 0, 1) := by decide +kernel
theorem dX1_init_5 : decode cX1_init 5 = .ok (.iconst 0, 1) := by decide +kernel
theorem dX1_init_6 : decode cX1_init 6 = .ok (.putfield 9, 3) := by decide +kernel
theorem dX1_init_9 : decode cX1_init 9 = .ok (.aload_n 0, 1) := by decide +kernel
theorem dX1_init_10 : decode cX1_init 10 = .ok (.iconst 0, 1) := by decide +kernel
theorem dX1_init_11 : decode cX1_init 11 = .ok (.putfield 15, 3) := by decide +kernel
theorem dX1_init_14 : decode cX1_init 14 = .ok (.aload_n 0, 1) := by decide +kernel
theorem dX1_init_15 : decode cX1_init 15 = .ok (.iconst 1, 1) := by decide +kernel
theorem dX1_init_16 : decode cX1_init 16 = .ok (.putfield 18, 3) := by decide +kernel
theorem dX1_init_19 : decode cX1_init 19 = .ok (.aload_n 0, 1) := by decide +kernel
theorem dX1_init_20 : decode cX1_init 20 = .ok (.aconst_null, 1) := by decide +kernel
theorem dX1_init_21 : decode cX1_init 21 = .ok (.putfield 21, 3) := by decide +kernel
theorem dX1_init_24 : decode cX1_init 24 = .ok (.aload_n 0, 1) := by decide +kernel
theorem dX1_init_25 : decode cX1_init 25 = .ok (.aconst_null, 1) := by decide +kernel
theorem dX1_init_26 : decode cX1_init 26 = .ok (.putfield 25, 3) := by decide +kernel
theorem dX1_init_29 : decode cX1_init 29 = .ok (.aload_n 0, 1) := by decide +kernel
theorem dX1_init_30 : decode cX1_init 30 = .ok (.aconst_null, 1) := by decide +kernel
theorem dX1_init_31 : decode cX1_init 31 = .ok (.putfield 28, 3) := by decide +kernel
theorem dX1_init_34 : decode cX1_init 34 = .ok (.aload_n 0, 1) := by decide +kernel
theorem dX1_init_35 : decode cX1_init 35 = .ok (.aconst_null, 1) := by decide +kernel
theorem dX1_init_36 : decode cX1_init 36 = .ok (.putfield 31, 3) := by decide +kernel
theorem dX1_init_39 : decode cX1_init 39 = .ok (.aload_n 0, 1) := by decide +kernel
theorem dX1_init_40 : decode cX1_init 40 = .ok (.iconst 0, 1) := by decide +kernel
theorem dX1_init_41 : decode cX1_init 41 = .ok (.putfield 34, 3) := by decide +kernel
theorem dX1_init_44 : decode cX1_init 44 = .ok (.aload_n 0, 1) := by decide +kernel
theorem dX1_init_45 : decode cX1_init 45 = .ok (.iconst (-1), 1) := by decide +kernel
theorem dX1_init_46 : decode cX1_init 46 = .ok (.putfield 37, 3) := by decide +kernel
theorem dX1_init_49 : decode cX1_init 49 = .ok (.aload_n 0, 1) := by decide +kernel
theorem dX1_init_50 : decode cX1_init 50 = .ok (.iconst (-1), 1) := by decide +kernel
theorem dX1_init_51 : decode cX1_init 51 = .ok (.putfield 40, 3) := by decide +kernel
theorem dX1_init_54 : decode cX1_init 54 = .ok (.aload_n 0, 1) := by decide +kernel
theorem dX1_init_55 : decode cX1_init 55 = .ok (.iload_n 2, 1) := by decide +kernel
theorem dX1_init_56 : decode cX1_init 56 = .ok (.anewarray 43, 3) := by decide +kernel
theorem dX1_init_59 : decode cX1_init 59 = .ok (.putfield 45, 3) := by decide +kernel
theorem dX1_init_62 : decode cX1_init 62 = .ok (.iconst 0, 1) := by decide +kernel
theorem dX1_init_63 : decode cX1_init 63 = .ok (.istore 4, 2) := by decide +kernel
theorem dX1_init_65 : decode cX1_init 65 = .ok (.iconst 0, 1) := by decide +kernel
theorem dX1_init_66 : decode cX1_init 66 = .ok (.istore 5, 2) := by decide +kernel
theorem dX1_init_68 : decode cX1_init 68 = .ok (.iload 5, 2) := by decide +kernel
theorem dX1_init_70 : decode cX1_init 70 = .ok (.iload_n 2, 1) := by decide +kernel
theorem dX1_init_71 : decode cX1_init 71 = .ok (.if_icmp .ge 32, 3) := by decide +kernel
theorem dX1_init_103 : decode cX1_init 103 = .ok (.aload_n 0, 1) := by decide +kernel
theorem dX1_init_104 : decode cX1_init 104 = .ok (.iload_n 2, 1) := by decide +kernel
theorem dX1_init_105 : decode cX1_init 105 = .ok (.putfield 50, 3) := by decide +kernel
theorem dX1_init_108 : decode cX1_init 108 = .ok (.aload_n 0, 1) := by decide +kernel
theorem dX1_init_109 : decode cX1_init 109 = .ok (.iload 4, 2) := by decide +kernel
theorem dX1_init_111 : decode cX1_init 111 = .ok (.bipush 10, 2) := by decide +kernel
theorem dX1_init_113 : decode cX1_init 113 = .ok (.imul, 1) := by decide +kernel
theorem dX1_init_114 : decode cX1_init 114 = .ok (.newarray .int, 2) := by decide +kernel
theorem dX1_init_116 : decode cX1_init 116 = .ok (.putfield 53, 3) := by decide +kernel
theorem dX1_init_119 : decode cX1_init 119 = .ok (.aload_n 0, 1) := by decide +kernel
theorem dX1_init_120 : decode cX1_init 120 = .ok (.iload 4, 2) := by decide +kernel
theorem dX1_init_122 : decode cX1_init 122 = .ok (.bipush 6, 2) := by decide +kernel
theorem dX1_init_124 : decode cX1_init 124 = .ok (.imul, 1) := by decide +kernel
theorem dX1_init_125 : decode cX1_init 125 = .ok (.newarray .int, 2) := by decide +kernel
theorem dX1_init_127 : decode cX1_init 127 = .ok (.putfield 56, 3) := by decide +kernel
theorem dX1_init_130 : decode cX1_init 130 = .ok (.aload_n 0, 1) := by decide +kernel
theorem dX1_init_131 : decode cX1_init 131 = .ok (.iload_n 3, 1) := by decide +kernel
theorem dX1_init_132 : decode cX1_init 132 = .ok (.newarray .int, 2) := by decide +kernel
theorem dX1_init_134 : decode cX1_init 134 = .ok (.putfield 59, 3) := by decide +kernel
theorem dX1_init_137 : decode cX1_init 137 = .ok (.aload_n 0, 1) := by decide +kernel
theorem dX1_init_138 : decode cX1_init 138 = .ok (.iload_n 3, 1) := by decide +kernel
theorem dX1_init_139 : decode cX1_init 139 = .ok (.newarray .int, 2) := by decide +kernel
theorem dX1_init_141 : decode cX1_init 141 = .ok (.putfield 62, 3) := by decide +kernel
theorem dX1_init_144 : decode cX1_init 144 = .ok (.return_, 1) := by decide +kernel
set_option maxRecDepth 20000 in
theorem ggX2_bundle_X1_init : GoodIn wsX2_bundle wsX1_init := goodIn_r _ [14, 15, 16, 17, 18, 19, 20, 21, 22, 23, 24, 25, 26, 27, 28, 29, 30, 31, 32, 33, 34, 35, 36, 314, 315, 316, 317, 318, 319, 320, 321, 322, 323, 324, 325, 326, 327, 328, 329, 362, 363, 364, 365, 366, 367, 368, 369, 370, 371, 372, 373, 374, 375, 376] (by decide +kernel) (by decide +kernel)
set_option maxRecDepth 20000 in
theorem gX2_bundle_X1_init : GoodIn wsX2_bundle (wsX1_init) := ggX2_bundle_X1_init
set_option maxRecDepth 20000 in
theorem ggX2_bundle_X2_gather : GoodIn wsX2_bundle wsX2_gather := goodIn_r _ [41, 6, 42, 43, 44, 45, 4, 46, 47, 48, 49, 50, 51, 52, 53, 54, 40, 55, 56, 7, 57, 58, 59, 60, 61, 62, 63, 3, 64, 35, 65, 66, 67, 68, 33, 330, 331, 332, 333, 334, 335, 336, 337, 338, 339, 340, 341, 342, 343, 344, 345, 314, 315, 316, 317, 318, 319, 320, 321, 322, 323, 324, 325, 326, 327, 328, 329, 362, 363, 364, 365, 366, 367, 368, 369, 370, 371, 372, 373, 374, 375, 376, 346, 347, 348, 349, 350, 351, 352, 353, 354, 355, 356, 357, 358, 359, 360, 361] (by decide +kernel) (by decide +kernel)
set_option maxRecDepth 20000 in
theorem gX2_bundle_X2_gather : GoodIn wsX2_bundle (wsV RX2 73 RX2 yX2_gather wsX2_gather) := goodIn_app (goodIn_of _ (by decide +kernel)) ggX2_bundle_X2_gather
set_option maxRecDepth 20000 in
theorem ggX2_bundle_X2_findClash : GoodIn wsX2_bundle wsX2_findClash := goodIn_r _ [72, 6, 50, 59, 42, 43, 73, 8, 74, 49, 7, 57, 65, 66, 67, 3, 68, 33, 75, 76, 77, 40, 78, 79, 4, 80, 81, 44, 82, 83, 84, 85, 86, 87, 88, 89, 61, 62, 63, 64, 35, 90, 91, 92, 93, 25, 26, 27, 94, 95, 96, 97, 60, 98, 99, 100, 101, 102, 36, 330, 331, 332, 333, 334, 335, 336, 337, 338, 339, 340, 341, 342, 343, 344, 345, 314, 315, 316, 317, 318, 319, 320, 321, 322, 323, 324, 325, 326, 327, 328, 329, 362, 363, 364, 365, 366, 367, 368, 369, 370, 371, 372, 373, 374, 375, 376, 346, 347, 348, 349, 350, 351, 352, 353, 354, 355, 356, 357, 358, 359, 360, 361] (by decide +kernel) (by decide +kernel)
set_option maxRecDepth 20000 in
theorem gX2_bundle_X2_findClash : GoodIn wsX2_bundle (wsV RX2 76 RX2 yX2_findClash wsX2_findClash) := goodIn_app (goodIn_of _ (by decide +kernel)) ggX2_bundle_X2_findClash
set_option maxRecDepth 20000 in
theorem ggX2_bundle_X2_findReads : GoodIn wsX2_bundle wsX2_findReads := goodIn_r _ [235, 6, 50, 51, 32, 236, 237, 238, 239, 59, 240, 241, 242, 40, 243, 43, 57, 107, 244, 245, 246, 247, 65, 66, 67, 3, 68, 33, 248, 249, 250, 251, 47, 49, 252, 253, 254, 255, 108, 60, 109, 56, 256, 257, 258, 259, 98, 4, 46, 260, 61, 62, 63, 64, 35, 261, 262, 263, 264, 265, 266, 267, 268, 269, 270, 82, 83, 84, 85, 86, 87, 88, 89, 271, 272, 273, 274, 275, 276, 277, 278, 279, 280, 281, 282, 283, 284, 285, 286, 287, 288, 289, 34, 29, 290, 291, 292, 91, 92, 93, 25, 26, 27, 330, 331, 332, 333, 334, 335, 336, 337, 338, 339, 340, 341, 342, 343, 344, 345, 314, 315, 316, 317, 318, 319, 320, 321, 322, 323, 324, 325, 326, 327, 328, 329, 362, 363, 364, 365, 366, 367, 368, 369, 370, 371, 372, 373, 374, 375, 376, 346, 347, 348, 349, 350, 351, 352, 353, 354, 355, 356, 357, 358, 359, 360, 361, 377, 378, 379, 380, 381, 382, 383, 384] (by decide +kernel) (by decide +kernel)
set_option maxRecDepth 20000 in
theorem gX2_bundle_X2_findReads : GoodIn wsX2_bundle (wsV RX2 93 RX2 yX2_findReads wsX2_findReads) := goodIn_app (goodIn_of _ (by decide +kernel)) ggX2_bundle_X2_findReads
set_option maxRecDepth 20000 in
theorem ggX2_bundle_X2_findDepth : GoodIn wsX2_bundle wsX2_findDepth := goodIn_r _ [296, 6, 8, 50, 32, 297, 298, 299, 300, 40, 301, 238, 302, 303, 304, 305, 276, 277, 278, 306, 307, 308, 309, 43, 57, 107, 59, 65, 66, 67, 3, 68, 33, 310, 311, 312, 313, 108, 237, 109, 56, 47, 49, 60, 244, 245, 246, 247, 256, 257, 258, 259, 98, 4, 46, 260, 61, 62, 63, 64, 35, 261, 262, 263, 264, 265, 266, 267, 268, 269, 270, 82, 83, 84, 85, 86, 87, 88, 89, 271, 272, 273, 274, 275, 286, 287, 288, 289, 34, 29, 290, 291, 292, 91, 92, 93, 25, 26, 27, 330, 331, 332, 333, 334, 335, 336, 337, 338, 339, 340, 341, 342, 343, 344, 345, 314, 315, 316, 317, 318, 319, 320, 321, 322, 323, 324, 325, 326, 327, 328, 329, 362, 363, 364, 365, 366, 367, 368, 369, 370, 371, 372, 373, 374, 375, 376, 346, 347, 348, 349, 350, 351, 352, 353, 354, 355, 356, 357, 358, 359, 360, 361, 377, 378, 379, 380, 381, 382, 383, 384] (by decide +kernel) (by decide +kernel)
set_option maxRecDepth 20000 in
theorem gX2_bundle_X2_findDepth : GoodIn wsX2_bundle (wsV RX2 96 RX2 yX2_findDepth wsX2_findDepth) := goodIn_app (goodIn_of _ (by decide +kernel)) ggX2_bundle_X2_findDepth
theorem dX2_bundle_0 : decode cX2_bundle 0 = .ok (.aload_n 0, 1) := by decide +kernel
theorem dX2_bundle_1 : decode cX2_bundle 1 = .ok (.new 63, 3) := by decide +kernel
theorem dX2_bundle_4 : decode cX2_bundle 4 = .ok (.dup, 1) := by decide +kernel
theorem dX2_bundle_5 : decode cX2_bundle 5 = .ok (.aload_n 1, 1) := by decide +kernel
theorem dX2_bundle_6 : decode cX2_bundle 6 = .ok (.iload_n 2, 1) := by decide +kernel
theorem dX2_bundle_7 : decode cX2_bundle 7 = .ok (.aload_n 0, 1) := by decide +kernel
theorem dX2_bundle_8 : decode cX2_bundle 8 = .ok (.getfield 59, 3) := by decide +kernel
theorem dX2_bundle_11 : decode cX2_bundle 11 = .ok (.getfield 65, 3) := by decide +kernel
theorem dX2_bundle_14 : decode cX2_bundle 14 = .ok (.invokespecial 70, 3) := by decide +kernel
theorem dX2_bundle_17 : decode cX2_bundle 17 = .ok (.putfield 7, 3) := by decide +kernel
theorem dX2_bundle_20 : decode cX2_bundle 20 = .ok (.aload_n 0, 1) := by decide +kernel
theorem dX2_bundle_21 : decode cX2_bundle 21 = .ok (.invokevirtual 73, 3) := by decide +kernel
theorem dX2_bundle_24 : decode cX2_bundle 24 = .ok (.aload_n 0, 1) := by decide +kernel
theorem dX2_bundle_25 : decode cX2_bundle 25 = .ok (.invokevirtual 76, 3) := by decide +kernel
theorem dX2_bundle_28 : decode cX2_bundle 28 = .ok (.iconst 0, 1) := by decide +kernel
theorem dX2_bundle_29 : decode cX2_bundle 29 = .ok (.istore_n 3, 1) := by decide +kernel
theorem dX2_bundle_30 : decode cX2_bundle 30 = .ok (.iload_n 3, 1) := by decide +kernel
theorem dX2_bundle_31 : decode cX2_bundle 31 = .ok (.aload_n 0, 1) := by decide +kernel
theorem dX2_bundle_32 : decode cX2_bundle 32 = .ok (.getfield 7, 3) := by decide +kernel
theorem dX2_bundle_35 : decode cX2_bundle 35 = .ok (.getfield 79, 3) := by decide +kernel
theorem dX2_bundle_38 : decode cX2_bundle 38 = .ok (.if_icmp .ge 50, 3) := by decide +kernel
theorem dX2_bundle_88 : decode cX2_bundle 88 = .ok (.aload_n 0, 1) := by decide +kernel
theorem dX2_bundle_89 : decode cX2_bundle 89 = .ok (.getfield 7, 3) := by decide +kernel
theorem dX2_bundle_92 : decode cX2_bundle 92 = .ok (.getfield 82, 3) := by decide +kernel
theorem dX2_bundle_95 : decode cX2_bundle 95 = .ok (.ifCond .ne 11, 3) := by decide +kernel
theorem dX2_bundle_98 : decode cX2_bundle 98 = .ok (.aload_n 0, 1) := by decide +kernel
theorem dX2_bundle_99 : decode cX2_bundle 99 = .ok (.invokevirtual 93, 3) := by decide +kernel
theorem dX2_bundle_102 : decode cX2_bundle 102 = .ok (.aload_n 0, 1) := by decide +kernel
theorem dX2_bundle_103 : decode cX2_bundle 103 = .ok (.invokevirtual 96, 3) := by decide +kernel
theorem dX2_bundle_106 : decode cX2_bundle 106 = .ok (.aload_n 0, 1) := by decide +kernel
theorem dX2_bundle_107 : decode cX2_bundle 107 = .ok (.getfield 7, 3) := by decide +kernel
theorem dX2_bundle_110 : decode cX2_bundle 110 = .ok (.areturn, 1) := by decide +kernel
theorem dX2_gather_0 : decode cX2_gather 0 = .ok (.iconst 0, 1) := by decide +kernel
theorem dX2_gather_1 : decode cX2_gather 1 = .ok (.istore_n 1, 1) := by decide +kernel
theorem dX2_gather_2 : decode cX2_gather 2 = .ok (.iload_n 1, 1) := by decide +kernel
theorem dX2_gather_3 : decode cX2_gather 3 = .ok (.aload_n 0, 1) := by decide +kernel
theorem dX2_gather_4 : decode cX2_gather 4 = .ok (.getfield 7, 3) := by decide +kernel
theorem dX2_gather_7 : decode cX2_gather 7 = .ok (.getfield 99, 3) := by decide +kernel
theorem dX2_gather_10 : decode cX2_gather 10 = .ok (.if_icmp .ge 56, 3) := by decide +kernel
theorem dX2_gather_66 : decode cX2_gather 66 = .ok (.iconst 0, 1) := by decide +kernel
theorem dX2_gather_67 : decode cX2_gather 67 = .ok (.istore_n 1, 1) := by decide +kernel
theorem dX2_gather_68 : decode cX2_gather 68 = .ok (.iload_n 1, 1) := by decide +kernel
theorem dX2_gather_69 : decode cX2_gather 69 = .ok (.aload_n 0, 1) := by decide +kernel
theorem dX2_gather_70 : decode cX2_gather 70 = .ok (.getfield 7, 3) := by decide +kernel
theorem dX2_gather_73 : decode cX2_gather 73 = .ok (.getfield 99, 3) := by decide +kernel
theorem dX2_gather_76 : decode cX2_gather 76 = .ok (.if_icmp .ge 49, 3) := by decide +kernel
theorem dX2_gather_125 : decode cX2_gather 125 = .ok (.aload_n 0, 1) := by decide +kernel
theorem dX2_gather_126 : decode cX2_gather 126 = .ok (.getfield 7, 3) := by decide +kernel
theorem dX2_gather_129 : decode cX2_gather 129 = .ok (.aload_n 0, 1) := by decide +kernel
theorem dX2_gather_130 : decode cX2_gather 130 = .ok (.getfield 7, 3) := by decide +kernel
theorem dX2_gather_133 : decode cX2_gather 133 = .ok (.getfield 128, 3) := by decide +kernel
theorem dX2_gather_136 : decode cX2_gather 136 = .ok (.bipush 31, 2) := by decide +kernel
theorem dX2_gather_138 : decode cX2_gather 138 = .ok (.iadd, 1) := by decide +kernel
theorem dX2_gather_139 : decode cX2_gather 139 = .ok (.bipush 32, 2) := by decide +kernel
theorem dX2_gather_141 : decode cX2_gather 141 = .ok (.idiv, 1) := by decide +kernel
theorem dX2_gather_142 : decode cX2_gather 142 = .ok (.putfield 131, 3) := by decide +kernel
theorem dX2_gather_145 : decode cX2_gather 145 = .ok (.return_, 1) := by decide +kernel
theorem dX2_findClash_0 : decode cX2_findClash 0 = .ok (.iconst 0, 1) := by decide +kernel
theorem dX2_findClash_1 : decode cX2_findClash 1 = .ok (.istore_n 1, 1) := by decide +kernel
theorem dX2_findClash_2 : decode cX2_findClash 2 = .ok (.iload_n 1, 1) := by decide +kernel
theorem dX2_findClash_3 : decode cX2_findClash 3 = .ok (.aload_n 0, 1) := by decide +kernel
theorem dX2_findClash_4 : decode cX2_findClash 4 = .ok (.getfield 7, 3) := by decide +kernel
theorem dX2_findClash_7 : decode cX2_findClash 7 = .ok (.getfield 128, 3) := by decide +kernel
theorem dX2_findClash_10 : decode cX2_findClash 10 = .ok (.if_icmp .ge 36, 3) := by decide +kernel
theorem dX2_findClash_46 : decode cX2_findClash 46 = .ok (.iconst 0, 1) := by decide +kernel
theorem dX2_findClash_47 : decode cX2_findClash 47 = .ok (.istore_n 1, 1) := by decide +kernel
theorem dX2_findClash_48 : decode cX2_findClash 48 = .ok (.iconst 0, 1) := by decide +kernel
theorem dX2_findClash_49 : decode cX2_findClash 49 = .ok (.istore_n 2, 1) := by decide +kernel
theorem dX2_findClash_50 : decode cX2_findClash 50 = .ok (.iload_n 2, 1) := by decide +kernel
theorem dX2_findClash_51 : decode cX2_findClash 51 = .ok (.aload_n 0, 1) := by decide +kernel
theorem dX2_findClash_52 : decode cX2_findClash 52 = .ok (.getfield 7, 3) := by decide +kernel
theorem dX2_findClash_55 : decode cX2_findClash 55 = .ok (.getfield 99, 3) := by decide +kernel
theorem dX2_findClash_58 : decode cX2_findClash 58 = .ok (.if_icmp .ge 166, 3) := by decide +kernel
theorem dX2_findClash_224 : decode cX2_findClash 224 = .ok (.return_, 1) := by decide +kernel
theorem dX2_findReads_0 : decode cX2_findReads 0 = .ok (.aload_n 0, 1) := by decide +kernel
theorem dX2_findReads_1 : decode cX2_findReads 1 = .ok (.getfield 7, 3) := by decide +kernel
theorem dX2_findReads_4 : decode cX2_findReads 4 = .ok (.aload_n 0, 1) := by decide +kernel
theorem dX2_findReads_5 : decode cX2_findReads 5 = .ok (.getfield 7, 3) := by decide +kernel
theorem dX2_findReads_8 : decode cX2_findReads 8 = .ok (.getfield 128, 3) := by decide +kernel
theorem dX2_findReads_11 : decode cX2_findReads 11 = .ok (.aload_n 0, 1) := by decide +kernel
theorem dX2_findReads_12 : decode cX2_findReads 12 = .ok (.getfield 7, 3) := by decide +kernel
theorem dX2_findReads_15 : decode cX2_findReads 15 = .ok (.getfield 131, 3) := by decide +kernel
theorem dX2_findReads_18 : decode cX2_findReads 18 = .ok (.imul, 1) := by decide +kernel
theorem dX2_findReads_19 : decode cX2_findReads 19 = .ok (.newarray .int, 2) := by decide +kernel
theorem dX2_findReads_21 : decode cX2_findReads 21 = .ok (.putfield 306, 3) := by decide +kernel
theorem dX2_findReads_24 : decode cX2_findReads 24 = .ok (.iconst 0, 1) := by decide +kernel
theorem dX2_findReads_25 : decode cX2_findReads 25 = .ok (.istore_n 1, 1) := by decide +kernel
theorem dX2_findReads_26 : decode cX2_findReads 26 = .ok (.iload_n 1, 1) := by decide +kernel
theorem dX2_findReads_27 : decode cX2_findReads 27 = .ok (.aload_n 0, 1) := by decide +kernel
theorem dX2_findReads_28 : decode cX2_findReads 28 = .ok (.getfield 7, 3) := by decide +kernel
theorem dX2_findReads_31 : decode cX2_findReads 31 = .ok (.getfield 128, 3) := by decide +kernel
theorem dX2_findReads_34 : decode cX2_findReads 34 = .ok (.if_icmp .ge 118, 3) := by decide +kernel
theorem dX2_findReads_152 : decode cX2_findReads 152 = .ok (.iconst 0, 1) := by decide +kernel
theorem dX2_findReads_153 : decode cX2_findReads 153 = .ok (.istore_n 1, 1) := by decide +kernel
theorem dX2_findReads_154 : decode cX2_findReads 154 = .ok (.iload_n 1, 1) := by decide +kernel
theorem dX2_findReads_155 : decode cX2_findReads 155 = .ok (.aload_n 0, 1) := by decide +kernel
theorem dX2_findReads_156 : decode cX2_findReads 156 = .ok (.getfield 7, 3) := by decide +kernel
theorem dX2_findReads_159 : decode cX2_findReads 159 = .ok (.getfield 128, 3) := by decide +kernel
theorem dX2_findReads_162 : decode cX2_findReads 162 = .ok (.if_icmp .ge 87, 3) := by decide +kernel
theorem dX2_findReads_249 : decode cX2_findReads 249 = .ok (.aload_n 0, 1) := by decide +kernel
theorem dX2_findReads_250 : decode cX2_findReads 250 = .ok (.getfield 7, 3) := by decide +kernel
theorem dX2_findReads_253 : decode cX2_findReads 253 = .ok (.getfield 128, 3) := by decide +kernel
theorem dX2_findReads_256 : decode cX2_findReads 256 = .ok (.iconst 1, 1) := by decide +kernel
theorem dX2_findReads_257 : decode cX2_findReads 257 = .ok (.isub, 1) := by decide +kernel
theorem dX2_findReads_258 : decode cX2_findReads 258 = .ok (.istore_n 1, 1) := by decide +kernel
theorem dX2_findReads_259 : decode cX2_findReads 259 = .ok (.iload_n 1, 1) := by decide +kernel
theorem dX2_findReads_260 : decode cX2_findReads 260 = .ok (.ifCond .lt 85, 3) := by decide +kernel
theorem dX2_findReads_345 : decode cX2_findReads 345 = .ok (.return_, 1) := by decide +kernel
theorem dX2_findDepth_0 : decode cX2_findDepth 0 = .ok (.aload_n 0, 1) := by decide +kernel
theorem dX2_findDepth_1 : decode cX2_findDepth 1 = .ok (.getfield 7, 3) := by decide +kernel
theorem dX2_findDepth_4 : decode cX2_findDepth 4 = .ok (.getfield 82, 3) := by decide +kernel
theorem dX2_findDepth_7 : decode cX2_findDepth 7 = .ok (.ifCond .eq 4, 3) := by decide +kernel
theorem dX2_findDepth_11 : decode cX2_findDepth 11 = .ok (.aload_n 0, 1) := by decide +kernel
theorem dX2_findDepth_12 : decode cX2_findDepth 12 = .ok (.getfield 7, 3) := by decide +kernel
theorem dX2_findDepth_15 : decode cX2_findDepth 15 = .ok (.aload_n 0, 1) := by decide +kernel
theorem dX2_findDepth_16 : decode cX2_findDepth 16 = .ok (.getfield 7, 3) := by decide +kernel
theorem dX2_findDepth_19 : decode cX2_findDepth 19 = .ok (.getfield 128, 3) := by decide +kernel
theorem dX2_findDepth_22 : decode cX2_findDepth 22 = .ok (.newarray .int, 2) := by decide +kernel
theorem dX2_findDepth_24 : decode cX2_findDepth 24 = .ok (.putfield 327, 3) := by decide +kernel
theorem dX2_findDepth_27 : decode cX2_findDepth 27 = .ok (.aload_n 0, 1) := by decide +kernel
theorem dX2_findDepth_28 : decode cX2_findDepth 28 = .ok (.getfield 7, 3) := by decide +kernel
theorem dX2_findDepth_31 : decode cX2_findDepth 31 = .ok (.getfield 128, 3) := by decide +kernel
theorem dX2_findDepth_34 : decode cX2_findDepth 34 = .ok (.newarray .int, 2) := by decide +kernel
theorem dX2_findDepth_36 : decode cX2_findDepth 36 = .ok (.astore_n 1, 1) := by decide +kernel
theorem dX2_findDepth_37 : decode cX2_findDepth 37 = .ok (.iconst 0, 1) := by decide +kernel
theorem dX2_findDepth_38 : decode cX2_findDepth 38 = .ok (.istore_n 2, 1) := by decide +kernel
theorem dX2_findDepth_39 : decode cX2_findDepth 39 = .ok (.iload_n 2, 1) := by decide +kernel
theorem dX2_findDepth_40 : decode cX2_findDepth 40 = .ok (.aload_n 0, 1) := by decide +kernel
theorem dX2_findDepth_41 : decode cX2_findDepth 41 = .ok (.getfield 7, 3) := by decide +kernel
theorem dX2_findDepth_44 : decode cX2_findDepth 44 = .ok (.getfield 128, 3) := by decide +kernel
theorem dX2_findDepth_47 : decode cX2_findDepth 47 = .ok (.if_icmp .ge 85, 3) := by decide +kernel
theorem dX2_findDepth_132 : decode cX2_findDepth 132 = .ok (.aload_n 0, 1) := by decide +kernel
theorem dX2_findDepth_133 : decode cX2_findDepth 133 = .ok (.getfield 7, 3) := by decide +kernel
theorem dX2_findDepth_136 : decode cX2_findDepth 136 = .ok (.getfield 128, 3) := by decide +kernel
theorem dX2_findDepth_139 : decode cX2_findDepth 139 = .ok (.iconst 1, 1) := by decide +kernel
theorem dX2_findDepth_140 : decode cX2_findDepth 140 = .ok (.isub, 1) := by decide +kernel
theorem dX2_findDepth_141 : decode cX2_findDepth 141 = .ok (.istore_n 2, 1) := by decide +kernel
theorem dX2_findDepth_142 : decode cX2_findDepth 142 = .ok (.iload_n 2, 1) := by decide +kernel
theorem dX2_findDepth_143 : decode cX2_findDepth 143 = .ok (.ifCond .lt 27, 3) := by decide +kernel
theorem dX2_findDepth_170 : decode cX2_findDepth 170 = .ok (.return_, 1) := by decide +kernel
theorem dX3_finish_0 : decode cX3_finish 0 = .ok (.aload_n 0, 1) := by decide +kernel
theorem dX3_finish_1 : decode cX3_finish 1 = .ok (.aload_n 1, 1) := by decide +kernel
theorem dX3_finish_2 : decode cX3_finish 2 = .ok (.putfield 7, 3) := by decide +kernel
theorem dX3_finish_5 : decode cX3_finish 5 = .ok (.bipush 8, 2) := by decide +kernel
theorem dX3_finish_7 : decode cX3_finish 7 = .ok (.istore_n 2, 1) := by decide +kernel
theorem dX3_finish_8 : decode cX3_finish 8 = .ok (.iload_n 2, 1) := by decide +kernel
theorem dX3_finish_9 : decode cX3_finish 9 = .ok (.bipush 9, 2) := by decide +kernel
theorem dX3_finish_11 : decode cX3_finish 11 = .ok (.if_icmp .gt 176, 3) := by decide +kernel
theorem dX3_finish_14 : decode cX3_finish 14 = .ok (.iconst 0, 1) := by decide +kernel
theorem dX3_finish_15 : decode cX3_finish 15 = .ok (.istore_n 3, 1) := by decide +kernel
theorem dX3_finish_16 : decode cX3_finish 16 = .ok (.iload_n 3, 1) := by decide +kernel
theorem dX3_finish_17 : decode cX3_finish 17 = .ok (.aload_n 0, 1) := by decide +kernel
theorem dX3_finish_18 : decode cX3_finish 18 = .ok (.getfield 7, 3) := by decide +kernel
theorem dX3_finish_21 : decode cX3_finish 21 = .ok (.getfield 62, 3) := by decide +kernel
theorem dX3_finish_24 : decode cX3_finish 24 = .ok (.if_icmp .ge 157, 3) := by decide +kernel
theorem dX3_finish_181 : decode cX3_finish 181 = .ok (.iinc 2 1, 3) := by decide +kernel
theorem dX3_finish_184 : decode cX3_finish 184 = .ok (.goto (-176), 3) := by decide +kernel
theorem dX3_finish_187 : decode cX3_finish 187 = .ok (.return_, 1) := by decide +kernel
set_option maxRecDepth 20000 in
theorem ggX3_encode_J7_copyOf_59c91 : GoodIn wsX3_encode wsJ7_copyOf_59c91 := goodIn_r _ [355, 356, 357, 358, 359, 360, 361, 4, 362, 363, 350, 364, 365, 366, 367, 368] (by decide +kernel) (by decide +kernel)
set_option maxRecDepth 20000 in
theorem gX3_encode_J7_copyOf_59c91 : GoodIn wsX3_encode (va_wsS RX3 251 yJ7_copyOf_59c91 wsJ7_copyOf_59c91) := goodIn_app (goodIn_of _ (by decide +kernel)) ggX3_encode_J7_copyOf_59c91
theorem dX3_encode_0 : decode cX3_encode 0 = .ok (.aload_n 0, 1) := by decide +kernel
theorem dX3_encode_1 : decode cX3_encode 1 = .ok (.iconst 0, 1) := by decide +kernel
theorem dX3_encode_2 : decode cX3_encode 2 = .ok (.putfield 22, 3) := by decide +kernel
theorem dX3_encode_5 : decode cX3_encode 5 = .ok (.aload_n 0, 1) := by decide +kernel
theorem dX3_encode_6 : decode cX3_encode 6 = .ok (.getfield 7, 3) := by decide +kernel
theorem dX3_encode_9 : decode cX3_encode 9 = .ok (.getfield 238, 3) := by decide +kernel
theorem dX3_encode_12 : decode cX3_encode 12 = .ok (.bipush 9, 2) := by decide +kernel
theorem dX3_encode_14 : decode cX3_encode 14 = .ok (.imul, 1) := by decide +kernel
theorem dX3_encode_15 : decode cX3_encode 15 = .ok (.iconst 1, 1) := by decide +kernel
theorem dX3_encode_16 : decode cX3_encode 16 = .ok (.iadd, 1) := by decide +kernel
theorem dX3_encode_17 : decode cX3_encode 17 = .ok (.newarray .int, 2) := by decide +kernel
theorem dX3_encode_19 : decode cX3_encode 19 = .ok (.astore_n 1, 1) := by decide +kernel
theorem dX3_encode_20 : decode cX3_encode 20 = .ok (.iconst 0, 1) := by decide +kernel
theorem dX3_encode_21 : decode cX3_encode 21 = .ok (.istore_n 2, 1) := by decide +kernel
theorem dX3_encode_22 : decode cX3_encode 22 = .ok (.iconst 0, 1) := by decide +kernel
theorem dX3_encode_23 : decode cX3_encode 23 = .ok (.istore_n 3, 1) := by decide +kernel
theorem dX3_encode_24 : decode cX3_encode 24 = .ok (.iload_n 3, 1) := by decide +kernel
theorem dX3_encode_25 : decode cX3_encode 25 = .ok (.aload_n 0, 1) := by decide +kernel
theorem dX3_encode_26 : decode cX3_encode 26 = .ok (.getfield 7, 3) := by decide +kernel
theorem dX3_encode_29 : decode cX3_encode 29 = .ok (.getfield 238, 3) := by decide +kernel
theorem dX3_encode_32 : decode cX3_encode 32 = .ok (.if_icmp .ge 255, 3) := by decide +kernel
theorem dX3_encode_287 : decode cX3_encode 287 = .ok (.aload_n 0, 1) := by decide +kernel
theorem dX3_encode_288 : decode cX3_encode 288 = .ok (.getfield 7, 3) := by decide +kernel
theorem dX3_encode_291 : decode cX3_encode 291 = .ok (.aload_n 1, 1) := by decide +kernel
theorem dX3_encode_292 : decode cX3_encode 292 = .ok (.iload_n 2, 1) := by decide +kernel
theorem dX3_encode_293 : decode cX3_encode 293 = .ok (.iconst 1, 1) := by decide +kernel
theorem dX3_encode_294 : decode cX3_encode 294 = .ok (.iadd, 1) := by decide +kernel
theorem dX3_encode_295 : decode cX3_encode 295 = .ok (.invokestatic 251, 3) := by decide +kernel
theorem dX3_encode_298 : decode cX3_encode 298 = .ok (.putfield 257, 3) := by decide +kernel
theorem dX3_encode_301 : decode cX3_encode 301 = .ok (.aload_n 0, 1) := by decide +kernel
theorem dX3_encode_302 : decode cX3_encode 302 = .ok (.getfield 7, 3) := by decide +kernel
theorem dX3_encode_305 : decode cX3_encode 305 = .ok (.aload_n 0, 1) := by decide +kernel
theorem dX3_encode_306 : decode cX3_encode 306 = .ok (.getfield 18, 3) := by decide +kernel
theorem dX3_encode_309 : decode cX3_encode 309 = .ok (.aload_n 0, 1) := by decide +kernel
theorem dX3_encode_310 : decode cX3_encode 310 = .ok (.getfield 22, 3) := by decide +kernel
theorem dX3_encode_313 : decode cX3_encode 313 = .ok (.invokestatic 251, 3) := by decide +kernel
theorem dX3_encode_316 : decode cX3_encode 316 = .ok (.putfield 259, 3) := by decide +kernel
theorem dX3_encode_319 : decode cX3_encode 319 = .ok (.return_, 1) := by decide +kernel
theorem dJ7_copyOf_59c91_0 : decode cJ7_copyOf_59c91 0 = .ok (.iload_n 1, 1) := by decide +kernel
theorem dJ7_copyOf_59c91_1 : decode cJ7_copyOf_59c91 1 = .ok (.aload_n 0, 1) := by decide +kernel
theorem dJ7_copyOf_59c91_2 : decode cJ7_copyOf_59c91 2 = .ok (.arraylength, 1) := by decide +kernel
theorem dJ7_copyOf_59c91_3 : decode cJ7_copyOf_59c91 3 = .ok (.if_icmp .ne 11, 3) := by decide +kernel
theorem dJ7_copyOf_59c91_6 : decode cJ7_copyOf_59c91 6 = .ok (.aload_n 0, 1) := by decide +kernel
theorem dJ7_copyOf_59c91_7 : decode cJ7_copyOf_59c91 7 = .ok (.invokevirtual 316, 3) := by decide +kernel
theorem dJ7_copyOf_59c91_10 : decode cJ7_copyOf_59c91 10 = .ok (.checkcast 317, 3) := by decide +kernel
theorem dJ7_copyOf_59c91_13 : decode cJ7_copyOf_59c91 13 = .ok (.areturn, 1) := by decide +kernel
theorem dJ7_copyOf_59c91_14 : decode cJ7_copyOf_59c91 14 = .ok (.iload_n 1, 1) := by decide +kernel
theorem dJ7_copyOf_59c91_15 : decode cJ7_copyOf_59c91 15 = .ok (.newarray .int, 2) := by decide +kernel
theorem dJ7_copyOf_59c91_17 : decode cJ7_copyOf_59c91 17 = .ok (.astore_n 2, 1) := by decide +kernel
theorem dJ7_copyOf_59c91_18 : decode cJ7_copyOf_59c91 18 = .ok (.aload_n 0, 1) := by decide +kernel
theorem dJ7_copyOf_59c91_19 : decode cJ7_copyOf_59c91 19 = .ok (.iconst 0, 1) := by decide +kernel
theorem dJ7_copyOf_59c91_20 : decode cJ7_copyOf_59c91 20 = .ok (.aload_n 2, 1) := by decide +kernel
theorem dJ7_copyOf_59c91_21 : decode cJ7_copyOf_59c91 21 = .ok (.iconst 0, 1) := by decide +kernel
theorem dJ7_copyOf_59c91_22 : decode cJ7_copyOf_59c91 22 = .ok (.aload_n 0, 1) := by decide +kernel
theorem dJ7_copyOf_59c91_23 : decode cJ7_copyOf_59c91 23 = .ok (.arraylength, 1) := by decide +kernel
theorem dJ7_copyOf_59c91_24 : decode cJ7_copyOf_59c91 24 = .ok (.iload_n 1, 1) := by decide +kernel
theorem dJ7_copyOf_59c91_25 : decode cJ7_copyOf_59c91 25 = .ok (.invokestatic 304, 3) := by decide +kernel
theorem dJ7_copyOf_59c91_28 : decode cJ7_copyOf_59c91 28 = .ok (.invokestatic 150, 3) := by decide +kernel
theorem dJ7_copyOf_59c91_31 : decode cJ7_copyOf_59c91 31 = .ok (.aload_n 2, 1) := by decide +kernel
theorem dJ7_copyOf_59c91_32 : decode cJ7_copyOf_59c91 32 = .ok (.areturn, 1) := by decide +kernel
theorem inX1_init_X1 : ∀ w ∈ wsX10, w ∈ wsX1_init := fun _ h => (List.mem_cons_of_mem _ (List.mem_append_left _ (List.mem_append_right _ h)))
theorem inX2_bundle_X1 : ∀ w ∈ wsX10, w ∈ wsX2_bundle := fun _ h => (List.mem_cons_of_mem _ (List.mem_append_left _ (List.mem_append_left _ (List.mem_append_left _ (List.mem_append_left _ (List.mem_append_right _ h))))))
theorem inX2_bundle_X2 : ∀ w ∈ wsX20, w ∈ wsX2_bundle := fun _ h => (List.mem_cons_of_mem _ (List.mem_append_left _ (List.mem_append_left _ (List.mem_append_left _ (List.mem_append_right _ h)))))
theorem inX2_bundle_X6 : ∀ w ∈ wsX60, w ∈ wsX2_bundle := fun _ h => (List.mem_cons_of_mem _ (List.mem_append_left _ (List.mem_append_left _ (List.mem_append_right _ h))))
theorem inX2_findClash_X1 : ∀ w ∈ wsX10, w ∈ wsX2_findClash := fun _ h => (List.mem_cons_of_mem _ (List.mem_append_left _ (List.mem_append_left _ (List.mem_append_right _ h))))
theorem inX2_findClash_X2 : ∀ w ∈ wsX20, w ∈ wsX2_findClash := fun _ h => (List.mem_cons_of_mem _ (List.mem_append_left _ (List.mem_append_left _ (List.mem_append_left _ (List.mem_append_right _ h)))))
theorem inX2_findDepth_X1 : ∀ w ∈ wsX10, w ∈ wsX2_findDepth := fun _ h => (List.mem_cons_of_mem _ (List.mem_append_left _ (List.mem_append_left _ (List.mem_append_left _ (List.mem_append_right _ h)))))
theorem inX2_findDepth_X2 : ∀ w ∈ wsX20, w ∈ wsX2_findDepth := fun _ h => (List.mem_cons_of_mem _ (List.mem_append_left _ (List.mem_append_left _ (List.mem_append_left _ (List.mem_append_left _ (List.mem_append_right _ h))))))
theorem inX2_findReads_X1 : ∀ w ∈ wsX10, w ∈ wsX2_findReads := fun _ h => (List.mem_cons_of_mem _ (List.mem_append_left _ (List.mem_append_left _ (List.mem_append_left _ (List.mem_append_right _ h)))))
theorem inX2_findReads_X2 : ∀ w ∈ wsX20, w ∈ wsX2_findReads := fun _ h => (List.mem_cons_of_mem _ (List.mem_append_left _ (List.mem_append_left _ (List.mem_append_left _ (List.mem_append_left _ (List.mem_append_right _ h))))))
theorem inX2_gather_X1 : ∀ w ∈ wsX10, w ∈ wsX2_gather := fun _ h => (List.mem_cons_of_mem _ (List.mem_append_left _ (List.mem_append_left _ (List.mem_append_right _ h))))
theorem inX2_gather_X2 : ∀ w ∈ wsX20, w ∈ wsX2_gather := fun _ h => (List.mem_cons_of_mem _ (List.mem_append_left _ (List.mem_append_left _ (List.mem_append_left _ (List.mem_append_right _ h)))))
theorem inX3_encode_X1 : ∀ w ∈ wsX10, w ∈ wsX3_encode := fun _ h => (List.mem_cons_of_mem _ (List.mem_append_left _ (List.mem_append_left _ (List.mem_append_left _ (List.mem_append_left _ (List.mem_append_right _ h))))))
theorem inX3_encode_X3 : ∀ w ∈ wsX30, w ∈ wsX3_encode := fun _ h => (List.mem_cons_of_mem _ (List.mem_append_left _ (List.mem_append_left _ (List.mem_append_left _ (List.mem_append_left _ (List.mem_append_left _ (List.mem_append_right _ h)))))))
theorem inX3_finish_X1 : ∀ w ∈ wsX10, w ∈ wsX3_finish := fun _ h => (List.mem_cons_of_mem _ (List.mem_append_left _ (List.mem_append_left _ (List.mem_append_left _ (List.mem_append_left _ (List.mem_append_right _ h))))))
theorem inX3_finish_X3 : ∀ w ∈ wsX30, w ∈ wsX3_finish := fun _ h => (List.mem_cons_of_mem _ (List.mem_append_left _ (List.mem_append_left _ (List.mem_append_left _ (List.mem_append_left _ (List.mem_append_left _ (List.mem_append_right _ h)))))))
