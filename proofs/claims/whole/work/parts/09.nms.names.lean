abbrev cX6_stopOf : ByteArray := prog_8_method_2_code
def yX6_stopOf : MethodName := ⟨RX6, "stopOf", "(Ljava/lang/String;I)I"⟩
def wsX6_stopOf_r1 : List Cond := [Cond.methodLink RX6 75 yJ0_length_8abf5, Cond.instanceMethod yJ0_length_8abf5, Cond.selects RJ0 yJ0_length_8abf5 yJ0_length_8abf5, Cond.initialized RJ0, Cond.code yJ0_length_8abf5 cJ0_length_8abf5 1 (some .int), Cond.fieldLink RJ0 9 "java/lang/String" "value" "[B", Cond.methodLink RJ0 335 yJ0_coder_7d493, Cond.instanceMethod yJ0_coder_7d493, Cond.selects RJ0 yJ0_coder_7d493 yJ0_coder_7d493, Cond.code yJ0_coder_7d493 cJ0_coder_7d493 1 (some .byte), Cond.fieldLink RJ0 38 "java/lang/String" "COMPACT_STRINGS" "Z", Cond.fieldLink RJ0 15 "java/lang/String" "coder" "B", Cond.methodLink RX6 81 yJ0_charAt_5068e, Cond.instanceMethod yJ0_charAt_5068e, Cond.selects RJ0 yJ0_charAt_5068e yJ0_charAt_5068e, Cond.code yJ0_charAt_5068e cJ0_charAt_5068e 2 (some .char), Cond.methodLink RJ0 492 yJ0_isLatin1_aae02, Cond.instanceMethod yJ0_isLatin1_aae02, Cond.selects RJ0 yJ0_isLatin1_aae02 yJ0_isLatin1_aae02, Cond.code yJ0_isLatin1_aae02 cJ0_isLatin1_aae02 1 (some .boolean), Cond.methodLink RJ0 495 yJ1_charAt_3b067, Cond.static yJ1_charAt_3b067, Cond.initialized RJ1, Cond.code yJ1_charAt_3b067 cJ1_charAt_3b067 2 (some .char)]
def wsX6_stopOf_r2 : List Cond := [Cond.methodLink RJ1 9 yJ0_checkIndex_df160, Cond.static yJ0_checkIndex_df160, Cond.code yJ0_checkIndex_df160 cJ0_checkIndex_df160 2 none, Cond.fieldLink RJ0 1053 "jdk/internal/util/Preconditions" "SIOOBE_FORMATTER" "Ljava/util/function/BiFunction;", Cond.methodLink RJ0 1059 yJ3_checkIndex_8e157, Cond.static yJ3_checkIndex_8e157, Cond.initialized RJ3, Cond.code yJ3_checkIndex_8e157 cJ3_checkIndex_8e157 3 (some .int), Cond.methodLink RJ0 498 yJ2_charAt_3b067, Cond.static yJ2_charAt_3b067, Cond.initialized RJ2, Cond.code yJ2_charAt_3b067 cJ2_charAt_3b067 2 (some .char), Cond.methodLink RJ2 67 yJ2_checkIndex_2214a, Cond.static yJ2_checkIndex_2214a, Cond.code yJ2_checkIndex_2214a cJ2_checkIndex_2214a 2 none, Cond.methodLink RJ2 48 yJ2_length_9d52b, Cond.static yJ2_length_9d52b, Cond.code yJ2_length_9d52b cJ2_length_9d52b 1 (some .int), Cond.methodLink RJ2 414 yJ0_checkIndex_df160, Cond.methodLink RJ2 71 yJ2_getChar_3b067, Cond.static yJ2_getChar_3b067, Cond.code yJ2_getChar_3b067 cJ2_getChar_3b067 2 (some .char), Cond.fieldLink RJ2 44 "java/lang/StringUTF16" "$assertionsDisabled" "Z", Cond.fieldLink RJ2 59 "java/lang/StringUTF16" "HI_BYTE_SHIFT" "I"]
def wsX6_stopOf_r3 : List Cond := [Cond.fieldLink RJ2 63 "java/lang/StringUTF16" "LO_BYTE_SHIFT" "I"]
def wsX6_stopOf : List Cond := .code yX6_stopOf cX6_stopOf 3 (some .int) :: ((wsX6_stopOf_r1 ++ (wsX6_stopOf_r2 ++ wsX6_stopOf_r3)))
set_option maxRecDepth 20000 in
theorem ggX6_stopOf_J0_length_8abf5 : GoodIn wsX6_stopOf wsJ0_length_8abf5 := goodIn_r _ [5, 6, 7, 8, 9, 4, 10, 11, 12] (by decide +kernel) (by decide +kernel)
set_option maxRecDepth 20000 in
theorem gX6_stopOf_J0_length_8abf5 : GoodIn wsX6_stopOf (wsV RX6 75 RJ0 yJ0_length_8abf5 wsJ0_length_8abf5) := goodIn_app (goodIn_of _ (by decide +kernel)) ggX6_stopOf_J0_length_8abf5
set_option maxRecDepth 20000 in
theorem ggX6_stopOf_J0_charAt_5068e : GoodIn wsX6_stopOf wsJ0_charAt_5068e := goodIn_r _ [16, 6, 17, 18, 19, 4, 20, 11, 12, 21, 22, 23, 24, 25, 26, 27, 28, 29, 30, 31, 32, 33, 34, 35, 36, 37, 38, 39, 40, 41, 42, 43, 44, 45, 46, 47, 48, 49] (by decide +kernel) (by decide +kernel)
set_option maxRecDepth 20000 in
theorem gX6_stopOf_J0_charAt_5068e : GoodIn wsX6_stopOf (wsV RX6 81 RJ0 yJ0_charAt_5068e wsJ0_charAt_5068e) := goodIn_app (goodIn_of _ (by decide +kernel)) ggX6_stopOf_J0_charAt_5068e
theorem dX6_stopOf_0 : decode cX6_stopOf 0 = .ok (.iload_n 1, 1) := by decide +kernel
theorem dX6_stopOf_1 : decode cX6_stopOf 1 = .ok (.istore_n 2, 1) := by decide +kernel
theorem dX6_stopOf_2 : decode cX6_stopOf 2 = .ok (.iload_n 2, 1) := by decide +kernel
theorem dX6_stopOf_3 : decode cX6_stopOf 3 = .ok (.aload_n 0, 1) := by decide +kernel
theorem dX6_stopOf_4 : decode cX6_stopOf 4 = .ok (.invokevirtual 75, 3) := by decide +kernel
theorem dX6_stopOf_7 : decode cX6_stopOf 7 = .ok (.if_icmp .ge 19, 3) := by decide +kernel
theorem dX6_stopOf_10 : decode cX6_stopOf 10 = .ok (.aload_n 0, 1) := by decide +kernel
theorem dX6_stopOf_11 : decode cX6_stopOf 11 = .ok (.iload_n 2, 1) := by decide +kernel
theorem dX6_stopOf_12 : decode cX6_stopOf 12 = .ok (.invokevirtual 81, 3) := by decide +kernel
theorem dX6_stopOf_15 : decode cX6_stopOf 15 = .ok (.bipush 32, 2) := by decide +kernel
theorem dX6_stopOf_17 : decode cX6_stopOf 17 = .ok (.if_icmp .eq 9, 3) := by decide +kernel
theorem dX6_stopOf_20 : decode cX6_stopOf 20 = .ok (.iinc 2 1, 3) := by decide +kernel
theorem dX6_stopOf_23 : decode cX6_stopOf 23 = .ok (.goto (-21), 3) := by decide +kernel
theorem dX6_stopOf_26 : decode cX6_stopOf 26 = .ok (.iload_n 2, 1) := by decide +kernel
theorem dX6_stopOf_27 : decode cX6_stopOf 27 = .ok (.ireturn, 1) := by decide +kernel

