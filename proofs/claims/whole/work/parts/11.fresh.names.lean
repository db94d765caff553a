abbrev cX4_kind : ByteArray := prog_6_method_5_code
def yX4_kind : MethodName := ⟨RX4, "kind", "(I)I"⟩
abbrev cX4_size : ByteArray := prog_6_method_6_code
def yX4_size : MethodName := ⟨RX4, "size", "(I)I"⟩
abbrev cX4_weight : ByteArray := prog_6_method_9_code
def yX4_weight : MethodName := ⟨RX4, "weight", "(I)I"⟩
abbrev cX4_depth : ByteArray := prog_6_method_10_code
def yX4_depth : MethodName := ⟨RX4, "depth", "(I)I"⟩
abbrev cX4_compare : ByteArray := prog_6_method_19_code
def yX4_compare : MethodName := ⟨RX4, "compare", "(II)I"⟩
abbrev cX4_sort : ByteArray := prog_6_method_21_code
def yX4_sort : MethodName := ⟨RX4, "sort", "(III)V"⟩
abbrev cX4_made : ByteArray := prog_6_method_22_code
def yX4_made : MethodName := ⟨RX4, "made", "(IIZ)I"⟩
abbrev cX4_copy : ByteArray := prog_6_method_28_code
def yX4_copy : MethodName := ⟨RX4, "copy", "(I)I"⟩
abbrev cX4_copyTo : ByteArray := prog_6_method_29_code
def yX4_copyTo : MethodName := ⟨RX4, "copyTo", "(II)I"⟩
def RJ6 : String := "java/lang/Integer"
abbrev cJ6_compare_7cf53 : ByteArray := prog_25_method_40_code
def yJ6_compare_7cf53 : MethodName := ⟨RJ6, "compare", "(II)I"⟩
def RJ13 : String := "java/lang/Long"
abbrev cJ13_compare_74951 : ByteArray := prog_26_method_42_code
def yJ13_compare_74951 : MethodName := ⟨RJ13, "compare", "(JJ)I"⟩
def wsX4_kind : List Cond := .code yX4_kind cX4_kind 2 (some .int) :: ([.fieldLink RX4 10 "PolicyHouse$Heap" "cell" "[I"] ++ wsX40)
def wsX4_size : List Cond := .code yX4_size cX4_size 2 (some .int) :: ([.fieldLink RX4 10 "PolicyHouse$Heap" "cell" "[I"] ++ wsX40)
def wsX4_sort_r1 : List Cond := [Cond.methodLink RX4 91 Lib.Math.min.name, Cond.static Lib.Math.min.name, Cond.initialized "java/lang/Math", Cond.code Lib.Math.min.name Lib.Math.min.code 2 (some .int), Cond.fieldLink RX4 15 "PolicyHouse$Heap" "acc" "[I", Cond.fieldLink RX4 18 "PolicyHouse$Heap" "spare" "[I", Cond.methodLink RX4 73 arraycopyName, Cond.native arraycopyName, Cond.static arraycopyName, Cond.initialized "java/lang/System", Cond.methodLink RX4 96 yX4_compare, Cond.instanceMethod yX4_compare, Cond.selects RX4 yX4_compare yX4_compare, Cond.initialized RX4, Cond.code yX4_compare cX4_compare 11 (some .int), Cond.fieldLink RX4 10 "PolicyHouse$Heap" "cell" "[I", Cond.constantLong RX4 40 (4294967295), Cond.methodLink RX4 80 yJ6_compare_7cf53, Cond.static yJ6_compare_7cf53, Cond.initialized RJ6, Cond.code yJ6_compare_7cf53 cJ6_compare_7cf53 2 (some .int), Cond.methodLink RX4 86 yJ13_compare_74951, Cond.static yJ13_compare_74951, Cond.initialized RJ13]
def wsX4_sort_r2 : List Cond := [Cond.code yJ13_compare_74951 cJ13_compare_74951 4 (some .int)]
def wsX4_sort : List Cond := .code yX4_sort cX4_sort 13 none :: ((wsX4_sort_r1 ++ wsX4_sort_r2) ++ wsX40)
def wsX4_made_r1 : List Cond := [Cond.fieldLink RX4 21 "PolicyHouse$Heap" "used" "I", Cond.fieldLink RX4 15 "PolicyHouse$Heap" "acc" "[I", Cond.constant RX4 79 (60000), Cond.methodLink RX4 101 Lib.Math.max.name, Cond.static Lib.Math.max.name, Cond.initialized "java/lang/Math", Cond.code Lib.Math.max.name Lib.Math.max.code 2 (some .int), Cond.fieldLink RX4 10 "PolicyHouse$Heap" "cell" "[I", Cond.methodLink RX4 73 arraycopyName, Cond.native arraycopyName, Cond.static arraycopyName, Cond.initialized "java/lang/System", Cond.methodLink RX4 97 yX4_sort, Cond.instanceMethod yX4_sort, Cond.selects RX4 yX4_sort yX4_sort, Cond.initialized RX4, Cond.code yX4_sort cX4_sort 13 none, Cond.methodLink RX4 91 Lib.Math.min.name, Cond.static Lib.Math.min.name, Cond.code Lib.Math.min.name Lib.Math.min.code 2 (some .int), Cond.fieldLink RX4 18 "PolicyHouse$Heap" "spare" "[I", Cond.methodLink RX4 96 yX4_compare, Cond.instanceMethod yX4_compare, Cond.selects RX4 yX4_compare yX4_compare]
def wsX4_made_r2 : List Cond := [Cond.code yX4_compare cX4_compare 11 (some .int), Cond.constantLong RX4 40 (4294967295), Cond.methodLink RX4 80 yJ6_compare_7cf53, Cond.static yJ6_compare_7cf53, Cond.initialized RJ6, Cond.code yJ6_compare_7cf53 cJ6_compare_7cf53 2 (some .int), Cond.methodLink RX4 86 yJ13_compare_74951, Cond.static yJ13_compare_74951, Cond.initialized RJ13, Cond.code yJ13_compare_74951 cJ13_compare_74951 4 (some .int), Cond.methodLink RX4 52 yX4_weight, Cond.instanceMethod yX4_weight, Cond.selects RX4 yX4_weight yX4_weight, Cond.code yX4_weight cX4_weight 3 (some .int), Cond.methodLink RX4 55 yX4_depth, Cond.instanceMethod yX4_depth, Cond.selects RX4 yX4_depth yX4_depth, Cond.code yX4_depth cX4_depth 2 (some .int), Cond.methodLink RX4 62 yX4_room, Cond.instanceMethod yX4_room, Cond.selects RX4 yX4_room yX4_room, Cond.code yX4_room cX4_room 3 (some .int), Cond.fieldLink RX4 29 "PolicyHouse$Heap" "top" "I", Cond.fieldLink RX4 33 "PolicyHouse$Heap" "end" "I"]
def wsX4_made_r3 : List Cond := [Cond.fieldLink RX4 36 "PolicyHouse$Heap" "full" "Z", Cond.constant RX4 32 (820000), Cond.constant RX4 9 (886000)]
def wsX4_made : List Cond := .code yX4_made cX4_made 11 (some .int) :: ((wsX4_made_r1 ++ (wsX4_made_r2 ++ wsX4_made_r3)) ++ wsX40)
def wsX4_copy_r1 : List Cond := [Cond.fieldLink RX4 10 "PolicyHouse$Heap" "cell" "[I", Cond.methodLink RX4 73 arraycopyName, Cond.native arraycopyName, Cond.static arraycopyName, Cond.initialized "java/lang/System", Cond.methodLink RX4 42 yX4_kind, Cond.instanceMethod yX4_kind, Cond.selects RX4 yX4_kind yX4_kind, Cond.initialized RX4, Cond.code yX4_kind cX4_kind 2 (some .int), Cond.methodLink RX4 106 yX4_size, Cond.instanceMethod yX4_size, Cond.selects RX4 yX4_size yX4_size, Cond.code yX4_size cX4_size 2 (some .int), Cond.methodLink RX4 62 yX4_room, Cond.instanceMethod yX4_room, Cond.selects RX4 yX4_room yX4_room, Cond.code yX4_room cX4_room 3 (some .int), Cond.fieldLink RX4 29 "PolicyHouse$Heap" "top" "I", Cond.fieldLink RX4 33 "PolicyHouse$Heap" "end" "I", Cond.fieldLink RX4 36 "PolicyHouse$Heap" "full" "Z", Cond.constant RX4 32 (820000), Cond.constant RX4 9 (886000), Cond.methodLink RX4 112 yX4_copy]
def wsX4_copy_r2 : List Cond := [Cond.instanceMethod yX4_copy, Cond.selects RX4 yX4_copy yX4_copy]
def wsX4_copy : List Cond := .code yX4_copy cX4_copy 7 (some .int) :: ((wsX4_copy_r1 ++ wsX4_copy_r2) ++ wsX40)
def wsX4_copyTo_r1 : List Cond := [Cond.fieldLink RX4 29 "PolicyHouse$Heap" "top" "I", Cond.constant RX4 79 (60000), Cond.methodLink RX4 112 yX4_copy, Cond.instanceMethod yX4_copy, Cond.selects RX4 yX4_copy yX4_copy, Cond.initialized RX4, Cond.code yX4_copy cX4_copy 7 (some .int), Cond.fieldLink RX4 10 "PolicyHouse$Heap" "cell" "[I", Cond.methodLink RX4 73 arraycopyName, Cond.native arraycopyName, Cond.static arraycopyName, Cond.initialized "java/lang/System", Cond.methodLink RX4 42 yX4_kind, Cond.instanceMethod yX4_kind, Cond.selects RX4 yX4_kind yX4_kind, Cond.code yX4_kind cX4_kind 2 (some .int), Cond.methodLink RX4 106 yX4_size, Cond.instanceMethod yX4_size, Cond.selects RX4 yX4_size yX4_size, Cond.code yX4_size cX4_size 2 (some .int), Cond.methodLink RX4 62 yX4_room, Cond.instanceMethod yX4_room, Cond.selects RX4 yX4_room yX4_room, Cond.code yX4_room cX4_room 3 (some .int)]
def wsX4_copyTo_r2 : List Cond := [Cond.fieldLink RX4 33 "PolicyHouse$Heap" "end" "I", Cond.fieldLink RX4 36 "PolicyHouse$Heap" "full" "Z", Cond.constant RX4 32 (820000), Cond.constant RX4 9 (886000)]
def wsX4_copyTo : List Cond := .code yX4_copyTo cX4_copyTo 5 (some .int) :: ((wsX4_copyTo_r1 ++ wsX4_copyTo_r2) ++ wsX40)
theorem dX4_kind_0 : decode cX4_kind 0 = .ok (.aload_n 0, 1) := by decide +kernel
theorem dX4_kind_1 : decode cX4_kind 1 = .ok (.getfield 10, 3) := by decide +kernel
theorem dX4_kind_4 : decode cX4_kind 4 = .ok (.iload_n 1, 1) := by decide +kernel
theorem dX4_kind_5 : decode cX4_kind 5 = .ok (.iaload, 1) := by decide +kernel
theorem dX4_kind_6 : decode cX4_kind 6 = .ok (.bipush 15, 2) := by decide +kernel
theorem dX4_kind_8 : decode cX4_kind 8 = .ok (.iand, 1) := by decide +kernel
theorem dX4_kind_9 : decode cX4_kind 9 = .ok (.ireturn, 1) := by decide +kernel
theorem dX4_size_0 : decode cX4_size 0 = .ok (.aload_n 0, 1) := by decide +kernel
theorem dX4_size_1 : decode cX4_size 1 = .ok (.getfield 10, 3) := by decide +kernel
theorem dX4_size_4 : decode cX4_size 4 = .ok (.iload_n 1, 1) := by decide +kernel
theorem dX4_size_5 : decode cX4_size 5 = .ok (.iaload, 1) := by decide +kernel
theorem dX4_size_6 : decode cX4_size 6 = .ok (.iconst 4, 1) := by decide +kernel
theorem dX4_size_7 : decode cX4_size 7 = .ok (.iushr, 1) := by decide +kernel
theorem dX4_size_8 : decode cX4_size 8 = .ok (.ireturn, 1) := by decide +kernel
theorem dX4_sort_0 : decode cX4_sort 0 = .ok (.iconst 1, 1) := by decide +kernel
theorem dX4_sort_1 : decode cX4_sort 1 = .ok (.istore 4, 2) := by decide +kernel
theorem dX4_sort_3 : decode cX4_sort 3 = .ok (.iload 4, 2) := by decide +kernel
theorem dX4_sort_5 : decode cX4_sort 5 = .ok (.iload_n 2, 1) := by decide +kernel
theorem dX4_sort_6 : decode cX4_sort 6 = .ok (.if_icmp .ge 227, 3) := by decide +kernel
theorem dX4_sort_233 : decode cX4_sort 233 = .ok (.return_, 1) := by decide +kernel
set_option maxRecDepth 20000 in
theorem ggX4_made_X4_sort : GoodIn wsX4_made wsX4_sort := goodIn_r _ [17, 18, 19, 6, 20, 2, 21, 9, 10, 11, 12, 22, 23, 24, 16, 25, 8, 26, 27, 28, 29, 30, 31, 32, 33, 34, 52, 53, 54, 55, 56, 57, 58, 59] (by decide +kernel) (by decide +kernel)
set_option maxRecDepth 20000 in
theorem gX4_made_X4_sort : GoodIn wsX4_made (wsV RX4 97 RX4 yX4_sort wsX4_sort) := goodIn_app (goodIn_of _ (by decide +kernel)) ggX4_made_X4_sort
set_option maxRecDepth 20000 in
theorem ggX4_made_X4_room : GoodIn wsX4_made wsX4_room := goodIn_r _ [46, 47, 48, 49, 50, 51, 52, 53, 54, 55, 56, 57, 58, 59] (by decide +kernel) (by decide +kernel)
set_option maxRecDepth 20000 in
theorem gX4_made_X4_room : GoodIn wsX4_made (wsV RX4 62 RX4 yX4_room wsX4_room) := goodIn_app (goodIn_of _ (by decide +kernel)) ggX4_made_X4_room
theorem dX4_made_0 : decode cX4_made 0 = .ok (.iload_n 1, 1) := by decide +kernel
theorem dX4_made_1 : decode cX4_made 1 = .ok (.bipush 6, 2) := by decide +kernel
theorem dX4_made_3 : decode cX4_made 3 = .ok (.if_icmp .ne 7, 3) := by decide +kernel
theorem dX4_made_6 : decode cX4_made 6 = .ok (.iconst 2, 1) := by decide +kernel
theorem dX4_made_7 : decode cX4_made 7 = .ok (.goto 4, 3) := by decide +kernel
theorem dX4_made_11 : decode cX4_made 11 = .ok (.istore 4, 2) := by decide +kernel
theorem dX4_made_13 : decode cX4_made 13 = .ok (.aload_n 0, 1) := by decide +kernel
theorem dX4_made_14 : decode cX4_made 14 = .ok (.getfield 21, 3) := by decide +kernel
theorem dX4_made_17 : decode cX4_made 17 = .ok (.iload_n 2, 1) := by decide +kernel
theorem dX4_made_18 : decode cX4_made 18 = .ok (.isub, 1) := by decide +kernel
theorem dX4_made_19 : decode cX4_made 19 = .ok (.iload 4, 2) := by decide +kernel
theorem dX4_made_21 : decode cX4_made 21 = .ok (.idiv, 1) := by decide +kernel
theorem dX4_made_22 : decode cX4_made 22 = .ok (.istore 5, 2) := by decide +kernel
theorem dX4_made_24 : decode cX4_made 24 = .ok (.aload_n 0, 1) := by decide +kernel
theorem dX4_made_25 : decode cX4_made 25 = .ok (.iload_n 2, 1) := by decide +kernel
theorem dX4_made_26 : decode cX4_made 26 = .ok (.putfield 21, 3) := by decide +kernel
theorem dX4_made_29 : decode cX4_made 29 = .ok (.iload_n 1, 1) := by decide +kernel
theorem dX4_made_30 : decode cX4_made 30 = .ok (.iconst 5, 1) := by decide +kernel
theorem dX4_made_31 : decode cX4_made 31 = .ok (.if_icmp .eq 187, 3) := by decide +kernel
theorem dX4_made_34 : decode cX4_made 34 = .ok (.aload_n 0, 1) := by decide +kernel
theorem dX4_made_35 : decode cX4_made 35 = .ok (.iload_n 2, 1) := by decide +kernel
theorem dX4_made_36 : decode cX4_made 36 = .ok (.iload 5, 2) := by decide +kernel
theorem dX4_made_38 : decode cX4_made 38 = .ok (.iload 4, 2) := by decide +kernel
theorem dX4_made_40 : decode cX4_made 40 = .ok (.invokevirtual 97, 3) := by decide +kernel
theorem dX4_made_43 : decode cX4_made 43 = .ok (.iconst 0, 1) := by decide +kernel
theorem dX4_made_44 : decode cX4_made 44 = .ok (.istore 6, 2) := by decide +kernel
theorem dX4_made_46 : decode cX4_made 46 = .ok (.iconst 0, 1) := by decide +kernel
theorem dX4_made_47 : decode cX4_made 47 = .ok (.istore 7, 2) := by decide +kernel
theorem dX4_made_49 : decode cX4_made 49 = .ok (.iload 7, 2) := by decide +kernel
theorem dX4_made_51 : decode cX4_made 51 = .ok (.iload 5, 2) := by decide +kernel
theorem dX4_made_53 : decode cX4_made 53 = .ok (.if_icmp .ge 161, 3) := by decide +kernel
theorem dX4_made_214 : decode cX4_made 214 = .ok (.iload 6, 2) := by decide +kernel
theorem dX4_made_216 : decode cX4_made 216 = .ok (.istore 5, 2) := by decide +kernel
theorem dX4_made_218 : decode cX4_made 218 = .ok (.iconst 1, 1) := by decide +kernel
theorem dX4_made_219 : decode cX4_made 219 = .ok (.istore 6, 2) := by decide +kernel
theorem dX4_made_221 : decode cX4_made 221 = .ok (.iconst 0, 1) := by decide +kernel
theorem dX4_made_222 : decode cX4_made 222 = .ok (.istore 7, 2) := by decide +kernel
theorem dX4_made_224 : decode cX4_made 224 = .ok (.iload_n 2, 1) := by decide +kernel
theorem dX4_made_225 : decode cX4_made 225 = .ok (.istore 8, 2) := by decide +kernel
theorem dX4_made_227 : decode cX4_made 227 = .ok (.iload 8, 2) := by decide +kernel
theorem dX4_made_229 : decode cX4_made 229 = .ok (.iload_n 2, 1) := by decide +kernel
theorem dX4_made_230 : decode cX4_made 230 = .ok (.iload 5, 2) := by decide +kernel
theorem dX4_made_232 : decode cX4_made 232 = .ok (.iload 4, 2) := by decide +kernel
theorem dX4_made_234 : decode cX4_made 234 = .ok (.imul, 1) := by decide +kernel
theorem dX4_made_235 : decode cX4_made 235 = .ok (.iadd, 1) := by decide +kernel
theorem dX4_made_236 : decode cX4_made 236 = .ok (.if_icmp .ge 50, 3) := by decide +kernel
theorem dX4_made_286 : decode cX4_made 286 = .ok (.iload 6, 2) := by decide +kernel
theorem dX4_made_288 : decode cX4_made 288 = .ok (.iload_n 3, 1) := by decide +kernel
theorem dX4_made_289 : decode cX4_made 289 = .ok (.ifCond .eq 8, 3) := by decide +kernel
theorem dX4_made_292 : decode cX4_made 292 = .ok (.ldc 79, 2) := by decide +kernel
theorem dX4_made_294 : decode cX4_made 294 = .ok (.goto 6, 3) := by decide +kernel
theorem dX4_made_300 : decode cX4_made 300 = .ok (.if_icmp .gt 19, 3) := by decide +kernel
theorem dX4_made_303 : decode cX4_made 303 = .ok (.iload 7, 2) := by decide +kernel
theorem dX4_made_305 : decode cX4_made 305 = .ok (.iload_n 3, 1) := by decide +kernel
theorem dX4_made_306 : decode cX4_made 306 = .ok (.ifCond .eq 8, 3) := by decide +kernel
theorem dX4_made_309 : decode cX4_made 309 = .ok (.bipush 62, 2) := by decide +kernel
theorem dX4_made_311 : decode cX4_made 311 = .ok (.goto 5, 3) := by decide +kernel
theorem dX4_made_316 : decode cX4_made 316 = .ok (.if_icmp .lt 5, 3) := by decide +kernel
theorem dX4_made_321 : decode cX4_made 321 = .ok (.aload_n 0, 1) := by decide +kernel
theorem dX4_made_322 : decode cX4_made 322 = .ok (.iload 5, 2) := by decide +kernel
theorem dX4_made_324 : decode cX4_made 324 = .ok (.iload 4, 2) := by decide +kernel
theorem dX4_made_326 : decode cX4_made 326 = .ok (.imul, 1) := by decide +kernel
theorem dX4_made_327 : decode cX4_made 327 = .ok (.iconst 2, 1) := by decide +kernel
theorem dX4_made_328 : decode cX4_made 328 = .ok (.iadd, 1) := by decide +kernel
theorem dX4_made_329 : decode cX4_made 329 = .ok (.invokevirtual 62, 3) := by decide +kernel
theorem dX4_made_332 : decode cX4_made 332 = .ok (.istore 8, 2) := by decide +kernel
theorem dX4_made_334 : decode cX4_made 334 = .ok (.aload_n 0, 1) := by decide +kernel
theorem dX4_made_335 : decode cX4_made 335 = .ok (.getfield 10, 3) := by decide +kernel
theorem dX4_made_338 : decode cX4_made 338 = .ok (.iload 8, 2) := by decide +kernel
theorem dX4_made_340 : decode cX4_made 340 = .ok (.iload_n 1, 1) := by decide +kernel
theorem dX4_made_341 : decode cX4_made 341 = .ok (.iload 5, 2) := by decide +kernel
theorem dX4_made_343 : decode cX4_made 343 = .ok (.iconst 4, 1) := by decide +kernel
theorem dX4_made_344 : decode cX4_made 344 = .ok (.ishl, 1) := by decide +kernel
theorem dX4_made_345 : decode cX4_made 345 = .ok (.ior, 1) := by decide +kernel
theorem dX4_made_346 : decode cX4_made 346 = .ok (.iastore, 1) := by decide +kernel
theorem dX4_made_347 : decode cX4_made 347 = .ok (.aload_n 0, 1) := by decide +kernel
theorem dX4_made_348 : decode cX4_made 348 = .ok (.getfield 10, 3) := by decide +kernel
theorem dX4_made_351 : decode cX4_made 351 = .ok (.iload 8, 2) := by decide +kernel
theorem dX4_made_353 : decode cX4_made 353 = .ok (.iconst 1, 1) := by decide +kernel
theorem dX4_made_354 : decode cX4_made 354 = .ok (.iadd, 1) := by decide +kernel
theorem dX4_made_355 : decode cX4_made 355 = .ok (.iload 6, 2) := by decide +kernel
theorem dX4_made_357 : decode cX4_made 357 = .ok (.bipush 6, 2) := by decide +kernel
theorem dX4_made_359 : decode cX4_made 359 = .ok (.ishl, 1) := by decide +kernel
theorem dX4_made_360 : decode cX4_made 360 = .ok (.iload 7, 2) := by decide +kernel
theorem dX4_made_362 : decode cX4_made 362 = .ok (.iconst 1, 1) := by decide +kernel
theorem dX4_made_363 : decode cX4_made 363 = .ok (.iadd, 1) := by decide +kernel
theorem dX4_made_364 : decode cX4_made 364 = .ok (.ior, 1) := by decide +kernel
theorem dX4_made_365 : decode cX4_made 365 = .ok (.iastore, 1) := by decide +kernel
theorem dX4_made_366 : decode cX4_made 366 = .ok (.aload_n 0, 1) := by decide +kernel
theorem dX4_made_367 : decode cX4_made 367 = .ok (.getfield 15, 3) := by decide +kernel
theorem dX4_made_370 : decode cX4_made 370 = .ok (.iload_n 2, 1) := by decide +kernel
theorem dX4_made_371 : decode cX4_made 371 = .ok (.aload_n 0, 1) := by decide +kernel
theorem dX4_made_372 : decode cX4_made 372 = .ok (.getfield 10, 3) := by decide +kernel
theorem dX4_made_375 : decode cX4_made 375 = .ok (.iload 8, 2) := by decide +kernel
theorem dX4_made_377 : decode cX4_made 377 = .ok (.iconst 2, 1) := by decide +kernel
theorem dX4_made_378 : decode cX4_made 378 = .ok (.iadd, 1) := by decide +kernel
theorem dX4_made_379 : decode cX4_made 379 = .ok (.iload 5, 2) := by decide +kernel
theorem dX4_made_381 : decode cX4_made 381 = .ok (.iload 4, 2) := by decide +kernel
theorem dX4_made_383 : decode cX4_made 383 = .ok (.imul, 1) := by decide +kernel
theorem dX4_made_384 : decode cX4_made 384 = .ok (.invokestatic 73, 3) := by decide +kernel
theorem dX4_made_387 : decode cX4_made 387 = .ok (.iload 8, 2) := by decide +kernel
theorem dX4_made_389 : decode cX4_made 389 = .ok (.ireturn, 1) := by decide +kernel
set_option maxRecDepth 20000 in
theorem ggX4_copy_X4_kind : GoodIn wsX4_copy wsX4_kind := goodIn_r _ [10, 1, 27, 28, 29, 30, 31, 32, 33, 34] (by decide +kernel) (by decide +kernel)
set_option maxRecDepth 20000 in
theorem gX4_copy_X4_kind : GoodIn wsX4_copy (wsV RX4 42 RX4 yX4_kind wsX4_kind) := goodIn_app (goodIn_of _ (by decide +kernel)) ggX4_copy_X4_kind
set_option maxRecDepth 20000 in
theorem ggX4_copy_X4_size : GoodIn wsX4_copy wsX4_size := goodIn_r _ [14, 1, 27, 28, 29, 30, 31, 32, 33, 34] (by decide +kernel) (by decide +kernel)
set_option maxRecDepth 20000 in
theorem gX4_copy_X4_size : GoodIn wsX4_copy (wsV RX4 106 RX4 yX4_size wsX4_size) := goodIn_app (goodIn_of _ (by decide +kernel)) ggX4_copy_X4_size
set_option maxRecDepth 20000 in
theorem ggX4_copy_X4_room : GoodIn wsX4_copy wsX4_room := goodIn_r _ [18, 19, 20, 21, 22, 23, 27, 28, 29, 30, 31, 32, 33, 34] (by decide +kernel) (by decide +kernel)
set_option maxRecDepth 20000 in
theorem gX4_copy_X4_room : GoodIn wsX4_copy (wsV RX4 62 RX4 yX4_room wsX4_room) := goodIn_app (goodIn_of _ (by decide +kernel)) ggX4_copy_X4_room
theorem dX4_copy_0 : decode cX4_copy 0 = .ok (.aload_n 0, 1) := by decide +kernel
theorem dX4_copy_1 : decode cX4_copy 1 = .ok (.iload_n 1, 1) := by decide +kernel
theorem dX4_copy_2 : decode cX4_copy 2 = .ok (.invokevirtual 42, 3) := by decide +kernel
theorem dX4_copy_5 : decode cX4_copy 5 = .ok (.istore_n 2, 1) := by decide +kernel
theorem dX4_copy_6 : decode cX4_copy 6 = .ok (.iload_n 2, 1) := by decide +kernel
theorem dX4_copy_7 : decode cX4_copy 7 = .ok (.iconst 3, 1) := by decide +kernel
theorem dX4_copy_8 : decode cX4_copy 8 = .ok (.if_icmp .ge 5, 3) := by decide +kernel
theorem dX4_copy_13 : decode cX4_copy 13 = .ok (.aload_n 0, 1) := by decide +kernel
theorem dX4_copy_14 : decode cX4_copy 14 = .ok (.iload_n 1, 1) := by decide +kernel
theorem dX4_copy_15 : decode cX4_copy 15 = .ok (.invokevirtual 106, 3) := by decide +kernel
theorem dX4_copy_18 : decode cX4_copy 18 = .ok (.istore_n 3, 1) := by decide +kernel
theorem dX4_copy_19 : decode cX4_copy 19 = .ok (.iload_n 2, 1) := by decide +kernel
theorem dX4_copy_20 : decode cX4_copy 20 = .ok (.iconst 3, 1) := by decide +kernel
theorem dX4_copy_21 : decode cX4_copy 21 = .ok (.if_icmp .ne 7, 3) := by decide +kernel
theorem dX4_copy_28 : decode cX4_copy 28 = .ok (.iload_n 2, 1) := by decide +kernel
theorem dX4_copy_29 : decode cX4_copy 29 = .ok (.iconst 4, 1) := by decide +kernel
theorem dX4_copy_30 : decode cX4_copy 30 = .ok (.if_icmp .ne 9, 3) := by decide +kernel
theorem dX4_copy_39 : decode cX4_copy 39 = .ok (.iload_n 2, 1) := by decide +kernel
theorem dX4_copy_40 : decode cX4_copy 40 = .ok (.bipush 6, 2) := by decide +kernel
theorem dX4_copy_42 : decode cX4_copy 42 = .ok (.if_icmp .ne 11, 3) := by decide +kernel
theorem dX4_copy_45 : decode cX4_copy 45 = .ok (.iconst 2, 1) := by decide +kernel
theorem dX4_copy_46 : decode cX4_copy 46 = .ok (.iload_n 3, 1) := by decide +kernel
theorem dX4_copy_47 : decode cX4_copy 47 = .ok (.imul, 1) := by decide +kernel
theorem dX4_copy_48 : decode cX4_copy 48 = .ok (.iconst 2, 1) := by decide +kernel
theorem dX4_copy_49 : decode cX4_copy 49 = .ok (.iadd, 1) := by decide +kernel
theorem dX4_copy_50 : decode cX4_copy 50 = .ok (.goto 6, 3) := by decide +kernel
theorem dX4_copy_56 : decode cX4_copy 56 = .ok (.istore 4, 2) := by decide +kernel
theorem dX4_copy_58 : decode cX4_copy 58 = .ok (.aload_n 0, 1) := by decide +kernel
theorem dX4_copy_59 : decode cX4_copy 59 = .ok (.iload 4, 2) := by decide +kernel
theorem dX4_copy_61 : decode cX4_copy 61 = .ok (.invokevirtual 62, 3) := by decide +kernel
theorem dX4_copy_64 : decode cX4_copy 64 = .ok (.istore 5, 2) := by decide +kernel
theorem dX4_copy_66 : decode cX4_copy 66 = .ok (.aload_n 0, 1) := by decide +kernel
theorem dX4_copy_67 : decode cX4_copy 67 = .ok (.getfield 10, 3) := by decide +kernel
theorem dX4_copy_70 : decode cX4_copy 70 = .ok (.iload_n 1, 1) := by decide +kernel
theorem dX4_copy_71 : decode cX4_copy 71 = .ok (.aload_n 0, 1) := by decide +kernel
theorem dX4_copy_72 : decode cX4_copy 72 = .ok (.getfield 10, 3) := by decide +kernel
theorem dX4_copy_75 : decode cX4_copy 75 = .ok (.iload 5, 2) := by decide +kernel
theorem dX4_copy_77 : decode cX4_copy 77 = .ok (.iload 4, 2) := by decide +kernel
theorem dX4_copy_79 : decode cX4_copy 79 = .ok (.invokestatic 73, 3) := by decide +kernel
theorem dX4_copy_82 : decode cX4_copy 82 = .ok (.iload_n 2, 1) := by decide +kernel
theorem dX4_copy_83 : decode cX4_copy 83 = .ok (.iconst 5, 1) := by decide +kernel
theorem dX4_copy_84 : decode cX4_copy 84 = .ok (.if_icmp .lt 42, 3) := by decide +kernel
theorem dX4_copy_87 : decode cX4_copy 87 = .ok (.iconst 2, 1) := by decide +kernel
theorem dX4_copy_88 : decode cX4_copy 88 = .ok (.istore 6, 2) := by decide +kernel
theorem dX4_copy_90 : decode cX4_copy 90 = .ok (.iload 6, 2) := by decide +kernel
theorem dX4_copy_92 : decode cX4_copy 92 = .ok (.iload 4, 2) := by decide +kernel
theorem dX4_copy_94 : decode cX4_copy 94 = .ok (.if_icmp .ge 32, 3) := by decide +kernel
theorem dX4_copy_126 : decode cX4_copy 126 = .ok (.iload 5, 2) := by decide +kernel
theorem dX4_copy_128 : decode cX4_copy 128 = .ok (.ireturn, 1) := by decide +kernel
set_option maxRecDepth 20000 in
theorem ggX4_copyTo_X4_copy : GoodIn wsX4_copyTo wsX4_copy := goodIn_r _ [7, 8, 9, 10, 11, 12, 13, 14, 15, 6, 16, 17, 18, 19, 20, 21, 22, 23, 24, 1, 25, 26, 27, 28, 3, 4, 5, 29, 30, 31, 32, 33, 34, 35, 36] (by decide +kernel) (by decide +kernel)
set_option maxRecDepth 20000 in
theorem gX4_copyTo_X4_copy : GoodIn wsX4_copyTo (wsV RX4 112 RX4 yX4_copy wsX4_copy) := goodIn_app (goodIn_of _ (by decide +kernel)) ggX4_copyTo_X4_copy
theorem dX4_copyTo_0 : decode cX4_copyTo 0 = .ok (.aload_n 0, 1) := by decide +kernel
theorem dX4_copyTo_1 : decode cX4_copyTo 1 = .ok (.getfield 29, 3) := by decide +kernel
theorem dX4_copyTo_4 : decode cX4_copyTo 4 = .ok (.istore_n 3, 1) := by decide +kernel
theorem dX4_copyTo_5 : decode cX4_copyTo 5 = .ok (.aload_n 0, 1) := by decide +kernel
theorem dX4_copyTo_6 : decode cX4_copyTo 6 = .ok (.ldc 79, 2) := by decide +kernel
theorem dX4_copyTo_8 : decode cX4_copyTo 8 = .ok (.iload_n 1, 1) := by decide +kernel
theorem dX4_copyTo_9 : decode cX4_copyTo 9 = .ok (.sipush 16500, 3) := by decide +kernel
theorem dX4_copyTo_12 : decode cX4_copyTo 12 = .ok (.imul, 1) := by decide +kernel
theorem dX4_copyTo_13 : decode cX4_copyTo 13 = .ok (.iadd, 1) := by decide +kernel
theorem dX4_copyTo_14 : decode cX4_copyTo 14 = .ok (.putfield 29, 3) := by decide +kernel
theorem dX4_copyTo_17 : decode cX4_copyTo 17 = .ok (.aload_n 0, 1) := by decide +kernel
theorem dX4_copyTo_18 : decode cX4_copyTo 18 = .ok (.iload_n 2, 1) := by decide +kernel
theorem dX4_copyTo_19 : decode cX4_copyTo 19 = .ok (.invokevirtual 112, 3) := by decide +kernel
theorem dX4_copyTo_22 : decode cX4_copyTo 22 = .ok (.istore 4, 2) := by decide +kernel
theorem dX4_copyTo_24 : decode cX4_copyTo 24 = .ok (.aload_n 0, 1) := by decide +kernel
theorem dX4_copyTo_25 : decode cX4_copyTo 25 = .ok (.iload_n 3, 1) := by decide +kernel
theorem dX4_copyTo_26 : decode cX4_copyTo 26 = .ok (.putfield 29, 3) := by decide +kernel
theorem dX4_copyTo_29 : decode cX4_copyTo 29 = .ok (.iload 4, 2) := by decide +kernel
theorem dX4_copyTo_31 : decode cX4_copyTo 31 = .ok (.ireturn, 1) := by decide +kernel
theorem inX4_copyTo_X4 : ∀ w ∈ wsX40, w ∈ wsX4_copyTo := fun _ h => (List.mem_cons_of_mem _ (List.mem_append_right _ h))
theorem inX4_copy_X4 : ∀ w ∈ wsX40, w ∈ wsX4_copy := fun _ h => (List.mem_cons_of_mem _ (List.mem_append_right _ h))
theorem inX4_kind_X4 : ∀ w ∈ wsX40, w ∈ wsX4_kind := fun _ h => (List.mem_cons_of_mem _ (List.mem_append_right _ h))
theorem inX4_made_X4 : ∀ w ∈ wsX40, w ∈ wsX4_made := fun _ h => (List.mem_cons_of_mem _ (List.mem_append_right _ h))
theorem inX4_size_X4 : ∀ w ∈ wsX40, w ∈ wsX4_size := fun _ h => (List.mem_cons_of_mem _ (List.mem_append_right _ h))
