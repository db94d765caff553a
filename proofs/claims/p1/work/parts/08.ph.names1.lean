theorem dX2_bundle_20 : decode cX2_bundle 20 = .ok (.aload_n 0, 1) := by decide +kernel
theorem dX2_bundle_21 : decode cX2_bundle 21 = .ok (.invokevirtual 73, 3) := by decide +kernel
theorem dX2_bundle_24 : decode cX2_bundle 24 = .ok (.aload_n 0, 1) := by decide +kernel
theorem dX2_bundle_25 : decode cX2_bundle 25 = .ok (.invokevirtual 76, 3) := by decide +kernel
theorem dX2_bundle_28 : decode cX2_bundle 28 = .ok (.iconst 0, 1) := by decide +kernel
theorem dX2_bundle_29 : decode cX2_bundle 29 = .ok (.istore_n 3, 1) := by decide +kernel
theorem dX2_bundle_30 : decode cX2_bundle 30 = .ok (.iload_n 3, 1) := by decide +kernel
theorem dX2_bundle_31 : decode cX2_bundle 31 = .ok (.aload_n 0, 1) := by decide +kernel
theorem dX2_bundle_32 : decode cX2_bundle 32 = .ok (.getfield 7, 3) := by decide +kernel
theorem dX2_bundle_35 : decode cX2_bundle 35 = .ok (.getfield 79, 3) := by decide +kernel
theorem dX2_bundle_38 : decode cX2_bundle 38 = .ok (.if_icmp .ge 50, 3) := by decide +kernel
theorem dX2_bundle_88 : decode cX2_bundle 88 = .ok (.aload_n 0, 1) := by decide +kernel
theorem dX2_bundle_89 : decode cX2_bundle 89 = .ok (.getfield 7, 3) := by decide +kernel
theorem dX2_bundle_92 : decode cX2_bundle 92 = .ok (.getfield 82, 3) := by decide +kernel
theorem dX2_bundle_95 : decode cX2_bundle 95 = .ok (.ifCond .ne 11, 3) := by decide +kernel
theorem dX2_bundle_98 : decode cX2_bundle 98 = .ok (.aload_n 0, 1) := by decide +kernel
theorem dX2_bundle_99 : decode cX2_bundle 99 = .ok (.invokevirtual 93, 3) := by decide +kernel
theorem dX2_bundle_102 : decode cX2_bundle 102 = .ok (.aload_n 0, 1) := by decide +kernel
theorem dX2_bundle_103 : decode cX2_bundle 103 = .ok (.invokevirtual 96, 3) := by decide +kernel
theorem dX2_bundle_106 : decode cX2_bundle 106 = .ok (.aload_n 0, 1) := by decide +kernel
theorem dX2_bundle_107 : decode cX2_bundle 107 = .ok (.getfield 7, 3) := by decide +kernel
theorem dX2_bundle_110 : decode cX2_bundle 110 = .ok (.areturn, 1) := by decide +kernel
theorem dX2_gather_0 : decode cX2_gather 0 = .ok (.iconst 0, 1) := by decide +kernel
theorem dX2_gather_1 : decode cX2_gather 1 = .ok (.istore_n 1, 1) := by decide +kernel
theorem dX2_gather_2 : decode cX2_gather 2 = .ok (.iload_n 1, 1) := by decide +kernel
theorem dX2_gather_3 : decode cX2_gather 3 = .ok (.aload_n 0, 1) := by decide +kernel
theorem dX2_gather_4 : decode cX2_gather 4 = .ok (.getfield 7, 3) := by decide +kernel
theorem dX2_gather_7 : decode cX2_gather 7 = .ok (.getfield 99, 3) := by decide +kernel
theorem dX2_gather_10 : decode cX2_gather 10 = .ok (.if_icmp .ge 56, 3) := by decide +kernel
theorem dX2_gather_66 : decode cX2_gather 66 = .ok (.iconst 0, 1) := by decide +kernel
theorem dX2_gather_67 : decode cX2_gather 67 = .ok (.istore_n 1, 1) := by decide +kernel
theorem dX2_gather_68 : decode cX2_gather 68 = .ok (.iload_n 1, 1) := by decide +kernel
theorem dX2_gather_69 : decode cX2_gather 69 = .ok (.aload_n 0, 1) := by decide +kernel
theorem dX2_gather_70 : decode cX2_gather 70 = .ok (.getfield 7, 3) := by decide +kernel
theorem dX2_gather_73 : decode cX2_gather 73 = .ok (.getfield 99, 3) := by decide +kernel
theorem dX2_gather_76 : decode cX2_gather 76 = .ok (.if_icmp .ge 49, 3) := by decide +kernel
theorem dX2_gather_125 : decode cX2_gather 125 = .ok (.aload_n 0, 1) := by decide +kernel
theorem dX2_gather_126 : decode cX2_gather 126 = .ok (.getfield 7, 3) := by decide +kernel
theorem dX2_gather_129 : decode cX2_gather 129 = .ok (.aload_n 0, 1) := by decide +kernel
theorem dX2_gather_130 : decode cX2_gather 130 = .ok (.getfield 7, 3) := by decide +kernel
theorem dX2_gather_133 : decode cX2_gather 133 = .ok (.getfield 128, 3) := by decide +kernel
theorem dX2_gather_136 : decode cX2_gather 136 = .ok (.bipush 31, 2) := by decide +kernel
theorem dX2_gather_138 : decode cX2_gather 138 = .ok (.iadd, 1) := by decide +kernel
theorem dX2_gather_139 : decode cX2_gather 139 = .ok (.bipush 32, 2) := by decide +kernel
theorem dX2_gather_141 : decode cX2_gather 141 = .ok (.idiv, 1) := by decide +kernel
theorem dX2_gather_142 : decode cX2_gather 142 = .ok (.putfield 131, 3) := by decide +kernel
theorem dX2_gather_145 : decode cX2_gather 145 = .ok (.return_, 1) := by decide +kernel
theorem dX2_findClash_0 : decode cX2_findClash 0 = .ok (.iconst 0, 1) := by decide +kernel
theorem dX2_findClash_1 : decode cX2_findClash 1 = .ok (.istore_n 1, 1) := by decide +kernel
theorem dX2_findClash_2 : decode cX2_findClash 2 = .ok (.iload_n 1, 1) := by decide +kernel
theorem dX2_findClash_3 : decode cX2_findClash 3 = .ok (.aload_n 0, 1) := by decide +kernel
theorem dX2_findClash_4 : decode cX2_findClash 4 = .ok (.getfield 7, 3) := by decide +kernel
theorem dX2_findClash_7 : decode cX2_findClash 7 = .ok (.getfield 128, 3) := by decide +kernel
theorem dX2_findClash_10 : decode cX2_findClash 10 = .ok (.if_icmp .ge 36, 3) := by decide +kernel
theorem dX2_findClash_46 : decode cX2_findClash 46 = .ok (.iconst 0, 1) := by decide +kernel
theorem dX2_findClash_47 : decode cX2_findClash 47 = .ok (.istore_n 1, 1) := by decide +kernel
theorem dX2_findClash_48 : decode cX2_findClash 48 = .ok (.iconst 0, 1) := by decide +kernel
theorem dX2_findClash_49 : decode cX2_findClash 49 = .ok (.istore_n 2, 1) := by decide +kernel
theorem dX2_findClash_50 : decode cX2_findClash 50 = .ok (.iload_n 2, 1) := by decide +kernel
theorem dX2_findClash_51 : decode cX2_findClash 51 = .ok (.aload_n 0, 1) := by decide +kernel
theorem dX2_findClash_52 : decode cX2_findClash 52 = .ok (.getfield 7, 3) := by decide +kernel
theorem dX2_findClash_55 : decode cX2_findClash 55 = .ok (.getfield 99, 3) := by decide +kernel
theorem dX2_findClash_58 : decode cX2_findClash 58 = .ok (.if_icmp .ge 166, 3) := by decide +kernel
theorem dX2_findClash_224 : decode cX2_findClash 224 = .ok (.return_, 1) := by decide +kernel
theorem dX2_findReads_0 : decode cX2_findReads 0 = .ok (.aload_n 0, 1) := by decide +kernel
theorem dX2_findReads_1 : decode cX2_findReads 1 = .ok (.getfield 7, 3) := by decide +kernel
theorem dX2_findReads_4 : decode cX2_findReads 4 = .ok (.aload_n 0, 1) := by decide +kernel
theorem dX2_findReads_5 : decode cX2_findReads 5 = .ok (.getfield 7, 3) := by decide +kernel
theorem dX2_findReads_8 : decode cX2_findReads 8 = .ok (.getfield 128, 3) := by decide +kernel
theorem dX2_findReads_11 : decode cX2_findReads 11 = .ok (.aload_n 0, 1) := by decide +kernel
theorem dX2_findReads_12 : decode cX2_findReads 12 = .ok (.getfield 7, 3) := by decide +kernel
theorem dX2_findReads_15 : decode cX2_findReads 15 = .ok (.getfield 131, 3) := by decide +kernel
theorem dX2_findReads_18 : decode cX2_findReads 18 = .ok (.imul, 1) := by decide +kernel
theorem dX2_findReads_19 : decode cX2_findReads 19 = .ok (.newarray .int, 2) := by decide +kernel
theorem dX2_findReads_21 : decode cX2_findReads 21 = .ok (.putfield 306, 3) := by decide +kernel
theorem dX2_findReads_24 : decode cX2_findReads 24 = .ok (.iconst 0, 1) := by decide +kernel
theorem dX2_findReads_25 : decode cX2_findReads 25 = .ok (.istore_n 1, 1) := by decide +kernel
theorem dX2_findReads_26 : decode cX2_findReads 26 = .ok (.iload_n 1, 1) := by decide +kernel
theorem dX2_findReads_27 : decode cX2_findReads 27 = .ok (.aload_n 0, 1) := by decide +kernel
theorem dX2_findReads_28 : decode cX2_findReads 28 = .ok (.getfield 7, 3) := by decide +kernel
theorem dX2_findReads_31 : decode cX2_findReads 31 = .ok (.getfield 128, 3) := by decide +kernel
theorem dX2_findReads_34 : decode cX2_findReads 34 = .ok (.if_icmp .ge 118, 3) := by decide +kernel
theorem dX2_findReads_152 : decode cX2_findReads 152 = .ok (.iconst 0, 1) := by decide +kernel
theorem dX2_findReads_153 : decode cX2_findReads 153 = .ok (.istore_n 1, 1) := by decide +kernel
theorem dX2_findReads_154 : decode cX2_findReads 154 = .ok (.iload_n 1, 1) := by decide +kernel
theorem dX2_findReads_155 : decode cX2_findReads 155 = .ok (.aload_n 0, 1) := by decide +kernel
theorem dX2_findReads_156 : decode cX2_findReads 156 = .ok (.getfield 7, 3) := by decide +kernel
theorem dX2_findReads_159 : decode cX2_findReads 159 = .ok (.getfield 128, 3) := by decide +kernel
theorem dX2_findReads_162 : decode cX2_findReads 162 = .ok (.if_icmp .ge 87, 3) := by decide +kernel
theorem dX2_findReads_249 : decode cX2_findReads 249 = .ok (.aload_n 0, 1) := by decide +kernel
theorem dX2_findReads_250 : decode cX2_findReads 250 = .ok (.getfield 7, 3) := by decide +kernel
theorem dX2_findReads_253 : decode cX2_findReads 253 = .ok (.getfield 128, 3) := by decide +kernel
theorem dX2_findReads_256 : decode cX2_findReads 256 = .ok (.iconst 1, 1) := by decide +kernel
theorem dX2_findReads_257 : decode cX2_findReads 257 = .ok (.isub, 1) := by decide +kernel
theorem dX2_findReads_258 : decode cX2_findReads 258 = .ok (.istore_n 1, 1) := by decide +kernel
theorem dX2_findReads_259 : decode cX2_findReads 259 = .ok (.iload_n 1, 1) := by decide +kernel
theorem dX2_findReads_260 : decode cX2_findReads 260 = .ok (.ifCond .lt 85, 3) := by decide +kernel
theorem dX2_findReads_345 : decode cX2_findReads 345 = .ok (.return_, 1) := by decide +kernel
theorem dX2_findDepth_0 : decode cX2_findDepth 0 = .ok (.aload_n 0, 1) := by decide +kernel
theorem dX2_findDepth_1 : decode cX2_findDepth 1 = .ok (.getfield 7, 3) := by decide +kernel
theorem dX2_findDepth_4 : decode cX2_findDepth 4 = .ok (.getfield 82, 3) := by decide +kernel
theorem dX2_findDepth_7 : decode cX2_findDepth 7 = .ok (.ifCond .eq 4, 3) := by decide +kernel
theorem dX2_findDepth_11 : decode cX2_findDepth 11 = .ok (.aload_n 0, 1) := by decide +kernel
theorem dX2_findDepth_12 : decode cX2_findDepth 12 = .ok (.getfield 7, 3) := by decide +kernel
theorem dX2_findDepth_15 : decode cX2_findDepth 15 = .ok (.aload_n 0, 1) := by decide +kernel
theorem dX2_findDepth_16 : decode cX2_findDepth 16 = .ok (.getfield 7, 3) := by decide +kernel
theorem dX2_findDepth_19 : decode cX2_findDepth 19 = .ok (.getfield 128, 3) := by decide +kernel
theorem dX2_findDepth_22 : decode cX2_findDepth 22 = .ok (.newarray .int, 2) := by decide +kernel
theorem dX2_findDepth_24 : decode cX2_findDepth 24 = .ok (.putfield 327, 3) := by decide +kernel
theorem dX2_findDepth_27 : decode cX2_findDepth 27 = .ok (.aload_n 0, 1) := by decide +kernel
theorem dX2_findDepth_28 : decode cX2_findDepth 28 = .ok (.getfield 7, 3) := by decide +kernel
theorem dX2_findDepth_31 : decode cX2_findDepth 31 = .ok (.getfield 128, 3) := by decide +kernel
theorem dX2_findDepth_34 : decode cX2_findDepth 34 = .ok (.newarray .int, 2) := by decide +kernel
theorem dX2_findDepth_36 : decode cX2_findDepth 36 = .ok (.astore_n 1, 1) := by decide +kernel
theorem dX2_findDepth_37 : decode cX2_findDepth 37 = .ok (.iconst 0, 1) := by decide +kernel
theorem dX2_findDepth_38 : decode cX2_findDepth 38 = .ok (.istore_n 2, 1) := by decide +kernel
theorem dX2_findDepth_39 : decode cX2_findDepth 39 = .ok (.iload_n 2, 1) := by decide +kernel
theorem dX2_findDepth_40 : decode cX2_findDepth 40 = .ok (.aload_n 0, 1) := by decide +kernel
theorem dX2_findDepth_41 : decode cX2_findDepth 41 = .ok (.getfield 7, 3) := by decide +kernel
theorem dX2_findDepth_44 : decode cX2_findDepth 44 = .ok (.getfield 128, 3) := by decide +kernel
theorem dX2_findDepth_47 : decode cX2_findDepth 47 = .ok (.if_icmp .ge 85, 3) := by decide +kernel
theorem dX2_findDepth_132 : decode cX2_findDepth 132 = .ok (.aload_n 0, 1) := by decide +kernel
theorem dX2_findDepth_133 : decode cX2_findDepth 133 = .ok (.getfield 7, 3) := by decide +kernel
theorem dX2_findDepth_136 : decode cX2_findDepth 136 = .ok (.getfield 128, 3) := by decide +kernel
theorem dX2_findDepth_139 : decode cX2_findDepth 139 = .ok (.iconst 1, 1) := by decide +kernel
theorem dX2_findDepth_140 : decode cX2_findDepth 140 = .ok (.isub, 1) := by decide +kernel
theorem dX2_findDepth_141 : decode cX2_findDepth 141 = .ok (.istore_n 2, 1) := by decide +kernel
theorem dX2_findDepth_142 : decode cX2_findDepth 142 = .ok (.iload_n 2, 1) := by decide +kernel
theorem dX2_findDepth_143 : decode cX2_findDepth 143 = .ok (.ifCond .lt 27, 3) := by decide +kernel
theorem dX2_findDepth_170 : decode cX2_findDepth 170 = .ok (.return_, 1) := by decide +kernel
theorem dX3_init_0 : decode cX3_init 0 = .ok (.aload_n 0, 1) := by decide +kernel
theorem dX3_init_1 : decode cX3_init 1 = .ok (.invokespecial 1, 3) := by decide +kernel
theorem dX3_init_4 : decode cX3_init 4 = .ok (.aload_n 0, 1) := by decide +kernel
theorem dX3_init_5 : decode cX3_init 5 = .ok (.aconst_null, 1) := by decide +kernel
theorem dX3_init_6 : decode cX3_init 6 = .ok (.putfield 7, 3) := by decide +kernel
theorem dX3_init_9 : decode cX3_init 9 = .ok (.aload_n 0, 1) := by decide +kernel
theorem dX3_init_10 : decode cX3_init 10 = .ok (.aconst_null, 1) := by decide +kernel
theorem dX3_init_11 : decode cX3_init 11 = .ok (.putfield 13, 3) := by decide +kernel
theorem dX3_init_14 : decode cX3_init 14 = .ok (.aload_n 0, 1) := by decide +kernel
theorem dX3_init_15 : decode cX3_init 15 = .ok (.ldc 17, 2) := by decide +kernel
theorem dX3_init_17 : decode cX3_init 17 = .ok (.newarray .int, 2) := by decide +kernel
theorem dX3_init_19 : decode cX3_init 19 = .ok (.putfield 18, 3) := by decide +kernel
theorem dX3_init_22 : decode cX3_init 22 = .ok (.aload_n 0, 1) := by decide +kernel
theorem dX3_init_23 : decode cX3_init 23 = .ok (.iconst 0, 1) := by decide +kernel
theorem dX3_init_24 : decode cX3_init 24 = .ok (.putfield 22, 3) := by decide +kernel
theorem dX3_init_27 : decode cX3_init 27 = .ok (.aload_n 0, 1) := by decide +kernel
theorem dX3_init_28 : decode cX3_init 28 = .ok (.iconst 0, 1) := by decide +kernel
theorem dX3_init_29 : decode cX3_init 29 = .ok (.putfield 26, 3) := by decide +kernel
theorem dX3_init_32 : decode cX3_init 32 = .ok (.aload_n 0, 1) := by decide +kernel
theorem dX3_init_33 : decode cX3_init 33 = .ok (.iconst 0, 1) := by decide +kernel
theorem dX3_init_34 : decode cX3_init 34 = .ok (.putfield 29, 3) := by decide +kernel
theorem dX3_init_37 : decode cX3_init 37 = .ok (.aload_n 0, 1) := by decide +kernel
theorem dX3_init_38 : decode cX3_init 38 = .ok (.iconst 0, 1) := by decide +kernel
theorem dX3_init_39 : decode cX3_init 39 = .ok (.putfield 32, 3) := by decide +kernel
theorem dX3_init_42 : decode cX3_init 42 = .ok (.aload_n 0, 1) := by decide +kernel
theorem dX3_init_43 : decode cX3_init 43 = .ok (.iconst 0, 1) := by decide +kernel
theorem dX3_init_44 : decode cX3_init 44 = .ok (.putfield 35, 3) := by decide +kernel
theorem dX3_init_47 : decode cX3_init 47 = .ok (.aload_n 0, 1) := by decide +kernel
theorem dX3_init_48 : decode cX3_init 48 = .ok (.iconst 0, 1) := by decide +kernel
theorem dX3_init_49 : decode cX3_init 49 = .ok (.putfield 38, 3) := by decide +kernel
theorem dX3_init_52 : decode cX3_init 52 = .ok (.aload_n 0, 1) := by decide +kernel
theorem dX3_init_53 : decode cX3_init 53 = .ok (.iconst 0, 1) := by decide +kernel
theorem dX3_init_54 : decode cX3_init 54 = .ok (.putfield 41, 3) := by decide +kernel
theorem dX3_init_57 : decode cX3_init 57 = .ok (.aload_n 0, 1) := by decide +kernel
theorem dX3_init_58 : decode cX3_init 58 = .ok (.sipush 6100, 3) := by decide +kernel
theorem dX3_init_61 : decode cX3_init 61 = .ok (.newarray .int, 2) := by decide +kernel
theorem dX3_init_63 : decode cX3_init 63 = .ok (.putfield 44, 3) := by decide +kernel
theorem dX3_init_66 : decode cX3_init 66 = .ok (.aload_n 0, 1) := by decide +kernel
theorem dX3_init_67 : decode cX3_init 67 = .ok (.iconst 0, 1) := by decide +kernel
theorem dX3_init_68 : decode cX3_init 68 = .ok (.putfield 47, 3) := by decide +kernel
theorem dX3_init_71 : decode cX3_init 71 = .ok (.aload_n 0, 1) := by decide +kernel
theorem dX3_init_72 : decode cX3_init 72 = .ok (.aload_n 1, 1) := by decide +kernel
theorem dX3_init_73 : decode cX3_init 73 = .ok (.putfield 50, 3) := by decide +kernel
theorem dX3_init_76 : decode cX3_init 76 = .ok (.aload_n 0, 1) := by decide +kernel
theorem dX3_init_77 : decode cX3_init 77 = .ok (.aload_n 2, 1) := by decide +kernel
theorem dX3_init_78 : decode cX3_init 78 = .ok (.putfield 54, 3) := by decide +kernel
theorem dX3_init_81 : decode cX3_init 81 = .ok (.aload_n 0, 1) := by decide +kernel
theorem dX3_init_82 : decode cX3_init 82 = .ok (.aload_n 3, 1) := by decide +kernel
theorem dX3_init_83 : decode cX3_init 83 = .ok (.putfield 58, 3) := by decide +kernel
theorem dX3_init_86 : decode cX3_init 86 = .ok (.return_, 1) := by decide +kernel
theorem dX3_finish_0 : decode cX3_finish 0 = .ok (.aload_n 0, 1) := by decide +kernel
theorem dX3_finish_1 : decode cX3_finish 1 = .ok (.aload_n 1, 1) := by decide +kernel
theorem dX3_finish_2 : decode cX3_finish 2 = .ok (.putfield 7, 3) := by decide +kernel
theorem dX3_finish_5 : decode cX3_finish 5 = .ok (.bipush 8, 2) := by decide +kernel
theorem dX3_finish_7 : decode cX3_finish 7 = .ok (.istore_n 2, 1) := by decide +kernel
theorem dX3_finish_8 : decode cX3_finish 8 = .ok (.iload_n 2, 1) := by decide +kernel
theorem dX3_finish_9 : decode cX3_finish 9 = .ok (.bipush 9, 2) := by decide +kernel
theorem dX3_finish_11 : decode cX3_finish 11 = .ok (.if_icmp .gt 176, 3) := by decide +kernel
theorem dX3_finish_14 : decode cX3_finish 14 = .ok (.iconst 0, 1) := by decide +kernel
theorem dX3_finish_15 : decode cX3_finish 15 = .ok (.istore_n 3, 1) := by decide +kernel
theorem dX3_finish_16 : decode cX3_finish 16 = .ok (.iload_n 3, 1) := by decide +kernel
theorem dX3_finish_17 : decode cX3_finish 17 = .ok (.aload_n 0, 1) := by decide +kernel
theorem dX3_finish_18 : decode cX3_finish 18 = .ok (.getfield 7, 3) := by decide +kernel
theorem dX3_finish_21 : decode cX3_finish 21 = .ok (.getfield 62, 3) := by decide +kernel
theorem dX3_finish_24 : decode cX3_finish 24 = .ok (.if_icmp .ge 157, 3) := by decide +kernel
theorem dX3_finish_181 : decode cX3_finish 181 = .ok (.iinc 2 1, 3) := by decide +kernel
theorem dX3_finish_184 : decode cX3_finish 184 = .ok (.goto (-176), 3) := by decide +kernel
theorem dX3_finish_187 : decode cX3_finish 187 = .ok (.return_, 1) := by decide +kernel
theorem dX3_encode_0 : decode cX3_encode 0 = .ok (.aload_n 0, 1) := by decide +kernel
theorem dX3_encode_1 : decode cX3_encode 1 = .ok (.iconst 0, 1) := by decide +kernel
theorem dX3_encode_2 : decode cX3_encode 2 = .ok (.putfield 22, 3) := by decide +kernel
theorem dX3_encode_5 : decode cX3_encode 5 = .ok (.aload_n 0, 1) := by decide +kernel
theorem dX3_encode_6 : decode cX3_encode 6 = .ok (.getfield 7, 3) := by decide +kernel
theorem dX3_encode_9 : decode cX3_encode 9 = .ok (.getfield 238, 3) := by decide +kernel
theorem dX3_encode_12 : decode cX3_encode 12 = .ok (.bipush 9, 2) := by decide +kernel
theorem dX3_encode_14 : decode cX3_encode 14 = .ok (.imul, 1) := by decide +kernel
theorem dX3_encode_15 : decode cX3_encode 15 = .ok (.iconst 1, 1) := by decide +kernel
theorem dX3_encode_16 : decode cX3_encode 16 = .ok (.iadd, 1) := by decide +kernel
theorem dX3_encode_17 : decode cX3_encode 17 = .ok (.newarray .int, 2) := by decide +kernel
theorem dX3_encode_19 : decode cX3_encode 19 = .ok (.astore_n 1, 1) := by decide +kernel
theorem dX3_encode_20 : decode cX3_encode 20 = .ok (.iconst 0, 1) := by decide +kernel
theorem dX3_encode_21 : decode cX3_encode 21 = .ok (.istore_n 2, 1) := by decide +kernel
theorem dX3_encode_22 : decode cX3_encode 22 = .ok (.iconst 0, 1) := by decide +kernel
theorem dX3_encode_23 : decode cX3_encode 23 = .ok (.istore_n 3, 1) := by decide +kernel
theorem dX3_encode_24 : decode cX3_encode 24 = .ok (.iload_n 3, 1) := by decide +kernel
theorem dX3_encode_25 : decode cX3_encode 25 = .ok (.aload_n 0, 1) := by decide +kernel
theorem dX3_encode_26 : decode cX3_encode 26 = .ok (.getfield 7, 3) := by decide +kernel
theorem dX3_encode_29 : decode cX3_encode 29 = .ok (.getfield 238, 3) := by decide +kernel
theorem dX3_encode_32 : decode cX3_encode 32 = .ok (.if_icmp .ge 255, 3) := by decide +kernel
theorem dX3_encode_287 : decode cX3_encode 287 = .ok (.aload_n 0, 1) := by decide +kernel
theorem dX3_encode_288 : decode cX3_encode 288 = .ok (.getfield 7, 3) := by decide +kernel
theorem dX3_encode_291 : decode cX3_encode 291 = .ok (.aload_n 1, 1) := by decide +kernel
theorem dX3_encode_292 : decode cX3_encode 292 = .ok (.iload_n 2, 1) := by decide +kernel
theorem dX3_encode_293 : decode cX3_encode 293 = .ok (.iconst 1, 1) := by decide +kernel
theorem dX3_encode_294 : decode cX3_encode 294 = .ok (.iadd, 1) := by decide +kernel
theorem dX3_encode_295 : decode cX3_encode 295 = .ok (.invokestatic 251, 3) := by decide +kernel
theorem dX3_encode_298 : decode cX3_encode 298 = .ok (.putfield 257, 3) := by decide +kernel
theorem dX3_encode_301 : decode cX3_encode 301 = .ok (.aload_n 0, 1) := by decide +kernel
theorem dX3_encode_302 : decode cX3_encode 302 = .ok (.getfield 7, 3) := by decide +kernel
theorem dX3_encode_305 : decode cX3_encode 305 = .ok (.aload_n 0, 1) := by decide +kernel
theorem dX3_encode_306 : decode cX3_encode 306 = .ok (.getfield 18, 3) := by decide +kernel
theorem dX3_encode_309 : decode cX3_encode 309 = .ok (.aload_n 0, 1) := by decide +kernel
theorem dX3_encode_310 : decode cX3_encode 310 = .ok (.getfield 22, 3) := by decide +kernel
theorem dX3_encode_313 : decode cX3_encode 313 = .ok (.invokestatic 251, 3) := by decide +kernel
theorem dX3_encode_316 : decode cX3_encode 316 = .ok (.putfield 259, 3) := by decide +kernel
theorem dX3_encode_319 : decode cX3_encode 319 = .ok (.return_, 1) := by decide +kernel
theorem dX4_init_0 : decode cX4_init 0 = .ok (.aload_n 0, 1) := by decide +kernel
theorem dX4_init_1 : decode cX4_init 1 = .ok (.invokespecial 1, 3) := by decide +kernel
theorem dX4_init_4 : decode cX4_init 4 = .ok (.aload_n 0, 1) := by decide +kernel
theorem dX4_init_5 : decode cX4_init 5 = .ok (.ldc 9, 2) := by decide +kernel
theorem dX4_init_7 : decode cX4_init 7 = .ok (.newarray .int, 2) := by decide +kernel
theorem dX4_init_9 : decode cX4_init 9 = .ok (.putfield 10, 3) := by decide +kernel
theorem dX4_init_12 : decode cX4_init 12 = .ok (.aload_n 0, 1) := by decide +kernel
theorem dX4_init_13 : decode cX4_init 13 = .ok (.ldc 14, 2) := by decide +kernel
theorem dX4_init_15 : decode cX4_init 15 = .ok (.newarray .int, 2) := by decide +kernel
theorem dX4_init_17 : decode cX4_init 17 = .ok (.putfield 15, 3) := by decide +kernel
theorem dX4_init_20 : decode cX4_init 20 = .ok (.aload_n 0, 1) := by decide +kernel
theorem dX4_init_21 : decode cX4_init 21 = .ok (.ldc 14, 2) := by decide +kernel
theorem dX4_init_23 : decode cX4_init 23 = .ok (.newarray .int, 2) := by decide +kernel
theorem dX4_init_25 : decode cX4_init 25 = .ok (.putfield 18, 3) := by decide +kernel
