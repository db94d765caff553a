theorem dX15_kind_0 : decode cX15_kind 0 = .ok (.aload_n 0, 1) := by decide +kernel
theorem dX15_kind_1 : decode cX15_kind 1 = .ok (.getfield 9, 3) := by decide +kernel
theorem dX15_kind_4 : decode cX15_kind 4 = .ok (.iload_n 1, 1) := by decide +kernel
theorem dX15_kind_5 : decode cX15_kind 5 = .ok (.laload, 1) := by decide +kernel
theorem dX15_kind_6 : decode cX15_kind 6 = .ok (.ldc2_w 61, 3) := by decide +kernel
theorem dX15_kind_9 : decode cX15_kind 9 = .ok (.land, 1) := by decide +kernel
theorem dX15_kind_10 : decode cX15_kind 10 = .ok (.l2i, 1) := by decide +kernel
theorem dX15_kind_11 : decode cX15_kind 11 = .ok (.ireturn, 1) := by decide +kernel
theorem dX15_weight_0 : decode cX15_weight 0 = .ok (.aload_n 0, 1) := by decide +kernel
theorem dX15_weight_1 : decode cX15_weight 1 = .ok (.iload_n 1, 1) := by decide +kernel
theorem dX15_weight_2 : decode cX15_weight 2 = .ok (.invokevirtual 65, 3) := by decide +kernel
theorem dX15_weight_5 : decode cX15_weight 5 = .ok (.iconst 3, 1) := by decide +kernel
theorem dX15_weight_6 : decode cX15_weight 6 = .ok (.if_icmp .ne 7, 3) := by decide +kernel
theorem dX15_weight_13 : decode cX15_weight 13 = .ok (.aload_n 0, 1) := by decide +kernel
theorem dX15_weight_14 : decode cX15_weight 14 = .ok (.getfield 9, 3) := by decide +kernel
theorem dX15_weight_17 : decode cX15_weight 17 = .ok (.iload_n 1, 1) := by decide +kernel
theorem dX15_weight_18 : decode cX15_weight 18 = .ok (.laload, 1) := by decide +kernel
theorem dX15_weight_19 : decode cX15_weight 19 = .ok (.bipush 39, 2) := by decide +kernel
theorem dX15_weight_21 : decode cX15_weight 21 = .ok (.lshr, 1) := by decide +kernel
theorem dX15_weight_22 : decode cX15_weight 22 = .ok (.ldc2_w 69, 3) := by decide +kernel
theorem dX15_weight_25 : decode cX15_weight 25 = .ok (.land, 1) := by decide +kernel
theorem dX15_weight_26 : decode cX15_weight 26 = .ok (.l2i, 1) := by decide +kernel
theorem dX15_weight_27 : decode cX15_weight 27 = .ok (.ireturn, 1) := by decide +kernel
theorem dX16_isDigit_0 : decode cX16_isDigit 0 = .ok (.iload_n 0, 1) := by decide +kernel
theorem dX16_isDigit_1 : decode cX16_isDigit 1 = .ok (.bipush 48, 2) := by decide +kernel
theorem dX16_isDigit_3 : decode cX16_isDigit 3 = .ok (.if_icmp .lt 13, 3) := by decide +kernel
theorem dX16_isDigit_16 : decode cX16_isDigit 16 = .ok (.iconst 0, 1) := by decide +kernel
theorem dX16_isDigit_17 : decode cX16_isDigit 17 = .ok (.ireturn, 1) := by decide +kernel
theorem dX16_see_0 : decode cX16_see 0 = .ok (.iload_n 1, 1) := by decide +kernel
theorem dX16_see_1 : decode cX16_see 1 = .ok (.iload_n 2, 1) := by decide +kernel
theorem dX16_see_2 : decode cX16_see 2 = .ok (.if_icmp .ge 13, 3) := by decide +kernel
theorem dX16_see_15 : decode cX16_see 15 = .ok (.iconst (-1), 1) := by decide +kernel
theorem dX16_see_16 : decode cX16_see 16 = .ok (.ireturn, 1) := by decide +kernel
theorem dX16_wrongAt_0 : decode cX16_wrongAt 0 = .ok (.aload_n 0, 1) := by decide +kernel
theorem dX16_wrongAt_1 : decode cX16_wrongAt 1 = .ok (.getfield 25, 3) := by decide +kernel
theorem dX16_wrongAt_4 : decode cX16_wrongAt 4 = .ok (.iconst (-1), 1) := by decide +kernel
theorem dX16_wrongAt_5 : decode cX16_wrongAt 5 = .ok (.if_icmp .ne 8, 3) := by decide +kernel
theorem dX16_wrongAt_8 : decode cX16_wrongAt 8 = .ok (.aload_n 0, 1) := by decide +kernel
theorem dX16_wrongAt_9 : decode cX16_wrongAt 9 = .ok (.iload_n 1, 1) := by decide +kernel
theorem dX16_wrongAt_10 : decode cX16_wrongAt 10 = .ok (.putfield 25, 3) := by decide +kernel
theorem dX16_wrongAt_13 : decode cX16_wrongAt 13 = .ok (.return_, 1) := by decide +kernel
theorem dX16_readJson_0 : decode cX16_readJson 0 = .ok (.aload_n 0, 1) := by decide +kernel
theorem dX16_readJson_1 : decode cX16_readJson 1 = .ok (.aload_n 1, 1) := by decide +kernel
theorem dX16_readJson_2 : decode cX16_readJson 2 = .ok (.putfield 80, 3) := by decide +kernel
theorem dX16_readJson_5 : decode cX16_readJson 5 = .ok (.aload_n 0, 1) := by decide +kernel
theorem dX16_readJson_6 : decode cX16_readJson 6 = .ok (.aload_n 2, 1) := by decide +kernel
theorem dX16_readJson_7 : decode cX16_readJson 7 = .ok (.putfield 84, 3) := by decide +kernel
theorem dX16_readJson_10 : decode cX16_readJson 10 = .ok (.aload_n 0, 1) := by decide +kernel
theorem dX16_readJson_11 : decode cX16_readJson 11 = .ok (.iload_n 3, 1) := by decide +kernel
theorem dX16_readJson_12 : decode cX16_readJson 12 = .ok (.putfield 87, 3) := by decide +kernel
theorem dX16_readJson_15 : decode cX16_readJson 15 = .ok (.aload_n 0, 1) := by decide +kernel
theorem dX16_readJson_16 : decode cX16_readJson 16 = .ok (.iload 4, 2) := by decide +kernel
theorem dX16_readJson_18 : decode cX16_readJson 18 = .ok (.putfield 90, 3) := by decide +kernel
theorem dX16_readJson_21 : decode cX16_readJson 21 = .ok (.aload_n 0, 1) := by decide +kernel
theorem dX16_readJson_22 : decode cX16_readJson 22 = .ok (.iconst (-1), 1) := by decide +kernel
theorem dX16_readJson_23 : decode cX16_readJson 23 = .ok (.putfield 25, 3) := by decide +kernel
theorem dX16_readJson_26 : decode cX16_readJson 26 = .ok (.aload_n 0, 1) := by decide +kernel
theorem dX16_readJson_27 : decode cX16_readJson 27 = .ok (.getfield 77, 3) := by decide +kernel
theorem dX16_readJson_30 : decode cX16_readJson 30 = .ok (.istore 5, 2) := by decide +kernel
theorem dX16_readJson_32 : decode cX16_readJson 32 = .ok (.aload_n 0, 1) := by decide +kernel
theorem dX16_readJson_33 : decode cX16_readJson 33 = .ok (.iconst 0, 1) := by decide +kernel
theorem dX16_readJson_34 : decode cX16_readJson 34 = .ok (.invokevirtual 93, 3) := by decide +kernel
theorem dX16_readJson_37 : decode cX16_readJson 37 = .ok (.istore 6, 2) := by decide +kernel
theorem dX16_readJson_39 : decode cX16_readJson 39 = .ok (.aload_n 0, 1) := by decide +kernel
theorem dX16_readJson_40 : decode cX16_readJson 40 = .ok (.getfield 25, 3) := by decide +kernel
theorem dX16_readJson_43 : decode cX16_readJson 43 = .ok (.iconst (-1), 1) := by decide +kernel
theorem dX16_readJson_44 : decode cX16_readJson 44 = .ok (.if_icmp .ne 26, 3) := by decide +kernel
theorem dX16_readJson_70 : decode cX16_readJson 70 = .ok (.aload_n 0, 1) := by decide +kernel
theorem dX16_readJson_71 : decode cX16_readJson 71 = .ok (.iload 5, 2) := by decide +kernel
theorem dX16_readJson_73 : decode cX16_readJson 73 = .ok (.putfield 77, 3) := by decide +kernel
theorem dX16_readJson_76 : decode cX16_readJson 76 = .ok (.aload_n 0, 1) := by decide +kernel
theorem dX16_readJson_77 : decode cX16_readJson 77 = .ok (.getfield 25, 3) := by decide +kernel
theorem dX16_readJson_80 : decode cX16_readJson 80 = .ok (.iconst (-1), 1) := by decide +kernel
theorem dX16_readJson_81 : decode cX16_readJson 81 = .ok (.if_icmp .ne 8, 3) := by decide +kernel
theorem dX16_readJson_89 : decode cX16_readJson 89 = .ok (.iconst (-1), 1) := by decide +kernel
theorem dX16_readJson_90 : decode cX16_readJson 90 = .ok (.ireturn, 1) := by decide +kernel
theorem dX16_jsonNext_0 : decode cX16_jsonNext 0 = .ok (.aload_n 0, 1) := by decide +kernel
theorem dX16_jsonNext_1 : decode cX16_jsonNext 1 = .ok (.getfield 84, 3) := by decide +kernel
theorem dX16_jsonNext_4 : decode cX16_jsonNext 4 = .ok (.aload_n 0, 1) := by decide +kernel
theorem dX16_jsonNext_5 : decode cX16_jsonNext 5 = .ok (.getfield 87, 3) := by decide +kernel
theorem dX16_jsonNext_8 : decode cX16_jsonNext 8 = .ok (.aload_n 0, 1) := by decide +kernel
theorem dX16_jsonNext_9 : decode cX16_jsonNext 9 = .ok (.getfield 90, 3) := by decide +kernel
theorem dX16_jsonNext_12 : decode cX16_jsonNext 12 = .ok (.invokestatic 29, 3) := by decide +kernel
theorem dX16_jsonNext_15 : decode cX16_jsonNext 15 = .ok (.ireturn, 1) := by decide +kernel
theorem dX16_jsonBlanks_0 : decode cX16_jsonBlanks 0 = .ok (.aload_n 0, 1) := by decide +kernel
theorem dX16_jsonBlanks_1 : decode cX16_jsonBlanks 1 = .ok (.invokevirtual 100, 3) := by decide +kernel
theorem dX16_jsonBlanks_4 : decode cX16_jsonBlanks 4 = .ok (.bipush 32, 2) := by decide +kernel
theorem dX16_jsonBlanks_6 : decode cX16_jsonBlanks 6 = .ok (.if_icmp .eq 30, 3) := by decide +kernel
theorem dX16_jsonBlanks_9 : decode cX16_jsonBlanks 9 = .ok (.aload_n 0, 1) := by decide +kernel
theorem dX16_jsonBlanks_10 : decode cX16_jsonBlanks 10 = .ok (.invokevirtual 100, 3) := by decide +kernel
theorem dX16_jsonBlanks_13 : decode cX16_jsonBlanks 13 = .ok (.bipush 9, 2) := by decide +kernel
theorem dX16_jsonBlanks_15 : decode cX16_jsonBlanks 15 = .ok (.if_icmp .eq 21, 3) := by decide +kernel
theorem dX16_jsonBlanks_18 : decode cX16_jsonBlanks 18 = .ok (.aload_n 0, 1) := by decide +kernel
theorem dX16_jsonBlanks_19 : decode cX16_jsonBlanks 19 = .ok (.invokevirtual 100, 3) := by decide +kernel
theorem dX16_jsonBlanks_22 : decode cX16_jsonBlanks 22 = .ok (.bipush 10, 2) := by decide +kernel
theorem dX16_jsonBlanks_24 : decode cX16_jsonBlanks 24 = .ok (.if_icmp .eq 12, 3) := by decide +kernel
theorem dX16_jsonBlanks_27 : decode cX16_jsonBlanks 27 = .ok (.aload_n 0, 1) := by decide +kernel
theorem dX16_jsonBlanks_28 : decode cX16_jsonBlanks 28 = .ok (.invokevirtual 100, 3) := by decide +kernel
theorem dX16_jsonBlanks_31 : decode cX16_jsonBlanks 31 = .ok (.bipush 13, 2) := by decide +kernel
theorem dX16_jsonBlanks_33 : decode cX16_jsonBlanks 33 = .ok (.if_icmp .ne 16, 3) := by decide +kernel
theorem dX16_jsonBlanks_49 : decode cX16_jsonBlanks 49 = .ok (.return_, 1) := by decide +kernel
theorem dX16_jsonValue_0 : decode cX16_jsonValue 0 = .ok (.aload_n 0, 1) := by decide +kernel
theorem dX16_jsonValue_1 : decode cX16_jsonValue 1 = .ok (.invokevirtual 96, 3) := by decide +kernel
theorem dX16_jsonValue_4 : decode cX16_jsonValue 4 = .ok (.aload_n 0, 1) := by decide +kernel
theorem dX16_jsonValue_5 : decode cX16_jsonValue 5 = .ok (.invokevirtual 100, 3) := by decide +kernel
theorem dX16_jsonValue_8 : decode cX16_jsonValue 8 = .ok (.istore_n 2, 1) := by decide +kernel
theorem dX16_jsonValue_9 : decode cX16_jsonValue 9 = .ok (.iload_n 2, 1) := by decide +kernel
theorem dX16_jsonValue_10 : decode cX16_jsonValue 10 = .ok (.bipush 110, 2) := by decide +kernel
theorem dX16_jsonValue_12 : decode cX16_jsonValue 12 = .ok (.if_icmp .ne 11, 3) := by decide +kernel
theorem dX16_jsonValue_23 : decode cX16_jsonValue 23 = .ok (.iload_n 2, 1) := by decide +kernel
theorem dX16_jsonValue_24 : decode cX16_jsonValue 24 = .ok (.bipush 102, 2) := by decide +kernel
theorem dX16_jsonValue_26 : decode cX16_jsonValue 26 = .ok (.if_icmp .ne 11, 3) := by decide +kernel
theorem dX16_jsonValue_37 : decode cX16_jsonValue 37 = .ok (.iload_n 2, 1) := by decide +kernel
theorem dX16_jsonValue_38 : decode cX16_jsonValue 38 = .ok (.bipush 116, 2) := by decide +kernel
theorem dX16_jsonValue_40 : decode cX16_jsonValue 40 = .ok (.if_icmp .ne 11, 3) := by decide +kernel
theorem dX16_jsonValue_51 : decode cX16_jsonValue 51 = .ok (.iload_n 2, 1) := by decide +kernel
theorem dX16_jsonValue_52 : decode cX16_jsonValue 52 = .ok (.bipush 34, 2) := by decide +kernel
theorem dX16_jsonValue_54 : decode cX16_jsonValue 54 = .ok (.if_icmp .ne 52, 3) := by decide +kernel
theorem dX16_jsonValue_106 : decode cX16_jsonValue 106 = .ok (.iload_n 2, 1) := by decide +kernel
theorem dX16_jsonValue_107 : decode cX16_jsonValue 107 = .ok (.bipush 45, 2) := by decide +kernel
theorem dX16_jsonValue_109 : decode cX16_jsonValue 109 = .ok (.if_icmp .eq 10, 3) := by decide +kernel
theorem dX16_jsonValue_112 : decode cX16_jsonValue 112 = .ok (.iload_n 2, 1) := by decide +kernel
theorem dX16_jsonValue_113 : decode cX16_jsonValue 113 = .ok (.invokestatic 33, 3) := by decide +kernel
theorem dX16_jsonValue_116 : decode cX16_jsonValue 116 = .ok (.ifCond .eq 47, 3) := by decide +kernel
theorem dX16_jsonValue_163 : decode cX16_jsonValue 163 = .ok (.iload_n 2, 1) := by decide +kernel
theorem dX16_jsonValue_164 : decode cX16_jsonValue 164 = .ok (.bipush 91, 2) := by decide +kernel
theorem dX16_jsonValue_166 : decode cX16_jsonValue 166 = .ok (.if_icmp .eq 9, 3) := by decide +kernel
theorem dX16_jsonValue_169 : decode cX16_jsonValue 169 = .ok (.iload_n 2, 1) := by decide +kernel
theorem dX16_jsonValue_170 : decode cX16_jsonValue 170 = .ok (.bipush 123, 2) := by decide +kernel
theorem dX16_jsonValue_172 : decode cX16_jsonValue 172 = .ok (.if_icmp .ne 9, 3) := by decide +kernel
theorem dX16_jsonValue_181 : decode cX16_jsonValue 181 = .ok (.aload_n 0, 1) := by decide +kernel
theorem dX16_jsonValue_182 : decode cX16_jsonValue 182 = .ok (.aload_n 0, 1) := by decide +kernel
theorem dX16_jsonValue_183 : decode cX16_jsonValue 183 = .ok (.getfield 87, 3) := by decide +kernel
theorem dX16_jsonValue_186 : decode cX16_jsonValue 186 = .ok (.invokevirtual 37, 3) := by decide +kernel
theorem dX16_jsonValue_189 : decode cX16_jsonValue 189 = .ok (.iconst (-1), 1) := by decide +kernel
theorem dX16_jsonValue_190 : decode cX16_jsonValue 190 = .ok (.ireturn, 1) := by decide +kernel
theorem dX16_name_0 : decode cX16_name 0 = .ok (.iconst 0, 1) := by decide +kernel
theorem dX16_name_1 : decode cX16_name 1 = .ok (.istore 4, 2) := by decide +kernel
theorem dX16_name_3 : decode cX16_name 3 = .ok (.iconst 0, 1) := by decide +kernel
theorem dX16_name_4 : decode cX16_name 4 = .ok (.istore 5, 2) := by decide +kernel
theorem dX16_name_6 : decode cX16_name 6 = .ok (.iload 5, 2) := by decide +kernel
theorem dX16_name_8 : decode cX16_name 8 = .ok (.iload_n 3, 1) := by decide +kernel
theorem dX16_name_9 : decode cX16_name 9 = .ok (.if_icmp .ge 27, 3) := by decide +kernel
theorem dX16_name_12 : decode cX16_name 12 = .ok (.bipush 31, 2) := by decide +kernel
theorem dX16_name_14 : decode cX16_name 14 = .ok (.iload 4, 2) := by decide +kernel
theorem dX16_name_16 : decode cX16_name 16 = .ok (.imul, 1) := by decide +kernel
theorem dX16_name_17 : decode cX16_name 17 = .ok (.aload_n 1, 1) := by decide +kernel
theorem dX16_name_18 : decode cX16_name 18 = .ok (.iload_n 2, 1) := by decide +kernel
theorem dX16_name_19 : decode cX16_name 19 = .ok (.iload 5, 2) := by decide +kernel
theorem dX16_name_21 : decode cX16_name 21 = .ok (.iadd, 1) := by decide +kernel
theorem dX16_name_22 : decode cX16_name 22 = .ok (.baload, 1) := by decide +kernel
theorem dX16_name_23 : decode cX16_name 23 = .ok (.iadd, 1) := by decide +kernel
theorem dX16_name_24 : decode cX16_name 24 = .ok (.sipush 4095, 3) := by decide +kernel
theorem dX16_name_27 : decode cX16_name 27 = .ok (.iand, 1) := by decide +kernel
theorem dX16_name_28 : decode cX16_name 28 = .ok (.istore 4, 2) := by decide +kernel
theorem dX16_name_30 : decode cX16_name 30 = .ok (.iinc 5 1, 3) := by decide +kernel
theorem dX16_name_33 : decode cX16_name 33 = .ok (.goto (-27), 3) := by decide +kernel
theorem dX16_name_36 : decode cX16_name 36 = .ok (.aload_n 0, 1) := by decide +kernel
theorem dX16_name_37 : decode cX16_name 37 = .ok (.getfield 249, 3) := by decide +kernel
theorem dX16_name_40 : decode cX16_name 40 = .ok (.iload 4, 2) := by decide +kernel
theorem dX16_name_42 : decode cX16_name 42 = .ok (.iaload, 1) := by decide +kernel
theorem dX16_name_43 : decode cX16_name 43 = .ok (.iconst 1, 1) := by decide +kernel
theorem dX16_name_44 : decode cX16_name 44 = .ok (.isub, 1) := by decide +kernel
theorem dX16_name_45 : decode cX16_name 45 = .ok (.istore 5, 2) := by decide +kernel
theorem dX16_name_47 : decode cX16_name 47 = .ok (.iload 5, 2) := by decide +kernel
theorem dX16_name_49 : decode cX16_name 49 = .ok (.ifCond .lt 32, 3) := by decide +kernel
theorem dX16_name_81 : decode cX16_name 81 = .ok (.iconst 0, 1) := by decide +kernel
theorem dX16_name_82 : decode cX16_name 82 = .ok (.istore 5, 2) := by decide +kernel
theorem dX16_name_84 : decode cX16_name 84 = .ok (.iload 5, 2) := by decide +kernel
theorem dX16_name_86 : decode cX16_name 86 = .ok (.iload_n 3, 1) := by decide +kernel
theorem dX16_name_87 : decode cX16_name 87 = .ok (.if_icmp .ge 32, 3) := by decide +kernel
theorem dX16_name_90 : decode cX16_name 90 = .ok (.aload_n 0, 1) := by decide +kernel
theorem dX16_name_91 : decode cX16_name 91 = .ok (.getfield 246, 3) := by decide +kernel
theorem dX16_name_94 : decode cX16_name 94 = .ok (.aload_n 0, 1) := by decide +kernel
theorem dX16_name_95 : decode cX16_name 95 = .ok (.getfield 240, 3) := by decide +kernel
theorem dX16_name_98 : decode cX16_name 98 = .ok (.aload_n 0, 1) := by decide +kernel
theorem dX16_name_99 : decode cX16_name 99 = .ok (.getfield 259, 3) := by decide +kernel
theorem dX16_name_102 : decode cX16_name 102 = .ok (.iaload, 1) := by decide +kernel
theorem dX16_name_103 : decode cX16_name 103 = .ok (.iload 5, 2) := by decide +kernel
theorem dX16_name_105 : decode cX16_name 105 = .ok (.iadd, 1) := by decide +kernel
theorem dX16_name_106 : decode cX16_name 106 = .ok (.aload_n 1, 1) := by decide +kernel
theorem dX16_name_107 : decode cX16_name 107 = .ok (.iload_n 2, 1) := by decide +kernel
theorem dX16_name_108 : decode cX16_name 108 = .ok (.iload 5, 2) := by decide +kernel
theorem dX16_name_110 : decode cX16_name 110 = .ok (.iadd, 1) := by decide +kernel
theorem dX16_name_111 : decode cX16_name 111 = .ok (.baload, 1) := by decide +kernel
theorem dX16_name_112 : decode cX16_name 112 = .ok (.bastore, 1) := by decide +kernel
theorem dX16_name_113 : decode cX16_name 113 = .ok (.iinc 5 1, 3) := by decide +kernel
theorem dX16_name_116 : decode cX16_name 116 = .ok (.goto (-32), 3) := by decide +kernel
theorem dX16_name_119 : decode cX16_name 119 = .ok (.aload_n 0, 1) := by decide +kernel
theorem dX16_name_120 : decode cX16_name 120 = .ok (.getfield 240, 3) := by decide +kernel
theorem dX16_name_123 : decode cX16_name 123 = .ok (.aload_n 0, 1) := by decide +kernel
theorem dX16_name_124 : decode cX16_name 124 = .ok (.getfield 259, 3) := by decide +kernel
theorem dX16_name_127 : decode cX16_name 127 = .ok (.iconst 1, 1) := by decide +kernel
theorem dX16_name_128 : decode cX16_name 128 = .ok (.iadd, 1) := by decide +kernel
theorem dX16_name_129 : decode cX16_name 129 = .ok (.aload_n 0, 1) := by decide +kernel
theorem dX16_name_130 : decode cX16_name 130 = .ok (.getfield 240, 3) := by decide +kernel
theorem dX16_name_133 : decode cX16_name 133 = .ok (.aload_n 0, 1) := by decide +kernel
theorem dX16_name_134 : decode cX16_name 134 = .ok (.getfield 259, 3) := by decide +kernel
theorem dX16_name_137 : decode cX16_name 137 = .ok (.iaload, 1) := by decide +kernel
theorem dX16_name_138 : decode cX16_name 138 = .ok (.iload_n 3, 1) := by decide +kernel
theorem dX16_name_139 : decode cX16_name 139 = .ok (.iadd, 1) := by decide +kernel
theorem dX16_name_140 : decode cX16_name 140 = .ok (.iastore, 1) := by decide +kernel
theorem dX16_name_141 : decode cX16_name 141 = .ok (.aload_n 0, 1) := by decide +kernel
theorem dX16_name_142 : decode cX16_name 142 = .ok (.getfield 256, 3) := by decide +kernel
theorem dX16_name_145 : decode cX16_name 145 = .ok (.aload_n 0, 1) := by decide +kernel
theorem dX16_name_146 : decode cX16_name 146 = .ok (.getfield 259, 3) := by decide +kernel
theorem dX16_name_149 : decode cX16_name 149 = .ok (.aload_n 0, 1) := by decide +kernel
theorem dX16_name_150 : decode cX16_name 150 = .ok (.getfield 249, 3) := by decide +kernel
theorem dX16_name_153 : decode cX16_name 153 = .ok (.iload 4, 2) := by decide +kernel
theorem dX16_name_155 : decode cX16_name 155 = .ok (.iaload, 1) := by decide +kernel
theorem dX16_name_156 : decode cX16_name 156 = .ok (.iastore, 1) := by decide +kernel
theorem dX16_name_157 : decode cX16_name 157 = .ok (.aload_n 0, 1) := by decide +kernel
theorem dX16_name_158 : decode cX16_name 158 = .ok (.getfield 249, 3) := by decide +kernel
theorem dX16_name_161 : decode cX16_name 161 = .ok (.iload 4, 2) := by decide +kernel
theorem dX16_name_163 : decode cX16_name 163 = .ok (.aload_n 0, 1) := by decide +kernel
theorem dX16_name_164 : decode cX16_name 164 = .ok (.getfield 259, 3) := by decide +kernel
theorem dX16_name_167 : decode cX16_name 167 = .ok (.iconst 1, 1) := by decide +kernel
theorem dX16_name_168 : decode cX16_name 168 = .ok (.iadd, 1) := by decide +kernel
theorem dX16_name_169 : decode cX16_name 169 = .ok (.iastore, 1) := by decide +kernel
theorem dX16_name_170 : decode cX16_name 170 = .ok (.aload_n 0, 1) := by decide +kernel
theorem dX16_name_171 : decode cX16_name 171 = .ok (.dup, 1) := by decide +kernel
theorem dX16_name_172 : decode cX16_name 172 = .ok (.getfield 259, 3) := by decide +kernel
theorem dX16_name_175 : decode cX16_name 175 = .ok (.iconst 1, 1) := by decide +kernel
theorem dX16_name_176 : decode cX16_name 176 = .ok (.iadd, 1) := by decide +kernel
theorem dX16_name_177 : decode cX16_name 177 = .ok (.putfield 259, 3) := by decide +kernel
theorem dX16_name_180 : decode cX16_name 180 = .ok (.aload_n 0, 1) := by decide +kernel
theorem dX16_name_181 : decode cX16_name 181 = .ok (.getfield 259, 3) := by decide +kernel
theorem dX16_name_184 : decode cX16_name 184 = .ok (.iconst 1, 1) := by decide +kernel
theorem dX16_name_185 : decode cX16_name 185 = .ok (.isub, 1) := by decide +kernel
theorem dX16_name_186 : decode cX16_name 186 = .ok (.ireturn, 1) := by decide +kernel
theorem dX16_nameOf_0 : decode cX16_nameOf 0 = .ok (.iconst 0, 1) := by decide +kernel
theorem dX16_nameOf_1 : decode cX16_nameOf 1 = .ok (.istore_n 2, 1) := by decide +kernel
theorem dX16_nameOf_2 : decode cX16_nameOf 2 = .ok (.iload_n 2, 1) := by decide +kernel
theorem dX16_nameOf_3 : decode cX16_nameOf 3 = .ok (.aload_n 1, 1) := by decide +kernel
theorem dX16_nameOf_4 : decode cX16_nameOf 4 = .ok (.invokevirtual 104, 3) := by decide +kernel
theorem dX16_nameOf_7 : decode cX16_nameOf 7 = .ok (.if_icmp .ge 21, 3) := by decide +kernel
theorem dX16_nameOf_10 : decode cX16_nameOf 10 = .ok (.aload_n 0, 1) := by decide +kernel
theorem dX16_nameOf_11 : decode cX16_nameOf 11 = .ok (.getfield 53, 3) := by decide +kernel
theorem dX16_nameOf_14 : decode cX16_nameOf 14 = .ok (.iload_n 2, 1) := by decide +kernel
theorem dX16_nameOf_15 : decode cX16_nameOf 15 = .ok (.aload_n 1, 1) := by decide +kernel
theorem dX16_nameOf_16 : decode cX16_nameOf 16 = .ok (.iload_n 2, 1) := by decide +kernel
theorem dX16_nameOf_17 : decode cX16_nameOf 17 = .ok (.invokevirtual 109, 3) := by decide +kernel
theorem dX16_nameOf_20 : decode cX16_nameOf 20 = .ok (.i2b, 1) := by decide +kernel
theorem dX16_nameOf_21 : decode cX16_nameOf 21 = .ok (.bastore, 1) := by decide +kernel
theorem dX16_nameOf_22 : decode cX16_nameOf 22 = .ok (.iinc 2 1, 3) := by decide +kernel
theorem dX16_nameOf_25 : decode cX16_nameOf 25 = .ok (.goto (-23), 3) := by decide +kernel
theorem dX16_nameOf_28 : decode cX16_nameOf 28 = .ok (.aload_n 0, 1) := by decide +kernel
theorem dX16_nameOf_29 : decode cX16_nameOf 29 = .ok (.aload_n 0, 1) := by decide +kernel
theorem dX16_nameOf_30 : decode cX16_nameOf 30 = .ok (.getfield 53, 3) := by decide +kernel
theorem dX16_nameOf_33 : decode cX16_nameOf 33 = .ok (.iconst 0, 1) := by decide +kernel
