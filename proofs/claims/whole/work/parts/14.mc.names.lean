theorem dX15_kind_0 : decode cX15_kind 0 = .ok (.aload_n 0, 1) := by decide +kernel
theorem dX15_kind_1 : decode cX15_kind 1 = .ok (.getfield 9, 3) := by decide +kernel
theorem dX15_kind_4 : decode cX15_kind 4 = .ok (.iload_n 1, 1) := by decide +kernel
theorem dX15_kind_5 : decode cX15_kind 5 = .ok (.laload, 1) := by decide +kernel
theorem dX15_kind_6 : decode cX15_kind 6 = .ok (.ldc2_w 61, 3) := by decide +kernel
theorem dX15_kind_9 : decode cX15_kind 9 = .ok (.land, 1) := by decide +kernel
theorem dX15_kind_10 : decode cX15_kind 10 = .ok (.l2i, 1) := by decide +kernel
theorem dX15_kind_11 : decode cX15_kind 11 = .ok (.ireturn, 1) := by decide +kernel
theorem dX15_weight_0 : decode cX15_weight 0 = .ok (.aload_n 0, 1) := by decide +kernel
theorem dX15_weight_1 : decode cX15_weight 1 = .ok (.iload_n 1, 1) := by decide +kernel
theorem dX15_weight_2 : decode cX15_weight 2 = .ok (.invokevirtual 65, 3) := by decide +kernel
theorem dX15_weight_5 : decode cX15_weight 5 = .ok (.iconst 3, 1) := by decide +kernel
theorem dX15_weight_6 : decode cX15_weight 6 = .ok (.if_icmp .ne 7, 3) := by decide +kernel
theorem dX15_weight_13 : decode cX15_weight 13 = .ok (.aload_n 0, 1) := by decide +kernel
theorem dX15_weight_14 : decode cX15_weight 14 = .ok (.getfield 9, 3) := by decide +kernel
theorem dX15_weight_17 : decode cX15_weight 17 = .ok (.iload_n 1, 1) := by decide +kernel
theorem dX15_weight_18 : decode cX15_weight 18 = .ok (.laload, 1) := by decide +kernel
theorem dX15_weight_19 : decode cX15_weight 19 = .ok (.bipush 39, 2) := by decide +kernel
theorem dX15_weight_21 : decode cX15_weight 21 = .ok (.lshr, 1) := by decide +kernel
theorem dX15_weight_22 : decode cX15_weight 22 = .ok (.ldc2_w 69, 3) := by decide +kernel
theorem dX15_weight_25 : decode cX15_weight 25 = .ok (.land, 1) := by decide +kernel
theorem dX15_weight_26 : decode cX15_weight 26 = .ok (.l2i, 1) := by decide +kernel
theorem dX15_weight_27 : decode cX15_weight 27 = .ok (.ireturn, 1) := by decide +kernel
theorem dX16_isDigit_0 : decode cX16_isDigit 0 = .ok (.iload_n 0, 1) := by decide +kernel
theorem dX16_isDigit_1 : decode cX16_isDigit 1 = .ok (.bipush 48, 2) := by decide +kernel
theorem dX16_isDigit_3 : decode cX16_isDigit 3 = .ok (.if_icmp .lt 13, 3) := by decide +kernel
theorem dX16_isDigit_16 : decode cX16_isDigit 16 = .ok (.iconst 0, 1) := by decide +kernel
theorem dX16_isDigit_17 : decode cX16_isDigit 17 = .ok (.ireturn, 1) := by decide +kernel
theorem dX16_see_0 : decode cX16_see 0 = .ok (.iload_n 1, 1) := by decide +kernel
theorem dX16_see_1 : decode cX16_see 1 = .ok (.iload_n 2, 1) := by decide +kernel
theorem dX16_see_2 : decode cX16_see 2 = .ok (.if_icmp .ge 13, 3) := by decide +kernel
theorem dX16_see_15 : decode cX16_see 15 = .ok (.iconst (-1), 1) := by decide +kernel
theorem dX16_see_16 : decode cX16_see 16 = .ok (.ireturn, 1) := by decide +kernel
theorem dX16_wrongAt_0 : decode cX16_wrongAt 0 = .ok (.aload_n 0, 1) := by decide +kernel
theorem dX16_wrongAt_1 : decode cX16_wrongAt 1 = .ok (.getfield 25, 3) := by decide +kernel
theorem dX16_wrongAt_4 : decode cX16_wrongAt 4 = .ok (.iconst (-1), 1) := by decide +kernel
theorem dX16_wrongAt_5 : decode cX16_wrongAt 5 = .ok (.if_icmp .ne 8, 3) := by decide +kernel
theorem dX16_wrongAt_8 : decode cX16_wrongAt 8 = .ok (.aload_n 0, 1) := by decide +kernel
theorem dX16_wrongAt_9 : decode cX16_wrongAt 9 = .ok (.iload_n 1, 1) := by decide +kernel
theorem dX16_wrongAt_10 : decode cX16_wrongAt 10 = .ok (.putfield 25, 3) := by decide +kernel
theorem dX16_wrongAt_13 : decode cX16_wrongAt 13 = .ok (.return_, 1) := by decide +kernel
theorem dX16_readJson_0 : decode cX16_readJson 0 = .ok (.aload_n 0, 1) := by decide +kernel
theorem dX16_readJson_1 : decode cX16_readJson 1 = .ok (.aload_n 1, 1) := by decide +kernel
theorem dX16_readJson_2 : decode cX16_readJson 2 = .ok (.putfield 80, 3) := by decide +kernel
theorem dX16_readJson_5 : decode cX16_readJson 5 = .ok (.aload_n 0, 1) := by decide +kernel
theorem dX16_readJson_6 : decode cX16_readJson 6 = .ok (.aload_n 2, 1) := by decide +kernel
theorem dX16_readJson_7 : decode cX16_readJson 7 = .ok (.putfield 84, 3) := by decide +kernel
theorem dX16_readJson_10 : decode cX16_readJson 10 = .ok (.aload_n 0, 1) := by decide +kernel
theorem dX16_readJson_11 : decode cX16_readJson 11 = .ok (.iload_n 3, 1) := by decide +kernel
theorem dX16_readJson_12 : decode cX16_readJson 12 = .ok (.putfield 87, 3) := by decide +kernel
theorem dX16_readJson_15 : decode cX16_readJson 15 = .ok (.aload_n 0, 1) := by decide +kernel
theorem dX16_readJson_16 : decode cX16_readJson 16 = .ok (.iload 4, 2) := by decide +kernel
theorem dX16_readJson_18 : decode cX16_readJson 18 = .ok (.putfield 90, 3) := by decide +kernel
theorem dX16_readJson_21 : decode cX16_readJson 21 = .ok (.aload_n 0, 1) := by decide +kernel
theorem dX16_readJson_22 : decode cX16_readJson 22 = .ok (.iconst (-1), 1) := by decide +kernel
theorem dX16_readJson_23 : decode cX16_readJson 23 = .ok (.putfield 25, 3) := by decide +kernel
theorem dX16_readJson_26 : decode cX16_readJson 26 = .ok (.aload_n 0, 1) := by decide +kernel
theorem dX16_readJson_27 : decode cX16_readJson 27 = .ok (.getfield 77, 3) := by decide +kernel
theorem dX16_readJson_30 : decode cX16_readJson 30 = .ok (.istore 5, 2) := by decide +kernel
theorem dX16_readJson_32 : decode cX16_readJson 32 = .ok (.aload_n 0, 1) := by decide +kernel
theorem dX16_readJson_33 : decode cX16_readJson 33 = .ok (.iconst 0, 1) := by decide +kernel
theorem dX16_readJson_34 : decode cX16_readJson 34 = .ok (.invokevirtual 93, 3) := by decide +kernel
theorem dX16_readJson_37 : decode cX16_readJson 37 = .ok (.istore 6, 2) := by decide +kernel
theorem dX16_readJson_39 : decode cX16_readJson 39 = .ok (.aload_n 0, 1) := by decide +kernel
theorem dX16_readJson_40 : decode cX16_readJson 40 = .ok (.getfield 25, 3) := by decide +kernel
theorem dX16_readJson_43 : decode cX16_readJson 43 = .ok (.iconst (-1), 1) := by decide +kernel
theorem dX16_readJson_44 : decode cX16_readJson 44 = .ok (.if_icmp .ne 26, 3) := by decide +kernel
theorem dX16_readJson_70 : decode cX16_readJson 70 = .ok (.aload_n 0, 1) := by decide +kernel
theorem dX16_readJson_71 : decode cX16_readJson 71 = .ok (.iload 5, 2) := by decide +kernel
theorem dX16_readJson_73 : decode cX16_readJson 73 = .ok (.putfield 77, 3) := by decide +kernel
theorem dX16_readJson_76 : decode cX16_readJson 76 = .ok (.aload_n 0, 1) := by decide +kernel
theorem dX16_readJson_77 : decode cX16_readJson 77 = .ok (.getfield 25, 3) := by decide +kernel
theorem dX16_readJson_80 : decode cX16_readJson 80 = .ok (.iconst (-1), 1) := by decide +kernel
theorem dX16_readJson_81 : decode cX16_readJson 81 = .ok (.if_icmp .ne 8, 3) := by decide +kernel
theorem dX16_readJson_89 : decode cX16_readJson 89 = .ok (.iconst (-1), 1) := by decide +kernel
theorem dX16_readJson_90 : decode cX16_readJson 90 = .ok (.ireturn, 1) := by decide +kernel
theorem dX16_jsonNext_0 : decode cX16_jsonNext 0 = .ok (.aload_n 0, 1) := by decide +kernel
theorem dX16_jsonNext_1 : decode cX16_jsonNext 1 = .ok (.getfield 84, 3) := by decide +kernel
theorem dX16_jsonNext_4 : decode cX16_jsonNext 4 = .ok (.aload_n 0, 1) := by decide +kernel
theorem dX16_jsonNext_5 : decode cX16_jsonNext 5 = .ok (.getfield 87, 3) := by decide +kernel
theorem dX16_jsonNext_8 : decode cX16_jsonNext 8 = .ok (.aload_n 0, 1) := by decide +kernel
theorem dX16_jsonNext_9 : decode cX16_jsonNext 9 = .ok (.getfield 90, 3) := by decide +kernel
theorem dX16_jsonNext_12 : decode cX16_jsonNext 12 = .ok (.invokestatic 29, 3) := by decide +kernel
theorem dX16_jsonNext_15 : decode cX16_jsonNext 15 = .ok (.ireturn, 1) := by decide +kernel
theorem dX16_jsonBlanks_0 : decode cX16_jsonBlanks 0 = .ok (.aload_n 0, 1) := by decide +kernel
theorem dX16_jsonBlanks_1 : decode cX16_jsonBlanks 1 = .ok (.invokevirtual 100, 3) := by decide +kernel
theorem dX16_jsonBlanks_4 : decode cX16_jsonBlanks 4 = .ok (.bipush 32, 2) := by decide +kernel
theorem dX16_jsonBlanks_6 : decode cX16_jsonBlanks 6 = .ok (.if_icmp .eq 30, 3) := by decide +kernel
theorem dX16_jsonBlanks_9 : decode cX16_jsonBlanks 9 = .ok (.aload_n 0, 1) := by decide +kernel
theorem dX16_jsonBlanks_10 : decode cX16_jsonBlanks 10 = .ok (.invokevirtual 100, 3) := by decide +kernel
theorem dX16_jsonBlanks_13 : decode cX16_jsonBlanks 13 = .ok (.bipush 9, 2) := by decide +kernel
theorem dX16_jsonBlanks_15 : decode cX16_jsonBlanks 15 = .ok (.if_icmp .eq 21, 3) := by decide +kernel
theorem dX16_jsonBlanks_18 : decode cX16_jsonBlanks 18 = .ok (.aload_n 0, 1) := by decide +kernel
theorem dX16_jsonBlanks_19 : decode cX16_jsonBlanks 19 = .ok (.invokevirtual 100, 3) := by decide +kernel
theorem dX16_jsonBlanks_22 : decode cX16_jsonBlanks 22 = .ok (.bipush 10, 2) := by decide +kernel
theorem dX16_jsonBlanks_24 : decode cX16_jsonBlanks 24 = .ok (.if_icmp .eq 12, 3) := by decide +kernel
theorem dX16_jsonBlanks_27 : decode cX16_jsonBlanks 27 = .ok (.aload_n 0, 1) := by decide +kernel
theorem dX16_jsonBlanks_28 : decode cX16_jsonBlanks 28 = .ok (.invokevirtual 100, 3) := by decide +kernel
theorem dX16_jsonBlanks_31 : decode cX16_jsonBlanks 31 = .ok (.bipush 13, 2) := by decide +kernel
theorem dX16_jsonBlanks_33 : decode cX16_jsonBlanks 33 = .ok (.if_icmp .ne 16, 3) := by decide +kernel
theorem dX16_jsonBlanks_49 : decode cX16_jsonBlanks 49 = .ok (.return_, 1) := by decide +kernel
theorem dX16_jsonValue_0 : decode cX16_jsonValue 0 = .ok (.aload_n 0, 1) := by decide +kernel
theorem dX16_jsonValue_1 : decode cX16_jsonValue 1 = .ok (.invokevirtual 96, 3) := by decide +kernel
theorem dX16_jsonValue_4 : decode cX16_jsonValue 4 = .ok (.aload_n 0, 1) := by decide +kernel
theorem dX16_jsonValue_5 : decode cX16_jsonValue 5 = .ok (.invokevirtual 100, 3) := by decide +kernel
theorem dX16_jsonValue_8 : decode cX16_jsonValue 8 = .ok (.istore_n 2, 1) := by decide +kernel
theorem dX16_jsonValue_9 : decode cX16_jsonValue 9 = .ok (.iload_n 2, 1) := by decide +kernel
theorem dX16_jsonValue_10 : decode cX16_jsonValue 10 = .ok (.bipush 110, 2) := by decide +kernel
theorem dX16_jsonValue_12 : decode cX16_jsonValue 12 = .ok (.if_icmp .ne 11, 3) := by decide +kernel
theorem dX16_jsonValue_23 : decode cX16_jsonValue 23 = .ok (.iload_n 2, 1) := by decide +kernel
theorem dX16_jsonValue_24 : decode cX16_jsonValue 24 = .ok (.bipush 102, 2) := by decide +kernel
theorem dX16_jsonValue_26 : decode cX16_jsonValue 26 = .ok (.if_icmp .ne 11, 3) := by decide +kernel
theorem dX16_jsonValue_37 : decode cX16_jsonValue 37 = .ok (.iload_n 2, 1) := by decide +kernel
theorem dX16_jsonValue_38 : decode cX16_jsonValue 38 = .ok (.bipush 116, 2) := by decide +kernel
theorem dX16_jsonValue_40 : decode cX16_jsonValue 40 = .ok (.if_icmp .ne 11, 3) := by decide +kernel
theorem dX16_jsonValue_51 : decode cX16_jsonValue 51 = .ok (.iload_n 2, 1) := by decide +kernel
theorem dX16_jsonValue_52 : decode cX16_jsonValue 52 = .ok (.bipush 34, 2) := by decide +kernel
theorem dX16_jsonValue_54 : decode cX16_jsonValue 54 = .ok (.if_icmp .ne 52, 3) := by decide +kernel
theorem dX16_jsonValue_106 : decode cX16_jsonValue 106 = .ok (.iload_n 2, 1) := by decide +kernel
theorem dX16_jsonValue_107 : decode cX16_jsonValue 107 = .ok (.bipush 45, 2) := by decide +kernel
theorem dX16_jsonValue_109 : decode cX16_jsonValue 109 = .ok (.if_icmp .eq 10, 3) := by decide +kernel
theorem dX16_jsonValue_112 : decode cX16_jsonValue 112 = .ok (.iload_n 2, 1) := by decide +kernel
theorem dX16_jsonValue_113 : decode cX16_jsonValue 113 = .ok (.invokestatic 33, 3) := by decide +kernel
theorem dX16_jsonValue_116 : decode cX16_jsonValue 116 = .ok (.ifCond .eq 47, 3) := by decide +kernel
theorem dX16_jsonValue_163 : decode cX16_jsonValue 163 = .ok (.iload_n 2, 1) := by decide +kernel
theorem dX16_jsonValue_164 : decode cX16_jsonValue 164 = .ok (.bipush 91, 2) := by decide +kernel
theorem dX16_jsonValue_166 : decode cX16_jsonValue 166 = .ok (.if_icmp .eq 9, 3) := by decide +kernel
theorem dX16_jsonValue_169 : decode cX16_jsonValue 169 = .ok (.iload_n 2, 1) := by decide +kernel
theorem dX16_jsonValue_170 : decode cX16_jsonValue 170 = .ok (.bipush 123, 2) := by decide +kernel
theorem dX16_jsonValue_172 : decode cX16_jsonValue 172 = .ok (.if_icmp .ne 9, 3) := by decide +kernel
theorem dX16_jsonValue_181 : decode cX16_jsonValue 181 = .ok (.aload_n 0, 1) := by decide +kernel
theorem dX16_jsonValue_182 : decode cX16_jsonValue 182 = .ok (.aload_n 0, 1) := by decide +kernel
theorem dX16_jsonValue_183 : decode cX16_jsonValue 183 = .ok (.getfield 87, 3) := by decide +kernel
theorem dX16_jsonValue_186 : decode cX16_jsonValue 186 = .ok (.invokevirtual 37, 3) := by decide +kernel
theorem dX16_jsonValue_189 : decode cX16_jsonValue 189 = .ok (.iconst (-1), 1) := by decide +kernel
theorem dX16_jsonValue_190 : decode cX16_jsonValue 190 = .ok (.ireturn, 1) := by decide +kernel
theorem dX16_name_0 : decode cX16_name 0 = .ok (.iconst 0, 1) := by decide +kernel
theorem dX16_name_1 : decode cX16_name 1 = .ok (.istore 4, 2) := by decide +kernel
theorem dX16_name_3 : decode cX16_name 3 = .ok (.iconst 0, 1) := by decide +kernel
theorem dX16_name_4 : decode cX16_name 4 = .ok (.istore 5, 2) := by decide +kernel
theorem dX16_name_6 : decode cX16_name 6 = .ok (.iload 5, 2) := by decide +kernel
theorem dX16_name_8 : decode cX16_name 8 = .ok (.iload_n 3, 1) := by decide +kernel
theorem dX16_name_9 : decode cX16_name 9 = .ok (.if_icmp .ge 27, 3) := by decide +kernel
theorem dX16_name_12 : decode cX16_name 12 = .ok (.bipush 31, 2) := by decide +kernel
theorem dX16_name_14 : decode cX16_name 14 = .ok (.iload 4, 2) := by decide +kernel
theorem dX16_name_16 : decode cX16_name 16 = .ok (.imul, 1) := by decide +kernel
theorem dX16_name_17 : decode cX16_name 17 = .ok (.aload_n 1, 1) := by decide +kernel
theorem dX16_name_18 : decode cX16_name 18 = .ok (.iload_n 2, 1) := by decide +kernel
theorem dX16_name_19 : decode cX16_name 19 = .ok (.iload 5, 2) := by decide +kernel
theorem dX16_name_21 : decode cX16_name 21 = .ok (.iadd, 1) := by decide +kernel
theorem dX16_name_22 : decode cX16_name 22 = .ok (.baload, 1) := by decide +kernel
theorem dX16_name_23 : decode cX16_name 23 = .ok (.iadd, 1) := by decide +kernel
theorem dX16_name_24 : decode cX16_name 24 = .ok (.sipush 4095, 3) := by decide +kernel
theorem dX16_name_27 : decode cX16_name 27 = .ok (.iand, 1) := by decide +kernel
theorem dX16_name_28 : decode cX16_name 28 = .ok (.istore 4, 2) := by decide +kernel
theorem dX16_name_30 : decode cX16_name 30 = .ok (.iinc 5 1, 3) := by decide +kernel
theorem dX16_name_33 : decode cX16_name 33 = .ok (.goto (-27), 3) := by decide +kernel
theorem dX16_name_36 : decode cX16_name 36 = .ok (.aload_n 0, 1) := by decide +kernel
theorem dX16_name_37 : decode cX16_name 37 = .ok (.getfield 249, 3) := by decide +kernel
theorem dX16_name_40 : decode cX16_name 40 = .ok (.iload 4, 2) := by decide +kernel
theorem dX16_name_42 : decode cX16_name 42 = .ok (.iaload, 1) := by decide +kernel
theorem dX16_name_43 : decode cX16_name 43 = .ok (.iconst 1, 1) := by decide +kernel
theorem dX16_name_44 : decode cX16_name 44 = .ok (.isub, 1) := by decide +kernel
theorem dX16_name_45 : decode cX16_name 45 = .ok (.istore 5, 2) := by decide +kernel
theorem dX16_name_47 : decode cX16_name 47 = .ok (.iload 5, 2) := by decide +kernel
theorem dX16_name_49 : decode cX16_name 49 = .ok (.ifCond .lt 32, 3) := by decide +kernel
theorem dX16_name_81 : decode cX16_name 81 = .ok (.iconst 0, 1) := by decide +kernel
theorem dX16_name_82 : decode cX16_name 82 = .ok (.istore 5, 2) := by decide +kernel
theorem dX16_name_84 : decode cX16_name 84 = .ok (.iload 5, 2) := by decide +kernel
theorem dX16_name_86 : decode cX16_name 86 = .ok (.iload_n 3, 1) := by decide +kernel
theorem dX16_name_87 : decode cX16_name 87 = .ok (.if_icmp .ge 32, 3) := by decide +kernel
theorem dX16_name_90 : decode cX16_name 90 = .ok (.aload_n 0, 1) := by decide +kernel
theorem dX16_name_91 : decode cX16_name 91 = .ok (.getfield 246, 3) := by decide +kernel
theorem dX16_name_94 : decode cX16_name 94 = .ok (.aload_n 0, 1) := by decide +kernel
theorem dX16_name_95 : decode cX16_name 95 = .ok (.getfield 240, 3) := by decide +kernel
theorem dX16_name_98 : decode cX16_name 98 = .ok (.aload_n 0, 1) := by decide +kernel
theorem dX16_name_99 : decode cX16_name 99 = .ok (.getfield 259, 3) := by decide +kernel
theorem dX16_name_102 : decode cX16_name 102 = .ok (.iaload, 1) := by decide +kernel
theorem dX16_name_103 : decode cX16_name 103 = .ok (.iload 5, 2) := by decide +kernel
theorem dX16_name_105 : decode cX16_name 105 = .ok (.iadd, 1) := by decide +kernel
theorem dX16_name_106 : decode cX16_name 106 = .ok (.aload_n 1, 1) := by decide +kernel
theorem dX16_name_107 : decode cX16_name 107 = .ok (.iload_n 2, 1) := by decide +kernel
theorem dX16_name_108 : decode cX16_name 108 = .ok (.iload 5, 2) := by decide +kernel
theorem dX16_name_110 : decode cX16_name 110 = .ok (.iadd, 1) := by decide +kernel
theorem dX16_name_111 : decode cX16_name 111 = .ok (.baload, 1) := by decide +kernel
theorem dX16_name_112 : decode cX16_name 112 = .ok (.bastore, 1) := by decide +kernel
theorem dX16_name_113 : decode cX16_name 113 = .ok (.iinc 5 1, 3) := by decide +kernel
theorem dX16_name_116 : decode cX16_name 116 = .ok (.goto (-32), 3) := by decide +kernel
theorem dX16_name_119 : decode cX16_name 119 = .ok (.aload_n 0, 1) := by decide +kernel
theorem dX16_name_120 : decode cX16_name 120 = .ok (.getfield 240, 3) := by decide +kernel
theorem dX16_name_123 : decode cX16_name 123 = .ok (.aload_n 0, 1) := by decide +kernel
theorem dX16_name_124 : decode cX16_name 124 = .ok (.getfield 259, 3) := by decide +kernel
theorem dX16_name_127 : decode cX16_name 127 = .ok (.iconst 1, 1) := by decide +kernel
theorem dX16_name_128 : decode cX16_name 128 = .ok (.iadd, 1) := by decide +kernel
theorem dX16_name_129 : decode cX16_name 129 = .ok (.aload_n 0, 1) := by decide +kernel
theorem dX16_name_130 : decode cX16_name 130 = .ok (.getfield 240, 3) := by decide +kernel
theorem dX16_name_133 : decode cX16_name 133 = .ok (.aload_n 0, 1) := by decide +kernel
theorem dX16_name_134 : decode cX16_name 134 = .ok (.getfield 259, 3) := by decide +kernel
theorem dX16_name_137 : decode cX16_name 137 = .ok (.iaload, 1) := by decide +kernel
theorem dX16_name_138 : decode cX16_name 138 = .ok (.iload_n 3, 1) := by decide +kernel
theorem dX16_name_139 : decode cX16_name 139 = .ok (.iadd, 1) := by decide +kernel
theorem dX16_name_140 : decode cX16_name 140 = .ok (.iastore, 1) := by decide +kernel
theorem dX16_name_141 : decode cX16_name 141 = .ok (.aload_n 0, 1) := by decide +kernel
theorem dX16_name_142 : decode cX16_name 142 = .ok (.getfield 256, 3) := by decide +kernel
theorem dX16_name_145 : decode cX16_name 145 = .ok (.aload_n 0, 1) := by decide +kernel
theorem dX16_name_146 : decode cX16_name 146 = .ok (.getfield 259, 3) := by decide +kernel
theorem dX16_name_149 : decode cX16_name 149 = .ok (.aload_n 0, 1) := by decide +kernel
theorem dX16_name_150 : decode cX16_name 150 = .ok (.getfield 249, 3) := by decide +kernel
theorem dX16_name_153 : decode cX16_name 153 = .ok (.iload 4, 2) := by decide +kernel
theorem dX16_name_155 : decode cX16_name 155 = .ok (.iaload, 1) := by decide +kernel
theorem dX16_name_156 : decode cX16_name 156 = .ok (.iastore, 1) := by decide +kernel
theorem dX16_name_157 : decode cX16_name 157 = .ok (.aload_n 0, 1) := by decide +kernel
theorem dX16_name_158 : decode cX16_name 158 = .ok (.getfield 249, 3) := by decide +kernel
theorem dX16_name_161 : decode cX16_name 161 = .ok (.iload 4, 2) := by decide +kernel
theorem dX16_name_163 : decode cX16_name 163 = .ok (.aload_n 0, 1) := by decide +kernel
theorem dX16_name_164 : decode cX16_name 164 = .ok (.getfield 259, 3) := by decide +kernel
theorem dX16_name_167 : decode cX16_name 167 = .ok (.iconst 1, 1) := by decide +kernel
theorem dX16_name_168 : decode cX16_name 168 = .ok (.iadd, 1) := by decide +kernel
theorem dX16_name_169 : decode cX16_name 169 = .ok (.iastore, 1) := by decide +kernel
theorem dX16_name_170 : decode cX16_name 170 = .ok (.aload_n 0, 1) := by decide +kernel
theorem dX16_name_171 : decode cX16_name 171 = .ok (.dup, 1) := by decide +kernel
theorem dX16_name_172 : decode cX16_name 172 = .ok (.getfield 259, 3) := by decide +kernel
theorem dX16_name_175 : decode cX16_name 175 = .ok (.iconst 1, 1) := by decide +kernel
theorem dX16_name_176 : decode cX16_name 176 = .ok (.iadd, 1) := by decide +kernel
theorem dX16_name_177 : decode cX16_name 177 = .ok (.putfield 259, 3) := by decide +kernel
theorem dX16_name_180 : decode cX16_name 180 = .ok (.aload_n 0, 1) := by decide +kernel
theorem dX16_name_181 : decode cX16_name 181 = .ok (.getfield 259, 3) := by decide +kernel
theorem dX16_name_184 : decode cX16_name 184 = .ok (.iconst 1, 1) := by decide +kernel
theorem dX16_name_185 : decode cX16_name 185 = .ok (.isub, 1) := by decide +kernel
theorem dX16_name_186 : decode cX16_name 186 = .ok (.ireturn, 1) := by decide +kernel
theorem dX16_nameOf_0 : decode cX16_nameOf 0 = .ok (.iconst 0, 1) := by decide +kernel
theorem dX16_nameOf_1 : decode cX16_nameOf 1 = .ok (.istore_n 2, 1) := by decide +kernel
theorem dX16_nameOf_2 : decode cX16_nameOf 2 = .ok (.iload_n 2, 1) := by decide +kernel
theorem dX16_nameOf_3 : decode cX16_nameOf 3 = .ok (.aload_n 1, 1) := by decide +kernel
theorem dX16_nameOf_4 : decode cX16_nameOf 4 = .ok (.invokevirtual 104, 3) := by decide +kernel
theorem dX16_nameOf_7 : decode cX16_nameOf 7 = .ok (.if_icmp .ge 21, 3) := by decide +kernel
theorem dX16_nameOf_10 : decode cX16_nameOf 10 = .ok (.aload_n 0, 1) := by decide +kernel
theorem dX16_nameOf_11 : decode cX16_nameOf 11 = .ok (.getfield 53, 3) := by decide +kernel
theorem dX16_nameOf_14 : decode cX16_nameOf 14 = .ok (.iload_n 2, 1) := by decide +kernel
theorem dX16_nameOf_15 : decode cX16_nameOf 15 = .ok (.aload_n 1, 1) := by decide +kernel
theorem dX16_nameOf_16 : decode cX16_nameOf 16 = .ok (.iload_n 2, 1) := by decide +kernel
theorem dX16_nameOf_17 : decode cX16_nameOf 17 = .ok (.invokevirtual 109, 3) := by decide +kernel
theorem dX16_nameOf_20 : decode cX16_nameOf 20 = .ok (.i2b, 1) := by decide +kernel
theorem dX16_nameOf_21 : decode cX16_nameOf 21 = .ok (.bastore, 1) := by decide +kernel
theorem dX16_nameOf_22 : decode cX16_nameOf 22 = .ok (.iinc 2 1, 3) := by decide +kernel
theorem dX16_nameOf_25 : decode cX16_nameOf 25 = .ok (.goto (-23), 3) := by decide +kernel
theorem dX16_nameOf_28 : decode cX16_nameOf 28 = .ok (.aload_n 0, 1) := by decide +kernel
theorem dX16_nameOf_29 : decode cX16_nameOf 29 = .ok (.aload_n 0, 1) := by decide +kernel
theorem dX16_nameOf_30 : decode cX16_nameOf 30 = .ok (.getfield 53, 3) := by decide +kernel
theorem dX16_nameOf_33 : decode cX16_nameOf 33 = .ok (.iconst 0, 1) := by decide +kernel
theorem dX16_nameOf_34 : decode cX16_nameOf 34 = .ok (.aload_n 1, 1) := by decide +kernel
theorem dX16_nameOf_35 : decode cX16_nameOf 35 = .ok (.invokevirtual 104, 3) := by decide +kernel
theorem dX16_nameOf_38 : decode cX16_nameOf 38 = .ok (.invokevirtual 262, 3) := by decide +kernel
theorem dX16_nameOf_41 : decode cX16_nameOf 41 = .ok (.ireturn, 1) := by decide +kernel
theorem dX16_fail_0 : decode cX16_fail 0 = .ok (.aload_n 0, 1) := by decide +kernel
theorem dX16_fail_1 : decode cX16_fail 1 = .ok (.getfield 267, 3) := by decide +kernel
theorem dX16_fail_4 : decode cX16_fail 4 = .ok (.iconst (-1), 1) := by decide +kernel
theorem dX16_fail_5 : decode cX16_fail 5 = .ok (.if_icmp .ne 8, 3) := by decide +kernel
theorem dX16_fail_8 : decode cX16_fail 8 = .ok (.aload_n 0, 1) := by decide +kernel
theorem dX16_fail_9 : decode cX16_fail 9 = .ok (.iload_n 1, 1) := by decide +kernel
theorem dX16_fail_10 : decode cX16_fail 10 = .ok (.putfield 267, 3) := by decide +kernel
theorem dX16_fail_13 : decode cX16_fail 13 = .ok (.return_, 1) := by decide +kernel
theorem dX16_bad_0 : decode cX16_bad 0 = .ok (.aload_n 0, 1) := by decide +kernel
theorem dX16_bad_1 : decode cX16_bad 1 = .ok (.getfield 267, 3) := by decide +kernel
theorem dX16_bad_4 : decode cX16_bad 4 = .ok (.iconst (-1), 1) := by decide +kernel
theorem dX16_bad_5 : decode cX16_bad 5 = .ok (.if_icmp .eq 7, 3) := by decide +kernel
theorem dX16_bad_8 : decode cX16_bad 8 = .ok (.iconst 1, 1) := by decide +kernel
theorem dX16_bad_9 : decode cX16_bad 9 = .ok (.goto 4, 3) := by decide +kernel
theorem dX16_bad_12 : decode cX16_bad 12 = .ok (.iconst 0, 1) := by decide +kernel
theorem dX16_bad_13 : decode cX16_bad 13 = .ok (.ireturn, 1) := by decide +kernel
theorem dX16_begin_0 : decode cX16_begin 0 = .ok (.aload_n 0, 1) := by decide +kernel
theorem dX16_begin_1 : decode cX16_begin 1 = .ok (.aload_n 1, 1) := by decide +kernel
theorem dX16_begin_2 : decode cX16_begin 2 = .ok (.putfield 270, 3) := by decide +kernel
theorem dX16_begin_5 : decode cX16_begin 5 = .ok (.aload_n 0, 1) := by decide +kernel
theorem dX16_begin_6 : decode cX16_begin 6 = .ok (.iload_n 2, 1) := by decide +kernel
theorem dX16_begin_7 : decode cX16_begin 7 = .ok (.putfield 273, 3) := by decide +kernel
theorem dX16_begin_10 : decode cX16_begin 10 = .ok (.aload_n 0, 1) := by decide +kernel
theorem dX16_begin_11 : decode cX16_begin 11 = .ok (.iconst (-1), 1) := by decide +kernel
theorem dX16_begin_12 : decode cX16_begin 12 = .ok (.putfield 267, 3) := by decide +kernel
theorem dX16_begin_15 : decode cX16_begin 15 = .ok (.aload_n 0, 1) := by decide +kernel
theorem dX16_begin_16 : decode cX16_begin 16 = .ok (.iconst 0, 1) := by decide +kernel
theorem dX16_begin_17 : decode cX16_begin 17 = .ok (.putfield 276, 3) := by decide +kernel
theorem dX16_begin_20 : decode cX16_begin 20 = .ok (.aload_n 0, 1) := by decide +kernel
theorem dX16_begin_21 : decode cX16_begin 21 = .ok (.invokevirtual 279, 3) := by decide +kernel
theorem dX16_begin_24 : decode cX16_begin 24 = .ok (.return_, 1) := by decide +kernel
theorem dX16_lex_0 : decode cX16_lex 0 = .ok (.aload_n 0, 1) := by decide +kernel
theorem dX16_lex_1 : decode cX16_lex 1 = .ok (.getfield 276, 3) := by decide +kernel
theorem dX16_lex_4 : decode cX16_lex 4 = .ok (.istore_n 1, 1) := by decide +kernel
theorem dX16_lex_5 : decode cX16_lex 5 = .ok (.aload_n 0, 1) := by decide +kernel
theorem dX16_lex_6 : decode cX16_lex 6 = .ok (.iconst 0, 1) := by decide +kernel
theorem dX16_lex_7 : decode cX16_lex 7 = .ok (.putfield 291, 3) := by decide +kernel
theorem dX16_lex_10 : decode cX16_lex 10 = .ok (.aload_n 0, 1) := by decide +kernel
theorem dX16_lex_11 : decode cX16_lex 11 = .ok (.iconst 0, 1) := by decide +kernel
theorem dX16_lex_12 : decode cX16_lex 12 = .ok (.putfield 295, 3) := by decide +kernel
theorem dX16_lex_15 : decode cX16_lex 15 = .ok (.aload_n 0, 1) := by decide +kernel
theorem dX16_lex_16 : decode cX16_lex 16 = .ok (.getfield 270, 3) := by decide +kernel
theorem dX16_lex_19 : decode cX16_lex 19 = .ok (.iload_n 1, 1) := by decide +kernel
theorem dX16_lex_20 : decode cX16_lex 20 = .ok (.aload_n 0, 1) := by decide +kernel
theorem dX16_lex_21 : decode cX16_lex 21 = .ok (.getfield 273, 3) := by decide +kernel
theorem dX16_lex_24 : decode cX16_lex 24 = .ok (.invokestatic 29, 3) := by decide +kernel
theorem dX16_lex_27 : decode cX16_lex 27 = .ok (.istore_n 2, 1) := by decide +kernel
theorem dX16_lex_28 : decode cX16_lex 28 = .ok (.iload_n 2, 1) := by decide +kernel
theorem dX16_lex_29 : decode cX16_lex 29 = .ok (.bipush 9, 2) := by decide +kernel
theorem dX16_lex_31 : decode cX16_lex 31 = .ok (.if_icmp .eq 27, 3) := by decide +kernel
theorem dX16_lex_34 : decode cX16_lex 34 = .ok (.iload_n 2, 1) := by decide +kernel
theorem dX16_lex_35 : decode cX16_lex 35 = .ok (.bipush 10, 2) := by decide +kernel
theorem dX16_lex_37 : decode cX16_lex 37 = .ok (.if_icmp .eq 21, 3) := by decide +kernel
theorem dX16_lex_40 : decode cX16_lex 40 = .ok (.iload_n 2, 1) := by decide +kernel
theorem dX16_lex_41 : decode cX16_lex 41 = .ok (.bipush 13, 2) := by decide +kernel
theorem dX16_lex_43 : decode cX16_lex 43 = .ok (.if_icmp .eq 15, 3) := by decide +kernel
theorem dX16_lex_46 : decode cX16_lex 46 = .ok (.iload_n 2, 1) := by decide +kernel
theorem dX16_lex_47 : decode cX16_lex 47 = .ok (.bipush 32, 2) := by decide +kernel
theorem dX16_lex_49 : decode cX16_lex 49 = .ok (.if_icmp .eq 9, 3) := by decide +kernel
theorem dX16_lex_52 : decode cX16_lex 52 = .ok (.iload_n 2, 1) := by decide +kernel
theorem dX16_lex_53 : decode cX16_lex 53 = .ok (.bipush 35, 2) := by decide +kernel
theorem dX16_lex_55 : decode cX16_lex 55 = .ok (.if_icmp .ne 80, 3) := by decide +kernel
theorem dX16_lex_135 : decode cX16_lex 135 = .ok (.aload_n 0, 1) := by decide +kernel
theorem dX16_lex_136 : decode cX16_lex 136 = .ok (.iload_n 1, 1) := by decide +kernel
theorem dX16_lex_137 : decode cX16_lex 137 = .ok (.putfield 298, 3) := by decide +kernel
theorem dX16_lex_140 : decode cX16_lex 140 = .ok (.aload_n 0, 1) := by decide +kernel
theorem dX16_lex_141 : decode cX16_lex 141 = .ok (.iconst (-1), 1) := by decide +kernel
theorem dX16_lex_142 : decode cX16_lex 142 = .ok (.putfield 285, 3) := by decide +kernel
theorem dX16_lex_145 : decode cX16_lex 145 = .ok (.aload_n 0, 1) := by decide +kernel
theorem dX16_lex_146 : decode cX16_lex 146 = .ok (.iconst (-1), 1) := by decide +kernel
theorem dX16_lex_147 : decode cX16_lex 147 = .ok (.putfield 25, 3) := by decide +kernel
theorem dX16_lex_150 : decode cX16_lex 150 = .ok (.iload_n 2, 1) := by decide +kernel
theorem dX16_lex_151 : decode cX16_lex 151 = .ok (.iconst (-1), 1) := by decide +kernel
theorem dX16_lex_152 : decode cX16_lex 152 = .ok (.if_icmp .ne 16, 3) := by decide +kernel
theorem dX16_lex_155 : decode cX16_lex 155 = .ok (.aload_n 0, 1) := by decide +kernel
theorem dX16_lex_156 : decode cX16_lex 156 = .ok (.iconst 0, 1) := by decide +kernel
theorem dX16_lex_157 : decode cX16_lex 157 = .ok (.putfield 301, 3) := by decide +kernel
theorem dX16_lex_160 : decode cX16_lex 160 = .ok (.aload_n 0, 1) := by decide +kernel
theorem dX16_lex_161 : decode cX16_lex 161 = .ok (.iload_n 1, 1) := by decide +kernel
theorem dX16_lex_162 : decode cX16_lex 162 = .ok (.putfield 276, 3) := by decide +kernel
theorem dX16_lex_165 : decode cX16_lex 165 = .ok (.goto 114, 3) := by decide +kernel
theorem dX16_lex_279 : decode cX16_lex 279 = .ok (.return_, 1) := by decide +kernel
theorem dX16_isSign_0 : decode cX16_isSign 0 = .ok (.aload_n 0, 1) := by decide +kernel
theorem dX16_isSign_1 : decode cX16_isSign 1 = .ok (.invokevirtual 282, 3) := by decide +kernel
theorem dX16_isSign_4 : decode cX16_isSign 4 = .ok (.ifCond .ne 24, 3) := by decide +kernel
theorem dX16_isSign_7 : decode cX16_isSign 7 = .ok (.aload_n 0, 1) := by decide +kernel
theorem dX16_isSign_8 : decode cX16_isSign 8 = .ok (.getfield 301, 3) := by decide +kernel
theorem dX16_isSign_11 : decode cX16_isSign 11 = .ok (.bipush 6, 2) := by decide +kernel
theorem dX16_isSign_13 : decode cX16_isSign 13 = .ok (.if_icmp .ne 15, 3) := by decide +kernel
theorem dX16_isSign_28 : decode cX16_isSign 28 = .ok (.iconst 0, 1) := by decide +kernel
theorem dX16_isSign_29 : decode cX16_isSign 29 = .ok (.ireturn, 1) := by decide +kernel
theorem dX16_isKey_0 : decode cX16_isKey 0 = .ok (.aload_n 0, 1) := by decide +kernel
theorem dX16_isKey_1 : decode cX16_isKey 1 = .ok (.invokevirtual 282, 3) := by decide +kernel
theorem dX16_isKey_4 : decode cX16_isKey 4 = .ok (.ifCond .ne 23, 3) := by decide +kernel
theorem dX16_isKey_7 : decode cX16_isKey 7 = .ok (.aload_n 0, 1) := by decide +kernel
theorem dX16_isKey_8 : decode cX16_isKey 8 = .ok (.getfield 301, 3) := by decide +kernel
theorem dX16_isKey_11 : decode cX16_isKey 11 = .ok (.iconst 3, 1) := by decide +kernel
theorem dX16_isKey_12 : decode cX16_isKey 12 = .ok (.if_icmp .ne 15, 3) := by decide +kernel
theorem dX16_isKey_27 : decode cX16_isKey 27 = .ok (.iconst 0, 1) := by decide +kernel
theorem dX16_isKey_28 : decode cX16_isKey 28 = .ok (.ireturn, 1) := by decide +kernel
theorem dX16_isName_0 : decode cX16_isName 0 = .ok (.aload_n 0, 1) := by decide +kernel
theorem dX16_isName_1 : decode cX16_isName 1 = .ok (.invokevirtual 282, 3) := by decide +kernel
theorem dX16_isName_4 : decode cX16_isName 4 = .ok (.ifCond .ne 15, 3) := by decide +kernel
theorem dX16_isName_7 : decode cX16_isName 7 = .ok (.aload_n 0, 1) := by decide +kernel
theorem dX16_isName_8 : decode cX16_isName 8 = .ok (.getfield 301, 3) := by decide +kernel
theorem dX16_isName_11 : decode cX16_isName 11 = .ok (.iconst 2, 1) := by decide +kernel
theorem dX16_isName_12 : decode cX16_isName 12 = .ok (.if_icmp .ne 7, 3) := by decide +kernel
theorem dX16_isName_19 : decode cX16_isName 19 = .ok (.iconst 0, 1) := by decide +kernel
theorem dX16_isName_20 : decode cX16_isName 20 = .ok (.ireturn, 1) := by decide +kernel
theorem dX16_needKey_0 : decode cX16_needKey 0 = .ok (.aload_n 0, 1) := by decide +kernel
theorem dX16_needKey_1 : decode cX16_needKey 1 = .ok (.iload_n 1, 1) := by decide +kernel
theorem dX16_needKey_2 : decode cX16_needKey 2 = .ok (.invokevirtual 333, 3) := by decide +kernel
theorem dX16_needKey_5 : decode cX16_needKey 5 = .ok (.ifCond .eq 10, 3) := by decide +kernel
theorem dX16_needKey_15 : decode cX16_needKey 15 = .ok (.aload_n 0, 1) := by decide +kernel
theorem dX16_needKey_16 : decode cX16_needKey 16 = .ok (.aload_n 0, 1) := by decide +kernel
theorem dX16_needKey_17 : decode cX16_needKey 17 = .ok (.getfield 298, 3) := by decide +kernel
theorem dX16_needKey_20 : decode cX16_needKey 20 = .ok (.invokevirtual 288, 3) := by decide +kernel
theorem dX16_needKey_23 : decode cX16_needKey 23 = .ok (.return_, 1) := by decide +kernel
theorem dX16_node_0 : decode cX16_node 0 = .ok (.aload_n 0, 1) := by decide +kernel
theorem dX16_node_1 : decode cX16_node 1 = .ok (.getfield 336, 3) := by decide +kernel
theorem dX16_node_4 : decode cX16_node 4 = .ok (.aload_n 0, 1) := by decide +kernel
theorem dX16_node_5 : decode cX16_node 5 = .ok (.getfield 338, 3) := by decide +kernel
theorem dX16_node_8 : decode cX16_node 8 = .ok (.iload_n 1, 1) := by decide +kernel
theorem dX16_node_9 : decode cX16_node 9 = .ok (.iastore, 1) := by decide +kernel
theorem dX16_node_10 : decode cX16_node 10 = .ok (.aload_n 0, 1) := by decide +kernel
theorem dX16_node_11 : decode cX16_node 11 = .ok (.getfield 341, 3) := by decide +kernel
theorem dX16_node_14 : decode cX16_node 14 = .ok (.aload_n 0, 1) := by decide +kernel
theorem dX16_node_15 : decode cX16_node 15 = .ok (.getfield 338, 3) := by decide +kernel
theorem dX16_node_18 : decode cX16_node 18 = .ok (.iload_n 2, 1) := by decide +kernel
theorem dX16_node_19 : decode cX16_node 19 = .ok (.iastore, 1) := by decide +kernel
theorem dX16_node_20 : decode cX16_node 20 = .ok (.aload_n 0, 1) := by decide +kernel
theorem dX16_node_21 : decode cX16_node 21 = .ok (.getfield 344, 3) := by decide +kernel
theorem dX16_node_24 : decode cX16_node 24 = .ok (.aload_n 0, 1) := by decide +kernel
theorem dX16_node_25 : decode cX16_node 25 = .ok (.getfield 338, 3) := by decide +kernel
theorem dX16_node_28 : decode cX16_node 28 = .ok (.iload_n 3, 1) := by decide +kernel
theorem dX16_node_29 : decode cX16_node 29 = .ok (.iastore, 1) := by decide +kernel
theorem dX16_node_30 : decode cX16_node 30 = .ok (.aload_n 0, 1) := by decide +kernel
theorem dX16_node_31 : decode cX16_node 31 = .ok (.getfield 347, 3) := by decide +kernel
theorem dX16_node_34 : decode cX16_node 34 = .ok (.aload_n 0, 1) := by decide +kernel
theorem dX16_node_35 : decode cX16_node 35 = .ok (.getfield 338, 3) := by decide +kernel
theorem dX16_node_38 : decode cX16_node 38 = .ok (.iload 4, 2) := by decide +kernel
theorem dX16_node_40 : decode cX16_node 40 = .ok (.iastore, 1) := by decide +kernel
theorem dX16_node_41 : decode cX16_node 41 = .ok (.aload_n 0, 1) := by decide +kernel
theorem dX16_node_42 : decode cX16_node 42 = .ok (.getfield 350, 3) := by decide +kernel
theorem dX16_node_45 : decode cX16_node 45 = .ok (.aload_n 0, 1) := by decide +kernel
theorem dX16_node_46 : decode cX16_node 46 = .ok (.getfield 338, 3) := by decide +kernel
theorem dX16_node_49 : decode cX16_node 49 = .ok (.iload 5, 2) := by decide +kernel
theorem dX16_node_51 : decode cX16_node 51 = .ok (.iastore, 1) := by decide +kernel
theorem dX16_node_52 : decode cX16_node 52 = .ok (.aload_n 0, 1) := by decide +kernel
theorem dX16_node_53 : decode cX16_node 53 = .ok (.getfield 353, 3) := by decide +kernel
theorem dX16_node_56 : decode cX16_node 56 = .ok (.aload_n 0, 1) := by decide +kernel
theorem dX16_node_57 : decode cX16_node 57 = .ok (.getfield 338, 3) := by decide +kernel
theorem dX16_node_60 : decode cX16_node 60 = .ok (.iconst (-1), 1) := by decide +kernel
theorem dX16_node_61 : decode cX16_node 61 = .ok (.iastore, 1) := by decide +kernel
theorem dX16_node_62 : decode cX16_node 62 = .ok (.aload_n 0, 1) := by decide +kernel
theorem dX16_node_63 : decode cX16_node 63 = .ok (.dup, 1) := by decide +kernel
theorem dX16_node_64 : decode cX16_node 64 = .ok (.getfield 338, 3) := by decide +kernel
theorem dX16_node_67 : decode cX16_node 67 = .ok (.iconst 1, 1) := by decide +kernel
theorem dX16_node_68 : decode cX16_node 68 = .ok (.iadd, 1) := by decide +kernel
theorem dX16_node_69 : decode cX16_node 69 = .ok (.putfield 338, 3) := by decide +kernel
theorem dX16_node_72 : decode cX16_node 72 = .ok (.aload_n 0, 1) := by decide +kernel
theorem dX16_node_73 : decode cX16_node 73 = .ok (.getfield 338, 3) := by decide +kernel
theorem dX16_node_76 : decode cX16_node 76 = .ok (.iconst 1, 1) := by decide +kernel
theorem dX16_node_77 : decode cX16_node 77 = .ok (.isub, 1) := by decide +kernel
theorem dX16_node_78 : decode cX16_node 78 = .ok (.ireturn, 1) := by decide +kernel
theorem dX16_hang_0 : decode cX16_hang 0 = .ok (.iload_n 1, 1) := by decide +kernel
theorem dX16_hang_1 : decode cX16_hang 1 = .ok (.iconst (-1), 1) := by decide +kernel
theorem dX16_hang_2 : decode cX16_hang 2 = .ok (.if_icmp .eq 15, 3) := by decide +kernel
theorem dX16_hang_17 : decode cX16_hang 17 = .ok (.iload_n 2, 1) := by decide +kernel
theorem dX16_hang_18 : decode cX16_hang 18 = .ok (.ireturn, 1) := by decide +kernel
theorem dX16_path_0 : decode cX16_path 0 = .ok (.iconst (-1), 1) := by decide +kernel
theorem dX16_path_1 : decode cX16_path 1 = .ok (.istore_n 1, 1) := by decide +kernel
theorem dX16_path_2 : decode cX16_path 2 = .ok (.iconst (-1), 1) := by decide +kernel
theorem dX16_path_3 : decode cX16_path 3 = .ok (.istore_n 2, 1) := by decide +kernel
theorem dX16_path_4 : decode cX16_path 4 = .ok (.iconst 0, 1) := by decide +kernel
theorem dX16_path_5 : decode cX16_path 5 = .ok (.istore_n 3, 1) := by decide +kernel
theorem dX16_path_6 : decode cX16_path 6 = .ok (.iload_n 3, 1) := by decide +kernel
theorem dX16_path_7 : decode cX16_path 7 = .ok (.bipush 6, 2) := by decide +kernel
theorem dX16_path_9 : decode cX16_path 9 = .ok (.if_icmp .ge 86, 3) := by decide +kernel
theorem dX16_path_12 : decode cX16_path 12 = .ok (.aload_n 0, 1) := by decide +kernel
theorem dX16_path_13 : decode cX16_path 13 = .ok (.invokevirtual 382, 3) := by decide +kernel
theorem dX16_path_16 : decode cX16_path 16 = .ok (.ifCond .eq 10, 3) := by decide +kernel
theorem dX16_path_26 : decode cX16_path 26 = .ok (.aload_n 0, 1) := by decide +kernel
theorem dX16_path_27 : decode cX16_path 27 = .ok (.aload_n 0, 1) := by decide +kernel
theorem dX16_path_28 : decode cX16_path 28 = .ok (.getfield 298, 3) := by decide +kernel
theorem dX16_path_31 : decode cX16_path 31 = .ok (.invokevirtual 288, 3) := by decide +kernel
theorem dX16_path_34 : decode cX16_path 34 = .ok (.iload_n 1, 1) := by decide +kernel
theorem dX16_path_35 : decode cX16_path 35 = .ok (.ireturn, 1) := by decide +kernel
theorem dX16_term_0 : decode cX16_term 0 = .ok (.aload_n 0, 1) := by decide +kernel
theorem dX16_term_1 : decode cX16_term 1 = .ok (.invokevirtual 282, 3) := by decide +kernel
theorem dX16_term_4 : decode cX16_term 4 = .ok (.ifCond .eq 5, 3) := by decide +kernel
theorem dX16_term_9 : decode cX16_term 9 = .ok (.aload_n 0, 1) := by decide +kernel
theorem dX16_term_10 : decode cX16_term 10 = .ok (.getfield 298, 3) := by decide +kernel
theorem dX16_term_13 : decode cX16_term 13 = .ok (.istore_n 1, 1) := by decide +kernel
theorem dX16_term_14 : decode cX16_term 14 = .ok (.aload_n 0, 1) := by decide +kernel
theorem dX16_term_15 : decode cX16_term 15 = .ok (.getfield 301, 3) := by decide +kernel
theorem dX16_term_18 : decode cX16_term 18 = .ok (.iconst 3, 1) := by decide +kernel
theorem dX16_term_19 : decode cX16_term 19 = .ok (.if_icmp .ne 52, 3) := by decide +kernel
theorem dX16_term_71 : decode cX16_term 71 = .ok (.aload_n 0, 1) := by decide +kernel
theorem dX16_term_72 : decode cX16_term 72 = .ok (.getfield 301, 3) := by decide +kernel
theorem dX16_term_75 : decode cX16_term 75 = .ok (.iconst 4, 1) := by decide +kernel
theorem dX16_term_76 : decode cX16_term 76 = .ok (.if_icmp .eq 11, 3) := by decide +kernel
theorem dX16_term_79 : decode cX16_term 79 = .ok (.aload_n 0, 1) := by decide +kernel
theorem dX16_term_80 : decode cX16_term 80 = .ok (.getfield 301, 3) := by decide +kernel
theorem dX16_term_83 : decode cX16_term 83 = .ok (.iconst 5, 1) := by decide +kernel
theorem dX16_term_84 : decode cX16_term 84 = .ok (.if_icmp .ne 10, 3) := by decide +kernel
theorem dX16_term_94 : decode cX16_term 94 = .ok (.aload_n 0, 1) := by decide +kernel
theorem dX16_term_95 : decode cX16_term 95 = .ok (.bipush 45, 2) := by decide +kernel
theorem dX16_term_97 : decode cX16_term 97 = .ok (.invokevirtual 327, 3) := by decide +kernel
theorem dX16_term_100 : decode cX16_term 100 = .ok (.ifCond .eq 42, 3) := by decide +kernel
theorem dX16_term_142 : decode cX16_term 142 = .ok (.aload_n 0, 1) := by decide +kernel
theorem dX16_term_143 : decode cX16_term 143 = .ok (.bipush 40, 2) := by decide +kernel
theorem dX16_term_145 : decode cX16_term 145 = .ok (.invokevirtual 327, 3) := by decide +kernel
theorem dX16_term_148 : decode cX16_term 148 = .ok (.ifCond .eq 45, 3) := by decide +kernel
theorem dX16_term_193 : decode cX16_term 193 = .ok (.aload_n 0, 1) := by decide +kernel
theorem dX16_term_194 : decode cX16_term 194 = .ok (.bipush 91, 2) := by decide +kernel
theorem dX16_term_196 : decode cX16_term 196 = .ok (.invokevirtual 327, 3) := by decide +kernel
theorem dX16_term_199 : decode cX16_term 199 = .ok (.ifCond .eq 9, 3) := by decide +kernel
theorem dX16_term_208 : decode cX16_term 208 = .ok (.aload_n 0, 1) := by decide +kernel
theorem dX16_term_209 : decode cX16_term 209 = .ok (.bipush 123, 2) := by decide +kernel
theorem dX16_term_211 : decode cX16_term 211 = .ok (.invokevirtual 327, 3) := by decide +kernel
theorem dX16_term_214 : decode cX16_term 214 = .ok (.ifCond .eq 9, 3) := by decide +kernel
theorem dX16_term_223 : decode cX16_term 223 = .ok (.aload_n 0, 1) := by decide +kernel
theorem dX16_term_224 : decode cX16_term 224 = .ok (.invokevirtual 382, 3) := by decide +kernel
theorem dX16_term_227 : decode cX16_term 227 = .ok (.ifCond .eq 24, 3) := by decide +kernel
theorem dX16_term_251 : decode cX16_term 251 = .ok (.aload_n 0, 1) := by decide +kernel
theorem dX16_term_252 : decode cX16_term 252 = .ok (.iload_n 1, 1) := by decide +kernel
theorem dX16_term_253 : decode cX16_term 253 = .ok (.invokevirtual 288, 3) := by decide +kernel
theorem dX16_term_256 : decode cX16_term 256 = .ok (.iconst (-1), 1) := by decide +kernel
theorem dX16_term_257 : decode cX16_term 257 = .ok (.ireturn, 1) := by decide +kernel
theorem dX16_isOf_0 : decode cX16_isOf 0 = .ok (.aload_n 0, 1) := by decide +kernel
theorem dX16_isOf_1 : decode cX16_isOf 1 = .ok (.invokevirtual 282, 3) := by decide +kernel
theorem dX16_isOf_4 : decode cX16_isOf 4 = .ok (.ifCond .ne 12, 3) := by decide +kernel
theorem dX16_isOf_16 : decode cX16_isOf 16 = .ok (.iconst 0, 1) := by decide +kernel
theorem dX16_isOf_17 : decode cX16_isOf 17 = .ok (.ireturn, 1) := by decide +kernel
theorem dX16_chain_0 : decode cX16_chain 0 = .ok (.aload_n 0, 1) := by decide +kernel
theorem dX16_chain_1 : decode cX16_chain 1 = .ok (.getfield 298, 3) := by decide +kernel
theorem dX16_chain_4 : decode cX16_chain 4 = .ok (.istore_n 2, 1) := by decide +kernel
theorem dX16_chain_5 : decode cX16_chain 5 = .ok (.iload_n 1, 1) := by decide +kernel
theorem dX16_chain_6 : decode cX16_chain 6 = .ok (.iconst 3, 1) := by decide +kernel
theorem dX16_chain_7 : decode cX16_chain 7 = .ok (.if_icmp .ne 10, 3) := by decide +kernel
theorem dX16_chain_10 : decode cX16_chain 10 = .ok (.aload_n 0, 1) := by decide +kernel
theorem dX16_chain_11 : decode cX16_chain 11 = .ok (.invokevirtual 411, 3) := by decide +kernel
theorem dX16_chain_14 : decode cX16_chain 14 = .ok (.goto 10, 3) := by decide +kernel
theorem dX16_chain_17 : decode cX16_chain 17 = .ok (.aload_n 0, 1) := by decide +kernel
theorem dX16_chain_18 : decode cX16_chain 18 = .ok (.iload_n 1, 1) := by decide +kernel
theorem dX16_chain_19 : decode cX16_chain 19 = .ok (.iconst 1, 1) := by decide +kernel
theorem dX16_chain_20 : decode cX16_chain 20 = .ok (.iadd, 1) := by decide +kernel
theorem dX16_chain_21 : decode cX16_chain 21 = .ok (.invokevirtual 438, 3) := by decide +kernel
theorem dX16_chain_24 : decode cX16_chain 24 = .ok (.istore_n 3, 1) := by decide +kernel
theorem dX16_chain_25 : decode cX16_chain 25 = .ok (.aload_n 0, 1) := by decide +kernel
theorem dX16_chain_26 : decode cX16_chain 26 = .ok (.iload_n 1, 1) := by decide +kernel
theorem dX16_chain_27 : decode cX16_chain 27 = .ok (.invokevirtual 452, 3) := by decide +kernel
theorem dX16_chain_30 : decode cX16_chain 30 = .ok (.ifCond .ne 5, 3) := by decide +kernel
theorem dX16_chain_33 : decode cX16_chain 33 = .ok (.iload_n 3, 1) := by decide +kernel
theorem dX16_chain_34 : decode cX16_chain 34 = .ok (.ireturn, 1) := by decide +kernel
theorem dX16_isComparison_0 : decode cX16_isComparison 0 = .ok (.aload_n 0, 1) := by decide +kernel
theorem dX16_isComparison_1 : decode cX16_isComparison 1 = .ok (.invokevirtual 282, 3) := by decide +kernel
theorem dX16_isComparison_4 : decode cX16_isComparison 4 = .ok (.ifCond .ne 83, 3) := by decide +kernel
theorem dX16_isComparison_87 : decode cX16_isComparison 87 = .ok (.iconst 0, 1) := by decide +kernel
theorem dX16_isComparison_88 : decode cX16_isComparison 88 = .ok (.ireturn, 1) := by decide +kernel
theorem dX16_expression_0 : decode cX16_expression 0 = .ok (.aload_n 0, 1) := by decide +kernel
theorem dX16_expression_1 : decode cX16_expression 1 = .ok (.getfield 298, 3) := by decide +kernel
theorem dX16_expression_4 : decode cX16_expression 4 = .ok (.istore_n 1, 1) := by decide +kernel
theorem dX16_expression_5 : decode cX16_expression 5 = .ok (.aload_n 0, 1) := by decide +kernel
theorem dX16_expression_6 : decode cX16_expression 6 = .ok (.iconst 0, 1) := by decide +kernel
theorem dX16_expression_7 : decode cX16_expression 7 = .ok (.invokevirtual 438, 3) := by decide +kernel
theorem dX16_expression_10 : decode cX16_expression 10 = .ok (.istore_n 2, 1) := by decide +kernel
theorem dX16_expression_11 : decode cX16_expression 11 = .ok (.aload_n 0, 1) := by decide +kernel
theorem dX16_expression_12 : decode cX16_expression 12 = .ok (.invokevirtual 455, 3) := by decide +kernel
theorem dX16_expression_15 : decode cX16_expression 15 = .ok (.ifCond .ne 5, 3) := by decide +kernel
theorem dX16_expression_18 : decode cX16_expression 18 = .ok (.iload_n 2, 1) := by decide +kernel
theorem dX16_expression_19 : decode cX16_expression 19 = .ok (.ireturn, 1) := by decide +kernel
theorem dX16_newBody_0 : decode cX16_newBody 0 = .ok (.aload_n 0, 1) := by decide +kernel
theorem dX16_newBody_1 : decode cX16_newBody 1 = .ok (.getfield 458, 3) := by decide +kernel
theorem dX16_newBody_4 : decode cX16_newBody 4 = .ok (.istore_n 2, 1) := by decide +kernel
theorem dX16_newBody_5 : decode cX16_newBody 5 = .ok (.aload_n 0, 1) := by decide +kernel
theorem dX16_newBody_6 : decode cX16_newBody 6 = .ok (.getfield 461, 3) := by decide +kernel
theorem dX16_newBody_9 : decode cX16_newBody 9 = .ok (.iload_n 2, 1) := by decide +kernel
theorem dX16_newBody_10 : decode cX16_newBody 10 = .ok (.iconst (-1), 1) := by decide +kernel
theorem dX16_newBody_11 : decode cX16_newBody 11 = .ok (.iastore, 1) := by decide +kernel
theorem dX16_newBody_12 : decode cX16_newBody 12 = .ok (.aload_n 0, 1) := by decide +kernel
theorem dX16_newBody_13 : decode cX16_newBody 13 = .ok (.getfield 464, 3) := by decide +kernel
theorem dX16_newBody_16 : decode cX16_newBody 16 = .ok (.iload_n 2, 1) := by decide +kernel
theorem dX16_newBody_17 : decode cX16_newBody 17 = .ok (.iconst (-1), 1) := by decide +kernel
theorem dX16_newBody_18 : decode cX16_newBody 18 = .ok (.iastore, 1) := by decide +kernel
theorem dX16_newBody_19 : decode cX16_newBody 19 = .ok (.aload_n 0, 1) := by decide +kernel
theorem dX16_newBody_20 : decode cX16_newBody 20 = .ok (.getfield 467, 3) := by decide +kernel
theorem dX16_newBody_23 : decode cX16_newBody 23 = .ok (.iload_n 2, 1) := by decide +kernel
theorem dX16_newBody_24 : decode cX16_newBody 24 = .ok (.aload_n 0, 1) := by decide +kernel
theorem dX16_newBody_25 : decode cX16_newBody 25 = .ok (.getfield 470, 3) := by decide +kernel
theorem dX16_newBody_28 : decode cX16_newBody 28 = .ok (.iastore, 1) := by decide +kernel
theorem dX16_newBody_29 : decode cX16_newBody 29 = .ok (.aload_n 0, 1) := by decide +kernel
theorem dX16_newBody_30 : decode cX16_newBody 30 = .ok (.getfield 473, 3) := by decide +kernel
theorem dX16_newBody_33 : decode cX16_newBody 33 = .ok (.iload_n 2, 1) := by decide +kernel
theorem dX16_newBody_34 : decode cX16_newBody 34 = .ok (.iload_n 1, 1) := by decide +kernel
theorem dX16_newBody_35 : decode cX16_newBody 35 = .ok (.iastore, 1) := by decide +kernel
theorem dX16_newBody_36 : decode cX16_newBody 36 = .ok (.aload_n 0, 1) := by decide +kernel
theorem dX16_newBody_37 : decode cX16_newBody 37 = .ok (.getfield 476, 3) := by decide +kernel
theorem dX16_newBody_40 : decode cX16_newBody 40 = .ok (.iload_n 2, 1) := by decide +kernel
theorem dX16_newBody_41 : decode cX16_newBody 41 = .ok (.iconst 0, 1) := by decide +kernel
theorem dX16_newBody_42 : decode cX16_newBody 42 = .ok (.iastore, 1) := by decide +kernel
theorem dX16_newBody_43 : decode cX16_newBody 43 = .ok (.aload_n 0, 1) := by decide +kernel
theorem dX16_newBody_44 : decode cX16_newBody 44 = .ok (.dup, 1) := by decide +kernel
theorem dX16_newBody_45 : decode cX16_newBody 45 = .ok (.getfield 458, 3) := by decide +kernel
theorem dX16_newBody_48 : decode cX16_newBody 48 = .ok (.iconst 1, 1) := by decide +kernel
theorem dX16_newBody_49 : decode cX16_newBody 49 = .ok (.iadd, 1) := by decide +kernel
theorem dX16_newBody_50 : decode cX16_newBody 50 = .ok (.putfield 458, 3) := by decide +kernel
theorem dX16_newBody_53 : decode cX16_newBody 53 = .ok (.iload_n 2, 1) := by decide +kernel
theorem dX16_newBody_54 : decode cX16_newBody 54 = .ok (.ireturn, 1) := by decide +kernel
theorem dX16_literals_0 : decode cX16_literals 0 = .ok (.aload_n 0, 1) := by decide +kernel
theorem dX16_literals_1 : decode cX16_literals 1 = .ok (.iload_n 2, 1) := by decide +kernel
theorem dX16_literals_2 : decode cX16_literals 2 = .ok (.invokevirtual 479, 3) := by decide +kernel
theorem dX16_literals_5 : decode cX16_literals 5 = .ok (.istore_n 3, 1) := by decide +kernel
theorem dX16_literals_6 : decode cX16_literals 6 = .ok (.iconst (-1), 1) := by decide +kernel
theorem dX16_literals_7 : decode cX16_literals 7 = .ok (.istore 4, 2) := by decide +kernel
theorem dX16_literals_9 : decode cX16_literals 9 = .ok (.aload_n 0, 1) := by decide +kernel
theorem dX16_literals_10 : decode cX16_literals 10 = .ok (.invokevirtual 282, 3) := by decide +kernel
theorem dX16_literals_13 : decode cX16_literals 13 = .ok (.ifCond .ne 7, 3) := by decide +kernel
theorem dX16_literals_16 : decode cX16_literals 16 = .ok (.iconst 1, 1) := by decide +kernel
theorem dX16_literals_17 : decode cX16_literals 17 = .ok (.goto 4, 3) := by decide +kernel
theorem dX16_literals_21 : decode cX16_literals 21 = .ok (.istore 5, 2) := by decide +kernel
theorem dX16_literals_23 : decode cX16_literals 23 = .ok (.iload 5, 2) := by decide +kernel
theorem dX16_literals_25 : decode cX16_literals 25 = .ok (.ifCond .eq 140, 3) := by decide +kernel
theorem dX16_literals_28 : decode cX16_literals 28 = .ok (.aload_n 0, 1) := by decide +kernel
theorem dX16_literals_29 : decode cX16_literals 29 = .ok (.iload 4, 2) := by decide +kernel
theorem dX16_literals_31 : decode cX16_literals 31 = .ok (.aload_n 0, 1) := by decide +kernel
theorem dX16_literals_32 : decode cX16_literals 32 = .ok (.invokevirtual 482, 3) := by decide +kernel
theorem dX16_literals_35 : decode cX16_literals 35 = .ok (.invokevirtual 391, 3) := by decide +kernel
theorem dX16_literals_38 : decode cX16_literals 38 = .ok (.istore 4, 2) := by decide +kernel
theorem dX16_literals_40 : decode cX16_literals 40 = .ok (.aload_n 0, 1) := by decide +kernel
theorem dX16_literals_41 : decode cX16_literals 41 = .ok (.getfield 461, 3) := by decide +kernel
theorem dX16_literals_44 : decode cX16_literals 44 = .ok (.iload_n 3, 1) := by decide +kernel
theorem dX16_literals_45 : decode cX16_literals 45 = .ok (.iaload, 1) := by decide +kernel
theorem dX16_literals_46 : decode cX16_literals 46 = .ok (.iconst (-1), 1) := by decide +kernel
theorem dX16_literals_47 : decode cX16_literals 47 = .ok (.if_icmp .ne 11, 3) := by decide +kernel
theorem dX16_literals_50 : decode cX16_literals 50 = .ok (.aload_n 0, 1) := by decide +kernel
theorem dX16_literals_51 : decode cX16_literals 51 = .ok (.getfield 461, 3) := by decide +kernel
theorem dX16_literals_54 : decode cX16_literals 54 = .ok (.iload_n 3, 1) := by decide +kernel
theorem dX16_literals_55 : decode cX16_literals 55 = .ok (.iload 4, 2) := by decide +kernel
theorem dX16_literals_57 : decode cX16_literals 57 = .ok (.iastore, 1) := by decide +kernel
theorem dX16_literals_58 : decode cX16_literals 58 = .ok (.aload_n 0, 1) := by decide +kernel
theorem dX16_literals_59 : decode cX16_literals 59 = .ok (.getfield 476, 3) := by decide +kernel
theorem dX16_literals_62 : decode cX16_literals 62 = .ok (.iload_n 3, 1) := by decide +kernel
theorem dX16_literals_63 : decode cX16_literals 63 = .ok (.dup2, 1) := by decide +kernel
theorem dX16_literals_64 : decode cX16_literals 64 = .ok (.iaload, 1) := by decide +kernel
theorem dX16_literals_65 : decode cX16_literals 65 = .ok (.iconst 1, 1) := by decide +kernel
theorem dX16_literals_66 : decode cX16_literals 66 = .ok (.iadd, 1) := by decide +kernel
theorem dX16_literals_67 : decode cX16_literals 67 = .ok (.iastore, 1) := by decide +kernel
theorem dX16_literals_68 : decode cX16_literals 68 = .ok (.aload_n 0, 1) := by decide +kernel
theorem dX16_literals_69 : decode cX16_literals 69 = .ok (.invokevirtual 282, 3) := by decide +kernel
theorem dX16_literals_72 : decode cX16_literals 72 = .ok (.ifCond .eq 5, 3) := by decide +kernel
theorem dX16_literals_75 : decode cX16_literals 75 = .ok (.iload_n 3, 1) := by decide +kernel
theorem dX16_literals_76 : decode cX16_literals 76 = .ok (.ireturn, 1) := by decide +kernel
theorem dX16_literal_0 : decode cX16_literal 0 = .ok (.aload_n 0, 1) := by decide +kernel
theorem dX16_literal_1 : decode cX16_literal 1 = .ok (.getfield 298, 3) := by decide +kernel
theorem dX16_literal_4 : decode cX16_literal 4 = .ok (.istore_n 1, 1) := by decide +kernel
theorem dX16_literal_5 : decode cX16_literal 5 = .ok (.aload_n 0, 1) := by decide +kernel
theorem dX16_literal_6 : decode cX16_literal 6 = .ok (.bipush 44, 2) := by decide +kernel
theorem dX16_literal_8 : decode cX16_literal 8 = .ok (.invokevirtual 333, 3) := by decide +kernel
theorem dX16_literal_11 : decode cX16_literal 11 = .ok (.ifCond .eq 29, 3) := by decide +kernel
theorem dX16_literal_40 : decode cX16_literal 40 = .ok (.aload_n 0, 1) := by decide +kernel
theorem dX16_literal_41 : decode cX16_literal 41 = .ok (.bipush 52, 2) := by decide +kernel
theorem dX16_literal_43 : decode cX16_literal 43 = .ok (.invokevirtual 333, 3) := by decide +kernel
theorem dX16_literal_46 : decode cX16_literal 46 = .ok (.ifCond .eq 12, 3) := by decide +kernel
theorem dX16_literal_58 : decode cX16_literal 58 = .ok (.aload_n 0, 1) := by decide +kernel
theorem dX16_literal_59 : decode cX16_literal 59 = .ok (.bipush 58, 2) := by decide +kernel
theorem dX16_literal_61 : decode cX16_literal 61 = .ok (.invokevirtual 333, 3) := by decide +kernel
theorem dX16_literal_64 : decode cX16_literal 64 = .ok (.ifCond .eq 24, 3) := by decide +kernel
theorem dX16_literal_88 : decode cX16_literal 88 = .ok (.aload_n 0, 1) := by decide +kernel
theorem dX16_literal_89 : decode cX16_literal 89 = .ok (.invokevirtual 414, 3) := by decide +kernel
theorem dX16_literal_92 : decode cX16_literal 92 = .ok (.istore_n 3, 1) := by decide +kernel
theorem dX16_literal_93 : decode cX16_literal 93 = .ok (.aload_n 0, 1) := by decide +kernel
theorem dX16_literal_94 : decode cX16_literal 94 = .ok (.bipush 61, 2) := by decide +kernel
theorem dX16_literal_96 : decode cX16_literal 96 = .ok (.invokevirtual 327, 3) := by decide +kernel
theorem dX16_literal_99 : decode cX16_literal 99 = .ok (.ifCond .eq 24, 3) := by decide +kernel
theorem dX16_literal_123 : decode cX16_literal 123 = .ok (.aload_n 0, 1) := by decide +kernel
theorem dX16_literal_124 : decode cX16_literal 124 = .ok (.sipush 300, 3) := by decide +kernel
theorem dX16_literal_127 : decode cX16_literal 127 = .ok (.invokevirtual 327, 3) := by decide +kernel
theorem dX16_literal_130 : decode cX16_literal 130 = .ok (.ifCond .eq 48, 3) := by decide +kernel
theorem dX16_literal_178 : decode cX16_literal 178 = .ok (.aload_n 0, 1) := by decide +kernel
theorem dX16_literal_179 : decode cX16_literal 179 = .ok (.bipush 24, 2) := by decide +kernel
theorem dX16_literal_181 : decode cX16_literal 181 = .ok (.iload_n 1, 1) := by decide +kernel
theorem dX16_literal_182 : decode cX16_literal 182 = .ok (.iload_n 3, 1) := by decide +kernel
theorem dX16_literal_183 : decode cX16_literal 183 = .ok (.iconst 0, 1) := by decide +kernel
theorem dX16_literal_184 : decode cX16_literal 184 = .ok (.iconst (-1), 1) := by decide +kernel
theorem dX16_literal_185 : decode cX16_literal 185 = .ok (.invokevirtual 372, 3) := by decide +kernel
theorem dX16_literal_188 : decode cX16_literal 188 = .ok (.istore_n 2, 1) := by decide +kernel
theorem dX16_literal_189 : decode cX16_literal 189 = .ok (.aload_n 0, 1) := by decide +kernel
theorem dX16_literal_190 : decode cX16_literal 190 = .ok (.iload_n 2, 1) := by decide +kernel
theorem dX16_literal_191 : decode cX16_literal 191 = .ok (.invokevirtual 494, 3) := by decide +kernel
theorem dX16_literal_194 : decode cX16_literal 194 = .ok (.iload_n 2, 1) := by decide +kernel
theorem dX16_literal_195 : decode cX16_literal 195 = .ok (.ireturn, 1) := by decide +kernel
theorem dX16_withs_0 : decode cX16_withs 0 = .ok (.iconst (-1), 1) := by decide +kernel
theorem dX16_withs_1 : decode cX16_withs 1 = .ok (.istore_n 2, 1) := by decide +kernel
theorem dX16_withs_2 : decode cX16_withs 2 = .ok (.iconst 0, 1) := by decide +kernel
theorem dX16_withs_3 : decode cX16_withs 3 = .ok (.istore_n 3, 1) := by decide +kernel
theorem dX16_withs_4 : decode cX16_withs 4 = .ok (.aload_n 0, 1) := by decide +kernel
theorem dX16_withs_5 : decode cX16_withs 5 = .ok (.bipush 62, 2) := by decide +kernel
theorem dX16_withs_7 : decode cX16_withs 7 = .ok (.invokevirtual 333, 3) := by decide +kernel
theorem dX16_withs_10 : decode cX16_withs 10 = .ok (.ifCond .eq 188, 3) := by decide +kernel
theorem dX16_withs_198 : decode cX16_withs 198 = .ok (.return_, 1) := by decide +kernel
theorem dX16_clearTrees_0 : decode cX16_clearTrees 0 = .ok (.aload_n 0, 1) := by decide +kernel
theorem dX16_clearTrees_1 : decode cX16_clearTrees 1 = .ok (.iconst 0, 1) := by decide +kernel
theorem dX16_clearTrees_2 : decode cX16_clearTrees 2 = .ok (.putfield 338, 3) := by decide +kernel
theorem dX16_clearTrees_5 : decode cX16_clearTrees 5 = .ok (.aload_n 0, 1) := by decide +kernel
theorem dX16_clearTrees_6 : decode cX16_clearTrees 6 = .ok (.iconst 0, 1) := by decide +kernel
theorem dX16_clearTrees_7 : decode cX16_clearTrees 7 = .ok (.putfield 359, 3) := by decide +kernel
theorem dX16_clearTrees_10 : decode cX16_clearTrees 10 = .ok (.aload_n 0, 1) := by decide +kernel
theorem dX16_clearTrees_11 : decode cX16_clearTrees 11 = .ok (.iconst 0, 1) := by decide +kernel
theorem dX16_clearTrees_12 : decode cX16_clearTrees 12 = .ok (.putfield 458, 3) := by decide +kernel
theorem dX16_clearTrees_15 : decode cX16_clearTrees 15 = .ok (.aload_n 0, 1) := by decide +kernel
theorem dX16_clearTrees_16 : decode cX16_clearTrees 16 = .ok (.iconst 0, 1) := by decide +kernel
theorem dX16_clearTrees_17 : decode cX16_clearTrees 17 = .ok (.putfield 259, 3) := by decide +kernel
theorem dX16_clearTrees_20 : decode cX16_clearTrees 20 = .ok (.aload_n 0, 1) := by decide +kernel
theorem dX16_clearTrees_21 : decode cX16_clearTrees 21 = .ok (.iconst 0, 1) := by decide +kernel
theorem dX16_clearTrees_22 : decode cX16_clearTrees 22 = .ok (.putfield 519, 3) := by decide +kernel
theorem dX16_clearTrees_25 : decode cX16_clearTrees 25 = .ok (.aload_n 0, 1) := by decide +kernel
theorem dX16_clearTrees_26 : decode cX16_clearTrees 26 = .ok (.iconst 0, 1) := by decide +kernel
theorem dX16_clearTrees_27 : decode cX16_clearTrees 27 = .ok (.putfield 522, 3) := by decide +kernel
theorem dX16_clearTrees_30 : decode cX16_clearTrees 30 = .ok (.aload_n 0, 1) := by decide +kernel
theorem dX16_clearTrees_31 : decode cX16_clearTrees 31 = .ok (.iconst 0, 1) := by decide +kernel
theorem dX16_clearTrees_32 : decode cX16_clearTrees 32 = .ok (.putfield 525, 3) := by decide +kernel
theorem dX16_clearTrees_35 : decode cX16_clearTrees 35 = .ok (.iconst 0, 1) := by decide +kernel
theorem dX16_clearTrees_36 : decode cX16_clearTrees 36 = .ok (.istore_n 1, 1) := by decide +kernel
theorem dX16_clearTrees_37 : decode cX16_clearTrees 37 = .ok (.iload_n 1, 1) := by decide +kernel
theorem dX16_clearTrees_38 : decode cX16_clearTrees 38 = .ok (.sipush 4096, 3) := by decide +kernel
theorem dX16_clearTrees_41 : decode cX16_clearTrees 41 = .ok (.if_icmp .ge 16, 3) := by decide +kernel
theorem dX16_clearTrees_44 : decode cX16_clearTrees 44 = .ok (.aload_n 0, 1) := by decide +kernel
theorem dX16_clearTrees_45 : decode cX16_clearTrees 45 = .ok (.getfield 249, 3) := by decide +kernel
theorem dX16_clearTrees_48 : decode cX16_clearTrees 48 = .ok (.iload_n 1, 1) := by decide +kernel
theorem dX16_clearTrees_49 : decode cX16_clearTrees 49 = .ok (.iconst 0, 1) := by decide +kernel
theorem dX16_clearTrees_50 : decode cX16_clearTrees 50 = .ok (.iastore, 1) := by decide +kernel
theorem dX16_clearTrees_51 : decode cX16_clearTrees 51 = .ok (.iinc 1 1, 3) := by decide +kernel
theorem dX16_clearTrees_54 : decode cX16_clearTrees 54 = .ok (.goto (-17), 3) := by decide +kernel
theorem dX16_clearTrees_57 : decode cX16_clearTrees 57 = .ok (.aload_n 0, 1) := by decide +kernel
theorem dX16_clearTrees_58 : decode cX16_clearTrees 58 = .ok (.aload_n 0, 1) := by decide +kernel
theorem dX16_clearTrees_59 : decode cX16_clearTrees 59 = .ok (.ldc_w 528, 3) := by decide +kernel
theorem dX16_clearTrees_62 : decode cX16_clearTrees 62 = .ok (.invokevirtual 530, 3) := by decide +kernel
theorem dX16_clearTrees_65 : decode cX16_clearTrees 65 = .ok (.putfield 385, 3) := by decide +kernel
theorem dX16_clearTrees_68 : decode cX16_clearTrees 68 = .ok (.aload_n 0, 1) := by decide +kernel
theorem dX16_clearTrees_69 : decode cX16_clearTrees 69 = .ok (.aload_n 0, 1) := by decide +kernel
theorem dX16_clearTrees_70 : decode cX16_clearTrees 70 = .ok (.ldc_w 534, 3) := by decide +kernel
theorem dX16_clearTrees_73 : decode cX16_clearTrees 73 = .ok (.invokevirtual 530, 3) := by decide +kernel
theorem dX16_clearTrees_76 : decode cX16_clearTrees 76 = .ok (.putfield 432, 3) := by decide +kernel
theorem dX16_clearTrees_79 : decode cX16_clearTrees 79 = .ok (.aload_n 0, 1) := by decide +kernel
theorem dX16_clearTrees_80 : decode cX16_clearTrees 80 = .ok (.aload_n 0, 1) := by decide +kernel
theorem dX16_clearTrees_81 : decode cX16_clearTrees 81 = .ok (.ldc_w 536, 3) := by decide +kernel
theorem dX16_clearTrees_84 : decode cX16_clearTrees 84 = .ok (.invokevirtual 530, 3) := by decide +kernel
theorem dX16_clearTrees_87 : decode cX16_clearTrees 87 = .ok (.putfield 497, 3) := by decide +kernel
theorem dX16_clearTrees_90 : decode cX16_clearTrees 90 = .ok (.aload_n 0, 1) := by decide +kernel
theorem dX16_clearTrees_91 : decode cX16_clearTrees 91 = .ok (.aload_n 0, 1) := by decide +kernel
theorem dX16_clearTrees_92 : decode cX16_clearTrees 92 = .ok (.ldc_w 538, 3) := by decide +kernel
theorem dX16_clearTrees_95 : decode cX16_clearTrees 95 = .ok (.invokevirtual 530, 3) := by decide +kernel
theorem dX16_clearTrees_98 : decode cX16_clearTrees 98 = .ok (.putfield 500, 3) := by decide +kernel
theorem dX16_clearTrees_101 : decode cX16_clearTrees 101 = .ok (.return_, 1) := by decide +kernel
theorem dX16_readModule_0 : decode cX16_readModule 0 = .ok (.aload_n 0, 1) := by decide +kernel
theorem dX16_readModule_1 : decode cX16_readModule 1 = .ok (.aload_n 1, 1) := by decide +kernel
theorem dX16_readModule_2 : decode cX16_readModule 2 = .ok (.iload_n 2, 1) := by decide +kernel
theorem dX16_readModule_3 : decode cX16_readModule 3 = .ok (.invokevirtual 540, 3) := by decide +kernel
theorem dX16_readModule_6 : decode cX16_readModule 6 = .ok (.aload_n 0, 1) := by decide +kernel
theorem dX16_readModule_7 : decode cX16_readModule 7 = .ok (.aload_n 0, 1) := by decide +kernel
theorem dX16_readModule_8 : decode cX16_readModule 8 = .ok (.getfield 525, 3) := by decide +kernel
theorem dX16_readModule_11 : decode cX16_readModule 11 = .ok (.putfield 470, 3) := by decide +kernel
theorem dX16_readModule_14 : decode cX16_readModule 14 = .ok (.aload_n 0, 1) := by decide +kernel
theorem dX16_readModule_15 : decode cX16_readModule 15 = .ok (.iconst 1, 1) := by decide +kernel
theorem dX16_readModule_16 : decode cX16_readModule 16 = .ok (.invokevirtual 506, 3) := by decide +kernel
theorem dX16_readModule_19 : decode cX16_readModule 19 = .ok (.aload_n 0, 1) := by decide +kernel
theorem dX16_readModule_20 : decode cX16_readModule 20 = .ok (.getfield 544, 3) := by decide +kernel
theorem dX16_readModule_23 : decode cX16_readModule 23 = .ok (.aload_n 0, 1) := by decide +kernel
theorem dX16_readModule_24 : decode cX16_readModule 24 = .ok (.getfield 519, 3) := by decide +kernel
theorem dX16_readModule_27 : decode cX16_readModule 27 = .ok (.aload_n 0, 1) := by decide +kernel
theorem dX16_readModule_28 : decode cX16_readModule 28 = .ok (.invokevirtual 503, 3) := by decide +kernel
theorem dX16_readModule_31 : decode cX16_readModule 31 = .ok (.iastore, 1) := by decide +kernel
theorem dX16_readModule_32 : decode cX16_readModule 32 = .ok (.aload_n 0, 1) := by decide +kernel
theorem dX16_readModule_33 : decode cX16_readModule 33 = .ok (.getfield 522, 3) := by decide +kernel
theorem dX16_readModule_36 : decode cX16_readModule 36 = .ok (.istore_n 3, 1) := by decide +kernel
theorem dX16_readModule_37 : decode cX16_readModule 37 = .ok (.aload_n 0, 1) := by decide +kernel
theorem dX16_readModule_38 : decode cX16_readModule 38 = .ok (.bipush 9, 2) := by decide +kernel
theorem dX16_readModule_40 : decode cX16_readModule 40 = .ok (.invokevirtual 333, 3) := by decide +kernel
theorem dX16_readModule_43 : decode cX16_readModule 43 = .ok (.ifCond .eq 32, 3) := by decide +kernel
theorem dX16_readModule_75 : decode cX16_readModule 75 = .ok (.aload_n 0, 1) := by decide +kernel
theorem dX16_readModule_76 : decode cX16_readModule 76 = .ok (.getfield 525, 3) := by decide +kernel
theorem dX16_readModule_79 : decode cX16_readModule 79 = .ok (.istore 4, 2) := by decide +kernel
theorem dX16_readModule_81 : decode cX16_readModule 81 = .ok (.aload_n 0, 1) := by decide +kernel
theorem dX16_readModule_82 : decode cX16_readModule 82 = .ok (.invokevirtual 282, 3) := by decide +kernel
theorem dX16_readModule_85 : decode cX16_readModule 85 = .ok (.ifCond .ne 40, 3) := by decide +kernel
theorem dX16_readModule_125 : decode cX16_readModule 125 = .ok (.aload_n 0, 1) := by decide +kernel
theorem dX16_readModule_126 : decode cX16_readModule 126 = .ok (.dup, 1) := by decide +kernel
theorem dX16_readModule_127 : decode cX16_readModule 127 = .ok (.getfield 519, 3) := by decide +kernel
theorem dX16_readModule_130 : decode cX16_readModule 130 = .ok (.iconst 1, 1) := by decide +kernel
theorem dX16_readModule_131 : decode cX16_readModule 131 = .ok (.iadd, 1) := by decide +kernel
theorem dX16_readModule_132 : decode cX16_readModule 132 = .ok (.putfield 519, 3) := by decide +kernel
theorem dX16_readModule_135 : decode cX16_readModule 135 = .ok (.aload_n 0, 1) := by decide +kernel
theorem dX16_readModule_136 : decode cX16_readModule 136 = .ok (.getfield 525, 3) := by decide +kernel
theorem dX16_readModule_139 : decode cX16_readModule 139 = .ok (.iload 4, 2) := by decide +kernel
theorem dX16_readModule_141 : decode cX16_readModule 141 = .ok (.isub, 1) := by decide +kernel
theorem dX16_readModule_142 : decode cX16_readModule 142 = .ok (.ireturn, 1) := by decide +kernel
theorem dX16_gatherRules_0 : decode cX16_gatherRules 0 = .ok (.aload_n 0, 1) := by decide +kernel
theorem dX16_gatherRules_1 : decode cX16_gatherRules 1 = .ok (.iconst 0, 1) := by decide +kernel
theorem dX16_gatherRules_2 : decode cX16_gatherRules 2 = .ok (.putfield 623, 3) := by decide +kernel
theorem dX16_gatherRules_5 : decode cX16_gatherRules 5 = .ok (.iconst 0, 1) := by decide +kernel
theorem dX16_gatherRules_6 : decode cX16_gatherRules 6 = .ok (.istore_n 1, 1) := by decide +kernel
theorem dX16_gatherRules_7 : decode cX16_gatherRules 7 = .ok (.iload_n 1, 1) := by decide +kernel
theorem dX16_gatherRules_8 : decode cX16_gatherRules 8 = .ok (.aload_n 0, 1) := by decide +kernel
theorem dX16_gatherRules_9 : decode cX16_gatherRules 9 = .ok (.getfield 519, 3) := by decide +kernel
theorem dX16_gatherRules_12 : decode cX16_gatherRules 12 = .ok (.if_icmp .ge 40, 3) := by decide +kernel
theorem dX16_gatherRules_52 : decode cX16_gatherRules 52 = .ok (.iconst 0, 1) := by decide +kernel
theorem dX16_gatherRules_53 : decode cX16_gatherRules 53 = .ok (.istore_n 1, 1) := by decide +kernel
theorem dX16_gatherRules_54 : decode cX16_gatherRules 54 = .ok (.iload_n 1, 1) := by decide +kernel
theorem dX16_gatherRules_55 : decode cX16_gatherRules 55 = .ok (.aload_n 0, 1) := by decide +kernel
theorem dX16_gatherRules_56 : decode cX16_gatherRules 56 = .ok (.getfield 525, 3) := by decide +kernel
theorem dX16_gatherRules_59 : decode cX16_gatherRules 59 = .ok (.if_icmp .ge 210, 3) := by decide +kernel
theorem dX16_gatherRules_269 : decode cX16_gatherRules 269 = .ok (.iconst 0, 1) := by decide +kernel
theorem dX16_gatherRules_270 : decode cX16_gatherRules 270 = .ok (.istore_n 1, 1) := by decide +kernel
theorem dX16_gatherRules_271 : decode cX16_gatherRules 271 = .ok (.iload_n 1, 1) := by decide +kernel
theorem dX16_gatherRules_272 : decode cX16_gatherRules 272 = .ok (.aload_n 0, 1) := by decide +kernel
theorem dX16_gatherRules_273 : decode cX16_gatherRules 273 = .ok (.getfield 623, 3) := by decide +kernel
theorem dX16_gatherRules_276 : decode cX16_gatherRules 276 = .ok (.if_icmp .ge 26, 3) := by decide +kernel
theorem dX16_gatherRules_302 : decode cX16_gatherRules 302 = .ok (.return_, 1) := by decide +kernel
theorem dX16_isFaulty_0 : decode cX16_isFaulty 0 = .ok (.aload_n 0, 1) := by decide +kernel
theorem dX16_isFaulty_1 : decode cX16_isFaulty 1 = .ok (.getfield 663, 3) := by decide +kernel
theorem dX16_isFaulty_4 : decode cX16_isFaulty 4 = .ok (.ifCond .eq 7, 3) := by decide +kernel
theorem dX16_isFaulty_11 : decode cX16_isFaulty 11 = .ok (.iconst 0, 1) := by decide +kernel
theorem dX16_isFaulty_12 : decode cX16_isFaulty 12 = .ok (.ireturn, 1) := by decide +kernel
theorem dX16_findClash_0 : decode cX16_findClash 0 = .ok (.iconst 0, 1) := by decide +kernel
theorem dX16_findClash_1 : decode cX16_findClash 1 = .ok (.istore_n 1, 1) := by decide +kernel
theorem dX16_findClash_2 : decode cX16_findClash 2 = .ok (.iload_n 1, 1) := by decide +kernel
theorem dX16_findClash_3 : decode cX16_findClash 3 = .ok (.aload_n 0, 1) := by decide +kernel
theorem dX16_findClash_4 : decode cX16_findClash 4 = .ok (.getfield 519, 3) := by decide +kernel
theorem dX16_findClash_7 : decode cX16_findClash 7 = .ok (.if_icmp .ge 101, 3) := by decide +kernel
theorem dX16_findClash_108 : decode cX16_findClash 108 = .ok (.return_, 1) := by decide +kernel
theorem dX16_findReads_0 : decode cX16_findReads 0 = .ok (.iconst 0, 1) := by decide +kernel
theorem dX16_findReads_1 : decode cX16_findReads 1 = .ok (.istore_n 1, 1) := by decide +kernel
theorem dX16_findReads_2 : decode cX16_findReads 2 = .ok (.iload_n 1, 1) := by decide +kernel
theorem dX16_findReads_3 : decode cX16_findReads 3 = .ok (.aload_n 0, 1) := by decide +kernel
theorem dX16_findReads_4 : decode cX16_findReads 4 = .ok (.getfield 623, 3) := by decide +kernel
theorem dX16_findReads_7 : decode cX16_findReads 7 = .ok (.if_icmp .ge 129, 3) := by decide +kernel
theorem dX16_findReads_136 : decode cX16_findReads 136 = .ok (.iconst 0, 1) := by decide +kernel
theorem dX16_findReads_137 : decode cX16_findReads 137 = .ok (.istore_n 1, 1) := by decide +kernel
theorem dX16_findReads_138 : decode cX16_findReads 138 = .ok (.iload_n 1, 1) := by decide +kernel
theorem dX16_findReads_139 : decode cX16_findReads 139 = .ok (.bipush 7, 2) := by decide +kernel
theorem dX16_findReads_141 : decode cX16_findReads 141 = .ok (.aload_n 0, 1) := by decide +kernel
theorem dX16_findReads_142 : decode cX16_findReads 142 = .ok (.getfield 623, 3) := by decide +kernel
theorem dX16_findReads_145 : decode cX16_findReads 145 = .ok (.imul, 1) := by decide +kernel
theorem dX16_findReads_146 : decode cX16_findReads 146 = .ok (.if_icmp .ge 21, 3) := by decide +kernel
theorem dX16_findReads_167 : decode cX16_findReads 167 = .ok (.iconst 0, 1) := by decide +kernel
theorem dX16_findReads_168 : decode cX16_findReads 168 = .ok (.istore_n 1, 1) := by decide +kernel
theorem dX16_findReads_169 : decode cX16_findReads 169 = .ok (.iload_n 1, 1) := by decide +kernel
theorem dX16_findReads_170 : decode cX16_findReads 170 = .ok (.aload_n 0, 1) := by decide +kernel
theorem dX16_findReads_171 : decode cX16_findReads 171 = .ok (.getfield 623, 3) := by decide +kernel
theorem dX16_findReads_174 : decode cX16_findReads 174 = .ok (.if_icmp .ge 79, 3) := by decide +kernel
theorem dX16_findReads_253 : decode cX16_findReads 253 = .ok (.return_, 1) := by decide +kernel
theorem dX16_checkReads_0 : decode cX16_checkReads 0 = .ok (.iconst 0, 1) := by decide +kernel
theorem dX16_checkReads_1 : decode cX16_checkReads 1 = .ok (.istore_n 1, 1) := by decide +kernel
theorem dX16_checkReads_2 : decode cX16_checkReads 2 = .ok (.iload_n 1, 1) := by decide +kernel
theorem dX16_checkReads_3 : decode cX16_checkReads 3 = .ok (.aload_n 0, 1) := by decide +kernel
theorem dX16_checkReads_4 : decode cX16_checkReads 4 = .ok (.getfield 623, 3) := by decide +kernel
theorem dX16_checkReads_7 : decode cX16_checkReads 7 = .ok (.if_icmp .ge 49, 3) := by decide +kernel
theorem dX16_checkReads_56 : decode cX16_checkReads 56 = .ok (.aload_n 0, 1) := by decide +kernel
theorem dX16_checkReads_57 : decode cX16_checkReads 57 = .ok (.invokevirtual 666, 3) := by decide +kernel
theorem dX16_checkReads_60 : decode cX16_checkReads 60 = .ok (.ifCond .eq 4, 3) := by decide +kernel
theorem dX16_checkReads_64 : decode cX16_checkReads 64 = .ok (.iconst 0, 1) := by decide +kernel
theorem dX16_checkReads_65 : decode cX16_checkReads 65 = .ok (.istore_n 1, 1) := by decide +kernel
theorem dX16_checkReads_66 : decode cX16_checkReads 66 = .ok (.iload_n 1, 1) := by decide +kernel
theorem dX16_checkReads_67 : decode cX16_checkReads 67 = .ok (.aload_n 0, 1) := by decide +kernel
theorem dX16_checkReads_68 : decode cX16_checkReads 68 = .ok (.getfield 623, 3) := by decide +kernel
theorem dX16_checkReads_71 : decode cX16_checkReads 71 = .ok (.if_icmp .ge 16, 3) := by decide +kernel
theorem dX16_checkReads_87 : decode cX16_checkReads 87 = .ok (.iconst 0, 1) := by decide +kernel
theorem dX16_checkReads_88 : decode cX16_checkReads 88 = .ok (.istore_n 1, 1) := by decide +kernel
theorem dX16_checkReads_89 : decode cX16_checkReads 89 = .ok (.iload_n 1, 1) := by decide +kernel
theorem dX16_checkReads_90 : decode cX16_checkReads 90 = .ok (.bipush 14, 2) := by decide +kernel
theorem dX16_checkReads_92 : decode cX16_checkReads 92 = .ok (.if_icmp .ge 82, 3) := by decide +kernel
theorem dX16_checkReads_95 : decode cX16_checkReads 95 = .ok (.iconst 0, 1) := by decide +kernel
theorem dX16_checkReads_96 : decode cX16_checkReads 96 = .ok (.istore_n 2, 1) := by decide +kernel
theorem dX16_checkReads_97 : decode cX16_checkReads 97 = .ok (.iload_n 2, 1) := by decide +kernel
theorem dX16_checkReads_98 : decode cX16_checkReads 98 = .ok (.aload_n 0, 1) := by decide +kernel
theorem dX16_checkReads_99 : decode cX16_checkReads 99 = .ok (.getfield 623, 3) := by decide +kernel
theorem dX16_checkReads_102 : decode cX16_checkReads 102 = .ok (.if_icmp .ge 66, 3) := by decide +kernel
theorem dX16_checkReads_168 : decode cX16_checkReads 168 = .ok (.iinc 1 1, 3) := by decide +kernel
theorem dX16_checkReads_171 : decode cX16_checkReads 171 = .ok (.goto (-82), 3) := by decide +kernel
theorem dX16_checkReads_174 : decode cX16_checkReads 174 = .ok (.iconst 0, 1) := by decide +kernel
theorem dX16_checkReads_175 : decode cX16_checkReads 175 = .ok (.istore_n 1, 1) := by decide +kernel
theorem dX16_checkReads_176 : decode cX16_checkReads 176 = .ok (.iload_n 1, 1) := by decide +kernel
theorem dX16_checkReads_177 : decode cX16_checkReads 177 = .ok (.aload_n 0, 1) := by decide +kernel
theorem dX16_checkReads_178 : decode cX16_checkReads 178 = .ok (.getfield 623, 3) := by decide +kernel
theorem dX16_checkReads_181 : decode cX16_checkReads 181 = .ok (.if_icmp .ge 48, 3) := by decide +kernel
theorem dX16_checkReads_229 : decode cX16_checkReads 229 = .ok (.return_, 1) := by decide +kernel
theorem dX16_loadBundle_0 : decode cX16_loadBundle 0 = .ok (.aload_n 0, 1) := by decide +kernel
theorem dX16_loadBundle_1 : decode cX16_loadBundle 1 = .ok (.getfield 2067, 3) := by decide +kernel
theorem dX16_loadBundle_4 : decode cX16_loadBundle 4 = .ok (.aload_n 0, 1) := by decide +kernel
theorem dX16_loadBundle_5 : decode cX16_loadBundle 5 = .ok (.getfield 2070, 3) := by decide +kernel
theorem dX16_loadBundle_8 : decode cX16_loadBundle 8 = .ok (.iload_n 1, 1) := by decide +kernel
theorem dX16_loadBundle_9 : decode cX16_loadBundle 9 = .ok (.iaload, 1) := by decide +kernel
theorem dX16_loadBundle_10 : decode cX16_loadBundle 10 = .ok (.if_icmp .ne 34, 3) := by decide +kernel
theorem dX16_loadBundle_44 : decode cX16_loadBundle 44 = .ok (.aload_n 0, 1) := by decide +kernel
theorem dX16_loadBundle_45 : decode cX16_loadBundle 45 = .ok (.invokevirtual 2073, 3) := by decide +kernel
theorem dX16_loadBundle_48 : decode cX16_loadBundle 48 = .ok (.iconst 0, 1) := by decide +kernel
theorem dX16_loadBundle_49 : decode cX16_loadBundle 49 = .ok (.istore_n 2, 1) := by decide +kernel
theorem dX16_loadBundle_50 : decode cX16_loadBundle 50 = .ok (.iload_n 2, 1) := by decide +kernel
theorem dX16_loadBundle_51 : decode cX16_loadBundle 51 = .ok (.aload_n 0, 1) := by decide +kernel
theorem dX16_loadBundle_52 : decode cX16_loadBundle 52 = .ok (.getfield 2076, 3) := by decide +kernel
theorem dX16_loadBundle_55 : decode cX16_loadBundle 55 = .ok (.iload_n 1, 1) := by decide +kernel
theorem dX16_loadBundle_56 : decode cX16_loadBundle 56 = .ok (.iaload, 1) := by decide +kernel
theorem dX16_loadBundle_57 : decode cX16_loadBundle 57 = .ok (.if_icmp .ge 84, 3) := by decide +kernel
theorem dX16_loadBundle_141 : decode cX16_loadBundle 141 = .ok (.aload_n 0, 1) := by decide +kernel
theorem dX16_loadBundle_142 : decode cX16_loadBundle 142 = .ok (.iconst 0, 1) := by decide +kernel
theorem dX16_loadBundle_143 : decode cX16_loadBundle 143 = .ok (.putfield 663, 3) := by decide +kernel
theorem dX16_loadBundle_146 : decode cX16_loadBundle 146 = .ok (.aload_n 0, 1) := by decide +kernel
theorem dX16_loadBundle_147 : decode cX16_loadBundle 147 = .ok (.invokevirtual 2092, 3) := by decide +kernel
theorem dX16_loadBundle_150 : decode cX16_loadBundle 150 = .ok (.aload_n 0, 1) := by decide +kernel
theorem dX16_loadBundle_151 : decode cX16_loadBundle 151 = .ok (.aload_n 0, 1) := by decide +kernel
theorem dX16_loadBundle_152 : decode cX16_loadBundle 152 = .ok (.getfield 663, 3) := by decide +kernel
theorem dX16_loadBundle_155 : decode cX16_loadBundle 155 = .ok (.putfield 2095, 3) := by decide +kernel
theorem dX16_loadBundle_158 : decode cX16_loadBundle 158 = .ok (.aload_n 0, 1) := by decide +kernel
theorem dX16_loadBundle_159 : decode cX16_loadBundle 159 = .ok (.aload_n 0, 1) := by decide +kernel
theorem dX16_loadBundle_160 : decode cX16_loadBundle 160 = .ok (.getfield 669, 3) := by decide +kernel
theorem dX16_loadBundle_163 : decode cX16_loadBundle 163 = .ok (.putfield 2098, 3) := by decide +kernel
theorem dX16_loadBundle_166 : decode cX16_loadBundle 166 = .ok (.aload_n 0, 1) := by decide +kernel
theorem dX16_loadBundle_167 : decode cX16_loadBundle 167 = .ok (.aload_n 0, 1) := by decide +kernel
theorem dX16_loadBundle_168 : decode cX16_loadBundle 168 = .ok (.getfield 672, 3) := by decide +kernel
theorem dX16_loadBundle_171 : decode cX16_loadBundle 171 = .ok (.putfield 2101, 3) := by decide +kernel
theorem dX16_loadBundle_174 : decode cX16_loadBundle 174 = .ok (.aload_n 0, 1) := by decide +kernel
theorem dX16_loadBundle_175 : decode cX16_loadBundle 175 = .ok (.aload_n 0, 1) := by decide +kernel
theorem dX16_loadBundle_176 : decode cX16_loadBundle 176 = .ok (.getfield 2070, 3) := by decide +kernel
theorem dX16_loadBundle_179 : decode cX16_loadBundle 179 = .ok (.iload_n 1, 1) := by decide +kernel
theorem dX16_loadBundle_180 : decode cX16_loadBundle 180 = .ok (.iaload, 1) := by decide +kernel
theorem dX16_loadBundle_181 : decode cX16_loadBundle 181 = .ok (.putfield 2067, 3) := by decide +kernel
theorem dX16_loadBundle_184 : decode cX16_loadBundle 184 = .ok (.aload_n 0, 1) := by decide +kernel
theorem dX16_loadBundle_185 : decode cX16_loadBundle 185 = .ok (.aload_n 0, 1) := by decide +kernel
theorem dX16_loadBundle_186 : decode cX16_loadBundle 186 = .ok (.getfield 338, 3) := by decide +kernel
theorem dX16_loadBundle_189 : decode cX16_loadBundle 189 = .ok (.putfield 2104, 3) := by decide +kernel
theorem dX16_loadBundle_192 : decode cX16_loadBundle 192 = .ok (.aload_n 0, 1) := by decide +kernel
theorem dX16_loadBundle_193 : decode cX16_loadBundle 193 = .ok (.aload_n 0, 1) := by decide +kernel
theorem dX16_loadBundle_194 : decode cX16_loadBundle 194 = .ok (.getfield 359, 3) := by decide +kernel
theorem dX16_loadBundle_197 : decode cX16_loadBundle 197 = .ok (.putfield 2107, 3) := by decide +kernel
theorem dX16_loadBundle_200 : decode cX16_loadBundle 200 = .ok (.aload_n 0, 1) := by decide +kernel
theorem dX16_loadBundle_201 : decode cX16_loadBundle 201 = .ok (.aload_n 0, 1) := by decide +kernel
theorem dX16_loadBundle_202 : decode cX16_loadBundle 202 = .ok (.getfield 458, 3) := by decide +kernel
theorem dX16_loadBundle_205 : decode cX16_loadBundle 205 = .ok (.putfield 2110, 3) := by decide +kernel
theorem dX16_loadBundle_208 : decode cX16_loadBundle 208 = .ok (.aload_n 0, 1) := by decide +kernel
theorem dX16_loadBundle_209 : decode cX16_loadBundle 209 = .ok (.aload_n 0, 1) := by decide +kernel
theorem dX16_loadBundle_210 : decode cX16_loadBundle 210 = .ok (.getfield 913, 3) := by decide +kernel
theorem dX16_loadBundle_213 : decode cX16_loadBundle 213 = .ok (.putfield 2113, 3) := by decide +kernel
theorem dX16_loadBundle_216 : decode cX16_loadBundle 216 = .ok (.aload_n 0, 1) := by decide +kernel
theorem dX16_loadBundle_217 : decode cX16_loadBundle 217 = .ok (.aload_n 0, 1) := by decide +kernel
theorem dX16_loadBundle_218 : decode cX16_loadBundle 218 = .ok (.getfield 2104, 3) := by decide +kernel
theorem dX16_loadBundle_221 : decode cX16_loadBundle 221 = .ok (.putfield 338, 3) := by decide +kernel
theorem dX16_loadBundle_224 : decode cX16_loadBundle 224 = .ok (.aload_n 0, 1) := by decide +kernel
theorem dX16_loadBundle_225 : decode cX16_loadBundle 225 = .ok (.aload_n 0, 1) := by decide +kernel
theorem dX16_loadBundle_226 : decode cX16_loadBundle 226 = .ok (.getfield 2107, 3) := by decide +kernel
theorem dX16_loadBundle_229 : decode cX16_loadBundle 229 = .ok (.putfield 359, 3) := by decide +kernel
theorem dX16_loadBundle_232 : decode cX16_loadBundle 232 = .ok (.aload_n 0, 1) := by decide +kernel
theorem dX16_loadBundle_233 : decode cX16_loadBundle 233 = .ok (.aload_n 0, 1) := by decide +kernel
theorem dX16_loadBundle_234 : decode cX16_loadBundle 234 = .ok (.getfield 2110, 3) := by decide +kernel
theorem dX16_loadBundle_237 : decode cX16_loadBundle 237 = .ok (.putfield 458, 3) := by decide +kernel
theorem dX16_loadBundle_240 : decode cX16_loadBundle 240 = .ok (.aload_n 0, 1) := by decide +kernel
theorem dX16_loadBundle_241 : decode cX16_loadBundle 241 = .ok (.aload_n 0, 1) := by decide +kernel
theorem dX16_loadBundle_242 : decode cX16_loadBundle 242 = .ok (.getfield 2113, 3) := by decide +kernel
theorem dX16_loadBundle_245 : decode cX16_loadBundle 245 = .ok (.putfield 913, 3) := by decide +kernel
theorem dX16_loadBundle_248 : decode cX16_loadBundle 248 = .ok (.aload_n 0, 1) := by decide +kernel
theorem dX16_loadBundle_249 : decode cX16_loadBundle 249 = .ok (.aload_n 0, 1) := by decide +kernel
theorem dX16_loadBundle_250 : decode cX16_loadBundle 250 = .ok (.getfield 2095, 3) := by decide +kernel
theorem dX16_loadBundle_253 : decode cX16_loadBundle 253 = .ok (.putfield 663, 3) := by decide +kernel
theorem dX16_loadBundle_256 : decode cX16_loadBundle 256 = .ok (.aload_n 0, 1) := by decide +kernel
theorem dX16_loadBundle_257 : decode cX16_loadBundle 257 = .ok (.aload_n 0, 1) := by decide +kernel
theorem dX16_loadBundle_258 : decode cX16_loadBundle 258 = .ok (.getfield 2098, 3) := by decide +kernel
theorem dX16_loadBundle_261 : decode cX16_loadBundle 261 = .ok (.putfield 669, 3) := by decide +kernel
theorem dX16_loadBundle_264 : decode cX16_loadBundle 264 = .ok (.aload_n 0, 1) := by decide +kernel
theorem dX16_loadBundle_265 : decode cX16_loadBundle 265 = .ok (.aload_n 0, 1) := by decide +kernel
theorem dX16_loadBundle_266 : decode cX16_loadBundle 266 = .ok (.getfield 2101, 3) := by decide +kernel
theorem dX16_loadBundle_269 : decode cX16_loadBundle 269 = .ok (.putfield 672, 3) := by decide +kernel
theorem dX16_loadBundle_272 : decode cX16_loadBundle 272 = .ok (.return_, 1) := by decide +kernel
theorem dX16_checkBundle_0 : decode cX16_checkBundle 0 = .ok (.aload_n 0, 1) := by decide +kernel
theorem dX16_checkBundle_1 : decode cX16_checkBundle 1 = .ok (.iconst 0, 1) := by decide +kernel
theorem dX16_checkBundle_2 : decode cX16_checkBundle 2 = .ok (.putfield 913, 3) := by decide +kernel
theorem dX16_checkBundle_5 : decode cX16_checkBundle 5 = .ok (.aload_n 0, 1) := by decide +kernel
theorem dX16_checkBundle_6 : decode cX16_checkBundle 6 = .ok (.invokevirtual 2116, 3) := by decide +kernel
theorem dX16_checkBundle_9 : decode cX16_checkBundle 9 = .ok (.aload_n 0, 1) := by decide +kernel
theorem dX16_checkBundle_10 : decode cX16_checkBundle 10 = .ok (.invokevirtual 2119, 3) := by decide +kernel
theorem dX16_checkBundle_13 : decode cX16_checkBundle 13 = .ok (.iconst 0, 1) := by decide +kernel
theorem dX16_checkBundle_14 : decode cX16_checkBundle 14 = .ok (.istore_n 1, 1) := by decide +kernel
theorem dX16_checkBundle_15 : decode cX16_checkBundle 15 = .ok (.iload_n 1, 1) := by decide +kernel
theorem dX16_checkBundle_16 : decode cX16_checkBundle 16 = .ok (.aload_n 0, 1) := by decide +kernel
theorem dX16_checkBundle_17 : decode cX16_checkBundle 17 = .ok (.getfield 525, 3) := by decide +kernel
theorem dX16_checkBundle_20 : decode cX16_checkBundle 20 = .ok (.if_icmp .ge 21, 3) := by decide +kernel
theorem dX16_checkBundle_41 : decode cX16_checkBundle 41 = .ok (.aload_n 0, 1) := by decide +kernel
theorem dX16_checkBundle_42 : decode cX16_checkBundle 42 = .ok (.invokevirtual 666, 3) := by decide +kernel
theorem dX16_checkBundle_45 : decode cX16_checkBundle 45 = .ok (.ifCond .eq 4, 3) := by decide +kernel
theorem dX16_checkBundle_49 : decode cX16_checkBundle 49 = .ok (.aload_n 0, 1) := by decide +kernel
theorem dX16_checkBundle_50 : decode cX16_checkBundle 50 = .ok (.invokevirtual 2125, 3) := by decide +kernel
theorem dX16_checkBundle_53 : decode cX16_checkBundle 53 = .ok (.aload_n 0, 1) := by decide +kernel
theorem dX16_checkBundle_54 : decode cX16_checkBundle 54 = .ok (.invokevirtual 2128, 3) := by decide +kernel
theorem dX16_checkBundle_57 : decode cX16_checkBundle 57 = .ok (.aload_n 0, 1) := by decide +kernel
theorem dX16_checkBundle_58 : decode cX16_checkBundle 58 = .ok (.invokevirtual 666, 3) := by decide +kernel
theorem dX16_checkBundle_61 : decode cX16_checkBundle 61 = .ok (.ifCond .eq 4, 3) := by decide +kernel
theorem dX16_checkBundle_65 : decode cX16_checkBundle 65 = .ok (.iconst 0, 1) := by decide +kernel
theorem dX16_checkBundle_66 : decode cX16_checkBundle 66 = .ok (.istore_n 1, 1) := by decide +kernel
theorem dX16_checkBundle_67 : decode cX16_checkBundle 67 = .ok (.iload_n 1, 1) := by decide +kernel
theorem dX16_checkBundle_68 : decode cX16_checkBundle 68 = .ok (.aload_n 0, 1) := by decide +kernel
theorem dX16_checkBundle_69 : decode cX16_checkBundle 69 = .ok (.getfield 623, 3) := by decide +kernel
theorem dX16_checkBundle_72 : decode cX16_checkBundle 72 = .ok (.if_icmp .ge 21, 3) := by decide +kernel
theorem dX16_checkBundle_93 : decode cX16_checkBundle 93 = .ok (.iconst 0, 1) := by decide +kernel
theorem dX16_checkBundle_94 : decode cX16_checkBundle 94 = .ok (.istore_n 1, 1) := by decide +kernel
theorem dX16_checkBundle_95 : decode cX16_checkBundle 95 = .ok (.iload_n 1, 1) := by decide +kernel
theorem dX16_checkBundle_96 : decode cX16_checkBundle 96 = .ok (.aload_n 0, 1) := by decide +kernel
theorem dX16_checkBundle_97 : decode cX16_checkBundle 97 = .ok (.getfield 623, 3) := by decide +kernel
theorem dX16_checkBundle_100 : decode cX16_checkBundle 100 = .ok (.if_icmp .ge 21, 3) := by decide +kernel
theorem dX16_checkBundle_121 : decode cX16_checkBundle 121 = .ok (.aload_n 0, 1) := by decide +kernel
theorem dX16_checkBundle_122 : decode cX16_checkBundle 122 = .ok (.invokevirtual 666, 3) := by decide +kernel
theorem dX16_checkBundle_125 : decode cX16_checkBundle 125 = .ok (.ifCond .ne 7, 3) := by decide +kernel
theorem dX16_checkBundle_128 : decode cX16_checkBundle 128 = .ok (.aload_n 0, 1) := by decide +kernel
theorem dX16_checkBundle_129 : decode cX16_checkBundle 129 = .ok (.invokevirtual 2137, 3) := by decide +kernel
theorem dX16_checkBundle_132 : decode cX16_checkBundle 132 = .ok (.return_, 1) := by decide +kernel
theorem dX16_findDepths_0 : decode cX16_findDepths 0 = .ok (.iconst 1, 1) := by decide +kernel
theorem dX16_findDepths_1 : decode cX16_findDepths 1 = .ok (.istore_n 1, 1) := by decide +kernel
theorem dX16_findDepths_2 : decode cX16_findDepths 2 = .ok (.iload_n 1, 1) := by decide +kernel
theorem dX16_findDepths_3 : decode cX16_findDepths 3 = .ok (.bipush 12, 2) := by decide +kernel
theorem dX16_findDepths_5 : decode cX16_findDepths 5 = .ok (.if_icmp .gt 101, 3) := by decide +kernel
theorem dX16_findDepths_8 : decode cX16_findDepths 8 = .ok (.iconst 0, 1) := by decide +kernel
theorem dX16_findDepths_9 : decode cX16_findDepths 9 = .ok (.istore_n 2, 1) := by decide +kernel
theorem dX16_findDepths_10 : decode cX16_findDepths 10 = .ok (.iload_n 2, 1) := by decide +kernel
theorem dX16_findDepths_11 : decode cX16_findDepths 11 = .ok (.aload_n 0, 1) := by decide +kernel
theorem dX16_findDepths_12 : decode cX16_findDepths 12 = .ok (.getfield 623, 3) := by decide +kernel
theorem dX16_findDepths_15 : decode cX16_findDepths 15 = .ok (.if_icmp .ge 85, 3) := by decide +kernel
theorem dX16_findDepths_100 : decode cX16_findDepths 100 = .ok (.iinc 1 1, 3) := by decide +kernel
theorem dX16_findDepths_103 : decode cX16_findDepths 103 = .ok (.goto (-101), 3) := by decide +kernel
theorem dX16_findDepths_106 : decode cX16_findDepths 106 = .ok (.return_, 1) := by decide +kernel
theorem dX16_readQuery_0 : decode cX16_readQuery 0 = .ok (.aload_n 0, 1) := by decide +kernel
theorem dX16_readQuery_1 : decode cX16_readQuery 1 = .ok (.aload_n 1, 1) := by decide +kernel
theorem dX16_readQuery_2 : decode cX16_readQuery 2 = .ok (.iload_n 2, 1) := by decide +kernel
theorem dX16_readQuery_3 : decode cX16_readQuery 3 = .ok (.invokevirtual 540, 3) := by decide +kernel
theorem dX16_readQuery_6 : decode cX16_readQuery 6 = .ok (.aload_n 0, 1) := by decide +kernel
theorem dX16_readQuery_7 : decode cX16_readQuery 7 = .ok (.sipush 400, 3) := by decide +kernel
theorem dX16_readQuery_10 : decode cX16_readQuery 10 = .ok (.putfield 470, 3) := by decide +kernel
theorem dX16_readQuery_13 : decode cX16_readQuery 13 = .ok (.aload_n 0, 1) := by decide +kernel
theorem dX16_readQuery_14 : decode cX16_readQuery 14 = .ok (.iconst 0, 1) := by decide +kernel
theorem dX16_readQuery_15 : decode cX16_readQuery 15 = .ok (.putfield 376, 3) := by decide +kernel
theorem dX16_readQuery_18 : decode cX16_readQuery 18 = .ok (.aload_n 0, 1) := by decide +kernel
theorem dX16_readQuery_19 : decode cX16_readQuery 19 = .ok (.aload_n 0, 1) := by decide +kernel
theorem dX16_readQuery_20 : decode cX16_readQuery 20 = .ok (.iconst 0, 1) := by decide +kernel
theorem dX16_readQuery_21 : decode cX16_readQuery 21 = .ok (.iconst 0, 1) := by decide +kernel
theorem dX16_readQuery_22 : decode cX16_readQuery 22 = .ok (.invokevirtual 444, 3) := by decide +kernel
theorem dX16_readQuery_25 : decode cX16_readQuery 25 = .ok (.putfield 1274, 3) := by decide +kernel
theorem dX16_readQuery_28 : decode cX16_readQuery 28 = .ok (.aload_n 0, 1) := by decide +kernel
theorem dX16_readQuery_29 : decode cX16_readQuery 29 = .ok (.invokevirtual 282, 3) := by decide +kernel
theorem dX16_readQuery_32 : decode cX16_readQuery 32 = .ok (.ifCond .ne 18, 3) := by decide +kernel
theorem dX16_readQuery_50 : decode cX16_readQuery 50 = .ok (.return_, 1) := by decide +kernel
theorem dX16_keepFault_0 : decode cX16_keepFault 0 = .ok (.aload_n 0, 1) := by decide +kernel
theorem dX16_keepFault_1 : decode cX16_keepFault 1 = .ok (.aload_n 0, 1) := by decide +kernel
theorem dX16_keepFault_2 : decode cX16_keepFault 2 = .ok (.getfield 663, 3) := by decide +kernel
theorem dX16_keepFault_5 : decode cX16_keepFault 5 = .ok (.putfield 2170, 3) := by decide +kernel
theorem dX16_keepFault_8 : decode cX16_keepFault 8 = .ok (.aload_n 0, 1) := by decide +kernel
theorem dX16_keepFault_9 : decode cX16_keepFault 9 = .ok (.aload_n 0, 1) := by decide +kernel
theorem dX16_keepFault_10 : decode cX16_keepFault 10 = .ok (.invokevirtual 666, 3) := by decide +kernel
theorem dX16_keepFault_13 : decode cX16_keepFault 13 = .ok (.ifCond .eq 10, 3) := by decide +kernel
theorem dX16_keepFault_23 : decode cX16_keepFault 23 = .ok (.iconst (-1), 1) := by decide +kernel
theorem dX16_keepFault_24 : decode cX16_keepFault 24 = .ok (.putfield 2173, 3) := by decide +kernel
theorem dX16_keepFault_27 : decode cX16_keepFault 27 = .ok (.aload_n 0, 1) := by decide +kernel
theorem dX16_keepFault_28 : decode cX16_keepFault 28 = .ok (.aload_n 0, 1) := by decide +kernel
theorem dX16_keepFault_29 : decode cX16_keepFault 29 = .ok (.invokevirtual 666, 3) := by decide +kernel
theorem dX16_keepFault_32 : decode cX16_keepFault 32 = .ok (.ifCond .eq 10, 3) := by decide +kernel
theorem dX16_keepFault_42 : decode cX16_keepFault 42 = .ok (.iconst (-1), 1) := by decide +kernel
theorem dX16_keepFault_43 : decode cX16_keepFault 43 = .ok (.putfield 2176, 3) := by decide +kernel
theorem dX16_keepFault_46 : decode cX16_keepFault 46 = .ok (.return_, 1) := by decide +kernel
theorem dX16_copyBundle_0 : decode cX16_copyBundle 0 = .ok (.aload_n 0, 1) := by decide +kernel
theorem dX16_copyBundle_1 : decode cX16_copyBundle 1 = .ok (.getfield 2076, 3) := by decide +kernel
theorem dX16_copyBundle_4 : decode cX16_copyBundle 4 = .ok (.iload_n 2, 1) := by decide +kernel
theorem dX16_copyBundle_5 : decode cX16_copyBundle 5 = .ok (.aload_n 0, 1) := by decide +kernel
theorem dX16_copyBundle_6 : decode cX16_copyBundle 6 = .ok (.getfield 2076, 3) := by decide +kernel
theorem dX16_copyBundle_9 : decode cX16_copyBundle 9 = .ok (.iload_n 1, 1) := by decide +kernel
theorem dX16_copyBundle_10 : decode cX16_copyBundle 10 = .ok (.iaload, 1) := by decide +kernel
theorem dX16_copyBundle_11 : decode cX16_copyBundle 11 = .ok (.iastore, 1) := by decide +kernel
theorem dX16_copyBundle_12 : decode cX16_copyBundle 12 = .ok (.aload_n 0, 1) := by decide +kernel
theorem dX16_copyBundle_13 : decode cX16_copyBundle 13 = .ok (.getfield 2070, 3) := by decide +kernel
theorem dX16_copyBundle_16 : decode cX16_copyBundle 16 = .ok (.iload_n 2, 1) := by decide +kernel
theorem dX16_copyBundle_17 : decode cX16_copyBundle 17 = .ok (.aload_n 0, 1) := by decide +kernel
theorem dX16_copyBundle_18 : decode cX16_copyBundle 18 = .ok (.getfield 2070, 3) := by decide +kernel
theorem dX16_copyBundle_21 : decode cX16_copyBundle 21 = .ok (.iload_n 1, 1) := by decide +kernel
theorem dX16_copyBundle_22 : decode cX16_copyBundle 22 = .ok (.iaload, 1) := by decide +kernel
theorem dX16_copyBundle_23 : decode cX16_copyBundle 23 = .ok (.iastore, 1) := by decide +kernel
theorem dX16_copyBundle_24 : decode cX16_copyBundle 24 = .ok (.iconst 0, 1) := by decide +kernel
theorem dX16_copyBundle_25 : decode cX16_copyBundle 25 = .ok (.istore_n 3, 1) := by decide +kernel
theorem dX16_copyBundle_26 : decode cX16_copyBundle 26 = .ok (.iload_n 3, 1) := by decide +kernel
theorem dX16_copyBundle_27 : decode cX16_copyBundle 27 = .ok (.iconst 4, 1) := by decide +kernel
theorem dX16_copyBundle_28 : decode cX16_copyBundle 28 = .ok (.if_icmp .ge 90, 3) := by decide +kernel
theorem dX16_copyBundle_31 : decode cX16_copyBundle 31 = .ok (.aload_n 0, 1) := by decide +kernel
theorem dX16_copyBundle_32 : decode cX16_copyBundle 32 = .ok (.getfield 2079, 3) := by decide +kernel
theorem dX16_copyBundle_35 : decode cX16_copyBundle 35 = .ok (.iconst 4, 1) := by decide +kernel
theorem dX16_copyBundle_36 : decode cX16_copyBundle 36 = .ok (.iload_n 2, 1) := by decide +kernel
theorem dX16_copyBundle_37 : decode cX16_copyBundle 37 = .ok (.imul, 1) := by decide +kernel
theorem dX16_copyBundle_38 : decode cX16_copyBundle 38 = .ok (.iload_n 3, 1) := by decide +kernel
theorem dX16_copyBundle_39 : decode cX16_copyBundle 39 = .ok (.iadd, 1) := by decide +kernel
theorem dX16_copyBundle_40 : decode cX16_copyBundle 40 = .ok (.aload_n 0, 1) := by decide +kernel
theorem dX16_copyBundle_41 : decode cX16_copyBundle 41 = .ok (.getfield 2079, 3) := by decide +kernel
theorem dX16_copyBundle_44 : decode cX16_copyBundle 44 = .ok (.iconst 4, 1) := by decide +kernel
theorem dX16_copyBundle_45 : decode cX16_copyBundle 45 = .ok (.iload_n 1, 1) := by decide +kernel
theorem dX16_copyBundle_46 : decode cX16_copyBundle 46 = .ok (.imul, 1) := by decide +kernel
theorem dX16_copyBundle_47 : decode cX16_copyBundle 47 = .ok (.iload_n 3, 1) := by decide +kernel
theorem dX16_copyBundle_48 : decode cX16_copyBundle 48 = .ok (.iadd, 1) := by decide +kernel
theorem dX16_copyBundle_49 : decode cX16_copyBundle 49 = .ok (.iaload, 1) := by decide +kernel
theorem dX16_copyBundle_50 : decode cX16_copyBundle 50 = .ok (.iastore, 1) := by decide +kernel
theorem dX16_copyBundle_51 : decode cX16_copyBundle 51 = .ok (.iconst 0, 1) := by decide +kernel
theorem dX16_copyBundle_52 : decode cX16_copyBundle 52 = .ok (.istore 4, 2) := by decide +kernel
theorem dX16_copyBundle_54 : decode cX16_copyBundle 54 = .ok (.iload 4, 2) := by decide +kernel
theorem dX16_copyBundle_56 : decode cX16_copyBundle 56 = .ok (.sipush 750, 3) := by decide +kernel
theorem dX16_copyBundle_59 : decode cX16_copyBundle 59 = .ok (.if_icmp .ge 53, 3) := by decide +kernel
theorem dX16_copyBundle_62 : decode cX16_copyBundle 62 = .ok (.iload_n 3, 1) := by decide +kernel
theorem dX16_copyBundle_63 : decode cX16_copyBundle 63 = .ok (.aload_n 0, 1) := by decide +kernel
theorem dX16_copyBundle_64 : decode cX16_copyBundle 64 = .ok (.getfield 2076, 3) := by decide +kernel
theorem dX16_copyBundle_67 : decode cX16_copyBundle 67 = .ok (.iload_n 1, 1) := by decide +kernel
theorem dX16_copyBundle_68 : decode cX16_copyBundle 68 = .ok (.iaload, 1) := by decide +kernel
theorem dX16_copyBundle_69 : decode cX16_copyBundle 69 = .ok (.if_icmp .ge 43, 3) := by decide +kernel
theorem dX16_copyBundle_112 : decode cX16_copyBundle 112 = .ok (.iinc 3 1, 3) := by decide +kernel
theorem dX16_copyBundle_115 : decode cX16_copyBundle 115 = .ok (.goto (-89), 3) := by decide +kernel
theorem dX16_copyBundle_118 : decode cX16_copyBundle 118 = .ok (.return_, 1) := by decide +kernel
theorem dX16_thrown_0 : decode cX16_thrown 0 = .ok (.aload_n 0, 1) := by decide +kernel
theorem dX16_thrown_1 : decode cX16_thrown 1 = .ok (.getfield 2228, 3) := by decide +kernel
theorem dX16_thrown_4 : decode cX16_thrown 4 = .ok (.ireturn, 1) := by decide +kernel
theorem dX16_feed_0 : decode cX16_feed 0 = .ok (.aload_n 0, 1) := by decide +kernel
theorem dX16_feed_1 : decode cX16_feed 1 = .ok (.iconst 0, 1) := by decide +kernel
theorem dX16_feed_2 : decode cX16_feed 2 = .ok (.putfield 2228, 3) := by decide +kernel
theorem dX16_feed_5 : decode cX16_feed 5 = .ok (.aload_n 0, 1) := by decide +kernel
theorem dX16_feed_6 : decode cX16_feed 6 = .ok (.getfield 2231, 3) := by decide +kernel
theorem dX16_feed_9 : decode cX16_feed 9 = .ok (.bipush 20, 2) := by decide +kernel
theorem dX16_feed_11 : decode cX16_feed 11 = .ok (.iadd, 1) := by decide +kernel
theorem dX16_feed_12 : decode cX16_feed 12 = .ok (.sipush 6000, 3) := by decide +kernel
theorem dX16_feed_15 : decode cX16_feed 15 = .ok (.if_icmp .le 5, 3) := by decide +kernel
theorem dX16_feed_20 : decode cX16_feed 20 = .ok (.iconst 0, 1) := by decide +kernel
theorem dX16_feed_21 : decode cX16_feed 21 = .ok (.istore 6, 2) := by decide +kernel
theorem dX16_feed_23 : decode cX16_feed 23 = .ok (.iload 6, 2) := by decide +kernel
theorem dX16_feed_25 : decode cX16_feed 25 = .ok (.bipush 20, 2) := by decide +kernel
theorem dX16_feed_27 : decode cX16_feed 27 = .ok (.if_icmp .ge 90, 3) := by decide +kernel
theorem dX16_feed_30 : decode cX16_feed 30 = .ok (.iload 6, 2) := by decide +kernel
theorem dX16_feed_32 : decode cX16_feed 32 = .ok (.iconst 4, 1) := by decide +kernel
theorem dX16_feed_33 : decode cX16_feed 33 = .ok (.if_icmp .ge 7, 3) := by decide +kernel
theorem dX16_feed_36 : decode cX16_feed 36 = .ok (.iload_n 1, 1) := by decide +kernel
theorem dX16_feed_37 : decode cX16_feed 37 = .ok (.goto 39, 3) := by decide +kernel
theorem dX16_feed_40 : decode cX16_feed 40 = .ok (.iload 6, 2) := by decide +kernel
theorem dX16_feed_42 : decode cX16_feed 42 = .ok (.bipush 8, 2) := by decide +kernel
theorem dX16_feed_44 : decode cX16_feed 44 = .ok (.if_icmp .ge 7, 3) := by decide +kernel
theorem dX16_feed_47 : decode cX16_feed 47 = .ok (.iload_n 2, 1) := by decide +kernel
theorem dX16_feed_48 : decode cX16_feed 48 = .ok (.goto 28, 3) := by decide +kernel
theorem dX16_feed_51 : decode cX16_feed 51 = .ok (.iload 6, 2) := by decide +kernel
theorem dX16_feed_53 : decode cX16_feed 53 = .ok (.bipush 12, 2) := by decide +kernel
theorem dX16_feed_55 : decode cX16_feed 55 = .ok (.if_icmp .ge 7, 3) := by decide +kernel
theorem dX16_feed_58 : decode cX16_feed 58 = .ok (.iload_n 3, 1) := by decide +kernel
theorem dX16_feed_59 : decode cX16_feed 59 = .ok (.goto 17, 3) := by decide +kernel
theorem dX16_feed_62 : decode cX16_feed 62 = .ok (.iload 6, 2) := by decide +kernel
theorem dX16_feed_64 : decode cX16_feed 64 = .ok (.bipush 16, 2) := by decide +kernel
theorem dX16_feed_66 : decode cX16_feed 66 = .ok (.if_icmp .ge 8, 3) := by decide +kernel
theorem dX16_feed_69 : decode cX16_feed 69 = .ok (.iload 4, 2) := by decide +kernel
theorem dX16_feed_71 : decode cX16_feed 71 = .ok (.goto 5, 3) := by decide +kernel
theorem dX16_feed_74 : decode cX16_feed 74 = .ok (.iload 5, 2) := by decide +kernel
theorem dX16_feed_76 : decode cX16_feed 76 = .ok (.istore 7, 2) := by decide +kernel
theorem dX16_feed_78 : decode cX16_feed 78 = .ok (.aload_n 0, 1) := by decide +kernel
theorem dX16_feed_79 : decode cX16_feed 79 = .ok (.getfield 2204, 3) := by decide +kernel
theorem dX16_feed_82 : decode cX16_feed 82 = .ok (.aload_n 0, 1) := by decide +kernel
theorem dX16_feed_83 : decode cX16_feed 83 = .ok (.getfield 2231, 3) := by decide +kernel
theorem dX16_feed_86 : decode cX16_feed 86 = .ok (.iload 7, 2) := by decide +kernel
theorem dX16_feed_88 : decode cX16_feed 88 = .ok (.bipush 24, 2) := by decide +kernel
theorem dX16_feed_90 : decode cX16_feed 90 = .ok (.iload 6, 2) := by decide +kernel
theorem dX16_feed_92 : decode cX16_feed 92 = .ok (.iconst 4, 1) := by decide +kernel
theorem dX16_feed_93 : decode cX16_feed 93 = .ok (.irem, 1) := by decide +kernel
theorem dX16_feed_94 : decode cX16_feed 94 = .ok (.bipush 8, 2) := by decide +kernel
theorem dX16_feed_96 : decode cX16_feed 96 = .ok (.imul, 1) := by decide +kernel
theorem dX16_feed_97 : decode cX16_feed 97 = .ok (.isub, 1) := by decide +kernel
theorem dX16_feed_98 : decode cX16_feed 98 = .ok (.ishr, 1) := by decide +kernel
theorem dX16_feed_99 : decode cX16_feed 99 = .ok (.i2b, 1) := by decide +kernel
theorem dX16_feed_100 : decode cX16_feed 100 = .ok (.bastore, 1) := by decide +kernel
theorem dX16_feed_101 : decode cX16_feed 101 = .ok (.aload_n 0, 1) := by decide +kernel
theorem dX16_feed_102 : decode cX16_feed 102 = .ok (.dup, 1) := by decide +kernel
theorem dX16_feed_103 : decode cX16_feed 103 = .ok (.getfield 2231, 3) := by decide +kernel
theorem dX16_feed_106 : decode cX16_feed 106 = .ok (.iconst 1, 1) := by decide +kernel
theorem dX16_feed_107 : decode cX16_feed 107 = .ok (.iadd, 1) := by decide +kernel
theorem dX16_feed_108 : decode cX16_feed 108 = .ok (.putfield 2231, 3) := by decide +kernel
theorem dX16_feed_111 : decode cX16_feed 111 = .ok (.iinc 6 1, 3) := by decide +kernel
theorem dX16_feed_114 : decode cX16_feed 114 = .ok (.goto (-91), 3) := by decide +kernel
theorem dX16_feed_117 : decode cX16_feed 117 = .ok (.iconst 1, 1) := by decide +kernel
theorem dX16_feed_118 : decode cX16_feed 118 = .ok (.ireturn, 1) := by decide +kernel
theorem dX16_end_0 : decode cX16_end 0 = .ok (.aload_n 0, 1) := by decide +kernel
theorem dX16_end_1 : decode cX16_end 1 = .ok (.iconst 0, 1) := by decide +kernel
theorem dX16_end_2 : decode cX16_end 2 = .ok (.putfield 2228, 3) := by decide +kernel
theorem dX16_end_5 : decode cX16_end 5 = .ok (.iload_n 1, 1) := by decide +kernel
theorem dX16_end_6 : decode cX16_end 6 = .ok (.ifCond .lt 11, 3) := by decide +kernel
theorem dX16_end_9 : decode cX16_end 9 = .ok (.iload_n 1, 1) := by decide +kernel
theorem dX16_end_10 : decode cX16_end 10 = .ok (.aload_n 0, 1) := by decide +kernel
theorem dX16_end_11 : decode cX16_end 11 = .ok (.getfield 2231, 3) := by decide +kernel
theorem dX16_end_14 : decode cX16_end 14 = .ok (.if_icmp .le 5, 3) := by decide +kernel
theorem dX16_end_17 : decode cX16_end 17 = .ok (.iconst 0, 1) := by decide +kernel
theorem dX16_end_18 : decode cX16_end 18 = .ok (.ireturn, 1) := by decide +kernel
theorem dX16_end_19 : decode cX16_end 19 = .ok (.aload_n 0, 1) := by decide +kernel
theorem dX16_end_20 : decode cX16_end 20 = .ok (.iload_n 1, 1) := by decide +kernel
theorem dX16_end_21 : decode cX16_end 21 = .ok (.putfield 2231, 3) := by decide +kernel
theorem dX16_end_24 : decode cX16_end 24 = .ok (.iconst 1, 1) := by decide +kernel
theorem dX16_end_25 : decode cX16_end 25 = .ok (.ireturn, 1) := by decide +kernel
theorem dX16_take_0 : decode cX16_take 0 = .ok (.aload_n 0, 1) := by decide +kernel
theorem dX16_take_1 : decode cX16_take 1 = .ok (.iconst 0, 1) := by decide +kernel
theorem dX16_take_2 : decode cX16_take 2 = .ok (.putfield 2228, 3) := by decide +kernel
theorem dX16_take_5 : decode cX16_take 5 = .ok (.aload_n 0, 1) := by decide +kernel
theorem dX16_take_6 : decode cX16_take 6 = .ok (.getfield 2231, 3) := by decide +kernel
theorem dX16_take_9 : decode cX16_take 9 = .ok (.istore_n 1, 1) := by decide +kernel
theorem dX16_take_10 : decode cX16_take 10 = .ok (.aload_n 0, 1) := by decide +kernel
theorem dX16_take_11 : decode cX16_take 11 = .ok (.iconst 0, 1) := by decide +kernel
theorem dX16_take_12 : decode cX16_take 12 = .ok (.putfield 2231, 3) := by decide +kernel
theorem dX16_take_15 : decode cX16_take 15 = .ok (.iload_n 1, 1) := by decide +kernel
theorem dX16_take_16 : decode cX16_take 16 = .ok (.ireturn, 1) := by decide +kernel
theorem dX16_module_0 : decode cX16_module 0 = .ok (.aload_n 0, 1) := by decide +kernel
theorem dX16_module_1 : decode cX16_module 1 = .ok (.invokevirtual 2234, 3) := by decide +kernel
theorem dX16_module_4 : decode cX16_module 4 = .ok (.istore_n 1, 1) := by decide +kernel
theorem dX16_module_5 : decode cX16_module 5 = .ok (.aload_n 0, 1) := by decide +kernel
theorem dX16_module_6 : decode cX16_module 6 = .ok (.iconst (-1), 1) := by decide +kernel
theorem dX16_module_7 : decode cX16_module 7 = .ok (.putfield 2067, 3) := by decide +kernel
theorem dX16_module_10 : decode cX16_module 10 = .ok (.aload_n 0, 1) := by decide +kernel
theorem dX16_module_11 : decode cX16_module 11 = .ok (.invokevirtual 2073, 3) := by decide +kernel
theorem dX16_module_14 : decode cX16_module 14 = .ok (.aload_n 0, 1) := by decide +kernel
theorem dX16_module_15 : decode cX16_module 15 = .ok (.aload_n 0, 1) := by decide +kernel
theorem dX16_module_16 : decode cX16_module 16 = .ok (.getfield 2204, 3) := by decide +kernel
theorem dX16_module_19 : decode cX16_module 19 = .ok (.iload_n 1, 1) := by decide +kernel
theorem dX16_module_20 : decode cX16_module 20 = .ok (.invokevirtual 2088, 3) := by decide +kernel
theorem dX16_module_23 : decode cX16_module 23 = .ok (.istore_n 2, 1) := by decide +kernel
theorem dX16_module_24 : decode cX16_module 24 = .ok (.aload_n 0, 1) := by decide +kernel
theorem dX16_module_25 : decode cX16_module 25 = .ok (.invokevirtual 282, 3) := by decide +kernel
theorem dX16_module_28 : decode cX16_module 28 = .ok (.ifCond .eq 10, 3) := by decide +kernel
theorem dX16_module_31 : decode cX16_module 31 = .ok (.iconst (-1), 1) := by decide +kernel
theorem dX16_module_32 : decode cX16_module 32 = .ok (.aload_n 0, 1) := by decide +kernel
theorem dX16_module_33 : decode cX16_module 33 = .ok (.getfield 267, 3) := by decide +kernel
theorem dX16_module_36 : decode cX16_module 36 = .ok (.isub, 1) := by decide +kernel
theorem dX16_module_37 : decode cX16_module 37 = .ok (.ireturn, 1) := by decide +kernel
theorem dX16_drop_0 : decode cX16_drop 0 = .ok (.aload_n 0, 1) := by decide +kernel
theorem dX16_drop_1 : decode cX16_drop 1 = .ok (.iconst 0, 1) := by decide +kernel
theorem dX16_drop_2 : decode cX16_drop 2 = .ok (.putfield 2228, 3) := by decide +kernel
theorem dX16_drop_5 : decode cX16_drop 5 = .ok (.aload_n 0, 1) := by decide +kernel
theorem dX16_drop_6 : decode cX16_drop 6 = .ok (.getfield 2076, 3) := by decide +kernel
theorem dX16_drop_9 : decode cX16_drop 9 = .ok (.iconst 0, 1) := by decide +kernel
theorem dX16_drop_10 : decode cX16_drop 10 = .ok (.iaload, 1) := by decide +kernel
theorem dX16_drop_11 : decode cX16_drop 11 = .ok (.istore_n 1, 1) := by decide +kernel
theorem dX16_drop_12 : decode cX16_drop 12 = .ok (.aload_n 0, 1) := by decide +kernel
theorem dX16_drop_13 : decode cX16_drop 13 = .ok (.getfield 2076, 3) := by decide +kernel
theorem dX16_drop_16 : decode cX16_drop 16 = .ok (.iconst 0, 1) := by decide +kernel
theorem dX16_drop_17 : decode cX16_drop 17 = .ok (.iconst 0, 1) := by decide +kernel
theorem dX16_drop_18 : decode cX16_drop 18 = .ok (.iastore, 1) := by decide +kernel
theorem dX16_drop_19 : decode cX16_drop 19 = .ok (.aload_n 0, 1) := by decide +kernel
theorem dX16_drop_20 : decode cX16_drop 20 = .ok (.dup, 1) := by decide +kernel
theorem dX16_drop_21 : decode cX16_drop 21 = .ok (.getfield 2201, 3) := by decide +kernel
theorem dX16_drop_24 : decode cX16_drop 24 = .ok (.iconst 1, 1) := by decide +kernel
theorem dX16_drop_25 : decode cX16_drop 25 = .ok (.iadd, 1) := by decide +kernel
theorem dX16_drop_26 : decode cX16_drop 26 = .ok (.putfield 2201, 3) := by decide +kernel
theorem dX16_drop_29 : decode cX16_drop 29 = .ok (.aload_n 0, 1) := by decide +kernel
theorem dX16_drop_30 : decode cX16_drop 30 = .ok (.getfield 2070, 3) := by decide +kernel
theorem dX16_drop_33 : decode cX16_drop 33 = .ok (.iconst 0, 1) := by decide +kernel
theorem dX16_drop_34 : decode cX16_drop 34 = .ok (.aload_n 0, 1) := by decide +kernel
theorem dX16_drop_35 : decode cX16_drop 35 = .ok (.getfield 2201, 3) := by decide +kernel
theorem dX16_drop_38 : decode cX16_drop 38 = .ok (.iastore, 1) := by decide +kernel
theorem dX16_drop_39 : decode cX16_drop 39 = .ok (.iload_n 1, 1) := by decide +kernel
theorem dX16_drop_40 : decode cX16_drop 40 = .ok (.ireturn, 1) := by decide +kernel
theorem dX16_check_0 : decode cX16_check 0 = .ok (.aload_n 0, 1) := by decide +kernel
theorem dX16_check_1 : decode cX16_check 1 = .ok (.iconst 0, 1) := by decide +kernel
theorem dX16_check_2 : decode cX16_check 2 = .ok (.putfield 2228, 3) := by decide +kernel
theorem dX16_check_5 : decode cX16_check 5 = .ok (.aload_n 0, 1) := by decide +kernel
theorem dX16_check_6 : decode cX16_check 6 = .ok (.iconst 0, 1) := by decide +kernel
theorem dX16_check_7 : decode cX16_check 7 = .ok (.invokevirtual 2155, 3) := by decide +kernel
theorem dX16_check_10 : decode cX16_check 10 = .ok (.aload_n 0, 1) := by decide +kernel
theorem dX16_check_11 : decode cX16_check 11 = .ok (.invokevirtual 2239, 3) := by decide +kernel
theorem dX16_check_14 : decode cX16_check 14 = .ok (.aload_n 0, 1) := by decide +kernel
theorem dX16_check_15 : decode cX16_check 15 = .ok (.getfield 2170, 3) := by decide +kernel
theorem dX16_check_18 : decode cX16_check 18 = .ok (.ireturn, 1) := by decide +kernel
theorem dX16_activate_0 : decode cX16_activate 0 = .ok (.aload_n 0, 1) := by decide +kernel
theorem dX16_activate_1 : decode cX16_activate 1 = .ok (.iconst 0, 1) := by decide +kernel
theorem dX16_activate_2 : decode cX16_activate 2 = .ok (.putfield 2228, 3) := by decide +kernel
theorem dX16_activate_5 : decode cX16_activate 5 = .ok (.aload_n 0, 1) := by decide +kernel
theorem dX16_activate_6 : decode cX16_activate 6 = .ok (.iconst 0, 1) := by decide +kernel
theorem dX16_activate_7 : decode cX16_activate 7 = .ok (.invokevirtual 2155, 3) := by decide +kernel
theorem dX16_activate_10 : decode cX16_activate 10 = .ok (.aload_n 0, 1) := by decide +kernel
theorem dX16_activate_11 : decode cX16_activate 11 = .ok (.invokevirtual 2239, 3) := by decide +kernel
theorem dX16_activate_14 : decode cX16_activate 14 = .ok (.aload_n 0, 1) := by decide +kernel
theorem dX16_activate_15 : decode cX16_activate 15 = .ok (.getfield 2170, 3) := by decide +kernel
theorem dX16_activate_18 : decode cX16_activate 18 = .ok (.ifCond .eq 9, 3) := by decide +kernel
theorem dX16_activate_27 : decode cX16_activate 27 = .ok (.aload_n 0, 1) := by decide +kernel
theorem dX16_activate_28 : decode cX16_activate 28 = .ok (.iconst 0, 1) := by decide +kernel
theorem dX16_activate_29 : decode cX16_activate 29 = .ok (.iconst 1, 1) := by decide +kernel
theorem dX16_activate_30 : decode cX16_activate 30 = .ok (.invokevirtual 2242, 3) := by decide +kernel
theorem dX16_activate_33 : decode cX16_activate 33 = .ok (.aload_n 0, 1) := by decide +kernel
theorem dX16_activate_34 : decode cX16_activate 34 = .ok (.getfield 623, 3) := by decide +kernel
theorem dX16_activate_37 : decode cX16_activate 37 = .ok (.ireturn, 1) := by decide +kernel
theorem dX16_fault_0 : decode cX16_fault 0 = .ok (.aload_n 0, 1) := by decide +kernel
theorem dX16_fault_1 : decode cX16_fault 1 = .ok (.iconst 0, 1) := by decide +kernel
theorem dX16_fault_2 : decode cX16_fault 2 = .ok (.putfield 2228, 3) := by decide +kernel
theorem dX16_fault_5 : decode cX16_fault 5 = .ok (.iload_n 1, 1) := by decide +kernel
theorem dX16_fault_6 : decode cX16_fault 6 = .ok (.ifCond .ne 10, 3) := by decide +kernel
theorem dX16_fault_9 : decode cX16_fault 9 = .ok (.aload_n 0, 1) := by decide +kernel
theorem dX16_fault_10 : decode cX16_fault 10 = .ok (.getfield 2170, 3) := by decide +kernel
theorem dX16_fault_13 : decode cX16_fault 13 = .ok (.goto 28, 3) := by decide +kernel
theorem dX16_fault_16 : decode cX16_fault 16 = .ok (.iload_n 1, 1) := by decide +kernel
theorem dX16_fault_17 : decode cX16_fault 17 = .ok (.iconst 1, 1) := by decide +kernel
theorem dX16_fault_18 : decode cX16_fault 18 = .ok (.if_icmp .ne 10, 3) := by decide +kernel
theorem dX16_fault_21 : decode cX16_fault 21 = .ok (.aload_n 0, 1) := by decide +kernel
theorem dX16_fault_22 : decode cX16_fault 22 = .ok (.getfield 2173, 3) := by decide +kernel
theorem dX16_fault_25 : decode cX16_fault 25 = .ok (.goto 16, 3) := by decide +kernel
theorem dX16_fault_28 : decode cX16_fault 28 = .ok (.iload_n 1, 1) := by decide +kernel
theorem dX16_fault_29 : decode cX16_fault 29 = .ok (.iconst 2, 1) := by decide +kernel
theorem dX16_fault_30 : decode cX16_fault 30 = .ok (.if_icmp .ne 10, 3) := by decide +kernel
theorem dX16_fault_33 : decode cX16_fault 33 = .ok (.aload_n 0, 1) := by decide +kernel
theorem dX16_fault_34 : decode cX16_fault 34 = .ok (.getfield 2176, 3) := by decide +kernel
theorem dX16_fault_37 : decode cX16_fault 37 = .ok (.goto 4, 3) := by decide +kernel
theorem dX16_fault_40 : decode cX16_fault 40 = .ok (.iconst (-1), 1) := by decide +kernel
theorem dX16_fault_41 : decode cX16_fault 41 = .ok (.ireturn, 1) := by decide +kernel
theorem dX16_data_0 : decode cX16_data 0 = .ok (.aload_n 0, 1) := by decide +kernel
theorem dX16_data_1 : decode cX16_data 1 = .ok (.invokevirtual 2234, 3) := by decide +kernel
theorem dX16_data_4 : decode cX16_data 4 = .ok (.istore_n 1, 1) := by decide +kernel
theorem dX16_data_5 : decode cX16_data 5 = .ok (.aload_n 0, 1) := by decide +kernel
theorem dX16_data_6 : decode cX16_data 6 = .ok (.getfield 2195, 3) := by decide +kernel
theorem dX16_data_9 : decode cX16_data 9 = .ok (.invokevirtual 1614, 3) := by decide +kernel
theorem dX16_data_12 : decode cX16_data 12 = .ok (.aload_n 0, 1) := by decide +kernel
theorem dX16_data_13 : decode cX16_data 13 = .ok (.aload_n 0, 1) := by decide +kernel
theorem dX16_data_14 : decode cX16_data 14 = .ok (.getfield 2195, 3) := by decide +kernel
theorem dX16_data_17 : decode cX16_data 17 = .ok (.aload_n 0, 1) := by decide +kernel
theorem dX16_data_18 : decode cX16_data 18 = .ok (.getfield 2204, 3) := by decide +kernel
theorem dX16_data_21 : decode cX16_data 21 = .ok (.iconst 0, 1) := by decide +kernel
theorem dX16_data_22 : decode cX16_data 22 = .ok (.iload_n 1, 1) := by decide +kernel
theorem dX16_data_23 : decode cX16_data 23 = .ok (.invokevirtual 1601, 3) := by decide +kernel
theorem dX16_data_26 : decode cX16_data 26 = .ok (.istore_n 2, 1) := by decide +kernel
theorem dX16_data_27 : decode cX16_data 27 = .ok (.iload_n 2, 1) := by decide +kernel
theorem dX16_data_28 : decode cX16_data 28 = .ok (.iconst (-1), 1) := by decide +kernel
theorem dX16_data_29 : decode cX16_data 29 = .ok (.if_icmp .ne 10, 3) := by decide +kernel
theorem dX16_data_32 : decode cX16_data 32 = .ok (.iconst (-1), 1) := by decide +kernel
theorem dX16_data_33 : decode cX16_data 33 = .ok (.aload_n 0, 1) := by decide +kernel
theorem dX16_data_34 : decode cX16_data 34 = .ok (.getfield 25, 3) := by decide +kernel
theorem dX16_data_37 : decode cX16_data 37 = .ok (.isub, 1) := by decide +kernel
theorem dX16_data_38 : decode cX16_data 38 = .ok (.ireturn, 1) := by decide +kernel
theorem dX16_patch_0 : decode cX16_patch 0 = .ok (.aload_n 0, 1) := by decide +kernel
theorem dX16_patch_1 : decode cX16_patch 1 = .ok (.invokevirtual 2234, 3) := by decide +kernel
theorem dX16_patch_4 : decode cX16_patch 4 = .ok (.istore_n 1, 1) := by decide +kernel
theorem dX16_patch_5 : decode cX16_patch 5 = .ok (.aload_n 0, 1) := by decide +kernel
theorem dX16_patch_6 : decode cX16_patch 6 = .ok (.getfield 2195, 3) := by decide +kernel
theorem dX16_patch_9 : decode cX16_patch 9 = .ok (.invokevirtual 1614, 3) := by decide +kernel
theorem dX16_patch_12 : decode cX16_patch 12 = .ok (.aload_n 0, 1) := by decide +kernel
theorem dX16_patch_13 : decode cX16_patch 13 = .ok (.aload_n 0, 1) := by decide +kernel
theorem dX16_patch_14 : decode cX16_patch 14 = .ok (.getfield 2195, 3) := by decide +kernel
theorem dX16_patch_17 : decode cX16_patch 17 = .ok (.aload_n 0, 1) := by decide +kernel
theorem dX16_patch_18 : decode cX16_patch 18 = .ok (.getfield 2204, 3) := by decide +kernel
theorem dX16_patch_21 : decode cX16_patch 21 = .ok (.iconst 0, 1) := by decide +kernel
theorem dX16_patch_22 : decode cX16_patch 22 = .ok (.iload_n 1, 1) := by decide +kernel
theorem dX16_patch_23 : decode cX16_patch 23 = .ok (.invokevirtual 1601, 3) := by decide +kernel
theorem dX16_patch_26 : decode cX16_patch 26 = .ok (.istore_n 2, 1) := by decide +kernel
theorem dX16_patch_27 : decode cX16_patch 27 = .ok (.iload_n 2, 1) := by decide +kernel
theorem dX16_patch_28 : decode cX16_patch 28 = .ok (.iconst (-1), 1) := by decide +kernel
theorem dX16_patch_29 : decode cX16_patch 29 = .ok (.if_icmp .ne 10, 3) := by decide +kernel
theorem dX16_patch_32 : decode cX16_patch 32 = .ok (.iconst (-1), 1) := by decide +kernel
theorem dX16_patch_33 : decode cX16_patch 33 = .ok (.aload_n 0, 1) := by decide +kernel
theorem dX16_patch_34 : decode cX16_patch 34 = .ok (.getfield 25, 3) := by decide +kernel
theorem dX16_patch_37 : decode cX16_patch 37 = .ok (.isub, 1) := by decide +kernel
theorem dX16_patch_38 : decode cX16_patch 38 = .ok (.ireturn, 1) := by decide +kernel
theorem dX16_input_0 : decode cX16_input 0 = .ok (.aload_n 0, 1) := by decide +kernel
theorem dX16_input_1 : decode cX16_input 1 = .ok (.invokevirtual 2234, 3) := by decide +kernel
theorem dX16_input_4 : decode cX16_input 4 = .ok (.istore_n 1, 1) := by decide +kernel
theorem dX16_input_5 : decode cX16_input 5 = .ok (.iload_n 1, 1) := by decide +kernel
theorem dX16_input_6 : decode cX16_input 6 = .ok (.ifCond .ne 10, 3) := by decide +kernel
theorem dX16_input_9 : decode cX16_input 9 = .ok (.aload_n 0, 1) := by decide +kernel
theorem dX16_input_10 : decode cX16_input 10 = .ok (.iconst (-1), 1) := by decide +kernel
theorem dX16_input_11 : decode cX16_input 11 = .ok (.putfield 2222, 3) := by decide +kernel
theorem dX16_input_14 : decode cX16_input 14 = .ok (.iconst 0, 1) := by decide +kernel
theorem dX16_input_15 : decode cX16_input 15 = .ok (.ireturn, 1) := by decide +kernel
theorem dX16_prepare_0 : decode cX16_prepare 0 = .ok (.aload_n 0, 1) := by decide +kernel
theorem dX16_prepare_1 : decode cX16_prepare 1 = .ok (.invokevirtual 2234, 3) := by decide +kernel
theorem dX16_prepare_4 : decode cX16_prepare 4 = .ok (.istore_n 1, 1) := by decide +kernel
theorem dX16_prepare_5 : decode cX16_prepare 5 = .ok (.aload_n 0, 1) := by decide +kernel
theorem dX16_prepare_6 : decode cX16_prepare 6 = .ok (.iconst 1, 1) := by decide +kernel
theorem dX16_prepare_7 : decode cX16_prepare 7 = .ok (.invokevirtual 2155, 3) := by decide +kernel
theorem dX16_prepare_10 : decode cX16_prepare 10 = .ok (.aload_n 0, 1) := by decide +kernel
theorem dX16_prepare_11 : decode cX16_prepare 11 = .ok (.aload_n 0, 1) := by decide +kernel
theorem dX16_prepare_12 : decode cX16_prepare 12 = .ok (.getfield 2204, 3) := by decide +kernel
theorem dX16_prepare_15 : decode cX16_prepare 15 = .ok (.iload_n 1, 1) := by decide +kernel
theorem dX16_prepare_16 : decode cX16_prepare 16 = .ok (.invokevirtual 2164, 3) := by decide +kernel
theorem dX16_prepare_19 : decode cX16_prepare 19 = .ok (.aload_n 0, 1) := by decide +kernel
theorem dX16_prepare_20 : decode cX16_prepare 20 = .ok (.invokevirtual 282, 3) := by decide +kernel
theorem dX16_prepare_23 : decode cX16_prepare 23 = .ok (.ifCond .eq 10, 3) := by decide +kernel
theorem dX16_prepare_26 : decode cX16_prepare 26 = .ok (.iconst (-1), 1) := by decide +kernel
theorem dX16_prepare_27 : decode cX16_prepare 27 = .ok (.aload_n 0, 1) := by decide +kernel
theorem dX16_prepare_28 : decode cX16_prepare 28 = .ok (.getfield 267, 3) := by decide +kernel
theorem dX16_prepare_31 : decode cX16_prepare 31 = .ok (.isub, 1) := by decide +kernel
theorem dX16_prepare_32 : decode cX16_prepare 32 = .ok (.ireturn, 1) := by decide +kernel
theorem dX16_isQuery_0 : decode cX16_isQuery 0 = .ok (.iload_n 1, 1) := by decide +kernel
theorem dX16_isQuery_1 : decode cX16_isQuery 1 = .ok (.ifCond .lt 21, 3) := by decide +kernel
theorem dX16_isQuery_4 : decode cX16_isQuery 4 = .ok (.iload_n 1, 1) := by decide +kernel
theorem dX16_isQuery_5 : decode cX16_isQuery 5 = .ok (.iconst 4, 1) := by decide +kernel
theorem dX16_isQuery_6 : decode cX16_isQuery 6 = .ok (.if_icmp .ge 16, 3) := by decide +kernel
theorem dX16_isQuery_9 : decode cX16_isQuery 9 = .ok (.aload_n 0, 1) := by decide +kernel
theorem dX16_isQuery_10 : decode cX16_isQuery 10 = .ok (.getfield 2198, 3) := by decide +kernel
theorem dX16_isQuery_13 : decode cX16_isQuery 13 = .ok (.iload_n 1, 1) := by decide +kernel
theorem dX16_isQuery_14 : decode cX16_isQuery 14 = .ok (.baload, 1) := by decide +kernel
theorem dX16_isQuery_15 : decode cX16_isQuery 15 = .ok (.ifCond .eq 7, 3) := by decide +kernel
theorem dX16_isQuery_22 : decode cX16_isQuery 22 = .ok (.iconst 0, 1) := by decide +kernel
theorem dX16_isQuery_23 : decode cX16_isQuery 23 = .ok (.ireturn, 1) := by decide +kernel
theorem dX16_renew_0 : decode cX16_renew 0 = .ok (.aload_n 0, 1) := by decide +kernel
theorem dX16_renew_1 : decode cX16_renew 1 = .ok (.iconst 0, 1) := by decide +kernel
theorem dX16_renew_2 : decode cX16_renew 2 = .ok (.putfield 2228, 3) := by decide +kernel
theorem dX16_renew_5 : decode cX16_renew 5 = .ok (.aload_n 0, 1) := by decide +kernel
theorem dX16_renew_6 : decode cX16_renew 6 = .ok (.iload_n 1, 1) := by decide +kernel
theorem dX16_renew_7 : decode cX16_renew 7 = .ok (.invokevirtual 2248, 3) := by decide +kernel
theorem dX16_renew_10 : decode cX16_renew 10 = .ok (.ifCond .ne 5, 3) := by decide +kernel
theorem dX16_renew_13 : decode cX16_renew 13 = .ok (.iconst (-1), 1) := by decide +kernel
theorem dX16_renew_14 : decode cX16_renew 14 = .ok (.ireturn, 1) := by decide +kernel
theorem dX16_release_0 : decode cX16_release 0 = .ok (.aload_n 0, 1) := by decide +kernel
theorem dX16_release_1 : decode cX16_release 1 = .ok (.iconst 0, 1) := by decide +kernel
theorem dX16_release_2 : decode cX16_release 2 = .ok (.putfield 2228, 3) := by decide +kernel
theorem dX16_release_5 : decode cX16_release 5 = .ok (.aload_n 0, 1) := by decide +kernel
theorem dX16_release_6 : decode cX16_release 6 = .ok (.iload_n 1, 1) := by decide +kernel
theorem dX16_release_7 : decode cX16_release 7 = .ok (.invokevirtual 2248, 3) := by decide +kernel
theorem dX16_release_10 : decode cX16_release 10 = .ok (.ifCond .ne 5, 3) := by decide +kernel
theorem dX16_release_13 : decode cX16_release 13 = .ok (.iconst 0, 1) := by decide +kernel
theorem dX16_release_14 : decode cX16_release 14 = .ok (.ireturn, 1) := by decide +kernel
theorem dX16_run_0 : decode cX16_run 0 = .ok (.aload_n 0, 1) := by decide +kernel
theorem dX16_run_1 : decode cX16_run 1 = .ok (.iconst 0, 1) := by decide +kernel
theorem dX16_run_2 : decode cX16_run 2 = .ok (.putfield 2228, 3) := by decide +kernel
theorem dX16_run_5 : decode cX16_run 5 = .ok (.aload_n 0, 1) := by decide +kernel
theorem dX16_run_6 : decode cX16_run 6 = .ok (.iload_n 1, 1) := by decide +kernel
theorem dX16_run_7 : decode cX16_run 7 = .ok (.invokevirtual 2248, 3) := by decide +kernel
theorem dX16_run_10 : decode cX16_run 10 = .ok (.ifCond .ne 5, 3) := by decide +kernel
theorem dX16_run_13 : decode cX16_run 13 = .ok (.iconst (-1), 1) := by decide +kernel
theorem dX16_run_14 : decode cX16_run 14 = .ok (.ireturn, 1) := by decide +kernel
theorem dX16_about_0 : decode cX16_about 0 = .ok (.aload_n 0, 1) := by decide +kernel
theorem dX16_about_1 : decode cX16_about 1 = .ok (.iconst 0, 1) := by decide +kernel
theorem dX16_about_2 : decode cX16_about 2 = .ok (.putfield 2228, 3) := by decide +kernel
theorem dX16_about_5 : decode cX16_about 5 = .ok (.aload_n 0, 1) := by decide +kernel
theorem dX16_about_6 : decode cX16_about 6 = .ok (.getfield 2263, 3) := by decide +kernel
theorem dX16_about_9 : decode cX16_about 9 = .ok (.ifCond .ne 5, 3) := by decide +kernel
theorem dX16_about_12 : decode cX16_about 12 = .ok (.iconst (-1), 1) := by decide +kernel
theorem dX16_about_13 : decode cX16_about 13 = .ok (.ireturn, 1) := by decide +kernel
theorem dX16_covered_0 : decode cX16_covered 0 = .ok (.aload_n 0, 1) := by decide +kernel
theorem dX16_covered_1 : decode cX16_covered 1 = .ok (.iconst 0, 1) := by decide +kernel
theorem dX16_covered_2 : decode cX16_covered 2 = .ok (.putfield 2228, 3) := by decide +kernel
theorem dX16_covered_5 : decode cX16_covered 5 = .ok (.aload_n 0, 1) := by decide +kernel
theorem dX16_covered_6 : decode cX16_covered 6 = .ok (.getfield 2263, 3) := by decide +kernel
theorem dX16_covered_9 : decode cX16_covered 9 = .ok (.ifCond .eq 24, 3) := by decide +kernel
theorem dX16_covered_33 : decode cX16_covered 33 = .ok (.iconst (-1), 1) := by decide +kernel
theorem dX16_covered_34 : decode cX16_covered 34 = .ok (.ireturn, 1) := by decide +kernel
theorem dX16_result_0 : decode cX16_result 0 = .ok (.aload_n 0, 1) := by decide +kernel
theorem dX16_result_1 : decode cX16_result 1 = .ok (.iconst 0, 1) := by decide +kernel
theorem dX16_result_2 : decode cX16_result 2 = .ok (.putfield 2228, 3) := by decide +kernel
theorem dX16_result_5 : decode cX16_result 5 = .ok (.aload_n 0, 1) := by decide +kernel
theorem dX16_result_6 : decode cX16_result 6 = .ok (.getfield 2263, 3) := by decide +kernel
theorem dX16_result_9 : decode cX16_result 9 = .ok (.ifCond .eq 24, 3) := by decide +kernel
theorem dX16_result_33 : decode cX16_result 33 = .ok (.iconst (-1), 1) := by decide +kernel
theorem dX16_result_34 : decode cX16_result 34 = .ok (.ireturn, 1) := by decide +kernel
theorem dX16_document_0 : decode cX16_document 0 = .ok (.aload_n 0, 1) := by decide +kernel
theorem dX16_document_1 : decode cX16_document 1 = .ok (.iconst 0, 1) := by decide +kernel
theorem dX16_document_2 : decode cX16_document 2 = .ok (.putfield 2228, 3) := by decide +kernel
theorem dX16_document_5 : decode cX16_document 5 = .ok (.aload_n 0, 1) := by decide +kernel
theorem dX16_document_6 : decode cX16_document 6 = .ok (.getfield 2263, 3) := by decide +kernel
theorem dX16_document_9 : decode cX16_document 9 = .ok (.ifCond .eq 42, 3) := by decide +kernel
theorem dX16_document_51 : decode cX16_document 51 = .ok (.iconst (-1), 1) := by decide +kernel
theorem dX16_document_52 : decode cX16_document 52 = .ok (.ireturn, 1) := by decide +kernel
theorem dX16_output_0 : decode cX16_output 0 = .ok (.aload_n 0, 1) := by decide +kernel
theorem dX16_output_1 : decode cX16_output 1 = .ok (.iconst 0, 1) := by decide +kernel
theorem dX16_output_2 : decode cX16_output 2 = .ok (.putfield 2228, 3) := by decide +kernel
theorem dX16_output_5 : decode cX16_output 5 = .ok (.iload_n 1, 1) := by decide +kernel
theorem dX16_output_6 : decode cX16_output 6 = .ok (.ifCond .lt 24, 3) := by decide +kernel
theorem dX16_output_9 : decode cX16_output 9 = .ok (.iload_n 1, 1) := by decide +kernel
theorem dX16_output_10 : decode cX16_output 10 = .ok (.aload_n 0, 1) := by decide +kernel
theorem dX16_output_11 : decode cX16_output 11 = .ok (.getfield 2278, 3) := by decide +kernel
theorem dX16_output_14 : decode cX16_output 14 = .ok (.if_icmp .ge 16, 3) := by decide +kernel
theorem dX16_output_30 : decode cX16_output 30 = .ok (.iconst (-1), 1) := by decide +kernel
theorem dX16_output_31 : decode cX16_output 31 = .ok (.ireturn, 1) := by decide +kernel
theorem dX16_rule_0 : decode cX16_rule 0 = .ok (.aload_n 0, 1) := by decide +kernel
theorem dX16_rule_1 : decode cX16_rule 1 = .ok (.iconst 0, 1) := by decide +kernel
theorem dX16_rule_2 : decode cX16_rule 2 = .ok (.putfield 2228, 3) := by decide +kernel
theorem dX16_rule_5 : decode cX16_rule 5 = .ok (.aload_n 0, 1) := by decide +kernel
theorem dX16_rule_6 : decode cX16_rule 6 = .ok (.iconst 1, 1) := by decide +kernel
theorem dX16_rule_7 : decode cX16_rule 7 = .ok (.invokevirtual 2155, 3) := by decide +kernel
theorem dX16_rule_10 : decode cX16_rule 10 = .ok (.iload_n 1, 1) := by decide +kernel
theorem dX16_rule_11 : decode cX16_rule 11 = .ok (.ifCond .lt 11, 3) := by decide +kernel
theorem dX16_rule_14 : decode cX16_rule 14 = .ok (.iload_n 1, 1) := by decide +kernel
theorem dX16_rule_15 : decode cX16_rule 15 = .ok (.aload_n 0, 1) := by decide +kernel
theorem dX16_rule_16 : decode cX16_rule 16 = .ok (.getfield 623, 3) := by decide +kernel
theorem dX16_rule_19 : decode cX16_rule 19 = .ok (.if_icmp .lt 10, 3) := by decide +kernel
theorem dX16_rule_22 : decode cX16_rule 22 = .ok (.aload_n 0, 1) := by decide +kernel
theorem dX16_rule_23 : decode cX16_rule 23 = .ok (.iconst 1, 1) := by decide +kernel
theorem dX16_rule_24 : decode cX16_rule 24 = .ok (.putfield 2228, 3) := by decide +kernel
theorem dX16_rule_27 : decode cX16_rule 27 = .ok (.iconst 0, 1) := by decide +kernel
theorem dX16_rule_28 : decode cX16_rule 28 = .ok (.ireturn, 1) := by decide +kernel
theorem dX16_order_0 : decode cX16_order 0 = .ok (.aload_n 0, 1) := by decide +kernel
theorem dX16_order_1 : decode cX16_order 1 = .ok (.iconst 0, 1) := by decide +kernel
theorem dX16_order_2 : decode cX16_order 2 = .ok (.putfield 2228, 3) := by decide +kernel
theorem dX16_order_5 : decode cX16_order 5 = .ok (.aload_n 0, 1) := by decide +kernel
theorem dX16_order_6 : decode cX16_order 6 = .ok (.iload_n 1, 1) := by decide +kernel
theorem dX16_order_7 : decode cX16_order 7 = .ok (.invokevirtual 2248, 3) := by decide +kernel
theorem dX16_order_10 : decode cX16_order 10 = .ok (.ifCond .ne 5, 3) := by decide +kernel
theorem dX16_order_13 : decode cX16_order 13 = .ok (.iconst (-1), 1) := by decide +kernel
theorem dX16_order_14 : decode cX16_order 14 = .ok (.ireturn, 1) := by decide +kernel
theorem dX16_count_0 : decode cX16_count 0 = .ok (.aload_n 0, 1) := by decide +kernel
theorem dX16_count_1 : decode cX16_count 1 = .ok (.iconst 0, 1) := by decide +kernel
theorem dX16_count_2 : decode cX16_count 2 = .ok (.putfield 2228, 3) := by decide +kernel
theorem dX16_count_5 : decode cX16_count 5 = .ok (.iload_n 1, 1) := by decide +kernel
theorem dX16_count_6 : decode cX16_count 6 = .ok (.tableswitch 139 0 6 #[42, 49, 59, 93, 105, 129, 134], 42) := by decide +kernel
theorem dX16_count_48 : decode cX16_count 48 = .ok (.aload_n 0, 1) := by decide +kernel
theorem dX16_count_49 : decode cX16_count 49 = .ok (.getfield 2076, 3) := by decide +kernel
theorem dX16_count_52 : decode cX16_count 52 = .ok (.iconst 0, 1) := by decide +kernel
theorem dX16_count_53 : decode cX16_count 53 = .ok (.iaload, 1) := by decide +kernel
theorem dX16_count_54 : decode cX16_count 54 = .ok (.ireturn, 1) := by decide +kernel
theorem dX16_count_55 : decode cX16_count 55 = .ok (.aload_n 0, 1) := by decide +kernel
theorem dX16_count_56 : decode cX16_count 56 = .ok (.iconst 1, 1) := by decide +kernel
theorem dX16_count_57 : decode cX16_count 57 = .ok (.invokevirtual 2155, 3) := by decide +kernel
theorem dX16_count_60 : decode cX16_count 60 = .ok (.aload_n 0, 1) := by decide +kernel
theorem dX16_count_61 : decode cX16_count 61 = .ok (.getfield 623, 3) := by decide +kernel
theorem dX16_count_64 : decode cX16_count 64 = .ok (.ireturn, 1) := by decide +kernel
theorem dX16_count_65 : decode cX16_count 65 = .ok (.iconst 0, 1) := by decide +kernel
theorem dX16_count_66 : decode cX16_count 66 = .ok (.istore_n 2, 1) := by decide +kernel
theorem dX16_count_67 : decode cX16_count 67 = .ok (.iconst 0, 1) := by decide +kernel
theorem dX16_count_68 : decode cX16_count 68 = .ok (.istore_n 3, 1) := by decide +kernel
theorem dX16_count_69 : decode cX16_count 69 = .ok (.iload_n 3, 1) := by decide +kernel
theorem dX16_count_70 : decode cX16_count 70 = .ok (.iconst 4, 1) := by decide +kernel
theorem dX16_count_71 : decode cX16_count 71 = .ok (.if_icmp .ge 26, 3) := by decide +kernel
theorem dX16_count_74 : decode cX16_count 74 = .ok (.iload_n 2, 1) := by decide +kernel
theorem dX16_count_75 : decode cX16_count 75 = .ok (.aload_n 0, 1) := by decide +kernel
theorem dX16_count_76 : decode cX16_count 76 = .ok (.getfield 2198, 3) := by decide +kernel
theorem dX16_count_79 : decode cX16_count 79 = .ok (.iload_n 3, 1) := by decide +kernel
theorem dX16_count_80 : decode cX16_count 80 = .ok (.baload, 1) := by decide +kernel
theorem dX16_count_81 : decode cX16_count 81 = .ok (.ifCond .eq 7, 3) := by decide +kernel
theorem dX16_count_88 : decode cX16_count 88 = .ok (.iconst 0, 1) := by decide +kernel
theorem dX16_count_89 : decode cX16_count 89 = .ok (.iadd, 1) := by decide +kernel
theorem dX16_count_90 : decode cX16_count 90 = .ok (.istore_n 2, 1) := by decide +kernel
theorem dX16_count_91 : decode cX16_count 91 = .ok (.iinc 3 1, 3) := by decide +kernel
theorem dX16_count_94 : decode cX16_count 94 = .ok (.goto (-25), 3) := by decide +kernel
theorem dX16_count_97 : decode cX16_count 97 = .ok (.iload_n 2, 1) := by decide +kernel
theorem dX16_count_98 : decode cX16_count 98 = .ok (.ireturn, 1) := by decide +kernel
theorem dX16_count_99 : decode cX16_count 99 = .ok (.aload_n 0, 1) := by decide +kernel
theorem dX16_count_100 : decode cX16_count 100 = .ok (.getfield 2207, 3) := by decide +kernel
theorem dX16_count_103 : decode cX16_count 103 = .ok (.aload_n 0, 1) := by decide +kernel
theorem dX16_count_104 : decode cX16_count 104 = .ok (.getfield 2225, 3) := by decide +kernel
theorem dX16_count_107 : decode cX16_count 107 = .ok (.invokevirtual 991, 3) := by decide +kernel
theorem dX16_count_110 : decode cX16_count 110 = .ok (.ireturn, 1) := by decide +kernel
theorem dX16_count_111 : decode cX16_count 111 = .ok (.aload_n 0, 1) := by decide +kernel
theorem dX16_count_112 : decode cX16_count 112 = .ok (.getfield 2222, 3) := by decide +kernel
theorem dX16_count_115 : decode cX16_count 115 = .ok (.iconst (-1), 1) := by decide +kernel
theorem dX16_count_116 : decode cX16_count 116 = .ok (.if_icmp .ne 7, 3) := by decide +kernel
theorem dX16_count_119 : decode cX16_count 119 = .ok (.iconst 0, 1) := by decide +kernel
theorem dX16_count_120 : decode cX16_count 120 = .ok (.goto 14, 3) := by decide +kernel
theorem dX16_count_134 : decode cX16_count 134 = .ok (.ireturn, 1) := by decide +kernel
theorem dX16_count_135 : decode cX16_count 135 = .ok (.aload_n 0, 1) := by decide +kernel
theorem dX16_count_136 : decode cX16_count 136 = .ok (.getfield 2231, 3) := by decide +kernel
theorem dX16_count_139 : decode cX16_count 139 = .ok (.ireturn, 1) := by decide +kernel
theorem dX16_count_140 : decode cX16_count 140 = .ok (.aload_n 0, 1) := by decide +kernel
theorem dX16_count_141 : decode cX16_count 141 = .ok (.getfield 2278, 3) := by decide +kernel
theorem dX16_count_144 : decode cX16_count 144 = .ok (.ireturn, 1) := by decide +kernel
theorem dX16_count_145 : decode cX16_count 145 = .ok (.iconst (-1), 1) := by decide +kernel
theorem dX16_count_146 : decode cX16_count 146 = .ok (.ireturn, 1) := by decide +kernel
