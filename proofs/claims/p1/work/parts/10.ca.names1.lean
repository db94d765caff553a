theorem dX8_readModule_143 : decode cX8_readModule 143 = .ok (.bipush 100, 2) := by decide +kernel
theorem dX8_readModule_145 : decode cX8_readModule 145 = .ok (.if_icmp .gt 69, 3) := by decide +kernel
theorem dX8_readModule_148 : decode cX8_readModule 148 = .ok (.aload_n 0, 1) := by decide +kernel
theorem dX8_readModule_149 : decode cX8_readModule 149 = .ok (.getfield 35, 3) := by decide +kernel
theorem dX8_readModule_152 : decode cX8_readModule 152 = .ok (.ifCond .ge 62, 3) := by decide +kernel
theorem dX8_readModule_214 : decode cX8_readModule 214 = .ok (.aload_n 0, 1) := by decide +kernel
theorem dX8_readModule_215 : decode cX8_readModule 215 = .ok (.getfield 35, 3) := by decide +kernel
theorem dX8_readModule_218 : decode cX8_readModule 218 = .ok (.ifCond .ge 10, 3) := by decide +kernel
theorem dX8_readModule_228 : decode cX8_readModule 228 = .ok (.aconst_null, 1) := by decide +kernel
theorem dX8_readModule_229 : decode cX8_readModule 229 = .ok (.areturn, 1) := by decide +kernel
theorem dX8_readQuery_0 : decode cX8_readQuery 0 = .ok (.aload_n 0, 1) := by decide +kernel
theorem dX8_readQuery_1 : decode cX8_readQuery 1 = .ok (.aload_n 1, 1) := by decide +kernel
theorem dX8_readQuery_2 : decode cX8_readQuery 2 = .ok (.iload_n 2, 1) := by decide +kernel
theorem dX8_readQuery_3 : decode cX8_readQuery 3 = .ok (.invokevirtual 181, 3) := by decide +kernel
theorem dX8_readQuery_6 : decode cX8_readQuery 6 = .ok (.aload_n 0, 1) := by decide +kernel
theorem dX8_readQuery_7 : decode cX8_readQuery 7 = .ok (.new 158, 3) := by decide +kernel
theorem dX8_readQuery_10 : decode cX8_readQuery 10 = .ok (.dup, 1) := by decide +kernel
theorem dX8_readQuery_11 : decode cX8_readQuery 11 = .ok (.iconst 2, 1) := by decide +kernel
theorem dX8_readQuery_12 : decode cX8_readQuery 12 = .ok (.iload_n 2, 1) := by decide +kernel
theorem dX8_readQuery_13 : decode cX8_readQuery 13 = .ok (.imul, 1) := by decide +kernel
theorem dX8_readQuery_14 : decode cX8_readQuery 14 = .ok (.bipush 32, 2) := by decide +kernel
theorem dX8_readQuery_16 : decode cX8_readQuery 16 = .ok (.iadd, 1) := by decide +kernel
theorem dX8_readQuery_17 : decode cX8_readQuery 17 = .ok (.invokespecial 185, 3) := by decide +kernel
theorem dX8_readQuery_20 : decode cX8_readQuery 20 = .ok (.putfield 44, 3) := by decide +kernel
theorem dX8_readQuery_23 : decode cX8_readQuery 23 = .ok (.aload_n 0, 1) := by decide +kernel
theorem dX8_readQuery_24 : decode cX8_readQuery 24 = .ok (.getfield 44, 3) := by decide +kernel
theorem dX8_readQuery_27 : decode cX8_readQuery 27 = .ok (.aload_n 0, 1) := by decide +kernel
theorem dX8_readQuery_28 : decode cX8_readQuery 28 = .ok (.bipush 16, 2) := by decide +kernel
theorem dX8_readQuery_30 : decode cX8_readQuery 30 = .ok (.invokevirtual 162, 3) := by decide +kernel
theorem dX8_readQuery_33 : decode cX8_readQuery 33 = .ok (.putfield 193, 3) := by decide +kernel
theorem dX8_readQuery_36 : decode cX8_readQuery 36 = .ok (.aload_n 0, 1) := by decide +kernel
theorem dX8_readQuery_37 : decode cX8_readQuery 37 = .ok (.aload_n 0, 1) := by decide +kernel
theorem dX8_readQuery_38 : decode cX8_readQuery 38 = .ok (.getfield 44, 3) := by decide +kernel
theorem dX8_readQuery_41 : decode cX8_readQuery 41 = .ok (.getfield 193, 3) := by decide +kernel
theorem dX8_readQuery_44 : decode cX8_readQuery 44 = .ok (.iconst 0, 1) := by decide +kernel
theorem dX8_readQuery_45 : decode cX8_readQuery 45 = .ok (.invokevirtual 211, 3) := by decide +kernel
theorem dX8_readQuery_48 : decode cX8_readQuery 48 = .ok (.aload_n 0, 1) := by decide +kernel
theorem dX8_readQuery_49 : decode cX8_readQuery 49 = .ok (.getfield 35, 3) := by decide +kernel
theorem dX8_readQuery_52 : decode cX8_readQuery 52 = .ok (.ifCond .ge 15, 3) := by decide +kernel
theorem dX8_readQuery_67 : decode cX8_readQuery 67 = .ok (.aload_n 0, 1) := by decide +kernel
theorem dX8_readQuery_68 : decode cX8_readQuery 68 = .ok (.getfield 35, 3) := by decide +kernel
theorem dX8_readQuery_71 : decode cX8_readQuery 71 = .ok (.ifCond .ge 10, 3) := by decide +kernel
theorem dX8_readQuery_81 : decode cX8_readQuery 81 = .ok (.aconst_null, 1) := by decide +kernel
theorem dX8_readQuery_82 : decode cX8_readQuery 82 = .ok (.areturn, 1) := by decide +kernel
theorem dX8_readLiterals_0 : decode cX8_readLiterals 0 = .ok (.iconst 0, 1) := by decide +kernel
theorem dX8_readLiterals_1 : decode cX8_readLiterals 1 = .ok (.istore_n 3, 1) := by decide +kernel
theorem dX8_readLiterals_2 : decode cX8_readLiterals 2 = .ok (.aload_n 0, 1) := by decide +kernel
theorem dX8_readLiterals_3 : decode cX8_readLiterals 3 = .ok (.getfield 35, 3) := by decide +kernel
theorem dX8_readLiterals_6 : decode cX8_readLiterals 6 = .ok (.ifCond .ge 67, 3) := by decide +kernel
theorem dX8_readLiterals_9 : decode cX8_readLiterals 9 = .ok (.iload_n 3, 1) := by decide +kernel
theorem dX8_readLiterals_10 : decode cX8_readLiterals 10 = .ok (.sipush 6002, 3) := by decide +kernel
theorem dX8_readLiterals_13 : decode cX8_readLiterals 13 = .ok (.if_icmp .ge 60, 3) := by decide +kernel
theorem dX8_readLiterals_16 : decode cX8_readLiterals 16 = .ok (.aload_n 0, 1) := by decide +kernel
theorem dX8_readLiterals_17 : decode cX8_readLiterals 17 = .ok (.getfield 44, 3) := by decide +kernel
theorem dX8_readLiterals_20 : decode cX8_readLiterals 20 = .ok (.iload_n 1, 1) := by decide +kernel
theorem dX8_readLiterals_21 : decode cX8_readLiterals 21 = .ok (.aload_n 0, 1) := by decide +kernel
theorem dX8_readLiterals_22 : decode cX8_readLiterals 22 = .ok (.invokevirtual 259, 3) := by decide +kernel
theorem dX8_readLiterals_25 : decode cX8_readLiterals 25 = .ok (.invokevirtual 172, 3) := by decide +kernel
theorem dX8_readLiterals_28 : decode cX8_readLiterals 28 = .ok (.aload_n 0, 1) := by decide +kernel
theorem dX8_readLiterals_29 : decode cX8_readLiterals 29 = .ok (.bipush 42, 2) := by decide +kernel
theorem dX8_readLiterals_31 : decode cX8_readLiterals 31 = .ok (.invokevirtual 229, 3) := by decide +kernel
theorem dX8_readLiterals_34 : decode cX8_readLiterals 34 = .ok (.istore 4, 2) := by decide +kernel
theorem dX8_readLiterals_36 : decode cX8_readLiterals 36 = .ok (.aload_n 0, 1) := by decide +kernel
theorem dX8_readLiterals_37 : decode cX8_readLiterals 37 = .ok (.iload_n 2, 1) := by decide +kernel
theorem dX8_readLiterals_38 : decode cX8_readLiterals 38 = .ok (.invokevirtual 137, 3) := by decide +kernel
theorem dX8_readLiterals_41 : decode cX8_readLiterals 41 = .ok (.ifCond .eq 4, 3) := by decide +kernel
theorem dX8_readLiterals_45 : decode cX8_readLiterals 45 = .ok (.iload 4, 2) := by decide +kernel
theorem dX8_readLiterals_47 : decode cX8_readLiterals 47 = .ok (.ifCond .ne 20, 3) := by decide +kernel
theorem dX8_readLiterals_50 : decode cX8_readLiterals 50 = .ok (.aload_n 0, 1) := by decide +kernel
theorem dX8_readLiterals_51 : decode cX8_readLiterals 51 = .ok (.getfield 16, 3) := by decide +kernel
theorem dX8_readLiterals_54 : decode cX8_readLiterals 54 = .ok (.aload_n 0, 1) := by decide +kernel
theorem dX8_readLiterals_55 : decode cX8_readLiterals 55 = .ok (.getfield 29, 3) := by decide +kernel
theorem dX8_readLiterals_58 : decode cX8_readLiterals 58 = .ok (.iaload, 1) := by decide +kernel
theorem dX8_readLiterals_59 : decode cX8_readLiterals 59 = .ok (.iconst 2, 1) := by decide +kernel
theorem dX8_readLiterals_60 : decode cX8_readLiterals 60 = .ok (.if_icmp .ge 7, 3) := by decide +kernel
theorem dX8_readLiterals_63 : decode cX8_readLiterals 63 = .ok (.aload_n 0, 1) := by decide +kernel
theorem dX8_readLiterals_64 : decode cX8_readLiterals 64 = .ok (.invokevirtual 143, 3) := by decide +kernel
theorem dX8_readLiterals_67 : decode cX8_readLiterals 67 = .ok (.iinc 3 1, 3) := by decide +kernel
theorem dX8_readLiterals_70 : decode cX8_readLiterals 70 = .ok (.goto (-68), 3) := by decide +kernel
theorem dX8_readLiterals_73 : decode cX8_readLiterals 73 = .ok (.return_, 1) := by decide +kernel
theorem dX8_readLiteral_0 : decode cX8_readLiteral 0 = .ok (.aload_n 0, 1) := by decide +kernel
theorem dX8_readLiteral_1 : decode cX8_readLiteral 1 = .ok (.bipush 12, 2) := by decide +kernel
theorem dX8_readLiteral_3 : decode cX8_readLiteral 3 = .ok (.invokevirtual 137, 3) := by decide +kernel
theorem dX8_readLiteral_6 : decode cX8_readLiteral 6 = .ok (.ifCond .eq 11, 3) := by decide +kernel
theorem dX8_readLiteral_17 : decode cX8_readLiteral 17 = .ok (.aload_n 0, 1) := by decide +kernel
theorem dX8_readLiteral_18 : decode cX8_readLiteral 18 = .ok (.bipush 14, 2) := by decide +kernel
theorem dX8_readLiteral_20 : decode cX8_readLiteral 20 = .ok (.invokevirtual 137, 3) := by decide +kernel
theorem dX8_readLiteral_23 : decode cX8_readLiteral 23 = .ok (.ifCond .eq 11, 3) := by decide +kernel
theorem dX8_readLiteral_34 : decode cX8_readLiteral 34 = .ok (.aload_n 0, 1) := by decide +kernel
theorem dX8_readLiteral_35 : decode cX8_readLiteral 35 = .ok (.bipush 15, 2) := by decide +kernel
theorem dX8_readLiteral_37 : decode cX8_readLiteral 37 = .ok (.invokevirtual 137, 3) := by decide +kernel
theorem dX8_readLiteral_40 : decode cX8_readLiteral 40 = .ok (.ifCond .eq 30, 3) := by decide +kernel
theorem dX8_readLiteral_70 : decode cX8_readLiteral 70 = .ok (.aload_n 0, 1) := by decide +kernel
theorem dX8_readLiteral_71 : decode cX8_readLiteral 71 = .ok (.bipush 24, 2) := by decide +kernel
theorem dX8_readLiteral_73 : decode cX8_readLiteral 73 = .ok (.invokevirtual 162, 3) := by decide +kernel
theorem dX8_readLiteral_76 : decode cX8_readLiteral 76 = .ok (.istore_n 1, 1) := by decide +kernel
theorem dX8_readLiteral_77 : decode cX8_readLiteral 77 = .ok (.aload_n 0, 1) := by decide +kernel
theorem dX8_readLiteral_78 : decode cX8_readLiteral 78 = .ok (.iconst 0, 1) := by decide +kernel
theorem dX8_readLiteral_79 : decode cX8_readLiteral 79 = .ok (.invokevirtual 268, 3) := by decide +kernel
theorem dX8_readLiteral_82 : decode cX8_readLiteral 82 = .ok (.istore_n 2, 1) := by decide +kernel
theorem dX8_readLiteral_83 : decode cX8_readLiteral 83 = .ok (.aload_n 0, 1) := by decide +kernel
theorem dX8_readLiteral_84 : decode cX8_readLiteral 84 = .ok (.getfield 44, 3) := by decide +kernel
theorem dX8_readLiteral_87 : decode cX8_readLiteral 87 = .ok (.iload_n 1, 1) := by decide +kernel
theorem dX8_readLiteral_88 : decode cX8_readLiteral 88 = .ok (.iload_n 2, 1) := by decide +kernel
theorem dX8_readLiteral_89 : decode cX8_readLiteral 89 = .ok (.invokevirtual 172, 3) := by decide +kernel
theorem dX8_readLiteral_92 : decode cX8_readLiteral 92 = .ok (.aload_n 0, 1) := by decide +kernel
theorem dX8_readLiteral_93 : decode cX8_readLiteral 93 = .ok (.bipush 20, 2) := by decide +kernel
theorem dX8_readLiteral_95 : decode cX8_readLiteral 95 = .ok (.invokevirtual 137, 3) := by decide +kernel
theorem dX8_readLiteral_98 : decode cX8_readLiteral 98 = .ok (.istore_n 3, 1) := by decide +kernel
theorem dX8_readLiteral_99 : decode cX8_readLiteral 99 = .ok (.iload_n 3, 1) := by decide +kernel
theorem dX8_readLiteral_100 : decode cX8_readLiteral 100 = .ok (.ifCond .eq 21, 3) := by decide +kernel
theorem dX8_readLiteral_121 : decode cX8_readLiteral 121 = .ok (.iload_n 3, 1) := by decide +kernel
theorem dX8_readLiteral_122 : decode cX8_readLiteral 122 = .ok (.ifCond .ne 12, 3) := by decide +kernel
theorem dX8_readLiteral_125 : decode cX8_readLiteral 125 = .ok (.aload_n 0, 1) := by decide +kernel
theorem dX8_readLiteral_126 : decode cX8_readLiteral 126 = .ok (.bipush 25, 2) := by decide +kernel
theorem dX8_readLiteral_128 : decode cX8_readLiteral 128 = .ok (.invokevirtual 137, 3) := by decide +kernel
theorem dX8_readLiteral_131 : decode cX8_readLiteral 131 = .ok (.ifCond .eq 40, 3) := by decide +kernel
theorem dX8_readLiteral_171 : decode cX8_readLiteral 171 = .ok (.aload_n 0, 1) := by decide +kernel
theorem dX8_readLiteral_172 : decode cX8_readLiteral 172 = .ok (.getfield 44, 3) := by decide +kernel
theorem dX8_readLiteral_175 : decode cX8_readLiteral 175 = .ok (.getfield 271, 3) := by decide +kernel
theorem dX8_readLiteral_178 : decode cX8_readLiteral 178 = .ok (.iload_n 1, 1) := by decide +kernel
theorem dX8_readLiteral_179 : decode cX8_readLiteral 179 = .ok (.iaload, 1) := by decide +kernel
theorem dX8_readLiteral_180 : decode cX8_readLiteral 180 = .ok (.bipush 20, 2) := by decide +kernel
theorem dX8_readLiteral_182 : decode cX8_readLiteral 182 = .ok (.if_icmp .eq 8, 3) := by decide +kernel
theorem dX8_readLiteral_185 : decode cX8_readLiteral 185 = .ok (.aload_n 0, 1) := by decide +kernel
theorem dX8_readLiteral_186 : decode cX8_readLiteral 186 = .ok (.iload_n 1, 1) := by decide +kernel
theorem dX8_readLiteral_187 : decode cX8_readLiteral 187 = .ok (.invokevirtual 274, 3) := by decide +kernel
theorem dX8_readLiteral_190 : decode cX8_readLiteral 190 = .ok (.iload_n 1, 1) := by decide +kernel
theorem dX8_readLiteral_191 : decode cX8_readLiteral 191 = .ok (.ireturn, 1) := by decide +kernel
theorem dX8_readWiths_0 : decode cX8_readWiths 0 = .ok (.iconst 0, 1) := by decide +kernel
theorem dX8_readWiths_1 : decode cX8_readWiths 1 = .ok (.istore_n 2, 1) := by decide +kernel
theorem dX8_readWiths_2 : decode cX8_readWiths 2 = .ok (.iconst 0, 1) := by decide +kernel
theorem dX8_readWiths_3 : decode cX8_readWiths 3 = .ok (.istore_n 3, 1) := by decide +kernel
theorem dX8_readWiths_4 : decode cX8_readWiths 4 = .ok (.iload_n 3, 1) := by decide +kernel
theorem dX8_readWiths_5 : decode cX8_readWiths 5 = .ok (.iconst 4, 1) := by decide +kernel
theorem dX8_readWiths_6 : decode cX8_readWiths 6 = .ok (.if_icmp .gt 238, 3) := by decide +kernel
theorem dX8_readWiths_9 : decode cX8_readWiths 9 = .ok (.aload_n 0, 1) := by decide +kernel
theorem dX8_readWiths_10 : decode cX8_readWiths 10 = .ok (.bipush 16, 2) := by decide +kernel
theorem dX8_readWiths_12 : decode cX8_readWiths 12 = .ok (.invokevirtual 137, 3) := by decide +kernel
theorem dX8_readWiths_15 : decode cX8_readWiths 15 = .ok (.ifCond .eq 229, 3) := by decide +kernel
theorem dX8_readWiths_244 : decode cX8_readWiths 244 = .ok (.return_, 1) := by decide +kernel
theorem dX8_readExpression_0 : decode cX8_readExpression 0 = .ok (.aload_n 0, 1) := by decide +kernel
theorem dX8_readExpression_1 : decode cX8_readExpression 1 = .ok (.bipush 14, 2) := by decide +kernel
theorem dX8_readExpression_3 : decode cX8_readExpression 3 = .ok (.invokevirtual 162, 3) := by decide +kernel
theorem dX8_readExpression_6 : decode cX8_readExpression 6 = .ok (.istore_n 2, 1) := by decide +kernel
theorem dX8_readExpression_7 : decode cX8_readExpression 7 = .ok (.aload_n 0, 1) := by decide +kernel
theorem dX8_readExpression_8 : decode cX8_readExpression 8 = .ok (.iload_n 2, 1) := by decide +kernel
theorem dX8_readExpression_9 : decode cX8_readExpression 9 = .ok (.iload_n 1, 1) := by decide +kernel
theorem dX8_readExpression_10 : decode cX8_readExpression 10 = .ok (.invokevirtual 283, 3) := by decide +kernel
theorem dX8_readExpression_13 : decode cX8_readExpression 13 = .ok (.aload_n 0, 1) := by decide +kernel
theorem dX8_readExpression_14 : decode cX8_readExpression 14 = .ok (.getfield 44, 3) := by decide +kernel
theorem dX8_readExpression_17 : decode cX8_readExpression 17 = .ok (.getfield 199, 3) := by decide +kernel
theorem dX8_readExpression_20 : decode cX8_readExpression 20 = .ok (.iload_n 2, 1) := by decide +kernel
theorem dX8_readExpression_21 : decode cX8_readExpression 21 = .ok (.iaload, 1) := by decide +kernel
theorem dX8_readExpression_22 : decode cX8_readExpression 22 = .ok (.istore_n 3, 1) := by decide +kernel
theorem dX8_readExpression_23 : decode cX8_readExpression 23 = .ok (.aload_n 0, 1) := by decide +kernel
theorem dX8_readExpression_24 : decode cX8_readExpression 24 = .ok (.getfield 44, 3) := by decide +kernel
theorem dX8_readExpression_27 : decode cX8_readExpression 27 = .ok (.getfield 277, 3) := by decide +kernel
theorem dX8_readExpression_30 : decode cX8_readExpression 30 = .ok (.iload_n 3, 1) := by decide +kernel
theorem dX8_readExpression_31 : decode cX8_readExpression 31 = .ok (.iaload, 1) := by decide +kernel
theorem dX8_readExpression_32 : decode cX8_readExpression 32 = .ok (.ifCond .ne 7, 3) := by decide +kernel
theorem dX8_readExpression_35 : decode cX8_readExpression 35 = .ok (.iload_n 3, 1) := by decide +kernel
theorem dX8_readExpression_36 : decode cX8_readExpression 36 = .ok (.goto 4, 3) := by decide +kernel
theorem dX8_readExpression_40 : decode cX8_readExpression 40 = .ok (.ireturn, 1) := by decide +kernel
theorem dX8_readLevel_0 : decode cX8_readLevel 0 = .ok (.iload_n 2, 1) := by decide +kernel
theorem dX8_readLevel_1 : decode cX8_readLevel 1 = .ok (.iconst 5, 1) := by decide +kernel
theorem dX8_readLevel_2 : decode cX8_readLevel 2 = .ok (.if_icmp .ne 16, 3) := by decide +kernel
theorem dX8_readLevel_5 : decode cX8_readLevel 5 = .ok (.aload_n 0, 1) := by decide +kernel
theorem dX8_readLevel_6 : decode cX8_readLevel 6 = .ok (.getfield 44, 3) := by decide +kernel
theorem dX8_readLevel_9 : decode cX8_readLevel 9 = .ok (.iload_n 1, 1) := by decide +kernel
theorem dX8_readLevel_10 : decode cX8_readLevel 10 = .ok (.aload_n 0, 1) := by decide +kernel
theorem dX8_readLevel_11 : decode cX8_readLevel 11 = .ok (.invokevirtual 253, 3) := by decide +kernel
theorem dX8_readLevel_14 : decode cX8_readLevel 14 = .ok (.invokevirtual 172, 3) := by decide +kernel
theorem dX8_readLevel_17 : decode cX8_readLevel 17 = .ok (.return_, 1) := by decide +kernel
theorem dX8_readLevel_18 : decode cX8_readLevel 18 = .ok (.aload_n 0, 1) := by decide +kernel
theorem dX8_readLevel_19 : decode cX8_readLevel 19 = .ok (.iload_n 1, 1) := by decide +kernel
theorem dX8_readLevel_20 : decode cX8_readLevel 20 = .ok (.iload_n 2, 1) := by decide +kernel
theorem dX8_readLevel_21 : decode cX8_readLevel 21 = .ok (.iconst 1, 1) := by decide +kernel
theorem dX8_readLevel_22 : decode cX8_readLevel 22 = .ok (.iadd, 1) := by decide +kernel
theorem dX8_readLevel_23 : decode cX8_readLevel 23 = .ok (.invokevirtual 283, 3) := by decide +kernel
theorem dX8_readLevel_26 : decode cX8_readLevel 26 = .ok (.iconst 0, 1) := by decide +kernel
theorem dX8_readLevel_27 : decode cX8_readLevel 27 = .ok (.istore_n 3, 1) := by decide +kernel
theorem dX8_readLevel_28 : decode cX8_readLevel 28 = .ok (.iload_n 3, 1) := by decide +kernel
theorem dX8_readLevel_29 : decode cX8_readLevel 29 = .ok (.sipush 6002, 3) := by decide +kernel
theorem dX8_readLevel_32 : decode cX8_readLevel 32 = .ok (.if_icmp .ge 86, 3) := by decide +kernel
theorem dX8_readLevel_35 : decode cX8_readLevel 35 = .ok (.aload_n 0, 1) := by decide +kernel
theorem dX8_readLevel_36 : decode cX8_readLevel 36 = .ok (.getfield 35, 3) := by decide +kernel
theorem dX8_readLevel_39 : decode cX8_readLevel 39 = .ok (.ifCond .ge 79, 3) := by decide +kernel
theorem dX8_readLevel_118 : decode cX8_readLevel 118 = .ok (.return_, 1) := by decide +kernel
theorem dX8_readTerm_0 : decode cX8_readTerm 0 = .ok (.aload_n 0, 1) := by decide +kernel
theorem dX8_readTerm_1 : decode cX8_readTerm 1 = .ok (.iconst 1, 1) := by decide +kernel
theorem dX8_readTerm_2 : decode cX8_readTerm 2 = .ok (.invokevirtual 137, 3) := by decide +kernel
theorem dX8_readTerm_5 : decode cX8_readTerm 5 = .ok (.ifCond .eq 8, 3) := by decide +kernel
theorem dX8_readTerm_13 : decode cX8_readTerm 13 = .ok (.aload_n 0, 1) := by decide +kernel
theorem dX8_readTerm_14 : decode cX8_readTerm 14 = .ok (.bipush 35, 2) := by decide +kernel
theorem dX8_readTerm_16 : decode cX8_readTerm 16 = .ok (.invokevirtual 137, 3) := by decide +kernel
theorem dX8_readTerm_19 : decode cX8_readTerm 19 = .ok (.ifCond .eq 35, 3) := by decide +kernel
theorem dX8_readTerm_54 : decode cX8_readTerm 54 = .ok (.aload_n 0, 1) := by decide +kernel
theorem dX8_readTerm_55 : decode cX8_readTerm 55 = .ok (.bipush 37, 2) := by decide +kernel
theorem dX8_readTerm_57 : decode cX8_readTerm 57 = .ok (.invokevirtual 137, 3) := by decide +kernel
theorem dX8_readTerm_60 : decode cX8_readTerm 60 = .ok (.ifCond .eq 8, 3) := by decide +kernel
theorem dX8_readTerm_68 : decode cX8_readTerm 68 = .ok (.aload_n 0, 1) := by decide +kernel
theorem dX8_readTerm_69 : decode cX8_readTerm 69 = .ok (.bipush 39, 2) := by decide +kernel
theorem dX8_readTerm_71 : decode cX8_readTerm 71 = .ok (.invokevirtual 137, 3) := by decide +kernel
theorem dX8_readTerm_74 : decode cX8_readTerm 74 = .ok (.ifCond .eq 8, 3) := by decide +kernel
theorem dX8_readTerm_82 : decode cX8_readTerm 82 = .ok (.aload_n 0, 1) := by decide +kernel
theorem dX8_readTerm_83 : decode cX8_readTerm 83 = .ok (.invokevirtual 298, 3) := by decide +kernel
theorem dX8_readTerm_86 : decode cX8_readTerm 86 = .ok (.ireturn, 1) := by decide +kernel
theorem dX8_readScalar_0 : decode cX8_readScalar 0 = .ok (.aload_n 0, 1) := by decide +kernel
theorem dX8_readScalar_1 : decode cX8_readScalar 1 = .ok (.iconst 1, 1) := by decide +kernel
theorem dX8_readScalar_2 : decode cX8_readScalar 2 = .ok (.invokevirtual 162, 3) := by decide +kernel
theorem dX8_readScalar_5 : decode cX8_readScalar 5 = .ok (.istore_n 1, 1) := by decide +kernel
theorem dX8_readScalar_6 : decode cX8_readScalar 6 = .ok (.aload_n 0, 1) := by decide +kernel
theorem dX8_readScalar_7 : decode cX8_readScalar 7 = .ok (.getfield 44, 3) := by decide +kernel
theorem dX8_readScalar_10 : decode cX8_readScalar 10 = .ok (.getfield 165, 3) := by decide +kernel
theorem dX8_readScalar_13 : decode cX8_readScalar 13 = .ok (.iload_n 1, 1) := by decide +kernel
theorem dX8_readScalar_14 : decode cX8_readScalar 14 = .ok (.iconst 1, 1) := by decide +kernel
theorem dX8_readScalar_15 : decode cX8_readScalar 15 = .ok (.iastore, 1) := by decide +kernel
theorem dX8_readScalar_16 : decode cX8_readScalar 16 = .ok (.aload_n 0, 1) := by decide +kernel
theorem dX8_readScalar_17 : decode cX8_readScalar 17 = .ok (.bipush 29, 2) := by decide +kernel
theorem dX8_readScalar_19 : decode cX8_readScalar 19 = .ok (.invokevirtual 137, 3) := by decide +kernel
theorem dX8_readScalar_22 : decode cX8_readScalar 22 = .ok (.ifCond .eq 98, 3) := by decide +kernel
theorem dX8_readScalar_120 : decode cX8_readScalar 120 = .ok (.aload_n 0, 1) := by decide +kernel
theorem dX8_readScalar_121 : decode cX8_readScalar 121 = .ok (.iconst 2, 1) := by decide +kernel
theorem dX8_readScalar_122 : decode cX8_readScalar 122 = .ok (.invokevirtual 137, 3) := by decide +kernel
theorem dX8_readScalar_125 : decode cX8_readScalar 125 = .ok (.ifCond .ne 11, 3) := by decide +kernel
theorem dX8_readScalar_128 : decode cX8_readScalar 128 = .ok (.aload_n 0, 1) := by decide +kernel
theorem dX8_readScalar_129 : decode cX8_readScalar 129 = .ok (.iconst 3, 1) := by decide +kernel
theorem dX8_readScalar_130 : decode cX8_readScalar 130 = .ok (.invokevirtual 137, 3) := by decide +kernel
theorem dX8_readScalar_133 : decode cX8_readScalar 133 = .ok (.ifCond .eq 28, 3) := by decide +kernel
theorem dX8_readScalar_161 : decode cX8_readScalar 161 = .ok (.aload_n 0, 1) := by decide +kernel
theorem dX8_readScalar_162 : decode cX8_readScalar 162 = .ok (.bipush 17, 2) := by decide +kernel
theorem dX8_readScalar_164 : decode cX8_readScalar 164 = .ok (.invokevirtual 137, 3) := by decide +kernel
theorem dX8_readScalar_167 : decode cX8_readScalar 167 = .ok (.ifCond .ne 21, 3) := by decide +kernel
theorem dX8_readScalar_170 : decode cX8_readScalar 170 = .ok (.aload_n 0, 1) := by decide +kernel
theorem dX8_readScalar_171 : decode cX8_readScalar 171 = .ok (.bipush 18, 2) := by decide +kernel
theorem dX8_readScalar_173 : decode cX8_readScalar 173 = .ok (.invokevirtual 137, 3) := by decide +kernel
theorem dX8_readScalar_176 : decode cX8_readScalar 176 = .ok (.ifCond .ne 12, 3) := by decide +kernel
theorem dX8_readScalar_179 : decode cX8_readScalar 179 = .ok (.aload_n 0, 1) := by decide +kernel
theorem dX8_readScalar_180 : decode cX8_readScalar 180 = .ok (.bipush 19, 2) := by decide +kernel
theorem dX8_readScalar_182 : decode cX8_readScalar 182 = .ok (.invokevirtual 137, 3) := by decide +kernel
theorem dX8_readScalar_185 : decode cX8_readScalar 185 = .ok (.ifCond .eq 46, 3) := by decide +kernel
theorem dX8_readScalar_231 : decode cX8_readScalar 231 = .ok (.aload_n 0, 1) := by decide +kernel
theorem dX8_readScalar_232 : decode cX8_readScalar 232 = .ok (.invokevirtual 143, 3) := by decide +kernel
theorem dX8_readScalar_235 : decode cX8_readScalar 235 = .ok (.iload_n 1, 1) := by decide +kernel
theorem dX8_readScalar_236 : decode cX8_readScalar 236 = .ok (.ireturn, 1) := by decide +kernel
theorem dX11_readJson_0 : decode cX11_readJson 0 = .ok (.aload_n 0, 1) := by decide +kernel
theorem dX11_readJson_1 : decode cX11_readJson 1 = .ok (.aload_n 1, 1) := by decide +kernel
theorem dX11_readJson_2 : decode cX11_readJson 2 = .ok (.putfield 7, 3) := by decide +kernel
theorem dX11_readJson_5 : decode cX11_readJson 5 = .ok (.aload_n 0, 1) := by decide +kernel
