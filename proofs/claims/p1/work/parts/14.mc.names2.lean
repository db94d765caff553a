theorem dX16_chain_19 : decode cX16_chain 19 = .ok (.iconst 1, 1) := by decide +kernel
theorem dX16_chain_20 : decode cX16_chain 20 = .ok (.iadd, 1) := by decide +kernel
theorem dX16_chain_21 : decode cX16_chain 21 = .ok (.invokevirtual 438, 3) := by decide +kernel
theorem dX16_chain_24 : decode cX16_chain 24 = .ok (.istore_n 3, 1) := by decide +kernel
theorem dX16_chain_25 : decode cX16_chain 25 = .ok (.aload_n 0, 1) := by decide +kernel
theorem dX16_chain_26 : decode cX16_chain 26 = .ok (.iload_n 1, 1) := by decide +kernel
theorem dX16_chain_27 : decode cX16_chain 27 = .ok (.invokevirtual 452, 3) := by decide +kernel
theorem dX16_chain_30 : decode cX16_chain 30 = .ok (.ifCond .ne 5, 3) := by decide +kernel
theorem dX16_chain_33 : decode cX16_chain 33 = .ok (.iload_n 3, 1) := by decide +kernel
theorem dX16_chain_34 : decode cX16_chain 34 = .ok (.ireturn, 1) := by decide +kernel
theorem dX16_isComparison_0 : decode cX16_isComparison 0 = .ok (.aload_n 0, 1) := by decide +kernel
theorem dX16_isComparison_1 : decode cX16_isComparison 1 = .ok (.invokevirtual 282, 3) := by decide +kernel
theorem dX16_isComparison_4 : decode cX16_isComparison 4 = .ok (.ifCond .ne 83, 3) := by decide +kernel
theorem dX16_isComparison_87 : decode cX16_isComparison 87 = .ok (.iconst 0, 1) := by decide +kernel
theorem dX16_isComparison_88 : decode cX16_isComparison 88 = .ok (.ireturn, 1) := by decide +kernel
theorem dX16_expression_0 : decode cX16_expression 0 = .ok (.aload_n 0, 1) := by decide +kernel
theorem dX16_expression_1 : decode cX16_expression 1 = .ok (.getfield 298, 3) := by decide +kernel
theorem dX16_expression_4 : decode cX16_expression 4 = .ok (.istore_n 1, 1) := by decide +kernel
theorem dX16_expression_5 : decode cX16_expression 5 = .ok (.aload_n 0, 1) := by decide +kernel
theorem dX16_expression_6 : decode cX16_expression 6 = .ok (.iconst 0, 1) := by decide +kernel
theorem dX16_expression_7 : decode cX16_expression 7 = .ok (.invokevirtual 438, 3) := by decide +kernel
theorem dX16_expression_10 : decode cX16_expression 10 = .ok (.istore_n 2, 1) := by decide +kernel
theorem dX16_expression_11 : decode cX16_expression 11 = .ok (.aload_n 0, 1) := by decide +kernel
theorem dX16_expression_12 : decode cX16_expression 12 = .ok (.invokevirtual 455, 3) := by decide +kernel
theorem dX16_expression_15 : decode cX16_expression 15 = .ok (.ifCond .ne 5, 3) := by decide +kernel
theorem dX16_expression_18 : decode cX16_expression 18 = .ok (.iload_n 2, 1) := by decide +kernel
theorem dX16_expression_19 : decode cX16_expression 19 = .ok (.ireturn, 1) := by decide +kernel
theorem dX16_newBody_0 : decode cX16_newBody 0 = .ok (.aload_n 0, 1) := by decide +kernel
theorem dX16_newBody_1 : decode cX16_newBody 1 = .ok (.getfield 458, 3) := by decide +kernel
theorem dX16_newBody_4 : decode cX16_newBody 4 = .ok (.istore_n 2, 1) := by decide +kernel
theorem dX16_newBody_5 : decode cX16_newBody 5 = .ok (.aload_n 0, 1) := by decide +kernel
theorem dX16_newBody_6 : decode cX16_newBody 6 = .ok (.getfield 461, 3) := by decide +kernel
theorem dX16_newBody_9 : decode cX16_newBody 9 = .ok (.iload_n 2, 1) := by decide +kernel
theorem dX16_newBody_10 : decode cX16_newBody 10 = .ok (.iconst (-1), 1) := by decide +kernel
theorem dX16_newBody_11 : decode cX16_newBody 11 = .ok (.iastore, 1) := by decide +kernel
theorem dX16_newBody_12 : decode cX16_newBody 12 = .ok (.aload_n 0, 1) := by decide +kernel
theorem dX16_newBody_13 : decode cX16_newBody 13 = .ok (.getfield 464, 3) := by decide +kernel
theorem dX16_newBody_16 : decode cX16_newBody 16 = .ok (.iload_n 2, 1) := by decide +kernel
theorem dX16_newBody_17 : decode cX16_newBody 17 = .ok (.iconst (-1), 1) := by decide +kernel
theorem dX16_newBody_18 : decode cX16_newBody 18 = .ok (.iastore, 1) := by decide +kernel
theorem dX16_newBody_19 : decode cX16_newBody 19 = .ok (.aload_n 0, 1) := by decide +kernel
theorem dX16_newBody_20 : decode cX16_newBody 20 = .ok (.getfield 467, 3) := by decide +kernel
theorem dX16_newBody_23 : decode cX16_newBody 23 = .ok (.iload_n 2, 1) := by decide +kernel
theorem dX16_newBody_24 : decode cX16_newBody 24 = .ok (.aload_n 0, 1) := by decide +kernel
theorem dX16_newBody_25 : decode cX16_newBody 25 = .ok (.getfield 470, 3) := by decide +kernel
theorem dX16_newBody_28 : decode cX16_newBody 28 = .ok (.iastore, 1) := by decide +kernel
theorem dX16_newBody_29 : decode cX16_newBody 29 = .ok (.aload_n 0, 1) := by decide +kernel
theorem dX16_newBody_30 : decode cX16_newBody 30 = .ok (.getfield 473, 3) := by decide +kernel
theorem dX16_newBody_33 : decode cX16_newBody 33 = .ok (.iload_n 2, 1) := by decide +kernel
theorem dX16_newBody_34 : decode cX16_newBody 34 = .ok (.iload_n 1, 1) := by decide +kernel
theorem dX16_newBody_35 : decode cX16_newBody 35 = .ok (.iastore, 1) := by decide +kernel
theorem dX16_newBody_36 : decode cX16_newBody 36 = .ok (.aload_n 0, 1) := by decide +kernel
theorem dX16_newBody_37 : decode cX16_newBody 37 = .ok (.getfield 476, 3) := by decide +kernel
theorem dX16_newBody_40 : decode cX16_newBody 40 = .ok (.iload_n 2, 1) := by decide +kernel
theorem dX16_newBody_41 : decode cX16_newBody 41 = .ok (.iconst 0, 1) := by decide +kernel
theorem dX16_newBody_42 : decode cX16_newBody 42 = .ok (.iastore, 1) := by decide +kernel
theorem dX16_newBody_43 : decode cX16_newBody 43 = .ok (.aload_n 0, 1) := by decide +kernel
theorem dX16_newBody_44 : decode cX16_newBody 44 = .ok (.dup, 1) := by decide +kernel
theorem dX16_newBody_45 : decode cX16_newBody 45 = .ok (.getfield 458, 3) := by decide +kernel
theorem dX16_newBody_48 : decode cX16_newBody 48 = .ok (.iconst 1, 1) := by decide +kernel
theorem dX16_newBody_49 : decode cX16_newBody 49 = .ok (.iadd, 1) := by decide +kernel
theorem dX16_newBody_50 : decode cX16_newBody 50 = .ok (.putfield 458, 3) := by decide +kernel
theorem dX16_newBody_53 : decode cX16_newBody 53 = .ok (.iload_n 2, 1) := by decide +kernel
theorem dX16_newBody_54 : decode cX16_newBody 54 = .ok (.ireturn, 1) := by decide +kernel
theorem dX16_literals_0 : decode cX16_literals 0 = .ok (.aload_n 0, 1) := by decide +kernel
theorem dX16_literals_1 : decode cX16_literals 1 = .ok (.iload_n 2, 1) := by decide +kernel
theorem dX16_literals_2 : decode cX16_literals 2 = .ok (.invokevirtual 479, 3) := by decide +kernel
theorem dX16_literals_5 : decode cX16_literals 5 = .ok (.istore_n 3, 1) := by decide +kernel
theorem dX16_literals_6 : decode cX16_literals 6 = .ok (.iconst (-1), 1) := by decide +kernel
theorem dX16_literals_7 : decode cX16_literals 7 = .ok (.istore 4, 2) := by decide +kernel
theorem dX16_literals_9 : decode cX16_literals 9 = .ok (.aload_n 0, 1) := by decide +kernel
theorem dX16_literals_10 : decode cX16_literals 10 = .ok (.invokevirtual 282, 3) := by decide +kernel
theorem dX16_literals_13 : decode cX16_literals 13 = .ok (.ifCond .ne 7, 3) := by decide +kernel
theorem dX16_literals_16 : decode cX16_literals 16 = .ok (.iconst 1, 1) := by decide +kernel
theorem dX16_literals_17 : decode cX16_literals 17 = .ok (.goto 4, 3) := by decide +kernel
theorem dX16_literals_21 : decode cX16_literals 21 = .ok (.istore 5, 2) := by decide +kernel
theorem dX16_literals_23 : decode cX16_literals 23 = .ok (.iload 5, 2) := by decide +kernel
theorem dX16_literals_25 : decode cX16_literals 25 = .ok (.ifCond .eq 140, 3) := by decide +kernel
theorem dX16_literals_28 : decode cX16_literals 28 = .ok (.aload_n 0, 1) := by decide +kernel
theorem dX16_literals_29 : decode cX16_literals 29 = .ok (.iload 4, 2) := by decide +kernel
theorem dX16_literals_31 : decode cX16_literals 31 = .ok (.aload_n 0, 1) := by decide +kernel
theorem dX16_literals_32 : decode cX16_literals 32 = .ok (.invokevirtual 482, 3) := by decide +kernel
theorem dX16_literals_35 : decode cX16_literals 35 = .ok (.invokevirtual 391, 3) := by decide +kernel
theorem dX16_literals_38 : decode cX16_literals 38 = .ok (.istore 4, 2) := by decide +kernel
theorem dX16_literals_40 : decode cX16_literals 40 = .ok (.aload_n 0, 1) := by decide +kernel
theorem dX16_literals_41 : decode cX16_literals 41 = .ok (.getfield 461, 3) := by decide +kernel
theorem dX16_literals_44 : decode cX16_literals 44 = .ok (.iload_n 3, 1) := by decide +kernel
theorem dX16_literals_45 : decode cX16_literals 45 = .ok (.iaload, 1) := by decide +kernel
theorem dX16_literals_46 : decode cX16_literals 46 = .ok (.iconst (-1), 1) := by decide +kernel
theorem dX16_literals_47 : decode cX16_literals 47 = .ok (.if_icmp .ne 11, 3) := by decide +kernel
theorem dX16_literals_50 : decode cX16_literals 50 = .ok (.aload_n 0, 1) := by decide +kernel
theorem dX16_literals_51 : decode cX16_literals 51 = .ok (.getfield 461, 3) := by decide +kernel
theorem dX16_literals_54 : decode cX16_literals 54 = .ok (.iload_n 3, 1) := by decide +kernel
theorem dX16_literals_55 : decode cX16_literals 55 = .ok (.iload 4, 2) := by decide +kernel
theorem dX16_literals_57 : decode cX16_literals 57 = .ok (.iastore, 1) := by decide +kernel
theorem dX16_literals_58 : decode cX16_literals 58 = .ok (.aload_n 0, 1) := by decide +kernel
theorem dX16_literals_59 : decode cX16_literals 59 = .ok (.getfield 476, 3) := by decide +kernel
theorem dX16_literals_62 : decode cX16_literals 62 = .ok (.iload_n 3, 1) := by decide +kernel
theorem dX16_literals_63 : decode cX16_literals 63 = .ok (.dup2, 1) := by decide +kernel
theorem dX16_literals_64 : decode cX16_literals 64 = .ok (.iaload, 1) := by decide +kernel
theorem dX16_literals_65 : decode cX16_literals 65 = .ok (.iconst 1, 1) := by decide +kernel
theorem dX16_literals_66 : decode cX16_literals 66 = .ok (.iadd, 1) := by decide +kernel
theorem dX16_literals_67 : decode cX16_literals 67 = .ok (.iastore, 1) := by decide +kernel
theorem dX16_literals_68 : decode cX16_literals 68 = .ok (.aload_n 0, 1) := by decide +kernel
theorem dX16_literals_69 : decode cX16_literals 69 = .ok (.invokevirtual 282, 3) := by decide +kernel
theorem dX16_literals_72 : decode cX16_literals 72 = .ok (.ifCond .eq 5, 3) := by decide +kernel
theorem dX16_literals_75 : decode cX16_literals 75 = .ok (.iload_n 3, 1) := by decide +kernel
theorem dX16_literals_76 : decode cX16_literals 76 = .ok (.ireturn, 1) := by decide +kernel
theorem dX16_literal_0 : decode cX16_literal 0 = .ok (.aload_n 0, 1) := by decide +kernel
theorem dX16_literal_1 : decode cX16_literal 1 = .ok (.getfield 298, 3) := by decide +kernel
theorem dX16_literal_4 : decode cX16_literal 4 = .ok (.istore_n 1, 1) := by decide +kernel
theorem dX16_literal_5 : decode cX16_literal 5 = .ok (.aload_n 0, 1) := by decide +kernel
theorem dX16_literal_6 : decode cX16_literal 6 = .ok (.bipush 44, 2) := by decide +kernel
theorem dX16_literal_8 : decode cX16_literal 8 = .ok (.invokevirtual 333, 3) := by decide +kernel
theorem dX16_literal_11 : decode cX16_literal 11 = .ok (.ifCond .eq 29, 3) := by decide +kernel
theorem dX16_literal_40 : decode cX16_literal 40 = .ok (.aload_n 0, 1) := by decide +kernel
theorem dX16_literal_41 : decode cX16_literal 41 = .ok (.bipush 52, 2) := by decide +kernel
theorem dX16_literal_43 : decode cX16_literal 43 = .ok (.invokevirtual 333, 3) := by decide +kernel
theorem dX16_literal_46 : decode cX16_literal 46 = .ok (.ifCond .eq 12, 3) := by decide +kernel
theorem dX16_literal_58 : decode cX16_literal 58 = .ok (.aload_n 0, 1) := by decide +kernel
theorem dX16_literal_59 : decode cX16_literal 59 = .ok (.bipush 58, 2) := by decide +kernel
theorem dX16_literal_61 : decode cX16_literal 61 = .ok (.invokevirtual 333, 3) := by decide +kernel
theorem dX16_literal_64 : decode cX16_literal 64 = .ok (.ifCond .eq 24, 3) := by decide +kernel
theorem dX16_literal_88 : decode cX16_literal 88 = .ok (.aload_n 0, 1) := by decide +kernel
theorem dX16_literal_89 : decode cX16_literal 89 = .ok (.invokevirtual 414, 3) := by decide +kernel
theorem dX16_literal_92 : decode cX16_literal 92 = .ok (.istore_n 3, 1) := by decide +kernel
theorem dX16_literal_93 : decode cX16_literal 93 = .ok (.aload_n 0, 1) := by decide +kernel
theorem dX16_literal_94 : decode cX16_literal 94 = .ok (.bipush 61, 2) := by decide +kernel
theorem dX16_literal_96 : decode cX16_literal 96 = .ok (.invokevirtual 327, 3) := by decide +kernel
theorem dX16_literal_99 : decode cX16_literal 99 = .ok (.ifCond .eq 24, 3) := by decide +kernel
theorem dX16_literal_123 : decode cX16_literal 123 = .ok (.aload_n 0, 1) := by decide +kernel
theorem dX16_literal_124 : decode cX16_literal 124 = .ok (.sipush 300, 3) := by decide +kernel
theorem dX16_literal_127 : decode cX16_literal 127 = .ok (.invokevirtual 327, 3) := by decide +kernel
theorem dX16_literal_130 : decode cX16_literal 130 = .ok (.ifCond .eq 48, 3) := by decide +kernel
theorem dX16_literal_178 : decode cX16_literal 178 = .ok (.aload_n 0, 1) := by decide +kernel
theorem dX16_literal_179 : decode cX16_literal 179 = .ok (.bipush 24, 2) := by decide +kernel
theorem dX16_literal_181 : decode cX16_literal 181 = .ok (.iload_n 1, 1) := by decide +kernel
theorem dX16_literal_182 : decode cX16_literal 182 = .ok (.iload_n 3, 1) := by decide +kernel
theorem dX16_literal_183 : decode cX16_literal 183 = .ok (.iconst 0, 1) := by decide +kernel
theorem dX16_literal_184 : decode cX16_literal 184 = .ok (.iconst (-1), 1) := by decide +kernel
theorem dX16_literal_185 : decode cX16_literal 185 = .ok (.invokevirtual 372, 3) := by decide +kernel
theorem dX16_literal_188 : decode cX16_literal 188 = .ok (.istore_n 2, 1) := by decide +kernel
theorem dX16_literal_189 : decode cX16_literal 189 = .ok (.aload_n 0, 1) := by decide +kernel
theorem dX16_literal_190 : decode cX16_literal 190 = .ok (.iload_n 2, 1) := by decide +kernel
theorem dX16_literal_191 : decode cX16_literal 191 = .ok (.invokevirtual 494, 3) := by decide +kernel
theorem dX16_literal_194 : decode cX16_literal 194 = .ok (.iload_n 2, 1) := by decide +kernel
theorem dX16_literal_195 : decode cX16_literal 195 = .ok (.ireturn, 1) := by decide +kernel
theorem dX16_withs_0 : decode cX16_withs 0 = .ok (.iconst (-1), 1) := by decide +kernel
theorem dX16_withs_1 : decode cX16_withs 1 = .ok (.istore_n 2, 1) := by decide +kernel
theorem dX16_withs_2 : decode cX16_withs 2 = .ok (.iconst 0, 1) := by decide +kernel
theorem dX16_withs_3 : decode cX16_withs 3 = .ok (.istore_n 3, 1) := by decide +kernel
theorem dX16_withs_4 : decode cX16_withs 4 = .ok (.aload_n 0, 1) := by decide +kernel
theorem dX16_withs_5 : decode cX16_withs 5 = .ok (.bipush 62, 2) := by decide +kernel
theorem dX16_withs_7 : decode cX16_withs 7 = .ok (.invokevirtual 333, 3) := by decide +kernel
theorem dX16_withs_10 : decode cX16_withs 10 = .ok (.ifCond .eq 188, 3) := by decide +kernel
theorem dX16_withs_198 : decode cX16_withs 198 = .ok (.return_, 1) := by decide +kernel
theorem dX16_clearTrees_0 : decode cX16_clearTrees 0 = .ok (.aload_n 0, 1) := by decide +kernel
theorem dX16_clearTrees_1 : decode cX16_clearTrees 1 = .ok (.iconst 0, 1) := by decide +kernel
theorem dX16_clearTrees_2 : decode cX16_clearTrees 2 = .ok (.putfield 338, 3) := by decide +kernel
theorem dX16_clearTrees_5 : decode cX16_clearTrees 5 = .ok (.aload_n 0, 1) := by decide +kernel
theorem dX16_clearTrees_6 : decode cX16_clearTrees 6 = .ok (.iconst 0, 1) := by decide +kernel
theorem dX16_clearTrees_7 : decode cX16_clearTrees 7 = .ok (.putfield 359, 3) := by decide +kernel
theorem dX16_clearTrees_10 : decode cX16_clearTrees 10 = .ok (.aload_n 0, 1) := by decide +kernel
theorem dX16_clearTrees_11 : decode cX16_clearTrees 11 = .ok (.iconst 0, 1) := by decide +kernel
theorem dX16_clearTrees_12 : decode cX16_clearTrees 12 = .ok (.putfield 458, 3) := by decide +kernel
theorem dX16_clearTrees_15 : decode cX16_clearTrees 15 = .ok (.aload_n 0, 1) := by decide +kernel
theorem dX16_clearTrees_16 : decode cX16_clearTrees 16 = .ok (.iconst 0, 1) := by decide +kernel
theorem dX16_clearTrees_17 : decode cX16_clearTrees 17 = .ok (.putfield 259, 3) := by decide +kernel
theorem dX16_clearTrees_20 : decode cX16_clearTrees 20 = .ok (.aload_n 0, 1) := by decide +kernel
theorem dX16_clearTrees_21 : decode cX16_clearTrees 21 = .ok (.iconst 0, 1) := by decide +kernel
theorem dX16_clearTrees_22 : decode cX16_clearTrees 22 = .ok (.putfield 519, 3) := by decide +kernel
theorem dX16_clearTrees_25 : decode cX16_clearTrees 25 = .ok (.aload_n 0, 1) := by decide +kernel
theorem dX16_clearTrees_26 : decode cX16_clearTrees 26 = .ok (.iconst 0, 1) := by decide +kernel
theorem dX16_clearTrees_27 : decode cX16_clearTrees 27 = .ok (.putfield 522, 3) := by decide +kernel
theorem dX16_clearTrees_30 : decode cX16_clearTrees 30 = .ok (.aload_n 0, 1) := by decide +kernel
theorem dX16_clearTrees_31 : decode cX16_clearTrees 31 = .ok (.iconst 0, 1) := by decide +kernel
theorem dX16_clearTrees_32 : decode cX16_clearTrees 32 = .ok (.putfield 525, 3) := by decide +kernel
theorem dX16_clearTrees_35 : decode cX16_clearTrees 35 = .ok (.iconst 0, 1) := by decide +kernel
theorem dX16_clearTrees_36 : decode cX16_clearTrees 36 = .ok (.istore_n 1, 1) := by decide +kernel
theorem dX16_clearTrees_37 : decode cX16_clearTrees 37 = .ok (.iload_n 1, 1) := by decide +kernel
theorem dX16_clearTrees_38 : decode cX16_clearTrees 38 = .ok (.sipush 4096, 3) := by decide +kernel
theorem dX16_clearTrees_41 : decode cX16_clearTrees 41 = .ok (.if_icmp .ge 16, 3) := by decide +kernel
theorem dX16_clearTrees_44 : decode cX16_clearTrees 44 = .ok (.aload_n 0, 1) := by decide +kernel
theorem dX16_clearTrees_45 : decode cX16_clearTrees 45 = .ok (.getfield 249, 3) := by decide +kernel
theorem dX16_clearTrees_48 : decode cX16_clearTrees 48 = .ok (.iload_n 1, 1) := by decide +kernel
theorem dX16_clearTrees_49 : decode cX16_clearTrees 49 = .ok (.iconst 0, 1) := by decide +kernel
theorem dX16_clearTrees_50 : decode cX16_clearTrees 50 = .ok (.iastore, 1) := by decide +kernel
theorem dX16_clearTrees_51 : decode cX16_clearTrees 51 = .ok (.iinc 1 1, 3) := by decide +kernel
theorem dX16_clearTrees_54 : decode cX16_clearTrees 54 = .ok (.goto (-17), 3) := by decide +kernel
theorem dX16_clearTrees_57 : decode cX16_clearTrees 57 = .ok (.aload_n 0, 1) := by decide +kernel
theorem dX16_clearTrees_58 : decode cX16_clearTrees 58 = .ok (.aload_n 0, 1) := by decide +kernel
theorem dX16_clearTrees_59 : decode cX16_clearTrees 59 = .ok (.ldc_w 528, 3) := by decide +kernel
theorem dX16_clearTrees_62 : decode cX16_clearTrees 62 = .ok (.invokevirtual 530, 3) := by decide +kernel
theorem dX16_clearTrees_65 : decode cX16_clearTrees 65 = .ok (.putfield 385, 3) := by decide +kernel
theorem dX16_clearTrees_68 : decode cX16_clearTrees 68 = .ok (.aload_n 0, 1) := by decide +kernel
theorem dX16_clearTrees_69 : decode cX16_clearTrees 69 = .ok (.aload_n 0, 1) := by decide +kernel
theorem dX16_clearTrees_70 : decode cX16_clearTrees 70 = .ok (.ldc_w 534, 3) := by decide +kernel
theorem dX16_clearTrees_73 : decode cX16_clearTrees 73 = .ok (.invokevirtual 530, 3) := by decide +kernel
theorem dX16_clearTrees_76 : decode cX16_clearTrees 76 = .ok (.putfield 432, 3) := by decide +kernel
theorem dX16_clearTrees_79 : decode cX16_clearTrees 79 = .ok (.aload_n 0, 1) := by decide +kernel
theorem dX16_clearTrees_80 : decode cX16_clearTrees 80 = .ok (.aload_n 0, 1) := by decide +kernel
theorem dX16_clearTrees_81 : decode cX16_clearTrees 81 = .ok (.ldc_w 536, 3) := by decide +kernel
theorem dX16_clearTrees_84 : decode cX16_clearTrees 84 = .ok (.invokevirtual 530, 3) := by decide +kernel
theorem dX16_clearTrees_87 : decode cX16_clearTrees 87 = .ok (.putfield 497, 3) := by decide +kernel
theorem dX16_clearTrees_90 : decode cX16_clearTrees 90 = .ok (.aload_n 0, 1) := by decide +kernel
theorem dX16_clearTrees_91 : decode cX16_clearTrees 91 = .ok (.aload_n 0, 1) := by decide +kernel
theorem dX16_clearTrees_92 : decode cX16_clearTrees 92 = .ok (.ldc_w 538, 3) := by decide +kernel
theorem dX16_clearTrees_95 : decode cX16_clearTrees 95 = .ok (.invokevirtual 530, 3) := by decide +kernel
theorem dX16_clearTrees_98 : decode cX16_clearTrees 98 = .ok (.putfield 500, 3) := by decide +kernel
theorem dX16_clearTrees_101 : decode cX16_clearTrees 101 = .ok (.return_, 1) := by decide +kernel
theorem dX16_readModule_0 : decode cX16_readModule 0 = .ok (.aload_n 0, 1) := by decide +kernel
theorem dX16_readModule_1 : decode cX16_readModule 1 = .ok (.aload_n 1, 1) := by decide +kernel
theorem dX16_readModule_2 : decode cX16_readModule 2 = .ok (.iload_n 2, 1) := by decide +kernel
theorem dX16_readModule_3 : decode cX16_readModule 3 = .ok (.invokevirtual 540, 3) := by decide +kernel
theorem dX16_readModule_6 : decode cX16_readModule 6 = .ok (.aload_n 0, 1) := by decide +kernel
theorem dX16_readModule_7 : decode cX16_readModule 7 = .ok (.aload_n 0, 1) := by decide +kernel
theorem dX16_readModule_8 : decode cX16_readModule 8 = .ok (.getfield 525, 3) := by decide +kernel
theorem dX16_readModule_11 : decode cX16_readModule 11 = .ok (.putfield 470, 3) := by decide +kernel
theorem dX16_readModule_14 : decode cX16_readModule 14 = .ok (.aload_n 0, 1) := by decide +kernel
theorem dX16_readModule_15 : decode cX16_readModule 15 = .ok (.iconst 1, 1) := by decide +kernel
theorem dX16_readModule_16 : decode cX16_readModule 16 = .ok (.invokevirtual 506, 3) := by decide +kernel
theorem dX16_readModule_19 : decode cX16_readModule 19 = .ok (.aload_n 0, 1) := by decide +kernel
theorem dX16_readModule_20 : decode cX16_readModule 20 = .ok (.getfield 544, 3) := by decide +kernel
theorem dX16_readModule_23 : decode cX16_readModule 23 = .ok (.aload_n 0, 1) := by decide +kernel
theorem dX16_readModule_24 : decode cX16_readModule 24 = .ok (.getfield 519, 3) := by decide +kernel
theorem dX16_readModule_27 : decode cX16_readModule 27 = .ok (.aload_n 0, 1) := by decide +kernel
theorem dX16_readModule_28 : decode cX16_readModule 28 = .ok (.invokevirtual 503, 3) := by decide +kernel
theorem dX16_readModule_31 : decode cX16_readModule 31 = .ok (.iastore, 1) := by decide +kernel
theorem dX16_readModule_32 : decode cX16_readModule 32 = .ok (.aload_n 0, 1) := by decide +kernel
theorem dX16_readModule_33 : decode cX16_readModule 33 = .ok (.getfield 522, 3) := by decide +kernel
theorem dX16_readModule_36 : decode cX16_readModule 36 = .ok (.istore_n 3, 1) := by decide +kernel
theorem dX16_readModule_37 : decode cX16_readModule 37 = .ok (.aload_n 0, 1) := by decide +kernel
theorem dX16_readModule_38 : decode cX16_readModule 38 = .ok (.bipush 9, 2) := by decide +kernel
theorem dX16_readModule_40 : decode cX16_readModule 40 = .ok (.invokevirtual 333, 3) := by decide +kernel
theorem dX16_readModule_43 : decode cX16_readModule 43 = .ok (.ifCond .eq 32, 3) := by decide +kernel
theorem dX16_readModule_75 : decode cX16_readModule 75 = .ok (.aload_n 0, 1) := by decide +kernel
theorem dX16_readModule_76 : decode cX16_readModule 76 = .ok (.getfield 525, 3) := by decide +kernel
theorem dX16_readModule_79 : decode cX16_readModule 79 = .ok (.istore 4, 2) := by decide +kernel
theorem dX16_readModule_81 : decode cX16_readModule 81 = .ok (.aload_n 0, 1) := by decide +kernel
theorem dX16_readModule_82 : decode cX16_readModule 82 = .ok (.invokevirtual 282, 3) := by decide +kernel
theorem dX16_readModule_85 : decode cX16_readModule 85 = .ok (.ifCond .ne 40, 3) := by decide +kernel
theorem dX16_readModule_125 : decode cX16_readModule 125 = .ok (.aload_n 0, 1) := by decide +kernel
theorem dX16_readModule_126 : decode cX16_readModule 126 = .ok (.dup, 1) := by decide +kernel
theorem dX16_readModule_127 : decode cX16_readModule 127 = .ok (.getfield 519, 3) := by decide +kernel
theorem dX16_readModule_130 : decode cX16_readModule 130 = .ok (.iconst 1, 1) := by decide +kernel
theorem dX16_readModule_131 : decode cX16_readModule 131 = .ok (.iadd, 1) := by decide +kernel
theorem dX16_readModule_132 : decode cX16_readModule 132 = .ok (.putfield 519, 3) := by decide +kernel
theorem dX16_readModule_135 : decode cX16_readModule 135 = .ok (.aload_n 0, 1) := by decide +kernel
theorem dX16_readModule_136 : decode cX16_readModule 136 = .ok (.getfield 525, 3) := by decide +kernel
theorem dX16_readModule_139 : decode cX16_readModule 139 = .ok (.iload 4, 2) := by decide +kernel
