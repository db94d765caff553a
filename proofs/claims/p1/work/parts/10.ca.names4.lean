theorem dX13_order_5 : decode cX13_order 5 = .ok (.astore_n 3, 1) := by decide +kernel
theorem dX13_order_6 : decode cX13_order 6 = .ok (.aload_n 3, 1) := by decide +kernel
theorem dX13_order_7 : decode cX13_order 7 = .ok (.ifnull 16, 3) := by decide +kernel
theorem dX13_order_23 : decode cX13_order 23 = .ok (.iconst (-1), 1) := by decide +kernel
theorem dX13_order_24 : decode cX13_order 24 = .ok (.goto 9, 3) := by decide +kernel
theorem dX13_order_33 : decode cX13_order 33 = .ok (.ireturn, 1) := by decide +kernel
theorem dX13_count_0 : decode cX13_count 0 = .ok (.iload_n 1, 1) := by decide +kernel
theorem dX13_count_1 : decode cX13_count 1 = .ok (.tableswitch 135 0 6 #[43, 48, 56, 90, 102, 125, 130], 43) := by decide +kernel
theorem dX13_count_44 : decode cX13_count 44 = .ok (.aload_n 0, 1) := by decide +kernel
theorem dX13_count_45 : decode cX13_count 45 = .ok (.getfield 83, 3) := by decide +kernel
theorem dX13_count_48 : decode cX13_count 48 = .ok (.ireturn, 1) := by decide +kernel
theorem dX13_count_49 : decode cX13_count 49 = .ok (.aload_n 0, 1) := by decide +kernel
theorem dX13_count_50 : decode cX13_count 50 = .ok (.getfield 152, 3) := by decide +kernel
theorem dX13_count_53 : decode cX13_count 53 = .ok (.getfield 198, 3) := by decide +kernel
theorem dX13_count_56 : decode cX13_count 56 = .ok (.ireturn, 1) := by decide +kernel
theorem dX13_count_57 : decode cX13_count 57 = .ok (.iconst 0, 1) := by decide +kernel
theorem dX13_count_58 : decode cX13_count 58 = .ok (.istore_n 2, 1) := by decide +kernel
theorem dX13_count_59 : decode cX13_count 59 = .ok (.iconst 0, 1) := by decide +kernel
theorem dX13_count_60 : decode cX13_count 60 = .ok (.istore_n 3, 1) := by decide +kernel
theorem dX13_count_61 : decode cX13_count 61 = .ok (.iload_n 3, 1) := by decide +kernel
theorem dX13_count_62 : decode cX13_count 62 = .ok (.iconst 4, 1) := by decide +kernel
theorem dX13_count_63 : decode cX13_count 63 = .ok (.if_icmp .ge 26, 3) := by decide +kernel
theorem dX13_count_66 : decode cX13_count 66 = .ok (.iload_n 2, 1) := by decide +kernel
theorem dX13_count_67 : decode cX13_count 67 = .ok (.aload_n 0, 1) := by decide +kernel
theorem dX13_count_68 : decode cX13_count 68 = .ok (.getfield 92, 3) := by decide +kernel
theorem dX13_count_71 : decode cX13_count 71 = .ok (.iload_n 3, 1) := by decide +kernel
theorem dX13_count_72 : decode cX13_count 72 = .ok (.aaload, 1) := by decide +kernel
theorem dX13_count_73 : decode cX13_count 73 = .ok (.ifnonnull 7, 3) := by decide +kernel
theorem dX13_count_76 : decode cX13_count 76 = .ok (.iconst 0, 1) := by decide +kernel
theorem dX13_count_77 : decode cX13_count 77 = .ok (.goto 4, 3) := by decide +kernel
theorem dX13_count_81 : decode cX13_count 81 = .ok (.iadd, 1) := by decide +kernel
theorem dX13_count_82 : decode cX13_count 82 = .ok (.istore_n 2, 1) := by decide +kernel
theorem dX13_count_83 : decode cX13_count 83 = .ok (.iinc 3 1, 3) := by decide +kernel
theorem dX13_count_86 : decode cX13_count 86 = .ok (.goto (-25), 3) := by decide +kernel
theorem dX13_count_89 : decode cX13_count 89 = .ok (.iload_n 2, 1) := by decide +kernel
theorem dX13_count_90 : decode cX13_count 90 = .ok (.ireturn, 1) := by decide +kernel
theorem dX13_count_91 : decode cX13_count 91 = .ok (.aload_n 0, 1) := by decide +kernel
theorem dX13_count_92 : decode cX13_count 92 = .ok (.getfield 10, 3) := by decide +kernel
theorem dX13_count_95 : decode cX13_count 95 = .ok (.aload_n 0, 1) := by decide +kernel
theorem dX13_count_96 : decode cX13_count 96 = .ok (.getfield 140, 3) := by decide +kernel
theorem dX13_count_99 : decode cX13_count 99 = .ok (.invokevirtual 228, 3) := by decide +kernel
theorem dX13_count_102 : decode cX13_count 102 = .ok (.ireturn, 1) := by decide +kernel
theorem dX13_count_103 : decode cX13_count 103 = .ok (.aload_n 0, 1) := by decide +kernel
theorem dX13_count_104 : decode cX13_count 104 = .ok (.getfield 99, 3) := by decide +kernel
theorem dX13_count_107 : decode cX13_count 107 = .ok (.ifCond .ne 7, 3) := by decide +kernel
theorem dX13_count_110 : decode cX13_count 110 = .ok (.iconst 0, 1) := by decide +kernel
theorem dX13_count_111 : decode cX13_count 111 = .ok (.goto 14, 3) := by decide +kernel
theorem dX13_count_125 : decode cX13_count 125 = .ok (.ireturn, 1) := by decide +kernel
theorem dX13_count_126 : decode cX13_count 126 = .ok (.aload_n 0, 1) := by decide +kernel
theorem dX13_count_127 : decode cX13_count 127 = .ok (.getfield 70, 3) := by decide +kernel
theorem dX13_count_130 : decode cX13_count 130 = .ok (.ireturn, 1) := by decide +kernel
theorem dX13_count_131 : decode cX13_count 131 = .ok (.aload_n 0, 1) := by decide +kernel
theorem dX13_count_132 : decode cX13_count 132 = .ok (.getfield 112, 3) := by decide +kernel
theorem dX13_count_135 : decode cX13_count 135 = .ok (.ireturn, 1) := by decide +kernel
theorem dX13_count_136 : decode cX13_count 136 = .ok (.iconst (-1), 1) := by decide +kernel
theorem dX13_count_137 : decode cX13_count 137 = .ok (.ireturn, 1) := by decide +kernel
theorem dL_rule_0 : decode cL_rule 0 = .ok (.aload_n 3, 1) := by decide +kernel
theorem dL_rule_1 : decode cL_rule 1 = .ok (.iconst 0, 1) := by decide +kernel
theorem dL_rule_2 : decode cL_rule 2 = .ok (.aload_n 0, 1) := by decide +kernel
theorem dL_rule_3 : decode cL_rule 3 = .ok (.iload_n 1, 1) := by decide +kernel
theorem dL_rule_4 : decode cL_rule 4 = .ok (.iload_n 2, 1) := by decide +kernel
theorem dL_rule_5 : decode cL_rule 5 = .ok (.invokevirtual 7, 3) := by decide +kernel
theorem dL_rule_13 : decode cL_rule 13 = .ok (.astore 4, 2) := by decide +kernel
theorem dL_rule_15 : decode cL_rule 15 = .ok (.iconst 1, 1) := by decide +kernel
theorem dL_rule_16 : decode cL_rule 16 = .ok (.ireturn, 1) := by decide +kernel
