theorem dX16_nameOf_34 : decode cX16_nameOf 34 = .ok (.aload_n 1, 1) := by decide +kernel
theorem dX16_nameOf_35 : decode cX16_nameOf 35 = .ok (.invokevirtual 104, 3) := by decide +kernel
theorem dX16_nameOf_38 : decode cX16_nameOf 38 = .ok (.invokevirtual 262, 3) := by decide +kernel
theorem dX16_nameOf_41 : decode cX16_nameOf 41 = .ok (.ireturn, 1) := by decide +kernel
theorem dX16_fail_0 : decode cX16_fail 0 = .ok (.aload_n 0, 1) := by decide +kernel
theorem dX16_fail_1 : decode cX16_fail 1 = .ok (.getfield 267, 3) := by decide +kernel
theorem dX16_fail_4 : decode cX16_fail 4 = .ok (.iconst (-1), 1) := by decide +kernel
theorem dX16_fail_5 : decode cX16_fail 5 = .ok (.if_icmp .ne 8, 3) := by decide +kernel
theorem dX16_fail_8 : decode cX16_fail 8 = .ok (.aload_n 0, 1) := by decide +kernel
theorem dX16_fail_9 : decode cX16_fail 9 = .ok (.iload_n 1, 1) := by decide +kernel
theorem dX16_fail_10 : decode cX16_fail 10 = .ok (.putfield 267, 3) := by decide +kernel
theorem dX16_fail_13 : decode cX16_fail 13 = .ok (.return_, 1) := by decide +kernel
theorem dX16_bad_0 : decode cX16_bad 0 = .ok (.aload_n 0, 1) := by decide +kernel
theorem dX16_bad_1 : decode cX16_bad 1 = .ok (.getfield 267, 3) := by decide +kernel
theorem dX16_bad_4 : decode cX16_bad 4 = .ok (.iconst (-1), 1) := by decide +kernel
theorem dX16_bad_5 : decode cX16_bad 5 = .ok (.if_icmp .eq 7, 3) := by decide +kernel
theorem dX16_bad_8 : decode cX16_bad 8 = .ok (.iconst 1, 1) := by decide +kernel
theorem dX16_bad_9 : decode cX16_bad 9 = .ok (.goto 4, 3) := by decide +kernel
theorem dX16_bad_12 : decode cX16_bad 12 = .ok (.iconst 0, 1) := by decide +kernel
theorem dX16_bad_13 : decode cX16_bad 13 = .ok (.ireturn, 1) := by decide +kernel
theorem dX16_begin_0 : decode cX16_begin 0 = .ok (.aload_n 0, 1) := by decide +kernel
theorem dX16_begin_1 : decode cX16_begin 1 = .ok (.aload_n 1, 1) := by decide +kernel
theorem dX16_begin_2 : decode cX16_begin 2 = .ok (.putfield 270, 3) := by decide +kernel
theorem dX16_begin_5 : decode cX16_begin 5 = .ok (.aload_n 0, 1) := by decide +kernel
theorem dX16_begin_6 : decode cX16_begin 6 = .ok (.iload_n 2, 1) := by decide +kernel
theorem dX16_begin_7 : decode cX16_begin 7 = .ok (.putfield 273, 3) := by decide +kernel
theorem dX16_begin_10 : decode cX16_begin 10 = .ok (.aload_n 0, 1) := by decide +kernel
theorem dX16_begin_11 : decode cX16_begin 11 = .ok (.iconst (-1), 1) := by decide +kernel
theorem dX16_begin_12 : decode cX16_begin 12 = .ok (.putfield 267, 3) := by decide +kernel
theorem dX16_begin_15 : decode cX16_begin 15 = .ok (.aload_n 0, 1) := by decide +kernel
theorem dX16_begin_16 : decode cX16_begin 16 = .ok (.iconst 0, 1) := by decide +kernel
theorem dX16_begin_17 : decode cX16_begin 17 = .ok (.putfield 276, 3) := by decide +kernel
theorem dX16_begin_20 : decode cX16_begin 20 = .ok (.aload_n 0, 1) := by decide +kernel
theorem dX16_begin_21 : decode cX16_begin 21 = .ok (.invokevirtual 279, 3) := by decide +kernel
theorem dX16_begin_24 : decode cX16_begin 24 = .ok (.return_, 1) := by decide +kernel
theorem dX16_lex_0 : decode cX16_lex 0 = .ok (.aload_n 0, 1) := by decide +kernel
theorem dX16_lex_1 : decode cX16_lex 1 = .ok (.getfield 276, 3) := by decide +kernel
theorem dX16_lex_4 : decode cX16_lex 4 = .ok (.istore_n 1, 1) := by decide +kernel
theorem dX16_lex_5 : decode cX16_lex 5 = .ok (.aload_n 0, 1) := by decide +kernel
theorem dX16_lex_6 : decode cX16_lex 6 = .ok (.iconst 0, 1) := by decide +kernel
theorem dX16_lex_7 : decode cX16_lex 7 = .ok (.putfield 291, 3) := by decide +kernel
theorem dX16_lex_10 : decode cX16_lex 10 = .ok (.aload_n 0, 1) := by decide +kernel
theorem dX16_lex_11 : decode cX16_lex 11 = .ok (.iconst 0, 1) := by decide +kernel
theorem dX16_lex_12 : decode cX16_lex 12 = .ok (.putfield 295, 3) := by decide +kernel
theorem dX16_lex_15 : decode cX16_lex 15 = .ok (.aload_n 0, 1) := by decide +kernel
theorem dX16_lex_16 : decode cX16_lex 16 = .ok (.getfield 270, 3) := by decide +kernel
theorem dX16_lex_19 : decode cX16_lex 19 = .ok (.iload_n 1, 1) := by decide +kernel
theorem dX16_lex_20 : decode cX16_lex 20 = .ok (.aload_n 0, 1) := by decide +kernel
theorem dX16_lex_21 : decode cX16_lex 21 = .ok (.getfield 273, 3) := by decide +kernel
theorem dX16_lex_24 : decode cX16_lex 24 = .ok (.invokestatic 29, 3) := by decide +kernel
theorem dX16_lex_27 : decode cX16_lex 27 = .ok (.istore_n 2, 1) := by decide +kernel
theorem dX16_lex_28 : decode cX16_lex 28 = .ok (.iload_n 2, 1) := by decide +kernel
theorem dX16_lex_29 : decode cX16_lex 29 = .ok (.bipush 9, 2) := by decide +kernel
theorem dX16_lex_31 : decode cX16_lex 31 = .ok (.if_icmp .eq 27, 3) := by decide +kernel
theorem dX16_lex_34 : decode cX16_lex 34 = .ok (.iload_n 2, 1) := by decide +kernel
theorem dX16_lex_35 : decode cX16_lex 35 = .ok (.bipush 10, 2) := by decide +kernel
theorem dX16_lex_37 : decode cX16_lex 37 = .ok (.if_icmp .eq 21, 3) := by decide +kernel
theorem dX16_lex_40 : decode cX16_lex 40 = .ok (.iload_n 2, 1) := by decide +kernel
theorem dX16_lex_41 : decode cX16_lex 41 = .ok (.bipush 13, 2) := by decide +kernel
theorem dX16_lex_43 : decode cX16_lex 43 = .ok (.if_icmp .eq 15, 3) := by decide +kernel
theorem dX16_lex_46 : decode cX16_lex 46 = .ok (.iload_n 2, 1) := by decide +kernel
theorem dX16_lex_47 : decode cX16_lex 47 = .ok (.bipush 32, 2) := by decide +kernel
theorem dX16_lex_49 : decode cX16_lex 49 = .ok (.if_icmp .eq 9, 3) := by decide +kernel
theorem dX16_lex_52 : decode cX16_lex 52 = .ok (.iload_n 2, 1) := by decide +kernel
theorem dX16_lex_53 : decode cX16_lex 53 = .ok (.bipush 35, 2) := by decide +kernel
theorem dX16_lex_55 : decode cX16_lex 55 = .ok (.if_icmp .ne 80, 3) := by decide +kernel
theorem dX16_lex_135 : decode cX16_lex 135 = .ok (.aload_n 0, 1) := by decide +kernel
theorem dX16_lex_136 : decode cX16_lex 136 = .ok (.iload_n 1, 1) := by decide +kernel
theorem dX16_lex_137 : decode cX16_lex 137 = .ok (.putfield 298, 3) := by decide +kernel
theorem dX16_lex_140 : decode cX16_lex 140 = .ok (.aload_n 0, 1) := by decide +kernel
theorem dX16_lex_141 : decode cX16_lex 141 = .ok (.iconst (-1), 1) := by decide +kernel
theorem dX16_lex_142 : decode cX16_lex 142 = .ok (.putfield 285, 3) := by decide +kernel
theorem dX16_lex_145 : decode cX16_lex 145 = .ok (.aload_n 0, 1) := by decide +kernel
theorem dX16_lex_146 : decode cX16_lex 146 = .ok (.iconst (-1), 1) := by decide +kernel
theorem dX16_lex_147 : decode cX16_lex 147 = .ok (.putfield 25, 3) := by decide +kernel
theorem dX16_lex_150 : decode cX16_lex 150 = .ok (.iload_n 2, 1) := by decide +kernel
theorem dX16_lex_151 : decode cX16_lex 151 = .ok (.iconst (-1), 1) := by decide +kernel
theorem dX16_lex_152 : decode cX16_lex 152 = .ok (.if_icmp .ne 16, 3) := by decide +kernel
theorem dX16_lex_155 : decode cX16_lex 155 = .ok (.aload_n 0, 1) := by decide +kernel
theorem dX16_lex_156 : decode cX16_lex 156 = .ok (.iconst 0, 1) := by decide +kernel
theorem dX16_lex_157 : decode cX16_lex 157 = .ok (.putfield 301, 3) := by decide +kernel
theorem dX16_lex_160 : decode cX16_lex 160 = .ok (.aload_n 0, 1) := by decide +kernel
theorem dX16_lex_161 : decode cX16_lex 161 = .ok (.iload_n 1, 1) := by decide +kernel
theorem dX16_lex_162 : decode cX16_lex 162 = .ok (.putfield 276, 3) := by decide +kernel
theorem dX16_lex_165 : decode cX16_lex 165 = .ok (.goto 114, 3) := by decide +kernel
theorem dX16_lex_279 : decode cX16_lex 279 = .ok (.return_, 1) := by decide +kernel
theorem dX16_isSign_0 : decode cX16_isSign 0 = .ok (.aload_n 0, 1) := by decide +kernel
theorem dX16_isSign_1 : decode cX16_isSign 1 = .ok (.invokevirtual 282, 3) := by decide +kernel
theorem dX16_isSign_4 : decode cX16_isSign 4 = .ok (.ifCond .ne 24, 3) := by decide +kernel
theorem dX16_isSign_7 : decode cX16_isSign 7 = .ok (.aload_n 0, 1) := by decide +kernel
theorem dX16_isSign_8 : decode cX16_isSign 8 = .ok (.getfield 301, 3) := by decide +kernel
theorem dX16_isSign_11 : decode cX16_isSign 11 = .ok (.bipush 6, 2) := by decide +kernel
theorem dX16_isSign_13 : decode cX16_isSign 13 = .ok (.if_icmp .ne 15, 3) := by decide +kernel
theorem dX16_isSign_28 : decode cX16_isSign 28 = .ok (.iconst 0, 1) := by decide +kernel
theorem dX16_isSign_29 : decode cX16_isSign 29 = .ok (.ireturn, 1) := by decide +kernel
theorem dX16_isKey_0 : decode cX16_isKey 0 = .ok (.aload_n 0, 1) := by decide +kernel
theorem dX16_isKey_1 : decode cX16_isKey 1 = .ok (.invokevirtual 282, 3) := by decide +kernel
theorem dX16_isKey_4 : decode cX16_isKey 4 = .ok (.ifCond .ne 23, 3) := by decide +kernel
theorem dX16_isKey_7 : decode cX16_isKey 7 = .ok (.aload_n 0, 1) := by decide +kernel
theorem dX16_isKey_8 : decode cX16_isKey 8 = .ok (.getfield 301, 3) := by decide +kernel
theorem dX16_isKey_11 : decode cX16_isKey 11 = .ok (.iconst 3, 1) := by decide +kernel
theorem dX16_isKey_12 : decode cX16_isKey 12 = .ok (.if_icmp .ne 15, 3) := by decide +kernel
theorem dX16_isKey_27 : decode cX16_isKey 27 = .ok (.iconst 0, 1) := by decide +kernel
theorem dX16_isKey_28 : decode cX16_isKey 28 = .ok (.ireturn, 1) := by decide +kernel
theorem dX16_isName_0 : decode cX16_isName 0 = .ok (.aload_n 0, 1) := by decide +kernel
theorem dX16_isName_1 : decode cX16_isName 1 = .ok (.invokevirtual 282, 3) := by decide +kernel
theorem dX16_isName_4 : decode cX16_isName 4 = .ok (.ifCond .ne 15, 3) := by decide +kernel
theorem dX16_isName_7 : decode cX16_isName 7 = .ok (.aload_n 0, 1) := by decide +kernel
theorem dX16_isName_8 : decode cX16_isName 8 = .ok (.getfield 301, 3) := by decide +kernel
theorem dX16_isName_11 : decode cX16_isName 11 = .ok (.iconst 2, 1) := by decide +kernel
theorem dX16_isName_12 : decode cX16_isName 12 = .ok (.if_icmp .ne 7, 3) := by decide +kernel
theorem dX16_isName_19 : decode cX16_isName 19 = .ok (.iconst 0, 1) := by decide +kernel
theorem dX16_isName_20 : decode cX16_isName 20 = .ok (.ireturn, 1) := by decide +kernel
theorem dX16_needKey_0 : decode cX16_needKey 0 = .ok (.aload_n 0, 1) := by decide +kernel
theorem dX16_needKey_1 : decode cX16_needKey 1 = .ok (.iload_n 1, 1) := by decide +kernel
theorem dX16_needKey_2 : decode cX16_needKey 2 = .ok (.invokevirtual 333, 3) := by decide +kernel
theorem dX16_needKey_5 : decode cX16_needKey 5 = .ok (.ifCond .eq 10, 3) := by decide +kernel
theorem dX16_needKey_15 : decode cX16_needKey 15 = .ok (.aload_n 0, 1) := by decide +kernel
theorem dX16_needKey_16 : decode cX16_needKey 16 = .ok (.aload_n 0, 1) := by decide +kernel
theorem dX16_needKey_17 : decode cX16_needKey 17 = .ok (.getfield 298, 3) := by decide +kernel
theorem dX16_needKey_20 : decode cX16_needKey 20 = .ok (.invokevirtual 288, 3) := by decide +kernel
theorem dX16_needKey_23 : decode cX16_needKey 23 = .ok (.return_, 1) := by decide +kernel
theorem dX16_node_0 : decode cX16_node 0 = .ok (.aload_n 0, 1) := by decide +kernel
theorem dX16_node_1 : decode cX16_node 1 = .ok (.getfield 336, 3) := by decide +kernel
theorem dX16_node_4 : decode cX16_node 4 = .ok (.aload_n 0, 1) := by decide +kernel
theorem dX16_node_5 : decode cX16_node 5 = .ok (.getfield 338, 3) := by decide +kernel
theorem dX16_node_8 : decode cX16_node 8 = .ok (.iload_n 1, 1) := by decide +kernel
theorem dX16_node_9 : decode cX16_node 9 = .ok (.iastore, 1) := by decide +kernel
theorem dX16_node_10 : decode cX16_node 10 = .ok (.aload_n 0, 1) := by decide +kernel
theorem dX16_node_11 : decode cX16_node 11 = .ok (.getfield 341, 3) := by decide +kernel
theorem dX16_node_14 : decode cX16_node 14 = .ok (.aload_n 0, 1) := by decide +kernel
theorem dX16_node_15 : decode cX16_node 15 = .ok (.getfield 338, 3) := by decide +kernel
theorem dX16_node_18 : decode cX16_node 18 = .ok (.iload_n 2, 1) := by decide +kernel
theorem dX16_node_19 : decode cX16_node 19 = .ok (.iastore, 1) := by decide +kernel
theorem dX16_node_20 : decode cX16_node 20 = .ok (.aload_n 0, 1) := by decide +kernel
theorem dX16_node_21 : decode cX16_node 21 = .ok (.getfield 344, 3) := by decide +kernel
theorem dX16_node_24 : decode cX16_node 24 = .ok (.aload_n 0, 1) := by decide +kernel
theorem dX16_node_25 : decode cX16_node 25 = .ok (.getfield 338, 3) := by decide +kernel
theorem dX16_node_28 : decode cX16_node 28 = .ok (.iload_n 3, 1) := by decide +kernel
theorem dX16_node_29 : decode cX16_node 29 = .ok (.iastore, 1) := by decide +kernel
theorem dX16_node_30 : decode cX16_node 30 = .ok (.aload_n 0, 1) := by decide +kernel
theorem dX16_node_31 : decode cX16_node 31 = .ok (.getfield 347, 3) := by decide +kernel
theorem dX16_node_34 : decode cX16_node 34 = .ok (.aload_n 0, 1) := by decide +kernel
theorem dX16_node_35 : decode cX16_node 35 = .ok (.getfield 338, 3) := by decide +kernel
theorem dX16_node_38 : decode cX16_node 38 = .ok (.iload 4, 2) := by decide +kernel
theorem dX16_node_40 : decode cX16_node 40 = .ok (.iastore, 1) := by decide +kernel
theorem dX16_node_41 : decode cX16_node 41 = .ok (.aload_n 0, 1) := by decide +kernel
theorem dX16_node_42 : decode cX16_node 42 = .ok (.getfield 350, 3) := by decide +kernel
theorem dX16_node_45 : decode cX16_node 45 = .ok (.aload_n 0, 1) := by decide +kernel
theorem dX16_node_46 : decode cX16_node 46 = .ok (.getfield 338, 3) := by decide +kernel
theorem dX16_node_49 : decode cX16_node 49 = .ok (.iload 5, 2) := by decide +kernel
theorem dX16_node_51 : decode cX16_node 51 = .ok (.iastore, 1) := by decide +kernel
theorem dX16_node_52 : decode cX16_node 52 = .ok (.aload_n 0, 1) := by decide +kernel
theorem dX16_node_53 : decode cX16_node 53 = .ok (.getfield 353, 3) := by decide +kernel
theorem dX16_node_56 : decode cX16_node 56 = .ok (.aload_n 0, 1) := by decide +kernel
theorem dX16_node_57 : decode cX16_node 57 = .ok (.getfield 338, 3) := by decide +kernel
theorem dX16_node_60 : decode cX16_node 60 = .ok (.iconst (-1), 1) := by decide +kernel
theorem dX16_node_61 : decode cX16_node 61 = .ok (.iastore, 1) := by decide +kernel
theorem dX16_node_62 : decode cX16_node 62 = .ok (.aload_n 0, 1) := by decide +kernel
theorem dX16_node_63 : decode cX16_node 63 = .ok (.dup, 1) := by decide +kernel
theorem dX16_node_64 : decode cX16_node 64 = .ok (.getfield 338, 3) := by decide +kernel
theorem dX16_node_67 : decode cX16_node 67 = .ok (.iconst 1, 1) := by decide +kernel
theorem dX16_node_68 : decode cX16_node 68 = .ok (.iadd, 1) := by decide +kernel
theorem dX16_node_69 : decode cX16_node 69 = .ok (.putfield 338, 3) := by decide +kernel
theorem dX16_node_72 : decode cX16_node 72 = .ok (.aload_n 0, 1) := by decide +kernel
theorem dX16_node_73 : decode cX16_node 73 = .ok (.getfield 338, 3) := by decide +kernel
theorem dX16_node_76 : decode cX16_node 76 = .ok (.iconst 1, 1) := by decide +kernel
theorem dX16_node_77 : decode cX16_node 77 = .ok (.isub, 1) := by decide +kernel
theorem dX16_node_78 : decode cX16_node 78 = .ok (.ireturn, 1) := by decide +kernel
theorem dX16_hang_0 : decode cX16_hang 0 = .ok (.iload_n 1, 1) := by decide +kernel
theorem dX16_hang_1 : decode cX16_hang 1 = .ok (.iconst (-1), 1) := by decide +kernel
theorem dX16_hang_2 : decode cX16_hang 2 = .ok (.if_icmp .eq 15, 3) := by decide +kernel
theorem dX16_hang_17 : decode cX16_hang 17 = .ok (.iload_n 2, 1) := by decide +kernel
theorem dX16_hang_18 : decode cX16_hang 18 = .ok (.ireturn, 1) := by decide +kernel
theorem dX16_path_0 : decode cX16_path 0 = .ok (.iconst (-1), 1) := by decide +kernel
theorem dX16_path_1 : decode cX16_path 1 = .ok (.istore_n 1, 1) := by decide +kernel
theorem dX16_path_2 : decode cX16_path 2 = .ok (.iconst (-1), 1) := by decide +kernel
theorem dX16_path_3 : decode cX16_path 3 = .ok (.istore_n 2, 1) := by decide +kernel
theorem dX16_path_4 : decode cX16_path 4 = .ok (.iconst 0, 1) := by decide +kernel
theorem dX16_path_5 : decode cX16_path 5 = .ok (.istore_n 3, 1) := by decide +kernel
theorem dX16_path_6 : decode cX16_path 6 = .ok (.iload_n 3, 1) := by decide +kernel
theorem dX16_path_7 : decode cX16_path 7 = .ok (.bipush 6, 2) := by decide +kernel
theorem dX16_path_9 : decode cX16_path 9 = .ok (.if_icmp .ge 86, 3) := by decide +kernel
theorem dX16_path_12 : decode cX16_path 12 = .ok (.aload_n 0, 1) := by decide +kernel
theorem dX16_path_13 : decode cX16_path 13 = .ok (.invokevirtual 382, 3) := by decide +kernel
theorem dX16_path_16 : decode cX16_path 16 = .ok (.ifCond .eq 10, 3) := by decide +kernel
theorem dX16_path_26 : decode cX16_path 26 = .ok (.aload_n 0, 1) := by decide +kernel
theorem dX16_path_27 : decode cX16_path 27 = .ok (.aload_n 0, 1) := by decide +kernel
theorem dX16_path_28 : decode cX16_path 28 = .ok (.getfield 298, 3) := by decide +kernel
theorem dX16_path_31 : decode cX16_path 31 = .ok (.invokevirtual 288, 3) := by decide +kernel
theorem dX16_path_34 : decode cX16_path 34 = .ok (.iload_n 1, 1) := by decide +kernel
theorem dX16_path_35 : decode cX16_path 35 = .ok (.ireturn, 1) := by decide +kernel
theorem dX16_term_0 : decode cX16_term 0 = .ok (.aload_n 0, 1) := by decide +kernel
theorem dX16_term_1 : decode cX16_term 1 = .ok (.invokevirtual 282, 3) := by decide +kernel
theorem dX16_term_4 : decode cX16_term 4 = .ok (.ifCond .eq 5, 3) := by decide +kernel
theorem dX16_term_9 : decode cX16_term 9 = .ok (.aload_n 0, 1) := by decide +kernel
theorem dX16_term_10 : decode cX16_term 10 = .ok (.getfield 298, 3) := by decide +kernel
theorem dX16_term_13 : decode cX16_term 13 = .ok (.istore_n 1, 1) := by decide +kernel
theorem dX16_term_14 : decode cX16_term 14 = .ok (.aload_n 0, 1) := by decide +kernel
theorem dX16_term_15 : decode cX16_term 15 = .ok (.getfield 301, 3) := by decide +kernel
theorem dX16_term_18 : decode cX16_term 18 = .ok (.iconst 3, 1) := by decide +kernel
theorem dX16_term_19 : decode cX16_term 19 = .ok (.if_icmp .ne 52, 3) := by decide +kernel
theorem dX16_term_71 : decode cX16_term 71 = .ok (.aload_n 0, 1) := by decide +kernel
theorem dX16_term_72 : decode cX16_term 72 = .ok (.getfield 301, 3) := by decide +kernel
theorem dX16_term_75 : decode cX16_term 75 = .ok (.iconst 4, 1) := by decide +kernel
theorem dX16_term_76 : decode cX16_term 76 = .ok (.if_icmp .eq 11, 3) := by decide +kernel
theorem dX16_term_79 : decode cX16_term 79 = .ok (.aload_n 0, 1) := by decide +kernel
theorem dX16_term_80 : decode cX16_term 80 = .ok (.getfield 301, 3) := by decide +kernel
theorem dX16_term_83 : decode cX16_term 83 = .ok (.iconst 5, 1) := by decide +kernel
theorem dX16_term_84 : decode cX16_term 84 = .ok (.if_icmp .ne 10, 3) := by decide +kernel
theorem dX16_term_94 : decode cX16_term 94 = .ok (.aload_n 0, 1) := by decide +kernel
theorem dX16_term_95 : decode cX16_term 95 = .ok (.bipush 45, 2) := by decide +kernel
theorem dX16_term_97 : decode cX16_term 97 = .ok (.invokevirtual 327, 3) := by decide +kernel
theorem dX16_term_100 : decode cX16_term 100 = .ok (.ifCond .eq 42, 3) := by decide +kernel
theorem dX16_term_142 : decode cX16_term 142 = .ok (.aload_n 0, 1) := by decide +kernel
theorem dX16_term_143 : decode cX16_term 143 = .ok (.bipush 40, 2) := by decide +kernel
theorem dX16_term_145 : decode cX16_term 145 = .ok (.invokevirtual 327, 3) := by decide +kernel
theorem dX16_term_148 : decode cX16_term 148 = .ok (.ifCond .eq 45, 3) := by decide +kernel
theorem dX16_term_193 : decode cX16_term 193 = .ok (.aload_n 0, 1) := by decide +kernel
theorem dX16_term_194 : decode cX16_term 194 = .ok (.bipush 91, 2) := by decide +kernel
theorem dX16_term_196 : decode cX16_term 196 = .ok (.invokevirtual 327, 3) := by decide +kernel
theorem dX16_term_199 : decode cX16_term 199 = .ok (.ifCond .eq 9, 3) := by decide +kernel
theorem dX16_term_208 : decode cX16_term 208 = .ok (.aload_n 0, 1) := by decide +kernel
theorem dX16_term_209 : decode cX16_term 209 = .ok (.bipush 123, 2) := by decide +kernel
theorem dX16_term_211 : decode cX16_term 211 = .ok (.invokevirtual 327, 3) := by decide +kernel
theorem dX16_term_214 : decode cX16_term 214 = .ok (.ifCond .eq 9, 3) := by decide +kernel
theorem dX16_term_223 : decode cX16_term 223 = .ok (.aload_n 0, 1) := by decide +kernel
theorem dX16_term_224 : decode cX16_term 224 = .ok (.invokevirtual 382, 3) := by decide +kernel
theorem dX16_term_227 : decode cX16_term 227 = .ok (.ifCond .eq 24, 3) := by decide +kernel
theorem dX16_term_251 : decode cX16_term 251 = .ok (.aload_n 0, 1) := by decide +kernel
theorem dX16_term_252 : decode cX16_term 252 = .ok (.iload_n 1, 1) := by decide +kernel
theorem dX16_term_253 : decode cX16_term 253 = .ok (.invokevirtual 288, 3) := by decide +kernel
theorem dX16_term_256 : decode cX16_term 256 = .ok (.iconst (-1), 1) := by decide +kernel
theorem dX16_term_257 : decode cX16_term 257 = .ok (.ireturn, 1) := by decide +kernel
theorem dX16_isOf_0 : decode cX16_isOf 0 = .ok (.aload_n 0, 1) := by decide +kernel
theorem dX16_isOf_1 : decode cX16_isOf 1 = .ok (.invokevirtual 282, 3) := by decide +kernel
theorem dX16_isOf_4 : decode cX16_isOf 4 = .ok (.ifCond .ne 12, 3) := by decide +kernel
theorem dX16_isOf_16 : decode cX16_isOf 16 = .ok (.iconst 0, 1) := by decide +kernel
theorem dX16_isOf_17 : decode cX16_isOf 17 = .ok (.ireturn, 1) := by decide +kernel
theorem dX16_chain_0 : decode cX16_chain 0 = .ok (.aload_n 0, 1) := by decide +kernel
theorem dX16_chain_1 : decode cX16_chain 1 = .ok (.getfield 298, 3) := by decide +kernel
theorem dX16_chain_4 : decode cX16_chain 4 = .ok (.istore_n 2, 1) := by decide +kernel
theorem dX16_chain_5 : decode cX16_chain 5 = .ok (.iload_n 1, 1) := by decide +kernel
theorem dX16_chain_6 : decode cX16_chain 6 = .ok (.iconst 3, 1) := by decide +kernel
theorem dX16_chain_7 : decode cX16_chain 7 = .ok (.if_icmp .ne 10, 3) := by decide +kernel
theorem dX16_chain_10 : decode cX16_chain 10 = .ok (.aload_n 0, 1) := by decide +kernel
theorem dX16_chain_11 : decode cX16_chain 11 = .ok (.invokevirtual 411, 3) := by decide +kernel
theorem dX16_chain_14 : decode cX16_chain 14 = .ok (.goto 10, 3) := by decide +kernel
theorem dX16_chain_17 : decode cX16_chain 17 = .ok (.aload_n 0, 1) := by decide +kernel
theorem dX16_chain_18 : decode cX16_chain 18 = .ok (.iload_n 1, 1) := by decide +kernel
