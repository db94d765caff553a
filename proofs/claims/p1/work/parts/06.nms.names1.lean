theorem dX6_nodeOf_4 : decode cX6_nodeOf 4 = .ok (.istore 5, 2) := by decide +kernel
theorem dX6_nodeOf_6 : decode cX6_nodeOf 6 = .ok (.iload_n 2, 1) := by decide +kernel
theorem dX6_nodeOf_7 : decode cX6_nodeOf 7 = .ok (.istore 6, 2) := by decide +kernel
theorem dX6_nodeOf_9 : decode cX6_nodeOf 9 = .ok (.iload 6, 2) := by decide +kernel
theorem dX6_nodeOf_11 : decode cX6_nodeOf 11 = .ok (.iload_n 3, 1) := by decide +kernel
theorem dX6_nodeOf_12 : decode cX6_nodeOf 12 = .ok (.if_icmp .gt 49, 3) := by decide +kernel
theorem dX6_nodeOf_15 : decode cX6_nodeOf 15 = .ok (.iload 6, 2) := by decide +kernel
theorem dX6_nodeOf_17 : decode cX6_nodeOf 17 = .ok (.iload_n 3, 1) := by decide +kernel
theorem dX6_nodeOf_18 : decode cX6_nodeOf 18 = .ok (.if_icmp .eq 14, 3) := by decide +kernel
theorem dX6_nodeOf_21 : decode cX6_nodeOf 21 = .ok (.aload_n 1, 1) := by decide +kernel
theorem dX6_nodeOf_22 : decode cX6_nodeOf 22 = .ok (.iload 6, 2) := by decide +kernel
theorem dX6_nodeOf_24 : decode cX6_nodeOf 24 = .ok (.invokevirtual 81, 3) := by decide +kernel
theorem dX6_nodeOf_27 : decode cX6_nodeOf 27 = .ok (.bipush 46, 2) := by decide +kernel
theorem dX6_nodeOf_29 : decode cX6_nodeOf 29 = .ok (.if_icmp .ne 26, 3) := by decide +kernel
theorem dX6_nodeOf_32 : decode cX6_nodeOf 32 = .ok (.aload_n 0, 1) := by decide +kernel
theorem dX6_nodeOf_33 : decode cX6_nodeOf 33 = .ok (.iload 4, 2) := by decide +kernel
theorem dX6_nodeOf_35 : decode cX6_nodeOf 35 = .ok (.aload_n 0, 1) := by decide +kernel
theorem dX6_nodeOf_36 : decode cX6_nodeOf 36 = .ok (.aload_n 1, 1) := by decide +kernel
theorem dX6_nodeOf_37 : decode cX6_nodeOf 37 = .ok (.iload 5, 2) := by decide +kernel
theorem dX6_nodeOf_39 : decode cX6_nodeOf 39 = .ok (.iload 6, 2) := by decide +kernel
theorem dX6_nodeOf_41 : decode cX6_nodeOf 41 = .ok (.invokevirtual 54, 3) := by decide +kernel
theorem dX6_nodeOf_44 : decode cX6_nodeOf 44 = .ok (.invokevirtual 95, 3) := by decide +kernel
theorem dX6_nodeOf_47 : decode cX6_nodeOf 47 = .ok (.istore 4, 2) := by decide +kernel
theorem dX6_nodeOf_49 : decode cX6_nodeOf 49 = .ok (.iload 6, 2) := by decide +kernel
theorem dX6_nodeOf_51 : decode cX6_nodeOf 51 = .ok (.iconst 1, 1) := by decide +kernel
theorem dX6_nodeOf_52 : decode cX6_nodeOf 52 = .ok (.iadd, 1) := by decide +kernel
theorem dX6_nodeOf_53 : decode cX6_nodeOf 53 = .ok (.istore 5, 2) := by decide +kernel
theorem dX6_nodeOf_55 : decode cX6_nodeOf 55 = .ok (.iinc 6 1, 3) := by decide +kernel
theorem dX6_nodeOf_58 : decode cX6_nodeOf 58 = .ok (.goto (-49), 3) := by decide +kernel
theorem dX6_nodeOf_61 : decode cX6_nodeOf 61 = .ok (.iload 4, 2) := by decide +kernel
theorem dX6_nodeOf_63 : decode cX6_nodeOf 63 = .ok (.ireturn, 1) := by decide +kernel
theorem dX6_same_0 : decode cX6_same 0 = .ok (.aload_n 0, 1) := by decide +kernel
theorem dX6_same_1 : decode cX6_same 1 = .ok (.getfield 44, 3) := by decide +kernel
theorem dX6_same_4 : decode cX6_same 4 = .ok (.getfield 98, 3) := by decide +kernel
theorem dX6_same_7 : decode cX6_same 7 = .ok (.iload_n 1, 1) := by decide +kernel
theorem dX6_same_8 : decode cX6_same 8 = .ok (.iaload, 1) := by decide +kernel
theorem dX6_same_9 : decode cX6_same 9 = .ok (.iconst 4, 1) := by decide +kernel
theorem dX6_same_10 : decode cX6_same 10 = .ok (.iushr, 1) := by decide +kernel
theorem dX6_same_11 : decode cX6_same 11 = .ok (.iload 4, 2) := by decide +kernel
theorem dX6_same_13 : decode cX6_same 13 = .ok (.if_icmp .eq 5, 3) := by decide +kernel
theorem dX6_same_16 : decode cX6_same 16 = .ok (.iconst 0, 1) := by decide +kernel
theorem dX6_same_17 : decode cX6_same 17 = .ok (.ireturn, 1) := by decide +kernel
theorem dX6_same_18 : decode cX6_same 18 = .ok (.iconst 0, 1) := by decide +kernel
theorem dX6_same_19 : decode cX6_same 19 = .ok (.istore 5, 2) := by decide +kernel
theorem dX6_same_21 : decode cX6_same 21 = .ok (.iload 5, 2) := by decide +kernel
theorem dX6_same_23 : decode cX6_same 23 = .ok (.iload 4, 2) := by decide +kernel
theorem dX6_same_25 : decode cX6_same 25 = .ok (.if_icmp .ge 34, 3) := by decide +kernel
theorem dX6_same_28 : decode cX6_same 28 = .ok (.aload_n 0, 1) := by decide +kernel
theorem dX6_same_29 : decode cX6_same 29 = .ok (.getfield 44, 3) := by decide +kernel
theorem dX6_same_32 : decode cX6_same 32 = .ok (.getfield 98, 3) := by decide +kernel
theorem dX6_same_35 : decode cX6_same 35 = .ok (.iload_n 1, 1) := by decide +kernel
theorem dX6_same_36 : decode cX6_same 36 = .ok (.iconst 1, 1) := by decide +kernel
theorem dX6_same_37 : decode cX6_same 37 = .ok (.iadd, 1) := by decide +kernel
theorem dX6_same_38 : decode cX6_same 38 = .ok (.iload 5, 2) := by decide +kernel
theorem dX6_same_40 : decode cX6_same 40 = .ok (.iadd, 1) := by decide +kernel
theorem dX6_same_41 : decode cX6_same 41 = .ok (.iaload, 1) := by decide +kernel
theorem dX6_same_42 : decode cX6_same 42 = .ok (.aload_n 2, 1) := by decide +kernel
theorem dX6_same_43 : decode cX6_same 43 = .ok (.iload_n 3, 1) := by decide +kernel
theorem dX6_same_44 : decode cX6_same 44 = .ok (.iload 5, 2) := by decide +kernel
theorem dX6_same_46 : decode cX6_same 46 = .ok (.iadd, 1) := by decide +kernel
theorem dX6_same_47 : decode cX6_same 47 = .ok (.iaload, 1) := by decide +kernel
theorem dX6_same_48 : decode cX6_same 48 = .ok (.if_icmp .eq 5, 3) := by decide +kernel
theorem dX6_same_51 : decode cX6_same 51 = .ok (.iconst 0, 1) := by decide +kernel
theorem dX6_same_52 : decode cX6_same 52 = .ok (.ireturn, 1) := by decide +kernel
theorem dX6_same_53 : decode cX6_same 53 = .ok (.iinc 5 1, 3) := by decide +kernel
theorem dX6_same_56 : decode cX6_same 56 = .ok (.goto (-35), 3) := by decide +kernel
theorem dX6_same_59 : decode cX6_same 59 = .ok (.iconst 1, 1) := by decide +kernel
theorem dX6_same_60 : decode cX6_same 60 = .ok (.ireturn, 1) := by decide +kernel
theorem dX6_sym_0 : decode cX6_sym 0 = .ok (.iload_n 3, 1) := by decide +kernel
theorem dX6_sym_1 : decode cX6_sym 1 = .ok (.istore 4, 2) := by decide +kernel
theorem dX6_sym_3 : decode cX6_sym 3 = .ok (.iconst 0, 1) := by decide +kernel
theorem dX6_sym_4 : decode cX6_sym 4 = .ok (.istore 5, 2) := by decide +kernel
theorem dX6_sym_6 : decode cX6_sym 6 = .ok (.iload 5, 2) := by decide +kernel
theorem dX6_sym_8 : decode cX6_sym 8 = .ok (.iload_n 3, 1) := by decide +kernel
theorem dX6_sym_9 : decode cX6_sym 9 = .ok (.if_icmp .ge 23, 3) := by decide +kernel
theorem dX6_sym_12 : decode cX6_sym 12 = .ok (.iload 4, 2) := by decide +kernel
theorem dX6_sym_14 : decode cX6_sym 14 = .ok (.bipush 31, 2) := by decide +kernel
theorem dX6_sym_16 : decode cX6_sym 16 = .ok (.imul, 1) := by decide +kernel
theorem dX6_sym_17 : decode cX6_sym 17 = .ok (.aload_n 1, 1) := by decide +kernel
theorem dX6_sym_18 : decode cX6_sym 18 = .ok (.iload_n 2, 1) := by decide +kernel
theorem dX6_sym_19 : decode cX6_sym 19 = .ok (.iload 5, 2) := by decide +kernel
theorem dX6_sym_21 : decode cX6_sym 21 = .ok (.iadd, 1) := by decide +kernel
theorem dX6_sym_22 : decode cX6_sym 22 = .ok (.iaload, 1) := by decide +kernel
theorem dX6_sym_23 : decode cX6_sym 23 = .ok (.iadd, 1) := by decide +kernel
theorem dX6_sym_24 : decode cX6_sym 24 = .ok (.istore 4, 2) := by decide +kernel
theorem dX6_sym_26 : decode cX6_sym 26 = .ok (.iinc 5 1, 3) := by decide +kernel
theorem dX6_sym_29 : decode cX6_sym 29 = .ok (.goto (-23), 3) := by decide +kernel
theorem dX6_sym_32 : decode cX6_sym 32 = .ok (.iload 4, 2) := by decide +kernel
theorem dX6_sym_34 : decode cX6_sym 34 = .ok (.iload 4, 2) := by decide +kernel
theorem dX6_sym_36 : decode cX6_sym 36 = .ok (.bipush 15, 2) := by decide +kernel
theorem dX6_sym_38 : decode cX6_sym 38 = .ok (.iushr, 1) := by decide +kernel
theorem dX6_sym_39 : decode cX6_sym 39 = .ok (.ixor, 1) := by decide +kernel
theorem dX6_sym_40 : decode cX6_sym 40 = .ok (.sipush 16383, 3) := by decide +kernel
theorem dX6_sym_43 : decode cX6_sym 43 = .ok (.iand, 1) := by decide +kernel
theorem dX6_sym_44 : decode cX6_sym 44 = .ok (.istore 5, 2) := by decide +kernel
theorem dX6_sym_46 : decode cX6_sym 46 = .ok (.iconst 0, 1) := by decide +kernel
theorem dX6_sym_47 : decode cX6_sym 47 = .ok (.istore 6, 2) := by decide +kernel
theorem dX6_sym_49 : decode cX6_sym 49 = .ok (.iload 6, 2) := by decide +kernel
theorem dX6_sym_51 : decode cX6_sym 51 = .ok (.sipush 16384, 3) := by decide +kernel
theorem dX6_sym_54 : decode cX6_sym 54 = .ok (.if_icmp .ge 73, 3) := by decide +kernel
theorem dX6_sym_57 : decode cX6_sym 57 = .ok (.aload_n 0, 1) := by decide +kernel
theorem dX6_sym_58 : decode cX6_sym 58 = .ok (.getfield 9, 3) := by decide +kernel
theorem dX6_sym_61 : decode cX6_sym 61 = .ok (.iload 5, 2) := by decide +kernel
theorem dX6_sym_63 : decode cX6_sym 63 = .ok (.iaload, 1) := by decide +kernel
theorem dX6_sym_64 : decode cX6_sym 64 = .ok (.istore 7, 2) := by decide +kernel
theorem dX6_sym_66 : decode cX6_sym 66 = .ok (.iload 7, 2) := by decide +kernel
theorem dX6_sym_68 : decode cX6_sym 68 = .ok (.ifCond .ne 28, 3) := by decide +kernel
theorem dX6_sym_71 : decode cX6_sym 71 = .ok (.aload_n 0, 1) := by decide +kernel
theorem dX6_sym_72 : decode cX6_sym 72 = .ok (.getfield 9, 3) := by decide +kernel
theorem dX6_sym_75 : decode cX6_sym 75 = .ok (.iload 5, 2) := by decide +kernel
theorem dX6_sym_77 : decode cX6_sym 77 = .ok (.aload_n 0, 1) := by decide +kernel
theorem dX6_sym_78 : decode cX6_sym 78 = .ok (.getfield 44, 3) := by decide +kernel
theorem dX6_sym_81 : decode cX6_sym 81 = .ok (.aload_n 1, 1) := by decide +kernel
theorem dX6_sym_82 : decode cX6_sym 82 = .ok (.iload_n 2, 1) := by decide +kernel
theorem dX6_sym_83 : decode cX6_sym 83 = .ok (.iload_n 3, 1) := by decide +kernel
theorem dX6_sym_84 : decode cX6_sym 84 = .ok (.invokevirtual 103, 3) := by decide +kernel
theorem dX6_sym_87 : decode cX6_sym 87 = .ok (.iastore, 1) := by decide +kernel
theorem dX6_sym_88 : decode cX6_sym 88 = .ok (.aload_n 0, 1) := by decide +kernel
theorem dX6_sym_89 : decode cX6_sym 89 = .ok (.getfield 9, 3) := by decide +kernel
theorem dX6_sym_92 : decode cX6_sym 92 = .ok (.iload 5, 2) := by decide +kernel
theorem dX6_sym_94 : decode cX6_sym 94 = .ok (.iaload, 1) := by decide +kernel
theorem dX6_sym_95 : decode cX6_sym 95 = .ok (.ireturn, 1) := by decide +kernel
theorem dX6_sym_96 : decode cX6_sym 96 = .ok (.aload_n 0, 1) := by decide +kernel
theorem dX6_sym_97 : decode cX6_sym 97 = .ok (.iload 7, 2) := by decide +kernel
theorem dX6_sym_99 : decode cX6_sym 99 = .ok (.aload_n 1, 1) := by decide +kernel
theorem dX6_sym_100 : decode cX6_sym 100 = .ok (.iload_n 2, 1) := by decide +kernel
theorem dX6_sym_101 : decode cX6_sym 101 = .ok (.iload_n 3, 1) := by decide +kernel
theorem dX6_sym_102 : decode cX6_sym 102 = .ok (.invokevirtual 106, 3) := by decide +kernel
theorem dX6_sym_105 : decode cX6_sym 105 = .ok (.ifCond .eq 6, 3) := by decide +kernel
theorem dX6_sym_108 : decode cX6_sym 108 = .ok (.iload 7, 2) := by decide +kernel
theorem dX6_sym_110 : decode cX6_sym 110 = .ok (.ireturn, 1) := by decide +kernel
theorem dX6_sym_111 : decode cX6_sym 111 = .ok (.iload 5, 2) := by decide +kernel
theorem dX6_sym_113 : decode cX6_sym 113 = .ok (.iconst 1, 1) := by decide +kernel
theorem dX6_sym_114 : decode cX6_sym 114 = .ok (.iadd, 1) := by decide +kernel
theorem dX6_sym_115 : decode cX6_sym 115 = .ok (.sipush 16383, 3) := by decide +kernel
theorem dX6_sym_118 : decode cX6_sym 118 = .ok (.iand, 1) := by decide +kernel
theorem dX6_sym_119 : decode cX6_sym 119 = .ok (.istore 5, 2) := by decide +kernel
theorem dX6_sym_121 : decode cX6_sym 121 = .ok (.iinc 6 1, 3) := by decide +kernel
theorem dX6_sym_124 : decode cX6_sym 124 = .ok (.goto (-75), 3) := by decide +kernel
theorem dX6_sym_127 : decode cX6_sym 127 = .ok (.aload_n 0, 1) := by decide +kernel
theorem dX6_sym_128 : decode cX6_sym 128 = .ok (.getfield 67, 3) := by decide +kernel
theorem dX6_sym_131 : decode cX6_sym 131 = .ok (.ireturn, 1) := by decide +kernel
theorem dX6_find_0 : decode cX6_find 0 = .ok (.aload_n 0, 1) := by decide +kernel
theorem dX6_find_1 : decode cX6_find 1 = .ok (.getfield 19, 3) := by decide +kernel
theorem dX6_find_4 : decode cX6_find 4 = .ok (.iload_n 1, 1) := by decide +kernel
theorem dX6_find_5 : decode cX6_find 5 = .ok (.iaload, 1) := by decide +kernel
theorem dX6_find_6 : decode cX6_find 6 = .ok (.istore_n 3, 1) := by decide +kernel
theorem dX6_find_7 : decode cX6_find 7 = .ok (.iload_n 3, 1) := by decide +kernel
theorem dX6_find_8 : decode cX6_find 8 = .ok (.ifCond .eq 25, 3) := by decide +kernel
theorem dX6_find_11 : decode cX6_find 11 = .ok (.aload_n 0, 1) := by decide +kernel
theorem dX6_find_12 : decode cX6_find 12 = .ok (.getfield 16, 3) := by decide +kernel
theorem dX6_find_15 : decode cX6_find 15 = .ok (.iload_n 3, 1) := by decide +kernel
theorem dX6_find_16 : decode cX6_find 16 = .ok (.iaload, 1) := by decide +kernel
theorem dX6_find_17 : decode cX6_find 17 = .ok (.iload_n 2, 1) := by decide +kernel
theorem dX6_find_18 : decode cX6_find 18 = .ok (.if_icmp .ne 5, 3) := by decide +kernel
theorem dX6_find_21 : decode cX6_find 21 = .ok (.iload_n 3, 1) := by decide +kernel
theorem dX6_find_22 : decode cX6_find 22 = .ok (.ireturn, 1) := by decide +kernel
theorem dX6_find_23 : decode cX6_find 23 = .ok (.aload_n 0, 1) := by decide +kernel
theorem dX6_find_24 : decode cX6_find 24 = .ok (.getfield 22, 3) := by decide +kernel
theorem dX6_find_27 : decode cX6_find 27 = .ok (.iload_n 3, 1) := by decide +kernel
theorem dX6_find_28 : decode cX6_find 28 = .ok (.iaload, 1) := by decide +kernel
theorem dX6_find_29 : decode cX6_find 29 = .ok (.istore_n 3, 1) := by decide +kernel
theorem dX6_find_30 : decode cX6_find 30 = .ok (.goto (-23), 3) := by decide +kernel
theorem dX6_find_33 : decode cX6_find 33 = .ok (.iconst (-1), 1) := by decide +kernel
theorem dX6_find_34 : decode cX6_find 34 = .ok (.ireturn, 1) := by decide +kernel
theorem dX6_node_0 : decode cX6_node 0 = .ok (.aload_n 0, 1) := by decide +kernel
theorem dX6_node_1 : decode cX6_node 1 = .ok (.iload_n 1, 1) := by decide +kernel
theorem dX6_node_2 : decode cX6_node 2 = .ok (.iload_n 2, 1) := by decide +kernel
theorem dX6_node_3 : decode cX6_node 3 = .ok (.invokevirtual 118, 3) := by decide +kernel
theorem dX6_node_6 : decode cX6_node 6 = .ok (.istore_n 3, 1) := by decide +kernel
theorem dX6_node_7 : decode cX6_node 7 = .ok (.iload_n 3, 1) := by decide +kernel
theorem dX6_node_8 : decode cX6_node 8 = .ok (.ifCond .ge 13, 3) := by decide +kernel
theorem dX6_node_11 : decode cX6_node 11 = .ok (.aload_n 0, 1) := by decide +kernel
theorem dX6_node_12 : decode cX6_node 12 = .ok (.getfield 25, 3) := by decide +kernel
theorem dX6_node_15 : decode cX6_node 15 = .ok (.sipush 12288, 3) := by decide +kernel
theorem dX6_node_18 : decode cX6_node 18 = .ok (.if_icmp .lt 9, 3) := by decide +kernel
theorem dX6_node_21 : decode cX6_node 21 = .ok (.iload_n 3, 1) := by decide +kernel
theorem dX6_node_22 : decode cX6_node 22 = .ok (.iconst 0, 1) := by decide +kernel
theorem dX6_node_23 : decode cX6_node 23 = .ok (.invokestatic 121, 3) := by decide +kernel
theorem dX6_node_26 : decode cX6_node 26 = .ok (.ireturn, 1) := by decide +kernel
theorem dX6_node_27 : decode cX6_node 27 = .ok (.aload_n 0, 1) := by decide +kernel
theorem dX6_node_28 : decode cX6_node 28 = .ok (.getfield 25, 3) := by decide +kernel
theorem dX6_node_31 : decode cX6_node 31 = .ok (.istore_n 3, 1) := by decide +kernel
theorem dX6_node_32 : decode cX6_node 32 = .ok (.aload_n 0, 1) := by decide +kernel
theorem dX6_node_33 : decode cX6_node 33 = .ok (.dup, 1) := by decide +kernel
theorem dX6_node_34 : decode cX6_node 34 = .ok (.getfield 25, 3) := by decide +kernel
theorem dX6_node_37 : decode cX6_node 37 = .ok (.iconst 1, 1) := by decide +kernel
theorem dX6_node_38 : decode cX6_node 38 = .ok (.iadd, 1) := by decide +kernel
theorem dX6_node_39 : decode cX6_node 39 = .ok (.putfield 25, 3) := by decide +kernel
theorem dX6_node_42 : decode cX6_node 42 = .ok (.aload_n 0, 1) := by decide +kernel
theorem dX6_node_43 : decode cX6_node 43 = .ok (.getfield 13, 3) := by decide +kernel
theorem dX6_node_46 : decode cX6_node 46 = .ok (.iload_n 3, 1) := by decide +kernel
theorem dX6_node_47 : decode cX6_node 47 = .ok (.iload_n 1, 1) := by decide +kernel
theorem dX6_node_48 : decode cX6_node 48 = .ok (.iastore, 1) := by decide +kernel
theorem dX6_node_49 : decode cX6_node 49 = .ok (.aload_n 0, 1) := by decide +kernel
theorem dX6_node_50 : decode cX6_node 50 = .ok (.getfield 16, 3) := by decide +kernel
theorem dX6_node_53 : decode cX6_node 53 = .ok (.iload_n 3, 1) := by decide +kernel
theorem dX6_node_54 : decode cX6_node 54 = .ok (.iload_n 2, 1) := by decide +kernel
theorem dX6_node_55 : decode cX6_node 55 = .ok (.iastore, 1) := by decide +kernel
theorem dX6_node_56 : decode cX6_node 56 = .ok (.aload_n 0, 1) := by decide +kernel
theorem dX6_node_57 : decode cX6_node 57 = .ok (.getfield 22, 3) := by decide +kernel
theorem dX6_node_60 : decode cX6_node 60 = .ok (.iload_n 3, 1) := by decide +kernel
theorem dX6_node_61 : decode cX6_node 61 = .ok (.aload_n 0, 1) := by decide +kernel
theorem dX6_node_62 : decode cX6_node 62 = .ok (.getfield 19, 3) := by decide +kernel
theorem dX6_node_65 : decode cX6_node 65 = .ok (.iload_n 1, 1) := by decide +kernel
theorem dX6_node_66 : decode cX6_node 66 = .ok (.iaload, 1) := by decide +kernel
theorem dX6_node_67 : decode cX6_node 67 = .ok (.iastore, 1) := by decide +kernel
theorem dX6_node_68 : decode cX6_node 68 = .ok (.aload_n 0, 1) := by decide +kernel
theorem dX6_node_69 : decode cX6_node 69 = .ok (.getfield 19, 3) := by decide +kernel
theorem dX6_node_72 : decode cX6_node 72 = .ok (.iload_n 1, 1) := by decide +kernel
theorem dX6_node_73 : decode cX6_node 73 = .ok (.iload_n 3, 1) := by decide +kernel
theorem dX6_node_74 : decode cX6_node 74 = .ok (.iastore, 1) := by decide +kernel
theorem dX6_node_75 : decode cX6_node 75 = .ok (.iload_n 3, 1) := by decide +kernel
theorem dX6_node_76 : decode cX6_node 76 = .ok (.ireturn, 1) := by decide +kernel
