theorem dX16_readQuery_32 : decode cX16_readQuery 32 = .ok (.ifCond .ne 18, 3) := by decide +kernel
theorem dX16_readQuery_50 : decode cX16_readQuery 50 = .ok (.return_, 1) := by decide +kernel
theorem dX16_keepFault_0 : decode cX16_keepFault 0 = .ok (.aload_n 0, 1) := by decide +kernel
theorem dX16_keepFault_1 : decode cX16_keepFault 1 = .ok (.aload_n 0, 1) := by decide +kernel
theorem dX16_keepFault_2 : decode cX16_keepFault 2 = .ok (.getfield 663, 3) := by decide +kernel
theorem dX16_keepFault_5 : decode cX16_keepFault 5 = .ok (.putfield 2170, 3) := by decide +kernel
theorem dX16_keepFault_8 : decode cX16_keepFault 8 = .ok (.aload_n 0, 1) := by decide +kernel
theorem dX16_keepFault_9 : decode cX16_keepFault 9 = .ok (.aload_n 0, 1) := by decide +kernel
theorem dX16_keepFault_10 : decode cX16_keepFault 10 = .ok (.invokevirtual 666, 3) := by decide +kernel
theorem dX16_keepFault_13 : decode cX16_keepFault 13 = .ok (.ifCond .eq 10, 3) := by decide +kernel
theorem dX16_keepFault_23 : decode cX16_keepFault 23 = .ok (.iconst (-1), 1) := by decide +kernel
theorem dX16_keepFault_24 : decode cX16_keepFault 24 = .ok (.putfield 2173, 3) := by decide +kernel
theorem dX16_keepFault_27 : decode cX16_keepFault 27 = .ok (.aload_n 0, 1) := by decide +kernel
theorem dX16_keepFault_28 : decode cX16_keepFault 28 = .ok (.aload_n 0, 1) := by decide +kernel
theorem dX16_keepFault_29 : decode cX16_keepFault 29 = .ok (.invokevirtual 666, 3) := by decide +kernel
theorem dX16_keepFault_32 : decode cX16_keepFault 32 = .ok (.ifCond .eq 10, 3) := by decide +kernel
theorem dX16_keepFault_42 : decode cX16_keepFault 42 = .ok (.iconst (-1), 1) := by decide +kernel
theorem dX16_keepFault_43 : decode cX16_keepFault 43 = .ok (.putfield 2176, 3) := by decide +kernel
theorem dX16_keepFault_46 : decode cX16_keepFault 46 = .ok (.return_, 1) := by decide +kernel
theorem dX16_copyBundle_0 : decode cX16_copyBundle 0 = .ok (.aload_n 0, 1) := by decide +kernel
theorem dX16_copyBundle_1 : decode cX16_copyBundle 1 = .ok (.getfield 2076, 3) := by decide +kernel
theorem dX16_copyBundle_4 : decode cX16_copyBundle 4 = .ok (.iload_n 2, 1) := by decide +kernel
theorem dX16_copyBundle_5 : decode cX16_copyBundle 5 = .ok (.aload_n 0, 1) := by decide +kernel
theorem dX16_copyBundle_6 : decode cX16_copyBundle 6 = .ok (.getfield 2076, 3) := by decide +kernel
theorem dX16_copyBundle_9 : decode cX16_copyBundle 9 = .ok (.iload_n 1, 1) := by decide +kernel
theorem dX16_copyBundle_10 : decode cX16_copyBundle 10 = .ok (.iaload, 1) := by decide +kernel
theorem dX16_copyBundle_11 : decode cX16_copyBundle 11 = .ok (.iastore, 1) := by decide +kernel
theorem dX16_copyBundle_12 : decode cX16_copyBundle 12 = .ok (.aload_n 0, 1) := by decide +kernel
theorem dX16_copyBundle_13 : decode cX16_copyBundle 13 = .ok (.getfield 2070, 3) := by decide +kernel
theorem dX16_copyBundle_16 : decode cX16_copyBundle 16 = .ok (.iload_n 2, 1) := by decide +kernel
theorem dX16_copyBundle_17 : decode cX16_copyBundle 17 = .ok (.aload_n 0, 1) := by decide +kernel
theorem dX16_copyBundle_18 : decode cX16_copyBundle 18 = .ok (.getfield 2070, 3) := by decide +kernel
theorem dX16_copyBundle_21 : decode cX16_copyBundle 21 = .ok (.iload_n 1, 1) := by decide +kernel
theorem dX16_copyBundle_22 : decode cX16_copyBundle 22 = .ok (.iaload, 1) := by decide +kernel
theorem dX16_copyBundle_23 : decode cX16_copyBundle 23 = .ok (.iastore, 1) := by decide +kernel
theorem dX16_copyBundle_24 : decode cX16_copyBundle 24 = .ok (.iconst 0, 1) := by decide +kernel
theorem dX16_copyBundle_25 : decode cX16_copyBundle 25 = .ok (.istore_n 3, 1) := by decide +kernel
theorem dX16_copyBundle_26 : decode cX16_copyBundle 26 = .ok (.iload_n 3, 1) := by decide +kernel
theorem dX16_copyBundle_27 : decode cX16_copyBundle 27 = .ok (.iconst 4, 1) := by decide +kernel
theorem dX16_copyBundle_28 : decode cX16_copyBundle 28 = .ok (.if_icmp .ge 90, 3) := by decide +kernel
theorem dX16_copyBundle_31 : decode cX16_copyBundle 31 = .ok (.aload_n 0, 1) := by decide +kernel
theorem dX16_copyBundle_32 : decode cX16_copyBundle 32 = .ok (.getfield 2079, 3) := by decide +kernel
theorem dX16_copyBundle_35 : decode cX16_copyBundle 35 = .ok (.iconst 4, 1) := by decide +kernel
theorem dX16_copyBundle_36 : decode cX16_copyBundle 36 = .ok (.iload_n 2, 1) := by decide +kernel
theorem dX16_copyBundle_37 : decode cX16_copyBundle 37 = .ok (.imul, 1) := by decide +kernel
theorem dX16_copyBundle_38 : decode cX16_copyBundle 38 = .ok (.iload_n 3, 1) := by decide +kernel
theorem dX16_copyBundle_39 : decode cX16_copyBundle 39 = .ok (.iadd, 1) := by decide +kernel
theorem dX16_copyBundle_40 : decode cX16_copyBundle 40 = .ok (.aload_n 0, 1) := by decide +kernel
theorem dX16_copyBundle_41 : decode cX16_copyBundle 41 = .ok (.getfield 2079, 3) := by decide +kernel
theorem dX16_copyBundle_44 : decode cX16_copyBundle 44 = .ok (.iconst 4, 1) := by decide +kernel
theorem dX16_copyBundle_45 : decode cX16_copyBundle 45 = .ok (.iload_n 1, 1) := by decide +kernel
theorem dX16_copyBundle_46 : decode cX16_copyBundle 46 = .ok (.imul, 1) := by decide +kernel
theorem dX16_copyBundle_47 : decode cX16_copyBundle 47 = .ok (.iload_n 3, 1) := by decide +kernel
theorem dX16_copyBundle_48 : decode cX16_copyBundle 48 = .ok (.iadd, 1) := by decide +kernel
theorem dX16_copyBundle_49 : decode cX16_copyBundle 49 = .ok (.iaload, 1) := by decide +kernel
theorem dX16_copyBundle_50 : decode cX16_copyBundle 50 = .ok (.iastore, 1) := by decide +kernel
theorem dX16_copyBundle_51 : decode cX16_copyBundle 51 = .ok (.iconst 0, 1) := by decide +kernel
theorem dX16_copyBundle_52 : decode cX16_copyBundle 52 = .ok (.istore 4, 2) := by decide +kernel
theorem dX16_copyBundle_54 : decode cX16_copyBundle 54 = .ok (.iload 4, 2) := by decide +kernel
theorem dX16_copyBundle_56 : decode cX16_copyBundle 56 = .ok (.sipush 750, 3) := by decide +kernel
theorem dX16_copyBundle_59 : decode cX16_copyBundle 59 = .ok (.if_icmp .ge 53, 3) := by decide +kernel
theorem dX16_copyBundle_62 : decode cX16_copyBundle 62 = .ok (.iload_n 3, 1) := by decide +kernel
theorem dX16_copyBundle_63 : decode cX16_copyBundle 63 = .ok (.aload_n 0, 1) := by decide +kernel
theorem dX16_copyBundle_64 : decode cX16_copyBundle 64 = .ok (.getfield 2076, 3) := by decide +kernel
theorem dX16_copyBundle_67 : decode cX16_copyBundle 67 = .ok (.iload_n 1, 1) := by decide +kernel
theorem dX16_copyBundle_68 : decode cX16_copyBundle 68 = .ok (.iaload, 1) := by decide +kernel
theorem dX16_copyBundle_69 : decode cX16_copyBundle 69 = .ok (.if_icmp .ge 43, 3) := by decide +kernel
theorem dX16_copyBundle_112 : decode cX16_copyBundle 112 = .ok (.iinc 3 1, 3) := by decide +kernel
theorem dX16_copyBundle_115 : decode cX16_copyBundle 115 = .ok (.goto (-89), 3) := by decide +kernel
theorem dX16_copyBundle_118 : decode cX16_copyBundle 118 = .ok (.return_, 1) := by decide +kernel
theorem dX16_thrown_0 : decode cX16_thrown 0 = .ok (.aload_n 0, 1) := by decide +kernel
theorem dX16_thrown_1 : decode cX16_thrown 1 = .ok (.getfield 2228, 3) := by decide +kernel
theorem dX16_thrown_4 : decode cX16_thrown 4 = .ok (.ireturn, 1) := by decide +kernel
theorem dX16_feed_0 : decode cX16_feed 0 = .ok (.aload_n 0, 1) := by decide +kernel
theorem dX16_feed_1 : decode cX16_feed 1 = .ok (.iconst 0, 1) := by decide +kernel
theorem dX16_feed_2 : decode cX16_feed 2 = .ok (.putfield 2228, 3) := by decide +kernel
theorem dX16_feed_5 : decode cX16_feed 5 = .ok (.aload_n 0, 1) := by decide +kernel
theorem dX16_feed_6 : decode cX16_feed 6 = .ok (.getfield 2231, 3) := by decide +kernel
theorem dX16_feed_9 : decode cX16_feed 9 = .ok (.bipush 20, 2) := by decide +kernel
theorem dX16_feed_11 : decode cX16_feed 11 = .ok (.iadd, 1) := by decide +kernel
theorem dX16_feed_12 : decode cX16_feed 12 = .ok (.sipush 6000, 3) := by decide +kernel
theorem dX16_feed_15 : decode cX16_feed 15 = .ok (.if_icmp .le 5, 3) := by decide +kernel
theorem dX16_feed_20 : decode cX16_feed 20 = .ok (.iconst 0, 1) := by decide +kernel
theorem dX16_feed_21 : decode cX16_feed 21 = .ok (.istore 6, 2) := by decide +kernel
theorem dX16_feed_23 : decode cX16_feed 23 = .ok (.iload 6, 2) := by decide +kernel
theorem dX16_feed_25 : decode cX16_feed 25 = .ok (.bipush 20, 2) := by decide +kernel
theorem dX16_feed_27 : decode cX16_feed 27 = .ok (.if_icmp .ge 90, 3) := by decide +kernel
theorem dX16_feed_30 : decode cX16_feed 30 = .ok (.iload 6, 2) := by decide +kernel
theorem dX16_feed_32 : decode cX16_feed 32 = .ok (.iconst 4, 1) := by decide +kernel
theorem dX16_feed_33 : decode cX16_feed 33 = .ok (.if_icmp .ge 7, 3) := by decide +kernel
theorem dX16_feed_36 : decode cX16_feed 36 = .ok (.iload_n 1, 1) := by decide +kernel
theorem dX16_feed_37 : decode cX16_feed 37 = .ok (.goto 39, 3) := by decide +kernel
theorem dX16_feed_40 : decode cX16_feed 40 = .ok (.iload 6, 2) := by decide +kernel
theorem dX16_feed_42 : decode cX16_feed 42 = .ok (.bipush 8, 2) := by decide +kernel
theorem dX16_feed_44 : decode cX16_feed 44 = .ok (.if_icmp .ge 7, 3) := by decide +kernel
theorem dX16_feed_47 : decode cX16_feed 47 = .ok (.iload_n 2, 1) := by decide +kernel
theorem dX16_feed_48 : decode cX16_feed 48 = .ok (.goto 28, 3) := by decide +kernel
theorem dX16_feed_51 : decode cX16_feed 51 = .ok (.iload 6, 2) := by decide +kernel
theorem dX16_feed_53 : decode cX16_feed 53 = .ok (.bipush 12, 2) := by decide +kernel
theorem dX16_feed_55 : decode cX16_feed 55 = .ok (.if_icmp .ge 7, 3) := by decide +kernel
theorem dX16_feed_58 : decode cX16_feed 58 = .ok (.iload_n 3, 1) := by decide +kernel
theorem dX16_feed_59 : decode cX16_feed 59 = .ok (.goto 17, 3) := by decide +kernel
theorem dX16_feed_62 : decode cX16_feed 62 = .ok (.iload 6, 2) := by decide +kernel
theorem dX16_feed_64 : decode cX16_feed 64 = .ok (.bipush 16, 2) := by decide +kernel
theorem dX16_feed_66 : decode cX16_feed 66 = .ok (.if_icmp .ge 8, 3) := by decide +kernel
theorem dX16_feed_69 : decode cX16_feed 69 = .ok (.iload 4, 2) := by decide +kernel
theorem dX16_feed_71 : decode cX16_feed 71 = .ok (.goto 5, 3) := by decide +kernel
theorem dX16_feed_74 : decode cX16_feed 74 = .ok (.iload 5, 2) := by decide +kernel
theorem dX16_feed_76 : decode cX16_feed 76 = .ok (.istore 7, 2) := by decide +kernel
theorem dX16_feed_78 : decode cX16_feed 78 = .ok (.aload_n 0, 1) := by decide +kernel
theorem dX16_feed_79 : decode cX16_feed 79 = .ok (.getfield 2204, 3) := by decide +kernel
theorem dX16_feed_82 : decode cX16_feed 82 = .ok (.aload_n 0, 1) := by decide +kernel
theorem dX16_feed_83 : decode cX16_feed 83 = .ok (.getfield 2231, 3) := by decide +kernel
theorem dX16_feed_86 : decode cX16_feed 86 = .ok (.iload 7, 2) := by decide +kernel
theorem dX16_feed_88 : decode cX16_feed 88 = .ok (.bipush 24, 2) := by decide +kernel
theorem dX16_feed_90 : decode cX16_feed 90 = .ok (.iload 6, 2) := by decide +kernel
theorem dX16_feed_92 : decode cX16_feed 92 = .ok (.iconst 4, 1) := by decide +kernel
theorem dX16_feed_93 : decode cX16_feed 93 = .ok (.irem, 1) := by decide +kernel
theorem dX16_feed_94 : decode cX16_feed 94 = .ok (.bipush 8, 2) := by decide +kernel
theorem dX16_feed_96 : decode cX16_feed 96 = .ok (.imul, 1) := by decide +kernel
theorem dX16_feed_97 : decode cX16_feed 97 = .ok (.isub, 1) := by decide +kernel
theorem dX16_feed_98 : decode cX16_feed 98 = .ok (.ishr, 1) := by decide +kernel
theorem dX16_feed_99 : decode cX16_feed 99 = .ok (.i2b, 1) := by decide +kernel
theorem dX16_feed_100 : decode cX16_feed 100 = .ok (.bastore, 1) := by decide +kernel
theorem dX16_feed_101 : decode cX16_feed 101 = .ok (.aload_n 0, 1) := by decide +kernel
theorem dX16_feed_102 : decode cX16_feed 102 = .ok (.dup, 1) := by decide +kernel
theorem dX16_feed_103 : decode cX16_feed 103 = .ok (.getfield 2231, 3) := by decide +kernel
theorem dX16_feed_106 : decode cX16_feed 106 = .ok (.iconst 1, 1) := by decide +kernel
theorem dX16_feed_107 : decode cX16_feed 107 = .ok (.iadd, 1) := by decide +kernel
theorem dX16_feed_108 : decode cX16_feed 108 = .ok (.putfield 2231, 3) := by decide +kernel
theorem dX16_feed_111 : decode cX16_feed 111 = .ok (.iinc 6 1, 3) := by decide +kernel
theorem dX16_feed_114 : decode cX16_feed 114 = .ok (.goto (-91), 3) := by decide +kernel
theorem dX16_feed_117 : decode cX16_feed 117 = .ok (.iconst 1, 1) := by decide +kernel
theorem dX16_feed_118 : decode cX16_feed 118 = .ok (.ireturn, 1) := by decide +kernel
theorem dX16_end_0 : decode cX16_end 0 = .ok (.aload_n 0, 1) := by decide +kernel
theorem dX16_end_1 : decode cX16_end 1 = .ok (.iconst 0, 1) := by decide +kernel
theorem dX16_end_2 : decode cX16_end 2 = .ok (.putfield 2228, 3) := by decide +kernel
theorem dX16_end_5 : decode cX16_end 5 = .ok (.iload_n 1, 1) := by decide +kernel
theorem dX16_end_6 : decode cX16_end 6 = .ok (.ifCond .lt 11, 3) := by decide +kernel
theorem dX16_end_9 : decode cX16_end 9 = .ok (.iload_n 1, 1) := by decide +kernel
theorem dX16_end_10 : decode cX16_end 10 = .ok (.aload_n 0, 1) := by decide +kernel
theorem dX16_end_11 : decode cX16_end 11 = .ok (.getfield 2231, 3) := by decide +kernel
theorem dX16_end_14 : decode cX16_end 14 = .ok (.if_icmp .le 5, 3) := by decide +kernel
theorem dX16_end_17 : decode cX16_end 17 = .ok (.iconst 0, 1) := by decide +kernel
theorem dX16_end_18 : decode cX16_end 18 = .ok (.ireturn, 1) := by decide +kernel
theorem dX16_end_19 : decode cX16_end 19 = .ok (.aload_n 0, 1) := by decide +kernel
theorem dX16_end_20 : decode cX16_end 20 = .ok (.iload_n 1, 1) := by decide +kernel
theorem dX16_end_21 : decode cX16_end 21 = .ok (.putfield 2231, 3) := by decide +kernel
theorem dX16_end_24 : decode cX16_end 24 = .ok (.iconst 1, 1) := by decide +kernel
theorem dX16_end_25 : decode cX16_end 25 = .ok (.ireturn, 1) := by decide +kernel
theorem dX16_take_0 : decode cX16_take 0 = .ok (.aload_n 0, 1) := by decide +kernel
theorem dX16_take_1 : decode cX16_take 1 = .ok (.iconst 0, 1) := by decide +kernel
theorem dX16_take_2 : decode cX16_take 2 = .ok (.putfield 2228, 3) := by decide +kernel
theorem dX16_take_5 : decode cX16_take 5 = .ok (.aload_n 0, 1) := by decide +kernel
theorem dX16_take_6 : decode cX16_take 6 = .ok (.getfield 2231, 3) := by decide +kernel
theorem dX16_take_9 : decode cX16_take 9 = .ok (.istore_n 1, 1) := by decide +kernel
theorem dX16_take_10 : decode cX16_take 10 = .ok (.aload_n 0, 1) := by decide +kernel
theorem dX16_take_11 : decode cX16_take 11 = .ok (.iconst 0, 1) := by decide +kernel
theorem dX16_take_12 : decode cX16_take 12 = .ok (.putfield 2231, 3) := by decide +kernel
theorem dX16_take_15 : decode cX16_take 15 = .ok (.iload_n 1, 1) := by decide +kernel
theorem dX16_take_16 : decode cX16_take 16 = .ok (.ireturn, 1) := by decide +kernel
theorem dX16_module_0 : decode cX16_module 0 = .ok (.aload_n 0, 1) := by decide +kernel
theorem dX16_module_1 : decode cX16_module 1 = .ok (.invokevirtual 2234, 3) := by decide +kernel
theorem dX16_module_4 : decode cX16_module 4 = .ok (.istore_n 1, 1) := by decide +kernel
theorem dX16_module_5 : decode cX16_module 5 = .ok (.aload_n 0, 1) := by decide +kernel
theorem dX16_module_6 : decode cX16_module 6 = .ok (.iconst (-1), 1) := by decide +kernel
theorem dX16_module_7 : decode cX16_module 7 = .ok (.putfield 2067, 3) := by decide +kernel
theorem dX16_module_10 : decode cX16_module 10 = .ok (.aload_n 0, 1) := by decide +kernel
theorem dX16_module_11 : decode cX16_module 11 = .ok (.invokevirtual 2073, 3) := by decide +kernel
theorem dX16_module_14 : decode cX16_module 14 = .ok (.aload_n 0, 1) := by decide +kernel
theorem dX16_module_15 : decode cX16_module 15 = .ok (.aload_n 0, 1) := by decide +kernel
theorem dX16_module_16 : decode cX16_module 16 = .ok (.getfield 2204, 3) := by decide +kernel
theorem dX16_module_19 : decode cX16_module 19 = .ok (.iload_n 1, 1) := by decide +kernel
theorem dX16_module_20 : decode cX16_module 20 = .ok (.invokevirtual 2088, 3) := by decide +kernel
theorem dX16_module_23 : decode cX16_module 23 = .ok (.istore_n 2, 1) := by decide +kernel
theorem dX16_module_24 : decode cX16_module 24 = .ok (.aload_n 0, 1) := by decide +kernel
theorem dX16_module_25 : decode cX16_module 25 = .ok (.invokevirtual 282, 3) := by decide +kernel
theorem dX16_module_28 : decode cX16_module 28 = .ok (.ifCond .eq 10, 3) := by decide +kernel
theorem dX16_module_31 : decode cX16_module 31 = .ok (.iconst (-1), 1) := by decide +kernel
theorem dX16_module_32 : decode cX16_module 32 = .ok (.aload_n 0, 1) := by decide +kernel
theorem dX16_module_33 : decode cX16_module 33 = .ok (.getfield 267, 3) := by decide +kernel
theorem dX16_module_36 : decode cX16_module 36 = .ok (.isub, 1) := by decide +kernel
theorem dX16_module_37 : decode cX16_module 37 = .ok (.ireturn, 1) := by decide +kernel
theorem dX16_drop_0 : decode cX16_drop 0 = .ok (.aload_n 0, 1) := by decide +kernel
theorem dX16_drop_1 : decode cX16_drop 1 = .ok (.iconst 0, 1) := by decide +kernel
theorem dX16_drop_2 : decode cX16_drop 2 = .ok (.putfield 2228, 3) := by decide +kernel
theorem dX16_drop_5 : decode cX16_drop 5 = .ok (.aload_n 0, 1) := by decide +kernel
theorem dX16_drop_6 : decode cX16_drop 6 = .ok (.getfield 2076, 3) := by decide +kernel
theorem dX16_drop_9 : decode cX16_drop 9 = .ok (.iconst 0, 1) := by decide +kernel
theorem dX16_drop_10 : decode cX16_drop 10 = .ok (.iaload, 1) := by decide +kernel
theorem dX16_drop_11 : decode cX16_drop 11 = .ok (.istore_n 1, 1) := by decide +kernel
theorem dX16_drop_12 : decode cX16_drop 12 = .ok (.aload_n 0, 1) := by decide +kernel
theorem dX16_drop_13 : decode cX16_drop 13 = .ok (.getfield 2076, 3) := by decide +kernel
theorem dX16_drop_16 : decode cX16_drop 16 = .ok (.iconst 0, 1) := by decide +kernel
theorem dX16_drop_17 : decode cX16_drop 17 = .ok (.iconst 0, 1) := by decide +kernel
theorem dX16_drop_18 : decode cX16_drop 18 = .ok (.iastore, 1) := by decide +kernel
theorem dX16_drop_19 : decode cX16_drop 19 = .ok (.aload_n 0, 1) := by decide +kernel
theorem dX16_drop_20 : decode cX16_drop 20 = .ok (.dup, 1) := by decide +kernel
theorem dX16_drop_21 : decode cX16_drop 21 = .ok (.getfield 2201, 3) := by decide +kernel
theorem dX16_drop_24 : decode cX16_drop 24 = .ok (.iconst 1, 1) := by decide +kernel
theorem dX16_drop_25 : decode cX16_drop 25 = .ok (.iadd, 1) := by decide +kernel
theorem dX16_drop_26 : decode cX16_drop 26 = .ok (.putfield 2201, 3) := by decide +kernel
theorem dX16_drop_29 : decode cX16_drop 29 = .ok (.aload_n 0, 1) := by decide +kernel
theorem dX16_drop_30 : decode cX16_drop 30 = .ok (.getfield 2070, 3) := by decide +kernel
theorem dX16_drop_33 : decode cX16_drop 33 = .ok (.iconst 0, 1) := by decide +kernel
theorem dX16_drop_34 : decode cX16_drop 34 = .ok (.aload_n 0, 1) := by decide +kernel
theorem dX16_drop_35 : decode cX16_drop 35 = .ok (.getfield 2201, 3) := by decide +kernel
theorem dX16_drop_38 : decode cX16_drop 38 = .ok (.iastore, 1) := by decide +kernel
theorem dX16_drop_39 : decode cX16_drop 39 = .ok (.iload_n 1, 1) := by decide +kernel
theorem dX16_drop_40 : decode cX16_drop 40 = .ok (.ireturn, 1) := by decide +kernel
theorem dX16_check_0 : decode cX16_check 0 = .ok (.aload_n 0, 1) := by decide +kernel
theorem dX16_check_1 : decode cX16_check 1 = .ok (.iconst 0, 1) := by decide +kernel
theorem dX16_check_2 : decode cX16_check 2 = .ok (.putfield 2228, 3) := by decide +kernel
theorem dX16_check_5 : decode cX16_check 5 = .ok (.aload_n 0, 1) := by decide +kernel
theorem dX16_check_6 : decode cX16_check 6 = .ok (.iconst 0, 1) := by decide +kernel
theorem dX16_check_7 : decode cX16_check 7 = .ok (.invokevirtual 2155, 3) := by decide +kernel
theorem dX16_check_10 : decode cX16_check 10 = .ok (.aload_n 0, 1) := by decide +kernel
theorem dX16_check_11 : decode cX16_check 11 = .ok (.invokevirtual 2239, 3) := by decide +kernel
theorem dX16_check_14 : decode cX16_check 14 = .ok (.aload_n 0, 1) := by decide +kernel
theorem dX16_check_15 : decode cX16_check 15 = .ok (.getfield 2170, 3) := by decide +kernel
theorem dX16_check_18 : decode cX16_check 18 = .ok (.ireturn, 1) := by decide +kernel
theorem dX16_activate_0 : decode cX16_activate 0 = .ok (.aload_n 0, 1) := by decide +kernel
theorem dX16_activate_1 : decode cX16_activate 1 = .ok (.iconst 0, 1) := by decide +kernel
theorem dX16_activate_2 : decode cX16_activate 2 = .ok (.putfield 2228, 3) := by decide +kernel
theorem dX16_activate_5 : decode cX16_activate 5 = .ok (.aload_n 0, 1) := by decide +kernel
theorem dX16_activate_6 : decode cX16_activate 6 = .ok (.iconst 0, 1) := by decide +kernel
theorem dX16_activate_7 : decode cX16_activate 7 = .ok (.invokevirtual 2155, 3) := by decide +kernel
theorem dX16_activate_10 : decode cX16_activate 10 = .ok (.aload_n 0, 1) := by decide +kernel
theorem dX16_activate_11 : decode cX16_activate 11 = .ok (.invokevirtual 2239, 3) := by decide +kernel
theorem dX16_activate_14 : decode cX16_activate 14 = .ok (.aload_n 0, 1) := by decide +kernel
theorem dX16_activate_15 : decode cX16_activate 15 = .ok (.getfield 2170, 3) := by decide +kernel
theorem dX16_activate_18 : decode cX16_activate 18 = .ok (.ifCond .eq 9, 3) := by decide +kernel
theorem dX16_activate_27 : decode cX16_activate 27 = .ok (.aload_n 0, 1) := by decide +kernel
theorem dX16_activate_28 : decode cX16_activate 28 = .ok (.iconst 0, 1) := by decide +kernel
theorem dX16_activate_29 : decode cX16_activate 29 = .ok (.iconst 1, 1) := by decide +kernel
theorem dX16_activate_30 : decode cX16_activate 30 = .ok (.invokevirtual 2242, 3) := by decide +kernel
theorem dX16_activate_33 : decode cX16_activate 33 = .ok (.aload_n 0, 1) := by decide +kernel
theorem dX16_activate_34 : decode cX16_activate 34 = .ok (.getfield 623, 3) := by decide +kernel
theorem dX16_activate_37 : decode cX16_activate 37 = .ok (.ireturn, 1) := by decide +kernel
theorem dX16_fault_0 : decode cX16_fault 0 = .ok (.aload_n 0, 1) := by decide +kernel
theorem dX16_fault_1 : decode cX16_fault 1 = .ok (.iconst 0, 1) := by decide +kernel
theorem dX16_fault_2 : decode cX16_fault 2 = .ok (.putfield 2228, 3) := by decide +kernel
theorem dX16_fault_5 : decode cX16_fault 5 = .ok (.iload_n 1, 1) := by decide +kernel
theorem dX16_fault_6 : decode cX16_fault 6 = .ok (.ifCond .ne 10, 3) := by decide +kernel
theorem dX16_fault_9 : decode cX16_fault 9 = .ok (.aload_n 0, 1) := by decide +kernel
theorem dX16_fault_10 : decode cX16_fault 10 = .ok (.getfield 2170, 3) := by decide +kernel
theorem dX16_fault_13 : decode cX16_fault 13 = .ok (.goto 28, 3) := by decide +kernel
theorem dX16_fault_16 : decode cX16_fault 16 = .ok (.iload_n 1, 1) := by decide +kernel
theorem dX16_fault_17 : decode cX16_fault 17 = .ok (.iconst 1, 1) := by decide +kernel
theorem dX16_fault_18 : decode cX16_fault 18 = .ok (.if_icmp .ne 10, 3) := by decide +kernel
