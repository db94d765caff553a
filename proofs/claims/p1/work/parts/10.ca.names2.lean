theorem dX11_readJson_6 : decode cX11_readJson 6 = .ok (.iload_n 2, 1) := by decide +kernel
theorem dX11_readJson_7 : decode cX11_readJson 7 = .ok (.putfield 17, 3) := by decide +kernel
theorem dX11_readJson_10 : decode cX11_readJson 10 = .ok (.aload_n 0, 1) := by decide +kernel
theorem dX11_readJson_11 : decode cX11_readJson 11 = .ok (.iload_n 3, 1) := by decide +kernel
theorem dX11_readJson_12 : decode cX11_readJson 12 = .ok (.putfield 13, 3) := by decide +kernel
theorem dX11_readJson_15 : decode cX11_readJson 15 = .ok (.aload_n 0, 1) := by decide +kernel
theorem dX11_readJson_16 : decode cX11_readJson 16 = .ok (.iconst (-1), 1) := by decide +kernel
theorem dX11_readJson_17 : decode cX11_readJson 17 = .ok (.putfield 20, 3) := by decide +kernel
theorem dX11_readJson_20 : decode cX11_readJson 20 = .ok (.aload_n 0, 1) := by decide +kernel
theorem dX11_readJson_21 : decode cX11_readJson 21 = .ok (.iconst 0, 1) := by decide +kernel
theorem dX11_readJson_22 : decode cX11_readJson 22 = .ok (.invokevirtual 107, 3) := by decide +kernel
theorem dX11_readJson_25 : decode cX11_readJson 25 = .ok (.istore 4, 2) := by decide +kernel
theorem dX11_readJson_27 : decode cX11_readJson 27 = .ok (.aload_n 0, 1) := by decide +kernel
theorem dX11_readJson_28 : decode cX11_readJson 28 = .ok (.invokevirtual 110, 3) := by decide +kernel
theorem dX11_readJson_31 : decode cX11_readJson 31 = .ok (.aload_n 0, 1) := by decide +kernel
theorem dX11_readJson_32 : decode cX11_readJson 32 = .ok (.getfield 20, 3) := by decide +kernel
theorem dX11_readJson_35 : decode cX11_readJson 35 = .ok (.ifCond .ge 22, 3) := by decide +kernel
theorem dX11_readJson_57 : decode cX11_readJson 57 = .ok (.aload_n 0, 1) := by decide +kernel
theorem dX11_readJson_58 : decode cX11_readJson 58 = .ok (.getfield 20, 3) := by decide +kernel
theorem dX11_readJson_61 : decode cX11_readJson 61 = .ok (.ifCond .ge 8, 3) := by decide +kernel
theorem dX11_readJson_69 : decode cX11_readJson 69 = .ok (.iconst 0, 1) := by decide +kernel
theorem dX11_readJson_70 : decode cX11_readJson 70 = .ok (.ireturn, 1) := by decide +kernel
theorem dX11_skip_0 : decode cX11_skip 0 = .ok (.aload_n 0, 1) := by decide +kernel
theorem dX11_skip_1 : decode cX11_skip 1 = .ok (.getfield 17, 3) := by decide +kernel
theorem dX11_skip_4 : decode cX11_skip 4 = .ok (.aload_n 0, 1) := by decide +kernel
theorem dX11_skip_5 : decode cX11_skip 5 = .ok (.getfield 13, 3) := by decide +kernel
theorem dX11_skip_8 : decode cX11_skip 8 = .ok (.if_icmp .ge 31, 3) := by decide +kernel
theorem dX11_skip_39 : decode cX11_skip 39 = .ok (.return_, 1) := by decide +kernel
theorem dX11_fail_0 : decode cX11_fail 0 = .ok (.aload_n 0, 1) := by decide +kernel
theorem dX11_fail_1 : decode cX11_fail 1 = .ok (.getfield 20, 3) := by decide +kernel
theorem dX11_fail_4 : decode cX11_fail 4 = .ok (.ifCond .ge 8, 3) := by decide +kernel
theorem dX11_fail_7 : decode cX11_fail 7 = .ok (.aload_n 0, 1) := by decide +kernel
theorem dX11_fail_8 : decode cX11_fail 8 = .ok (.iload_n 1, 1) := by decide +kernel
theorem dX11_fail_9 : decode cX11_fail 9 = .ok (.putfield 20, 3) := by decide +kernel
theorem dX11_fail_12 : decode cX11_fail 12 = .ok (.return_, 1) := by decide +kernel
theorem dX11_readValue_0 : decode cX11_readValue 0 = .ok (.aload_n 0, 1) := by decide +kernel
theorem dX11_readValue_1 : decode cX11_readValue 1 = .ok (.invokevirtual 110, 3) := by decide +kernel
theorem dX11_readValue_4 : decode cX11_readValue 4 = .ok (.aload_n 0, 1) := by decide +kernel
theorem dX11_readValue_5 : decode cX11_readValue 5 = .ok (.getfield 20, 3) := by decide +kernel
theorem dX11_readValue_8 : decode cX11_readValue 8 = .ok (.ifCond .ge 14, 3) := by decide +kernel
theorem dX11_readValue_11 : decode cX11_readValue 11 = .ok (.aload_n 0, 1) := by decide +kernel
theorem dX11_readValue_12 : decode cX11_readValue 12 = .ok (.getfield 17, 3) := by decide +kernel
theorem dX11_readValue_15 : decode cX11_readValue 15 = .ok (.aload_n 0, 1) := by decide +kernel
theorem dX11_readValue_16 : decode cX11_readValue 16 = .ok (.getfield 13, 3) := by decide +kernel
theorem dX11_readValue_19 : decode cX11_readValue 19 = .ok (.if_icmp .lt 13, 3) := by decide +kernel
theorem dX11_readValue_22 : decode cX11_readValue 22 = .ok (.aload_n 0, 1) := by decide +kernel
theorem dX11_readValue_23 : decode cX11_readValue 23 = .ok (.aload_n 0, 1) := by decide +kernel
theorem dX11_readValue_24 : decode cX11_readValue 24 = .ok (.getfield 17, 3) := by decide +kernel
theorem dX11_readValue_27 : decode cX11_readValue 27 = .ok (.invokevirtual 119, 3) := by decide +kernel
theorem dX11_readValue_30 : decode cX11_readValue 30 = .ok (.iconst 1, 1) := by decide +kernel
theorem dX11_readValue_31 : decode cX11_readValue 31 = .ok (.ireturn, 1) := by decide +kernel
theorem dX12_init_0 : decode cX12_init 0 = .ok (.aload_n 0, 1) := by decide +kernel
theorem dX12_init_1 : decode cX12_init 1 = .ok (.invokespecial 1, 3) := by decide +kernel
theorem dX12_init_4 : decode cX12_init 4 = .ok (.aload_n 0, 1) := by decide +kernel
theorem dX12_init_5 : decode cX12_init 5 = .ok (.iconst 1, 1) := by decide +kernel
theorem dX12_init_6 : decode cX12_init 6 = .ok (.putfield 7, 3) := by decide +kernel
theorem dX12_init_9 : decode cX12_init 9 = .ok (.aload_n 0, 1) := by decide +kernel
theorem dX12_init_10 : decode cX12_init 10 = .ok (.iconst 0, 1) := by decide +kernel
theorem dX12_init_11 : decode cX12_init 11 = .ok (.putfield 13, 3) := by decide +kernel
theorem dX12_init_14 : decode cX12_init 14 = .ok (.aload_n 0, 1) := by decide +kernel
theorem dX12_init_15 : decode cX12_init 15 = .ok (.iconst 0, 1) := by decide +kernel
theorem dX12_init_16 : decode cX12_init 16 = .ok (.putfield 16, 3) := by decide +kernel
theorem dX12_init_19 : decode cX12_init 19 = .ok (.aload_n 0, 1) := by decide +kernel
theorem dX12_init_20 : decode cX12_init 20 = .ok (.iconst 0, 1) := by decide +kernel
theorem dX12_init_21 : decode cX12_init 21 = .ok (.putfield 19, 3) := by decide +kernel
theorem dX12_init_24 : decode cX12_init 24 = .ok (.aload_n 0, 1) := by decide +kernel
theorem dX12_init_25 : decode cX12_init 25 = .ok (.iconst 0, 1) := by decide +kernel
theorem dX12_init_26 : decode cX12_init 26 = .ok (.putfield 22, 3) := by decide +kernel
theorem dX12_init_29 : decode cX12_init 29 = .ok (.aload_n 0, 1) := by decide +kernel
theorem dX12_init_30 : decode cX12_init 30 = .ok (.iload_n 1, 1) := by decide +kernel
theorem dX12_init_31 : decode cX12_init 31 = .ok (.newarray .int, 2) := by decide +kernel
theorem dX12_init_33 : decode cX12_init 33 = .ok (.putfield 25, 3) := by decide +kernel
theorem dX12_init_36 : decode cX12_init 36 = .ok (.aload_n 0, 1) := by decide +kernel
theorem dX12_init_37 : decode cX12_init 37 = .ok (.iload_n 1, 1) := by decide +kernel
theorem dX12_init_38 : decode cX12_init 38 = .ok (.newarray .int, 2) := by decide +kernel
theorem dX12_init_40 : decode cX12_init 40 = .ok (.putfield 29, 3) := by decide +kernel
theorem dX12_init_43 : decode cX12_init 43 = .ok (.aload_n 0, 1) := by decide +kernel
theorem dX12_init_44 : decode cX12_init 44 = .ok (.iload_n 1, 1) := by decide +kernel
theorem dX12_init_45 : decode cX12_init 45 = .ok (.newarray .int, 2) := by decide +kernel
theorem dX12_init_47 : decode cX12_init 47 = .ok (.putfield 32, 3) := by decide +kernel
theorem dX12_init_50 : decode cX12_init 50 = .ok (.aload_n 0, 1) := by decide +kernel
theorem dX12_init_51 : decode cX12_init 51 = .ok (.iload_n 1, 1) := by decide +kernel
theorem dX12_init_52 : decode cX12_init 52 = .ok (.newarray .int, 2) := by decide +kernel
theorem dX12_init_54 : decode cX12_init 54 = .ok (.putfield 35, 3) := by decide +kernel
theorem dX12_init_57 : decode cX12_init 57 = .ok (.aload_n 0, 1) := by decide +kernel
theorem dX12_init_58 : decode cX12_init 58 = .ok (.iload_n 1, 1) := by decide +kernel
theorem dX12_init_59 : decode cX12_init 59 = .ok (.newarray .int, 2) := by decide +kernel
theorem dX12_init_61 : decode cX12_init 61 = .ok (.putfield 38, 3) := by decide +kernel
theorem dX12_init_64 : decode cX12_init 64 = .ok (.aload_n 0, 1) := by decide +kernel
theorem dX12_init_65 : decode cX12_init 65 = .ok (.iload_n 1, 1) := by decide +kernel
theorem dX12_init_66 : decode cX12_init 66 = .ok (.newarray .int, 2) := by decide +kernel
theorem dX12_init_68 : decode cX12_init 68 = .ok (.putfield 41, 3) := by decide +kernel
theorem dX12_init_71 : decode cX12_init 71 = .ok (.aload_n 0, 1) := by decide +kernel
theorem dX12_init_72 : decode cX12_init 72 = .ok (.iload_n 1, 1) := by decide +kernel
theorem dX12_init_73 : decode cX12_init 73 = .ok (.newarray .int, 2) := by decide +kernel
theorem dX12_init_75 : decode cX12_init 75 = .ok (.putfield 44, 3) := by decide +kernel
theorem dX12_init_78 : decode cX12_init 78 = .ok (.aload_n 0, 1) := by decide +kernel
theorem dX12_init_79 : decode cX12_init 79 = .ok (.iload_n 1, 1) := by decide +kernel
theorem dX12_init_80 : decode cX12_init 80 = .ok (.newarray .int, 2) := by decide +kernel
theorem dX12_init_82 : decode cX12_init 82 = .ok (.putfield 47, 3) := by decide +kernel
theorem dX12_init_85 : decode cX12_init 85 = .ok (.aload_n 0, 1) := by decide +kernel
theorem dX12_init_86 : decode cX12_init 86 = .ok (.iload_n 1, 1) := by decide +kernel
theorem dX12_init_87 : decode cX12_init 87 = .ok (.newarray .int, 2) := by decide +kernel
theorem dX12_init_89 : decode cX12_init 89 = .ok (.putfield 50, 3) := by decide +kernel
theorem dX12_init_92 : decode cX12_init 92 = .ok (.aload_n 0, 1) := by decide +kernel
theorem dX12_init_93 : decode cX12_init 93 = .ok (.iload_n 1, 1) := by decide +kernel
theorem dX12_init_94 : decode cX12_init 94 = .ok (.newarray .int, 2) := by decide +kernel
theorem dX12_init_96 : decode cX12_init 96 = .ok (.putfield 53, 3) := by decide +kernel
theorem dX12_init_99 : decode cX12_init 99 = .ok (.return_, 1) := by decide +kernel
theorem dX12_add_0 : decode cX12_add 0 = .ok (.aload_n 0, 1) := by decide +kernel
theorem dX12_add_1 : decode cX12_add 1 = .ok (.getfield 7, 3) := by decide +kernel
theorem dX12_add_4 : decode cX12_add 4 = .ok (.aload_n 0, 1) := by decide +kernel
theorem dX12_add_5 : decode cX12_add 5 = .ok (.getfield 25, 3) := by decide +kernel
theorem dX12_add_8 : decode cX12_add 8 = .ok (.arraylength, 1) := by decide +kernel
theorem dX12_add_9 : decode cX12_add 9 = .ok (.if_icmp .lt 5, 3) := by decide +kernel
theorem dX12_add_14 : decode cX12_add 14 = .ok (.aload_n 0, 1) := by decide +kernel
theorem dX12_add_15 : decode cX12_add 15 = .ok (.getfield 7, 3) := by decide +kernel
theorem dX12_add_18 : decode cX12_add 18 = .ok (.istore_n 3, 1) := by decide +kernel
theorem dX12_add_19 : decode cX12_add 19 = .ok (.aload_n 0, 1) := by decide +kernel
theorem dX12_add_20 : decode cX12_add 20 = .ok (.dup, 1) := by decide +kernel
theorem dX12_add_21 : decode cX12_add 21 = .ok (.getfield 7, 3) := by decide +kernel
theorem dX12_add_24 : decode cX12_add 24 = .ok (.iconst 1, 1) := by decide +kernel
theorem dX12_add_25 : decode cX12_add 25 = .ok (.iadd, 1) := by decide +kernel
theorem dX12_add_26 : decode cX12_add 26 = .ok (.putfield 7, 3) := by decide +kernel
theorem dX12_add_29 : decode cX12_add 29 = .ok (.aload_n 0, 1) := by decide +kernel
theorem dX12_add_30 : decode cX12_add 30 = .ok (.getfield 25, 3) := by decide +kernel
theorem dX12_add_33 : decode cX12_add 33 = .ok (.iload_n 3, 1) := by decide +kernel
theorem dX12_add_34 : decode cX12_add 34 = .ok (.iload_n 1, 1) := by decide +kernel
theorem dX12_add_35 : decode cX12_add 35 = .ok (.iastore, 1) := by decide +kernel
theorem dX12_add_36 : decode cX12_add 36 = .ok (.aload_n 0, 1) := by decide +kernel
theorem dX12_add_37 : decode cX12_add 37 = .ok (.getfield 29, 3) := by decide +kernel
theorem dX12_add_40 : decode cX12_add 40 = .ok (.iload_n 3, 1) := by decide +kernel
theorem dX12_add_41 : decode cX12_add 41 = .ok (.iload_n 2, 1) := by decide +kernel
theorem dX12_add_42 : decode cX12_add 42 = .ok (.iastore, 1) := by decide +kernel
theorem dX12_add_43 : decode cX12_add 43 = .ok (.iload_n 3, 1) := by decide +kernel
theorem dX12_add_44 : decode cX12_add 44 = .ok (.ireturn, 1) := by decide +kernel
theorem dX12_append_0 : decode cX12_append 0 = .ok (.iload_n 2, 1) := by decide +kernel
theorem dX12_append_1 : decode cX12_append 1 = .ok (.ifCond .ne 4, 3) := by decide +kernel
theorem dX12_append_5 : decode cX12_append 5 = .ok (.aload_n 0, 1) := by decide +kernel
theorem dX12_append_6 : decode cX12_append 6 = .ok (.getfield 41, 3) := by decide +kernel
theorem dX12_append_9 : decode cX12_append 9 = .ok (.iload_n 1, 1) := by decide +kernel
theorem dX12_append_10 : decode cX12_append 10 = .ok (.iaload, 1) := by decide +kernel
theorem dX12_append_11 : decode cX12_append 11 = .ok (.ifCond .ne 13, 3) := by decide +kernel
theorem dX12_append_14 : decode cX12_append 14 = .ok (.aload_n 0, 1) := by decide +kernel
theorem dX12_append_15 : decode cX12_append 15 = .ok (.getfield 41, 3) := by decide +kernel
theorem dX12_append_18 : decode cX12_append 18 = .ok (.iload_n 1, 1) := by decide +kernel
theorem dX12_append_19 : decode cX12_append 19 = .ok (.iload_n 2, 1) := by decide +kernel
theorem dX12_append_20 : decode cX12_append 20 = .ok (.iastore, 1) := by decide +kernel
theorem dX12_append_21 : decode cX12_append 21 = .ok (.goto 15, 3) := by decide +kernel
theorem dX12_append_36 : decode cX12_append 36 = .ok (.aload_n 0, 1) := by decide +kernel
theorem dX12_append_37 : decode cX12_append 37 = .ok (.getfield 47, 3) := by decide +kernel
theorem dX12_append_40 : decode cX12_append 40 = .ok (.iload_n 1, 1) := by decide +kernel
theorem dX12_append_41 : decode cX12_append 41 = .ok (.iload_n 2, 1) := by decide +kernel
theorem dX12_append_42 : decode cX12_append 42 = .ok (.iastore, 1) := by decide +kernel
theorem dX12_append_43 : decode cX12_append 43 = .ok (.return_, 1) := by decide +kernel
theorem dX13_feed_0 : decode cX13_feed 0 = .ok (.aload_n 0, 1) := by decide +kernel
theorem dX13_feed_1 : decode cX13_feed 1 = .ok (.getfield 70, 3) := by decide +kernel
theorem dX13_feed_4 : decode cX13_feed 4 = .ok (.bipush 20, 2) := by decide +kernel
theorem dX13_feed_6 : decode cX13_feed 6 = .ok (.iadd, 1) := by decide +kernel
theorem dX13_feed_7 : decode cX13_feed 7 = .ok (.sipush 6000, 3) := by decide +kernel
theorem dX13_feed_10 : decode cX13_feed 10 = .ok (.if_icmp .gt 13, 3) := by decide +kernel
theorem dX13_feed_13 : decode cX13_feed 13 = .ok (.aload_n 0, 1) := by decide +kernel
theorem dX13_feed_14 : decode cX13_feed 14 = .ok (.getfield 74, 3) := by decide +kernel
theorem dX13_feed_17 : decode cX13_feed 17 = .ok (.sipush 512, 3) := by decide +kernel
theorem dX13_feed_20 : decode cX13_feed 20 = .ok (.if_icmp .lt 5, 3) := by decide +kernel
theorem dX13_feed_25 : decode cX13_feed 25 = .ok (.aload_n 0, 1) := by decide +kernel
theorem dX13_feed_26 : decode cX13_feed 26 = .ok (.dup, 1) := by decide +kernel
theorem dX13_feed_27 : decode cX13_feed 27 = .ok (.getfield 74, 3) := by decide +kernel
theorem dX13_feed_30 : decode cX13_feed 30 = .ok (.iconst 1, 1) := by decide +kernel
theorem dX13_feed_31 : decode cX13_feed 31 = .ok (.iadd, 1) := by decide +kernel
theorem dX13_feed_32 : decode cX13_feed 32 = .ok (.putfield 74, 3) := by decide +kernel
theorem dX13_feed_35 : decode cX13_feed 35 = .ok (.aload_n 0, 1) := by decide +kernel
theorem dX13_feed_36 : decode cX13_feed 36 = .ok (.iload_n 1, 1) := by decide +kernel
theorem dX13_feed_37 : decode cX13_feed 37 = .ok (.invokevirtual 155, 3) := by decide +kernel
theorem dX13_feed_40 : decode cX13_feed 40 = .ok (.aload_n 0, 1) := by decide +kernel
theorem dX13_feed_41 : decode cX13_feed 41 = .ok (.iload_n 2, 1) := by decide +kernel
theorem dX13_feed_42 : decode cX13_feed 42 = .ok (.invokevirtual 155, 3) := by decide +kernel
theorem dX13_feed_45 : decode cX13_feed 45 = .ok (.aload_n 0, 1) := by decide +kernel
theorem dX13_feed_46 : decode cX13_feed 46 = .ok (.iload_n 3, 1) := by decide +kernel
theorem dX13_feed_47 : decode cX13_feed 47 = .ok (.invokevirtual 155, 3) := by decide +kernel
theorem dX13_feed_50 : decode cX13_feed 50 = .ok (.aload_n 0, 1) := by decide +kernel
theorem dX13_feed_51 : decode cX13_feed 51 = .ok (.iload 4, 2) := by decide +kernel
theorem dX13_feed_53 : decode cX13_feed 53 = .ok (.invokevirtual 155, 3) := by decide +kernel
theorem dX13_feed_56 : decode cX13_feed 56 = .ok (.aload_n 0, 1) := by decide +kernel
theorem dX13_feed_57 : decode cX13_feed 57 = .ok (.iload 5, 2) := by decide +kernel
theorem dX13_feed_59 : decode cX13_feed 59 = .ok (.invokevirtual 155, 3) := by decide +kernel
theorem dX13_feed_62 : decode cX13_feed 62 = .ok (.iconst 1, 1) := by decide +kernel
theorem dX13_feed_63 : decode cX13_feed 63 = .ok (.ireturn, 1) := by decide +kernel
theorem dX13_put_0 : decode cX13_put 0 = .ok (.bipush 24, 2) := by decide +kernel
theorem dX13_put_2 : decode cX13_put 2 = .ok (.istore_n 2, 1) := by decide +kernel
theorem dX13_put_3 : decode cX13_put 3 = .ok (.iload_n 2, 1) := by decide +kernel
theorem dX13_put_4 : decode cX13_put 4 = .ok (.ifCond .lt 45, 3) := by decide +kernel
theorem dX13_put_7 : decode cX13_put 7 = .ok (.aload_n 0, 1) := by decide +kernel
theorem dX13_put_8 : decode cX13_put 8 = .ok (.getfield 70, 3) := by decide +kernel
theorem dX13_put_11 : decode cX13_put 11 = .ok (.sipush 6000, 3) := by decide +kernel
theorem dX13_put_14 : decode cX13_put 14 = .ok (.if_icmp .ge 35, 3) := by decide +kernel
theorem dX13_put_17 : decode cX13_put 17 = .ok (.aload_n 0, 1) := by decide +kernel
theorem dX13_put_18 : decode cX13_put 18 = .ok (.getfield 66, 3) := by decide +kernel
theorem dX13_put_21 : decode cX13_put 21 = .ok (.aload_n 0, 1) := by decide +kernel
theorem dX13_put_22 : decode cX13_put 22 = .ok (.getfield 70, 3) := by decide +kernel
theorem dX13_put_25 : decode cX13_put 25 = .ok (.iload_n 1, 1) := by decide +kernel
theorem dX13_put_26 : decode cX13_put 26 = .ok (.iload_n 2, 1) := by decide +kernel
theorem dX13_put_27 : decode cX13_put 27 = .ok (.iushr, 1) := by decide +kernel
theorem dX13_put_28 : decode cX13_put 28 = .ok (.sipush 255, 3) := by decide +kernel
theorem dX13_put_31 : decode cX13_put 31 = .ok (.iand, 1) := by decide +kernel
theorem dX13_put_32 : decode cX13_put 32 = .ok (.iastore, 1) := by decide +kernel
theorem dX13_put_33 : decode cX13_put 33 = .ok (.aload_n 0, 1) := by decide +kernel
theorem dX13_put_34 : decode cX13_put 34 = .ok (.dup, 1) := by decide +kernel
theorem dX13_put_35 : decode cX13_put 35 = .ok (.getfield 70, 3) := by decide +kernel
theorem dX13_put_38 : decode cX13_put 38 = .ok (.iconst 1, 1) := by decide +kernel
theorem dX13_put_39 : decode cX13_put 39 = .ok (.iadd, 1) := by decide +kernel
theorem dX13_put_40 : decode cX13_put 40 = .ok (.putfield 70, 3) := by decide +kernel
theorem dX13_put_43 : decode cX13_put 43 = .ok (.iinc 2 (-8), 3) := by decide +kernel
theorem dX13_put_46 : decode cX13_put 46 = .ok (.goto (-43), 3) := by decide +kernel
theorem dX13_put_49 : decode cX13_put 49 = .ok (.return_, 1) := by decide +kernel
theorem dX13_end_0 : decode cX13_end 0 = .ok (.iload_n 1, 1) := by decide +kernel
theorem dX13_end_1 : decode cX13_end 1 = .ok (.ifCond .lt 11, 3) := by decide +kernel
theorem dX13_end_4 : decode cX13_end 4 = .ok (.iload_n 1, 1) := by decide +kernel
theorem dX13_end_5 : decode cX13_end 5 = .ok (.aload_n 0, 1) := by decide +kernel
theorem dX13_end_6 : decode cX13_end 6 = .ok (.getfield 70, 3) := by decide +kernel
theorem dX13_end_9 : decode cX13_end 9 = .ok (.if_icmp .le 5, 3) := by decide +kernel
theorem dX13_end_12 : decode cX13_end 12 = .ok (.iconst 0, 1) := by decide +kernel
theorem dX13_end_13 : decode cX13_end 13 = .ok (.ireturn, 1) := by decide +kernel
theorem dX13_end_14 : decode cX13_end 14 = .ok (.aload_n 0, 1) := by decide +kernel
theorem dX13_end_15 : decode cX13_end 15 = .ok (.iload_n 1, 1) := by decide +kernel
theorem dX13_end_16 : decode cX13_end 16 = .ok (.putfield 70, 3) := by decide +kernel
theorem dX13_end_19 : decode cX13_end 19 = .ok (.iconst 1, 1) := by decide +kernel
theorem dX13_end_20 : decode cX13_end 20 = .ok (.ireturn, 1) := by decide +kernel
theorem dX13_emptied_0 : decode cX13_emptied 0 = .ok (.aload_n 0, 1) := by decide +kernel
theorem dX13_emptied_1 : decode cX13_emptied 1 = .ok (.getfield 70, 3) := by decide +kernel
theorem dX13_emptied_4 : decode cX13_emptied 4 = .ok (.istore_n 1, 1) := by decide +kernel
theorem dX13_emptied_5 : decode cX13_emptied 5 = .ok (.aload_n 0, 1) := by decide +kernel
theorem dX13_emptied_6 : decode cX13_emptied 6 = .ok (.iconst 0, 1) := by decide +kernel
theorem dX13_emptied_7 : decode cX13_emptied 7 = .ok (.putfield 70, 3) := by decide +kernel
theorem dX13_emptied_10 : decode cX13_emptied 10 = .ok (.iload_n 1, 1) := by decide +kernel
theorem dX13_emptied_11 : decode cX13_emptied 11 = .ok (.ireturn, 1) := by decide +kernel
theorem dX13_module_0 : decode cX13_module 0 = .ok (.aload_n 0, 1) := by decide +kernel
theorem dX13_module_1 : decode cX13_module 1 = .ok (.getfield 37, 3) := by decide +kernel
theorem dX13_module_4 : decode cX13_module 4 = .ok (.aload_n 0, 1) := by decide +kernel
theorem dX13_module_5 : decode cX13_module 5 = .ok (.getfield 66, 3) := by decide +kernel
theorem dX13_module_8 : decode cX13_module 8 = .ok (.aload_n 0, 1) := by decide +kernel
theorem dX13_module_9 : decode cX13_module 9 = .ok (.invokevirtual 158, 3) := by decide +kernel
theorem dX13_module_12 : decode cX13_module 12 = .ok (.invokevirtual 162, 3) := by decide +kernel
theorem dX13_module_15 : decode cX13_module 15 = .ok (.astore_n 1, 1) := by decide +kernel
theorem dX13_module_16 : decode cX13_module 16 = .ok (.aload_n 1, 1) := by decide +kernel
theorem dX13_module_17 : decode cX13_module 17 = .ok (.ifnonnull 13, 3) := by decide +kernel
theorem dX13_module_20 : decode cX13_module 20 = .ok (.iconst (-1), 1) := by decide +kernel
theorem dX13_module_21 : decode cX13_module 21 = .ok (.aload_n 0, 1) := by decide +kernel
theorem dX13_module_22 : decode cX13_module 22 = .ok (.getfield 37, 3) := by decide +kernel
theorem dX13_module_25 : decode cX13_module 25 = .ok (.getfield 166, 3) := by decide +kernel
