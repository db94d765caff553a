theorem dX4_init_28 : decode cX4_init 28 = .ok (.aload_n 0, 1) := by decide +kernel
theorem dX4_init_29 : decode cX4_init 29 = .ok (.iconst 0, 1) := by decide +kernel
theorem dX4_init_30 : decode cX4_init 30 = .ok (.putfield 21, 3) := by decide +kernel
theorem dX4_init_33 : decode cX4_init 33 = .ok (.aload_n 0, 1) := by decide +kernel
theorem dX4_init_34 : decode cX4_init 34 = .ok (.bipush 16, 2) := by decide +kernel
theorem dX4_init_36 : decode cX4_init 36 = .ok (.putfield 25, 3) := by decide +kernel
theorem dX4_init_39 : decode cX4_init 39 = .ok (.aload_n 0, 1) := by decide +kernel
theorem dX4_init_40 : decode cX4_init 40 = .ok (.ldc 28, 2) := by decide +kernel
theorem dX4_init_42 : decode cX4_init 42 = .ok (.putfield 29, 3) := by decide +kernel
theorem dX4_init_45 : decode cX4_init 45 = .ok (.aload_n 0, 1) := by decide +kernel
theorem dX4_init_46 : decode cX4_init 46 = .ok (.ldc 32, 2) := by decide +kernel
theorem dX4_init_48 : decode cX4_init 48 = .ok (.putfield 33, 3) := by decide +kernel
theorem dX4_init_51 : decode cX4_init 51 = .ok (.aload_n 0, 1) := by decide +kernel
theorem dX4_init_52 : decode cX4_init 52 = .ok (.iconst 0, 1) := by decide +kernel
theorem dX4_init_53 : decode cX4_init 53 = .ok (.putfield 36, 3) := by decide +kernel
theorem dX4_init_56 : decode cX4_init 56 = .ok (.aload_n 0, 1) := by decide +kernel
theorem dX4_init_57 : decode cX4_init 57 = .ok (.getfield 10, 3) := by decide +kernel
theorem dX4_init_60 : decode cX4_init 60 = .ok (.iconst 2, 1) := by decide +kernel
theorem dX4_init_61 : decode cX4_init 61 = .ok (.iconst 1, 1) := by decide +kernel
theorem dX4_init_62 : decode cX4_init 62 = .ok (.iastore, 1) := by decide +kernel
theorem dX4_init_63 : decode cX4_init 63 = .ok (.aload_n 0, 1) := by decide +kernel
theorem dX4_init_64 : decode cX4_init 64 = .ok (.getfield 10, 3) := by decide +kernel
theorem dX4_init_67 : decode cX4_init 67 = .ok (.iconst 3, 1) := by decide +kernel
theorem dX4_init_68 : decode cX4_init 68 = .ok (.iconst 2, 1) := by decide +kernel
theorem dX4_init_69 : decode cX4_init 69 = .ok (.iastore, 1) := by decide +kernel
theorem dX4_init_70 : decode cX4_init 70 = .ok (.iconst 5, 1) := by decide +kernel
theorem dX4_init_71 : decode cX4_init 71 = .ok (.istore_n 1, 1) := by decide +kernel
theorem dX4_init_72 : decode cX4_init 72 = .ok (.iload_n 1, 1) := by decide +kernel
theorem dX4_init_73 : decode cX4_init 73 = .ok (.bipush 7, 2) := by decide +kernel
theorem dX4_init_75 : decode cX4_init 75 = .ok (.if_icmp .gt 33, 3) := by decide +kernel
theorem dX4_init_78 : decode cX4_init 78 = .ok (.aload_n 0, 1) := by decide +kernel
theorem dX4_init_79 : decode cX4_init 79 = .ok (.getfield 10, 3) := by decide +kernel
theorem dX4_init_82 : decode cX4_init 82 = .ok (.iload_n 1, 1) := by decide +kernel
theorem dX4_init_83 : decode cX4_init 83 = .ok (.invokestatic 40, 3) := by decide +kernel
theorem dX4_init_86 : decode cX4_init 86 = .ok (.iload_n 1, 1) := by decide +kernel
theorem dX4_init_87 : decode cX4_init 87 = .ok (.iastore, 1) := by decide +kernel
theorem dX4_init_88 : decode cX4_init 88 = .ok (.aload_n 0, 1) := by decide +kernel
theorem dX4_init_89 : decode cX4_init 89 = .ok (.getfield 10, 3) := by decide +kernel
theorem dX4_init_92 : decode cX4_init 92 = .ok (.iload_n 1, 1) := by decide +kernel
theorem dX4_init_93 : decode cX4_init 93 = .ok (.invokestatic 40, 3) := by decide +kernel
theorem dX4_init_96 : decode cX4_init 96 = .ok (.iconst 1, 1) := by decide +kernel
theorem dX4_init_97 : decode cX4_init 97 = .ok (.iadd, 1) := by decide +kernel
theorem dX4_init_98 : decode cX4_init 98 = .ok (.sipush 257, 3) := by decide +kernel
theorem dX4_init_101 : decode cX4_init 101 = .ok (.iastore, 1) := by decide +kernel
theorem dX4_init_102 : decode cX4_init 102 = .ok (.iinc 1 1, 3) := by decide +kernel
theorem dX4_init_105 : decode cX4_init 105 = .ok (.goto (-33), 3) := by decide +kernel
theorem dX4_init_108 : decode cX4_init 108 = .ok (.return_, 1) := by decide +kernel
theorem dX4_empty_0 : decode cX4_empty 0 = .ok (.iconst 4, 1) := by decide +kernel
theorem dX4_empty_1 : decode cX4_empty 1 = .ok (.iconst 2, 1) := by decide +kernel
theorem dX4_empty_2 : decode cX4_empty 2 = .ok (.iload_n 0, 1) := by decide +kernel
theorem dX4_empty_3 : decode cX4_empty 3 = .ok (.iconst 5, 1) := by decide +kernel
theorem dX4_empty_4 : decode cX4_empty 4 = .ok (.isub, 1) := by decide +kernel
theorem dX4_empty_5 : decode cX4_empty 5 = .ok (.imul, 1) := by decide +kernel
theorem dX4_empty_6 : decode cX4_empty 6 = .ok (.iadd, 1) := by decide +kernel
theorem dX4_empty_7 : decode cX4_empty 7 = .ok (.ireturn, 1) := by decide +kernel
theorem dX4_room_0 : decode cX4_room 0 = .ok (.aload_n 0, 1) := by decide +kernel
theorem dX4_room_1 : decode cX4_room 1 = .ok (.getfield 29, 3) := by decide +kernel
theorem dX4_room_4 : decode cX4_room 4 = .ok (.iload_n 1, 1) := by decide +kernel
theorem dX4_room_5 : decode cX4_room 5 = .ok (.iadd, 1) := by decide +kernel
theorem dX4_room_6 : decode cX4_room 6 = .ok (.aload_n 0, 1) := by decide +kernel
theorem dX4_room_7 : decode cX4_room 7 = .ok (.getfield 33, 3) := by decide +kernel
theorem dX4_room_10 : decode cX4_room 10 = .ok (.if_icmp .le 20, 3) := by decide +kernel
theorem dX4_room_30 : decode cX4_room 30 = .ok (.aload_n 0, 1) := by decide +kernel
theorem dX4_room_31 : decode cX4_room 31 = .ok (.getfield 29, 3) := by decide +kernel
theorem dX4_room_34 : decode cX4_room 34 = .ok (.istore_n 2, 1) := by decide +kernel
theorem dX4_room_35 : decode cX4_room 35 = .ok (.aload_n 0, 1) := by decide +kernel
theorem dX4_room_36 : decode cX4_room 36 = .ok (.dup, 1) := by decide +kernel
theorem dX4_room_37 : decode cX4_room 37 = .ok (.getfield 29, 3) := by decide +kernel
theorem dX4_room_40 : decode cX4_room 40 = .ok (.iload_n 1, 1) := by decide +kernel
theorem dX4_room_41 : decode cX4_room 41 = .ok (.iadd, 1) := by decide +kernel
theorem dX4_room_42 : decode cX4_room 42 = .ok (.putfield 29, 3) := by decide +kernel
theorem dX4_room_45 : decode cX4_room 45 = .ok (.iload_n 2, 1) := by decide +kernel
theorem dX4_room_46 : decode cX4_room 46 = .ok (.ireturn, 1) := by decide +kernel
theorem dX4_reset_0 : decode cX4_reset 0 = .ok (.aload_n 0, 1) := by decide +kernel
theorem dX4_reset_1 : decode cX4_reset 1 = .ok (.iload_n 1, 1) := by decide +kernel
theorem dX4_reset_2 : decode cX4_reset 2 = .ok (.putfield 29, 3) := by decide +kernel
theorem dX4_reset_5 : decode cX4_reset 5 = .ok (.aload_n 0, 1) := by decide +kernel
theorem dX4_reset_6 : decode cX4_reset 6 = .ok (.ldc 32, 2) := by decide +kernel
theorem dX4_reset_8 : decode cX4_reset 8 = .ok (.putfield 33, 3) := by decide +kernel
theorem dX4_reset_11 : decode cX4_reset 11 = .ok (.aload_n 0, 1) := by decide +kernel
theorem dX4_reset_12 : decode cX4_reset 12 = .ok (.iconst 0, 1) := by decide +kernel
theorem dX4_reset_13 : decode cX4_reset 13 = .ok (.putfield 36, 3) := by decide +kernel
theorem dX4_reset_16 : decode cX4_reset 16 = .ok (.aload_n 0, 1) := by decide +kernel
theorem dX4_reset_17 : decode cX4_reset 17 = .ok (.iconst 0, 1) := by decide +kernel
theorem dX4_reset_18 : decode cX4_reset 18 = .ok (.putfield 21, 3) := by decide +kernel
theorem dX4_reset_21 : decode cX4_reset 21 = .ok (.return_, 1) := by decide +kernel
theorem dX4_kind_0 : decode cX4_kind 0 = .ok (.aload_n 0, 1) := by decide +kernel
theorem dX4_kind_1 : decode cX4_kind 1 = .ok (.getfield 10, 3) := by decide +kernel
theorem dX4_kind_4 : decode cX4_kind 4 = .ok (.iload_n 1, 1) := by decide +kernel
theorem dX4_kind_5 : decode cX4_kind 5 = .ok (.iaload, 1) := by decide +kernel
theorem dX4_kind_6 : decode cX4_kind 6 = .ok (.bipush 15, 2) := by decide +kernel
theorem dX4_kind_8 : decode cX4_kind 8 = .ok (.iand, 1) := by decide +kernel
theorem dX4_kind_9 : decode cX4_kind 9 = .ok (.ireturn, 1) := by decide +kernel
theorem dX4_size_0 : decode cX4_size 0 = .ok (.aload_n 0, 1) := by decide +kernel
theorem dX4_size_1 : decode cX4_size 1 = .ok (.getfield 10, 3) := by decide +kernel
theorem dX4_size_4 : decode cX4_size 4 = .ok (.iload_n 1, 1) := by decide +kernel
theorem dX4_size_5 : decode cX4_size 5 = .ok (.iaload, 1) := by decide +kernel
theorem dX4_size_6 : decode cX4_size 6 = .ok (.iconst 4, 1) := by decide +kernel
theorem dX4_size_7 : decode cX4_size 7 = .ok (.iushr, 1) := by decide +kernel
theorem dX4_size_8 : decode cX4_size 8 = .ok (.ireturn, 1) := by decide +kernel
theorem dX4_made_0 : decode cX4_made 0 = .ok (.iload_n 1, 1) := by decide +kernel
theorem dX4_made_1 : decode cX4_made 1 = .ok (.bipush 6, 2) := by decide +kernel
theorem dX4_made_3 : decode cX4_made 3 = .ok (.if_icmp .ne 7, 3) := by decide +kernel
theorem dX4_made_6 : decode cX4_made 6 = .ok (.iconst 2, 1) := by decide +kernel
theorem dX4_made_7 : decode cX4_made 7 = .ok (.goto 4, 3) := by decide +kernel
theorem dX4_made_11 : decode cX4_made 11 = .ok (.istore 4, 2) := by decide +kernel
theorem dX4_made_13 : decode cX4_made 13 = .ok (.aload_n 0, 1) := by decide +kernel
theorem dX4_made_14 : decode cX4_made 14 = .ok (.getfield 21, 3) := by decide +kernel
theorem dX4_made_17 : decode cX4_made 17 = .ok (.iload_n 2, 1) := by decide +kernel
theorem dX4_made_18 : decode cX4_made 18 = .ok (.isub, 1) := by decide +kernel
theorem dX4_made_19 : decode cX4_made 19 = .ok (.iload 4, 2) := by decide +kernel
theorem dX4_made_21 : decode cX4_made 21 = .ok (.idiv, 1) := by decide +kernel
theorem dX4_made_22 : decode cX4_made 22 = .ok (.istore 5, 2) := by decide +kernel
theorem dX4_made_24 : decode cX4_made 24 = .ok (.aload_n 0, 1) := by decide +kernel
theorem dX4_made_25 : decode cX4_made 25 = .ok (.iload_n 2, 1) := by decide +kernel
theorem dX4_made_26 : decode cX4_made 26 = .ok (.putfield 21, 3) := by decide +kernel
theorem dX4_made_29 : decode cX4_made 29 = .ok (.iload 5, 2) := by decide +kernel
theorem dX4_made_31 : decode cX4_made 31 = .ok (.ifCond .gt 8, 3) := by decide +kernel
theorem dX4_made_34 : decode cX4_made 34 = .ok (.iload_n 1, 1) := by decide +kernel
theorem dX4_made_35 : decode cX4_made 35 = .ok (.invokestatic 40, 3) := by decide +kernel
theorem dX4_made_38 : decode cX4_made 38 = .ok (.ireturn, 1) := by decide +kernel
theorem dX4_copy_0 : decode cX4_copy 0 = .ok (.aload_n 0, 1) := by decide +kernel
theorem dX4_copy_1 : decode cX4_copy 1 = .ok (.iload_n 1, 1) := by decide +kernel
theorem dX4_copy_2 : decode cX4_copy 2 = .ok (.invokevirtual 46, 3) := by decide +kernel
theorem dX4_copy_5 : decode cX4_copy 5 = .ok (.istore_n 2, 1) := by decide +kernel
theorem dX4_copy_6 : decode cX4_copy 6 = .ok (.iload_n 2, 1) := by decide +kernel
theorem dX4_copy_7 : decode cX4_copy 7 = .ok (.iconst 3, 1) := by decide +kernel
theorem dX4_copy_8 : decode cX4_copy 8 = .ok (.if_icmp .ge 5, 3) := by decide +kernel
theorem dX4_copy_13 : decode cX4_copy 13 = .ok (.aload_n 0, 1) := by decide +kernel
theorem dX4_copy_14 : decode cX4_copy 14 = .ok (.iload_n 1, 1) := by decide +kernel
theorem dX4_copy_15 : decode cX4_copy 15 = .ok (.invokevirtual 110, 3) := by decide +kernel
theorem dX4_copy_18 : decode cX4_copy 18 = .ok (.istore_n 3, 1) := by decide +kernel
theorem dX4_copy_19 : decode cX4_copy 19 = .ok (.iload_n 2, 1) := by decide +kernel
theorem dX4_copy_20 : decode cX4_copy 20 = .ok (.iconst 3, 1) := by decide +kernel
theorem dX4_copy_21 : decode cX4_copy 21 = .ok (.if_icmp .ne 7, 3) := by decide +kernel
theorem dX4_copy_28 : decode cX4_copy 28 = .ok (.iload_n 2, 1) := by decide +kernel
theorem dX4_copy_29 : decode cX4_copy 29 = .ok (.iconst 4, 1) := by decide +kernel
theorem dX4_copy_30 : decode cX4_copy 30 = .ok (.if_icmp .ne 9, 3) := by decide +kernel
theorem dX4_copy_39 : decode cX4_copy 39 = .ok (.iload_n 2, 1) := by decide +kernel
theorem dX4_copy_40 : decode cX4_copy 40 = .ok (.bipush 6, 2) := by decide +kernel
theorem dX4_copy_42 : decode cX4_copy 42 = .ok (.if_icmp .ne 11, 3) := by decide +kernel
theorem dX4_copy_45 : decode cX4_copy 45 = .ok (.iconst 2, 1) := by decide +kernel
theorem dX4_copy_46 : decode cX4_copy 46 = .ok (.iload_n 3, 1) := by decide +kernel
theorem dX4_copy_47 : decode cX4_copy 47 = .ok (.imul, 1) := by decide +kernel
theorem dX4_copy_48 : decode cX4_copy 48 = .ok (.iconst 2, 1) := by decide +kernel
theorem dX4_copy_49 : decode cX4_copy 49 = .ok (.iadd, 1) := by decide +kernel
theorem dX4_copy_50 : decode cX4_copy 50 = .ok (.goto 6, 3) := by decide +kernel
theorem dX4_copy_56 : decode cX4_copy 56 = .ok (.istore 4, 2) := by decide +kernel
theorem dX4_copy_58 : decode cX4_copy 58 = .ok (.aload_n 0, 1) := by decide +kernel
theorem dX4_copy_59 : decode cX4_copy 59 = .ok (.iload 4, 2) := by decide +kernel
theorem dX4_copy_61 : decode cX4_copy 61 = .ok (.invokevirtual 65, 3) := by decide +kernel
theorem dX4_copy_64 : decode cX4_copy 64 = .ok (.istore 5, 2) := by decide +kernel
theorem dX4_copy_66 : decode cX4_copy 66 = .ok (.aload_n 0, 1) := by decide +kernel
theorem dX4_copy_67 : decode cX4_copy 67 = .ok (.getfield 10, 3) := by decide +kernel
theorem dX4_copy_70 : decode cX4_copy 70 = .ok (.iload_n 1, 1) := by decide +kernel
theorem dX4_copy_71 : decode cX4_copy 71 = .ok (.aload_n 0, 1) := by decide +kernel
theorem dX4_copy_72 : decode cX4_copy 72 = .ok (.getfield 10, 3) := by decide +kernel
theorem dX4_copy_75 : decode cX4_copy 75 = .ok (.iload 5, 2) := by decide +kernel
theorem dX4_copy_77 : decode cX4_copy 77 = .ok (.iload 4, 2) := by decide +kernel
theorem dX4_copy_79 : decode cX4_copy 79 = .ok (.invokestatic 76, 3) := by decide +kernel
theorem dX4_copy_82 : decode cX4_copy 82 = .ok (.iload_n 2, 1) := by decide +kernel
theorem dX4_copy_83 : decode cX4_copy 83 = .ok (.iconst 5, 1) := by decide +kernel
theorem dX4_copy_84 : decode cX4_copy 84 = .ok (.if_icmp .lt 42, 3) := by decide +kernel
theorem dX4_copy_87 : decode cX4_copy 87 = .ok (.iconst 2, 1) := by decide +kernel
theorem dX4_copy_88 : decode cX4_copy 88 = .ok (.istore 6, 2) := by decide +kernel
theorem dX4_copy_90 : decode cX4_copy 90 = .ok (.iload 6, 2) := by decide +kernel
theorem dX4_copy_92 : decode cX4_copy 92 = .ok (.iload 4, 2) := by decide +kernel
theorem dX4_copy_94 : decode cX4_copy 94 = .ok (.if_icmp .ge 32, 3) := by decide +kernel
theorem dX4_copy_126 : decode cX4_copy 126 = .ok (.iload 5, 2) := by decide +kernel
theorem dX4_copy_128 : decode cX4_copy 128 = .ok (.ireturn, 1) := by decide +kernel
theorem dX4_copyTo_0 : decode cX4_copyTo 0 = .ok (.aload_n 0, 1) := by decide +kernel
theorem dX4_copyTo_1 : decode cX4_copyTo 1 = .ok (.getfield 29, 3) := by decide +kernel
theorem dX4_copyTo_4 : decode cX4_copyTo 4 = .ok (.istore_n 3, 1) := by decide +kernel
theorem dX4_copyTo_5 : decode cX4_copyTo 5 = .ok (.aload_n 0, 1) := by decide +kernel
theorem dX4_copyTo_6 : decode cX4_copyTo 6 = .ok (.ldc 82, 2) := by decide +kernel
theorem dX4_copyTo_8 : decode cX4_copyTo 8 = .ok (.iload_n 1, 1) := by decide +kernel
theorem dX4_copyTo_9 : decode cX4_copyTo 9 = .ok (.sipush 16500, 3) := by decide +kernel
theorem dX4_copyTo_12 : decode cX4_copyTo 12 = .ok (.imul, 1) := by decide +kernel
theorem dX4_copyTo_13 : decode cX4_copyTo 13 = .ok (.iadd, 1) := by decide +kernel
theorem dX4_copyTo_14 : decode cX4_copyTo 14 = .ok (.putfield 29, 3) := by decide +kernel
theorem dX4_copyTo_17 : decode cX4_copyTo 17 = .ok (.aload_n 0, 1) := by decide +kernel
theorem dX4_copyTo_18 : decode cX4_copyTo 18 = .ok (.iload_n 2, 1) := by decide +kernel
theorem dX4_copyTo_19 : decode cX4_copyTo 19 = .ok (.invokevirtual 116, 3) := by decide +kernel
theorem dX4_copyTo_22 : decode cX4_copyTo 22 = .ok (.istore 4, 2) := by decide +kernel
theorem dX4_copyTo_24 : decode cX4_copyTo 24 = .ok (.aload_n 0, 1) := by decide +kernel
theorem dX4_copyTo_25 : decode cX4_copyTo 25 = .ok (.iload_n 3, 1) := by decide +kernel
theorem dX4_copyTo_26 : decode cX4_copyTo 26 = .ok (.putfield 29, 3) := by decide +kernel
theorem dX4_copyTo_29 : decode cX4_copyTo 29 = .ok (.iload 4, 2) := by decide +kernel
theorem dX4_copyTo_31 : decode cX4_copyTo 31 = .ok (.ireturn, 1) := by decide +kernel
theorem dX5_init_0 : decode cX5_init 0 = .ok (.aload_n 0, 1) := by decide +kernel
theorem dX5_init_1 : decode cX5_init 1 = .ok (.invokespecial 1, 3) := by decide +kernel
theorem dX5_init_4 : decode cX5_init 4 = .ok (.aload_n 0, 1) := by decide +kernel
theorem dX5_init_5 : decode cX5_init 5 = .ok (.sipush 20000, 3) := by decide +kernel
theorem dX5_init_8 : decode cX5_init 8 = .ok (.newarray .int, 2) := by decide +kernel
theorem dX5_init_10 : decode cX5_init 10 = .ok (.putfield 7, 3) := by decide +kernel
theorem dX5_init_13 : decode cX5_init 13 = .ok (.aload_n 0, 1) := by decide +kernel
theorem dX5_init_14 : decode cX5_init 14 = .ok (.ldc 13, 2) := by decide +kernel
theorem dX5_init_16 : decode cX5_init 16 = .ok (.newarray .int, 2) := by decide +kernel
theorem dX5_init_18 : decode cX5_init 18 = .ok (.putfield 14, 3) := by decide +kernel
theorem dX5_init_21 : decode cX5_init 21 = .ok (.aload_n 0, 1) := by decide +kernel
theorem dX5_init_22 : decode cX5_init 22 = .ok (.iconst 0, 1) := by decide +kernel
theorem dX5_init_23 : decode cX5_init 23 = .ok (.putfield 17, 3) := by decide +kernel
theorem dX5_init_26 : decode cX5_init 26 = .ok (.aload_n 0, 1) := by decide +kernel
theorem dX5_init_27 : decode cX5_init 27 = .ok (.iconst 0, 1) := by decide +kernel
theorem dX5_init_28 : decode cX5_init 28 = .ok (.putfield 21, 3) := by decide +kernel
theorem dX5_init_31 : decode cX5_init 31 = .ok (.aload_n 0, 1) := by decide +kernel
theorem dX5_init_32 : decode cX5_init 32 = .ok (.iconst 0, 1) := by decide +kernel
theorem dX5_init_33 : decode cX5_init 33 = .ok (.putfield 24, 3) := by decide +kernel
theorem dX5_init_36 : decode cX5_init 36 = .ok (.aload_n 0, 1) := by decide +kernel
theorem dX5_init_37 : decode cX5_init 37 = .ok (.iconst 0, 1) := by decide +kernel
theorem dX5_init_38 : decode cX5_init 38 = .ok (.putfield 27, 3) := by decide +kernel
theorem dX5_init_41 : decode cX5_init 41 = .ok (.aload_n 0, 1) := by decide +kernel
theorem dX5_init_42 : decode cX5_init 42 = .ok (.iconst 0, 1) := by decide +kernel
theorem dX5_init_43 : decode cX5_init 43 = .ok (.putfield 30, 3) := by decide +kernel
theorem dX5_init_46 : decode cX5_init 46 = .ok (.aload_n 0, 1) := by decide +kernel
theorem dX5_init_47 : decode cX5_init 47 = .ok (.iconst 0, 1) := by decide +kernel
theorem dX5_init_48 : decode cX5_init 48 = .ok (.putfield 34, 3) := by decide +kernel
theorem dX5_init_51 : decode cX5_init 51 = .ok (.aload_n 0, 1) := by decide +kernel
theorem dX5_init_52 : decode cX5_init 52 = .ok (.iconst 0, 1) := by decide +kernel
theorem dX5_init_53 : decode cX5_init 53 = .ok (.putfield 37, 3) := by decide +kernel
theorem dX5_init_56 : decode cX5_init 56 = .ok (.aload_n 0, 1) := by decide +kernel
theorem dX5_init_57 : decode cX5_init 57 = .ok (.aconst_null, 1) := by decide +kernel
theorem dX5_init_58 : decode cX5_init 58 = .ok (.putfield 40, 3) := by decide +kernel
theorem dX5_init_61 : decode cX5_init 61 = .ok (.aload_n 0, 1) := by decide +kernel
theorem dX5_init_62 : decode cX5_init 62 = .ok (.aconst_null, 1) := by decide +kernel
theorem dX5_init_63 : decode cX5_init 63 = .ok (.putfield 44, 3) := by decide +kernel
theorem dX5_init_66 : decode cX5_init 66 = .ok (.aload_n 0, 1) := by decide +kernel
theorem dX5_init_67 : decode cX5_init 67 = .ok (.aconst_null, 1) := by decide +kernel
theorem dX5_init_68 : decode cX5_init 68 = .ok (.putfield 47, 3) := by decide +kernel
theorem dX5_init_71 : decode cX5_init 71 = .ok (.aload_n 0, 1) := by decide +kernel
theorem dX5_init_72 : decode cX5_init 72 = .ok (.iconst 0, 1) := by decide +kernel
theorem dX5_init_73 : decode cX5_init 73 = .ok (.putfield 50, 3) := by decide +kernel
theorem dX5_init_76 : decode cX5_init 76 = .ok (.aload_n 0, 1) := by decide +kernel
theorem dX5_init_77 : decode cX5_init 77 = .ok (.iconst 0, 1) := by decide +kernel
theorem dX5_init_78 : decode cX5_init 78 = .ok (.putfield 53, 3) := by decide +kernel
theorem dX5_init_81 : decode cX5_init 81 = .ok (.aload_n 0, 1) := by decide +kernel
theorem dX5_init_82 : decode cX5_init 82 = .ok (.iconst 0, 1) := by decide +kernel
theorem dX5_init_83 : decode cX5_init 83 = .ok (.putfield 56, 3) := by decide +kernel
theorem dX5_init_86 : decode cX5_init 86 = .ok (.aload_n 0, 1) := by decide +kernel
theorem dX5_init_87 : decode cX5_init 87 = .ok (.sipush 400, 3) := by decide +kernel
theorem dX5_init_90 : decode cX5_init 90 = .ok (.newarray .int, 2) := by decide +kernel
theorem dX5_init_92 : decode cX5_init 92 = .ok (.putfield 59, 3) := by decide +kernel
theorem dX5_init_95 : decode cX5_init 95 = .ok (.aload_n 0, 1) := by decide +kernel
theorem dX5_init_96 : decode cX5_init 96 = .ok (.aload_n 1, 1) := by decide +kernel
theorem dX5_init_97 : decode cX5_init 97 = .ok (.putfield 62, 3) := by decide +kernel
theorem dX5_init_100 : decode cX5_init 100 = .ok (.aload_n 0, 1) := by decide +kernel
theorem dX5_init_101 : decode cX5_init 101 = .ok (.aload_n 2, 1) := by decide +kernel
theorem dX5_init_102 : decode cX5_init 102 = .ok (.putfield 66, 3) := by decide +kernel
theorem dX5_init_105 : decode cX5_init 105 = .ok (.aload_n 0, 1) := by decide +kernel
theorem dX5_init_106 : decode cX5_init 106 = .ok (.aload_n 3, 1) := by decide +kernel
