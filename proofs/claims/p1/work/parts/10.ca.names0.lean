def tyX12 : Nat → FieldType := fun k => match k with
  | 0 => .array .int
  | 1 => .array .int
  | 2 => .array .int
  | 3 => .array .int
  | 4 => .array .int
  | 5 => .array .int
  | 6 => .array .int
  | 7 => .array .int
  | 8 => .array .int
  | 9 => .array .int
  | 10 => .int
  | 11 => .int
  | 12 => .int
  | 13 => .int
  | _ => .int
theorem nmX12 : ∀ a, a < 15 → ∀ b, b < 15 → a ≠ b → (TX12 a).2.1 ≠ (TX12 b).2.1 := by decide +kernel
theorem tyX12_ok : ∀ k, k < 15 → parseFieldDescriptor (TX12 k).2.2.1 = some (tyX12 k) := by decide +kernel
theorem dX4_weight_0 : decode cX4_weight 0 = .ok (.aload_n 0, 1) := by decide +kernel
theorem dX4_weight_1 : decode cX4_weight 1 = .ok (.getfield 10, 3) := by decide +kernel
theorem dX4_weight_4 : decode cX4_weight 4 = .ok (.iload_n 1, 1) := by decide +kernel
theorem dX4_weight_5 : decode cX4_weight 5 = .ok (.iaload, 1) := by decide +kernel
theorem dX4_weight_6 : decode cX4_weight 6 = .ok (.bipush 15, 2) := by decide +kernel
theorem dX4_weight_8 : decode cX4_weight 8 = .ok (.iand, 1) := by decide +kernel
theorem dX4_weight_9 : decode cX4_weight 9 = .ok (.istore_n 2, 1) := by decide +kernel
theorem dX4_weight_10 : decode cX4_weight 10 = .ok (.iload_n 2, 1) := by decide +kernel
theorem dX4_weight_11 : decode cX4_weight 11 = .ok (.iconst 3, 1) := by decide +kernel
theorem dX4_weight_12 : decode cX4_weight 12 = .ok (.if_icmp .gt 5, 3) := by decide +kernel
theorem dX4_weight_17 : decode cX4_weight 17 = .ok (.iload_n 2, 1) := by decide +kernel
theorem dX4_weight_18 : decode cX4_weight 18 = .ok (.iconst 4, 1) := by decide +kernel
theorem dX4_weight_19 : decode cX4_weight 19 = .ok (.if_icmp .ne 16, 3) := by decide +kernel
theorem dX4_weight_35 : decode cX4_weight 35 = .ok (.aload_n 0, 1) := by decide +kernel
theorem dX4_weight_36 : decode cX4_weight 36 = .ok (.getfield 10, 3) := by decide +kernel
theorem dX4_weight_39 : decode cX4_weight 39 = .ok (.iload_n 1, 1) := by decide +kernel
theorem dX4_weight_40 : decode cX4_weight 40 = .ok (.iconst 1, 1) := by decide +kernel
theorem dX4_weight_41 : decode cX4_weight 41 = .ok (.iadd, 1) := by decide +kernel
theorem dX4_weight_42 : decode cX4_weight 42 = .ok (.iaload, 1) := by decide +kernel
theorem dX4_weight_43 : decode cX4_weight 43 = .ok (.bipush 8, 2) := by decide +kernel
theorem dX4_weight_45 : decode cX4_weight 45 = .ok (.iushr, 1) := by decide +kernel
theorem dX4_weight_46 : decode cX4_weight 46 = .ok (.ireturn, 1) := by decide +kernel
theorem dX8_behindBlanks_0 : decode cX8_behindBlanks 0 = .ok (.iload_n 2, 1) := by decide +kernel
theorem dX8_behindBlanks_1 : decode cX8_behindBlanks 1 = .ok (.istore 4, 2) := by decide +kernel
theorem dX8_behindBlanks_3 : decode cX8_behindBlanks 3 = .ok (.aload_n 0, 1) := by decide +kernel
theorem dX8_behindBlanks_4 : decode cX8_behindBlanks 4 = .ok (.iconst 0, 1) := by decide +kernel
theorem dX8_behindBlanks_5 : decode cX8_behindBlanks 5 = .ok (.putfield 38, 3) := by decide +kernel
theorem dX8_behindBlanks_8 : decode cX8_behindBlanks 8 = .ok (.iconst 0, 1) := by decide +kernel
theorem dX8_behindBlanks_9 : decode cX8_behindBlanks 9 = .ok (.istore 5, 2) := by decide +kernel
theorem dX8_behindBlanks_11 : decode cX8_behindBlanks 11 = .ok (.iload 4, 2) := by decide +kernel
theorem dX8_behindBlanks_13 : decode cX8_behindBlanks 13 = .ok (.iload_n 3, 1) := by decide +kernel
theorem dX8_behindBlanks_14 : decode cX8_behindBlanks 14 = .ok (.if_icmp .ge 82, 3) := by decide +kernel
theorem dX8_behindBlanks_96 : decode cX8_behindBlanks 96 = .ok (.iload 4, 2) := by decide +kernel
theorem dX8_behindBlanks_98 : decode cX8_behindBlanks 98 = .ok (.ireturn, 1) := by decide +kernel
theorem dX8_split_0 : decode cX8_split 0 = .ok (.aload_n 0, 1) := by decide +kernel
theorem dX8_split_1 : decode cX8_split 1 = .ok (.iconst 0, 1) := by decide +kernel
theorem dX8_split_2 : decode cX8_split 2 = .ok (.putfield 26, 3) := by decide +kernel
theorem dX8_split_5 : decode cX8_split 5 = .ok (.aload_n 0, 1) := by decide +kernel
theorem dX8_split_6 : decode cX8_split 6 = .ok (.iconst (-1), 1) := by decide +kernel
theorem dX8_split_7 : decode cX8_split 7 = .ok (.putfield 22, 3) := by decide +kernel
theorem dX8_split_10 : decode cX8_split 10 = .ok (.iconst 0, 1) := by decide +kernel
theorem dX8_split_11 : decode cX8_split 11 = .ok (.istore_n 3, 1) := by decide +kernel
theorem dX8_split_12 : decode cX8_split 12 = .ok (.iconst 0, 1) := by decide +kernel
theorem dX8_split_13 : decode cX8_split 13 = .ok (.istore 4, 2) := by decide +kernel
theorem dX8_split_15 : decode cX8_split 15 = .ok (.iload 4, 2) := by decide +kernel
theorem dX8_split_17 : decode cX8_split 17 = .ok (.sipush 6001, 3) := by decide +kernel
theorem dX8_split_20 : decode cX8_split 20 = .ok (.if_icmp .ge 103, 3) := by decide +kernel
theorem dX8_split_23 : decode cX8_split 23 = .ok (.aload_n 0, 1) := by decide +kernel
theorem dX8_split_24 : decode cX8_split 24 = .ok (.aload_n 1, 1) := by decide +kernel
theorem dX8_split_25 : decode cX8_split 25 = .ok (.iload_n 3, 1) := by decide +kernel
theorem dX8_split_26 : decode cX8_split 26 = .ok (.iload_n 2, 1) := by decide +kernel
theorem dX8_split_27 : decode cX8_split 27 = .ok (.invokevirtual 78, 3) := by decide +kernel
theorem dX8_split_30 : decode cX8_split 30 = .ok (.istore_n 3, 1) := by decide +kernel
theorem dX8_split_31 : decode cX8_split 31 = .ok (.aload_n 0, 1) := by decide +kernel
theorem dX8_split_32 : decode cX8_split 32 = .ok (.iload 4, 2) := by decide +kernel
theorem dX8_split_34 : decode cX8_split 34 = .ok (.iconst 1, 1) := by decide +kernel
theorem dX8_split_35 : decode cX8_split 35 = .ok (.iadd, 1) := by decide +kernel
theorem dX8_split_36 : decode cX8_split 36 = .ok (.putfield 26, 3) := by decide +kernel
theorem dX8_split_39 : decode cX8_split 39 = .ok (.aload_n 0, 1) := by decide +kernel
theorem dX8_split_40 : decode cX8_split 40 = .ok (.getfield 13, 3) := by decide +kernel
theorem dX8_split_43 : decode cX8_split 43 = .ok (.iload 4, 2) := by decide +kernel
theorem dX8_split_45 : decode cX8_split 45 = .ok (.iload_n 3, 1) := by decide +kernel
theorem dX8_split_46 : decode cX8_split 46 = .ok (.iastore, 1) := by decide +kernel
theorem dX8_split_47 : decode cX8_split 47 = .ok (.aload_n 0, 1) := by decide +kernel
theorem dX8_split_48 : decode cX8_split 48 = .ok (.getfield 16, 3) := by decide +kernel
theorem dX8_split_51 : decode cX8_split 51 = .ok (.iload 4, 2) := by decide +kernel
theorem dX8_split_53 : decode cX8_split 53 = .ok (.aload_n 0, 1) := by decide +kernel
theorem dX8_split_54 : decode cX8_split 54 = .ok (.getfield 38, 3) := by decide +kernel
theorem dX8_split_57 : decode cX8_split 57 = .ok (.iastore, 1) := by decide +kernel
theorem dX8_split_58 : decode cX8_split 58 = .ok (.aload_n 0, 1) := by decide +kernel
theorem dX8_split_59 : decode cX8_split 59 = .ok (.getfield 19, 3) := by decide +kernel
theorem dX8_split_62 : decode cX8_split 62 = .ok (.iload 4, 2) := by decide +kernel
theorem dX8_split_64 : decode cX8_split 64 = .ok (.iconst 0, 1) := by decide +kernel
theorem dX8_split_65 : decode cX8_split 65 = .ok (.iastore, 1) := by decide +kernel
theorem dX8_split_66 : decode cX8_split 66 = .ok (.aload_n 0, 1) := by decide +kernel
theorem dX8_split_67 : decode cX8_split 67 = .ok (.getfield 9, 3) := by decide +kernel
theorem dX8_split_70 : decode cX8_split 70 = .ok (.iload 4, 2) := by decide +kernel
theorem dX8_split_72 : decode cX8_split 72 = .ok (.iconst 0, 1) := by decide +kernel
theorem dX8_split_73 : decode cX8_split 73 = .ok (.iastore, 1) := by decide +kernel
theorem dX8_split_74 : decode cX8_split 74 = .ok (.iload_n 3, 1) := by decide +kernel
theorem dX8_split_75 : decode cX8_split 75 = .ok (.iload_n 2, 1) := by decide +kernel
theorem dX8_split_76 : decode cX8_split 76 = .ok (.if_icmp .lt 6, 3) := by decide +kernel
theorem dX8_split_79 : decode cX8_split 79 = .ok (.goto 44, 3) := by decide +kernel
theorem dX8_split_123 : decode cX8_split 123 = .ok (.aload_n 0, 1) := by decide +kernel
theorem dX8_split_124 : decode cX8_split 124 = .ok (.iconst 0, 1) := by decide +kernel
theorem dX8_split_125 : decode cX8_split 125 = .ok (.putfield 29, 3) := by decide +kernel
theorem dX8_split_128 : decode cX8_split 128 = .ok (.aload_n 0, 1) := by decide +kernel
theorem dX8_split_129 : decode cX8_split 129 = .ok (.iconst 0, 1) := by decide +kernel
theorem dX8_split_130 : decode cX8_split 130 = .ok (.putfield 32, 3) := by decide +kernel
theorem dX8_split_133 : decode cX8_split 133 = .ok (.aload_n 0, 1) := by decide +kernel
theorem dX8_split_134 : decode cX8_split 134 = .ok (.iconst (-1), 1) := by decide +kernel
theorem dX8_split_135 : decode cX8_split 135 = .ok (.putfield 35, 3) := by decide +kernel
theorem dX8_split_138 : decode cX8_split 138 = .ok (.return_, 1) := by decide +kernel
theorem dX8_is_0 : decode cX8_is 0 = .ok (.aload_n 0, 1) := by decide +kernel
theorem dX8_is_1 : decode cX8_is 1 = .ok (.getfield 35, 3) := by decide +kernel
theorem dX8_is_4 : decode cX8_is 4 = .ok (.ifCond .ge 20, 3) := by decide +kernel
theorem dX8_is_7 : decode cX8_is 7 = .ok (.aload_n 0, 1) := by decide +kernel
theorem dX8_is_8 : decode cX8_is 8 = .ok (.getfield 9, 3) := by decide +kernel
theorem dX8_is_11 : decode cX8_is 11 = .ok (.aload_n 0, 1) := by decide +kernel
theorem dX8_is_12 : decode cX8_is 12 = .ok (.getfield 29, 3) := by decide +kernel
theorem dX8_is_15 : decode cX8_is 15 = .ok (.iaload, 1) := by decide +kernel
theorem dX8_is_16 : decode cX8_is 16 = .ok (.iload_n 1, 1) := by decide +kernel
theorem dX8_is_17 : decode cX8_is 17 = .ok (.if_icmp .ne 7, 3) := by decide +kernel
theorem dX8_is_24 : decode cX8_is 24 = .ok (.iconst 0, 1) := by decide +kernel
theorem dX8_is_25 : decode cX8_is 25 = .ok (.ireturn, 1) := by decide +kernel
theorem dX8_fail_0 : decode cX8_fail 0 = .ok (.aload_n 0, 1) := by decide +kernel
theorem dX8_fail_1 : decode cX8_fail 1 = .ok (.getfield 35, 3) := by decide +kernel
theorem dX8_fail_4 : decode cX8_fail 4 = .ok (.ifCond .ge 16, 3) := by decide +kernel
theorem dX8_fail_7 : decode cX8_fail 7 = .ok (.aload_n 0, 1) := by decide +kernel
theorem dX8_fail_8 : decode cX8_fail 8 = .ok (.aload_n 0, 1) := by decide +kernel
theorem dX8_fail_9 : decode cX8_fail 9 = .ok (.getfield 13, 3) := by decide +kernel
theorem dX8_fail_12 : decode cX8_fail 12 = .ok (.aload_n 0, 1) := by decide +kernel
theorem dX8_fail_13 : decode cX8_fail 13 = .ok (.getfield 29, 3) := by decide +kernel
theorem dX8_fail_16 : decode cX8_fail 16 = .ok (.iaload, 1) := by decide +kernel
theorem dX8_fail_17 : decode cX8_fail 17 = .ok (.putfield 35, 3) := by decide +kernel
theorem dX8_fail_20 : decode cX8_fail 20 = .ok (.return_, 1) := by decide +kernel
theorem dX8_take_0 : decode cX8_take 0 = .ok (.aload_n 0, 1) := by decide +kernel
theorem dX8_take_1 : decode cX8_take 1 = .ok (.getfield 35, 3) := by decide +kernel
theorem dX8_take_4 : decode cX8_take 4 = .ok (.ifCond .lt 4, 3) := by decide +kernel
theorem dX8_take_7 : decode cX8_take 7 = .ok (.return_, 1) := by decide +kernel
theorem dX8_takes_0 : decode cX8_takes 0 = .ok (.aload_n 0, 1) := by decide +kernel
theorem dX8_takes_1 : decode cX8_takes 1 = .ok (.iload_n 1, 1) := by decide +kernel
theorem dX8_takes_2 : decode cX8_takes 2 = .ok (.invokevirtual 137, 3) := by decide +kernel
theorem dX8_takes_5 : decode cX8_takes 5 = .ok (.ifCond .ne 5, 3) := by decide +kernel
theorem dX8_takes_8 : decode cX8_takes 8 = .ok (.iconst 0, 1) := by decide +kernel
theorem dX8_takes_9 : decode cX8_takes 9 = .ok (.ireturn, 1) := by decide +kernel
theorem dX8_need_0 : decode cX8_need 0 = .ok (.aload_n 0, 1) := by decide +kernel
theorem dX8_need_1 : decode cX8_need 1 = .ok (.iload_n 1, 1) := by decide +kernel
theorem dX8_need_2 : decode cX8_need 2 = .ok (.invokevirtual 137, 3) := by decide +kernel
theorem dX8_need_5 : decode cX8_need 5 = .ok (.ifCond .eq 10, 3) := by decide +kernel
theorem dX8_need_15 : decode cX8_need 15 = .ok (.aload_n 0, 1) := by decide +kernel
theorem dX8_need_16 : decode cX8_need 16 = .ok (.invokevirtual 143, 3) := by decide +kernel
theorem dX8_need_19 : decode cX8_need 19 = .ok (.return_, 1) := by decide +kernel
theorem dX8_plainName_0 : decode cX8_plainName 0 = .ok (.aload_n 0, 1) := by decide +kernel
theorem dX8_plainName_1 : decode cX8_plainName 1 = .ok (.iconst 1, 1) := by decide +kernel
theorem dX8_plainName_2 : decode cX8_plainName 2 = .ok (.invokevirtual 137, 3) := by decide +kernel
theorem dX8_plainName_5 : decode cX8_plainName 5 = .ok (.ifCond .eq 10, 3) := by decide +kernel
theorem dX8_plainName_15 : decode cX8_plainName 15 = .ok (.aload_n 0, 1) := by decide +kernel
theorem dX8_plainName_16 : decode cX8_plainName 16 = .ok (.invokevirtual 143, 3) := by decide +kernel
theorem dX8_plainName_19 : decode cX8_plainName 19 = .ok (.aload_n 0, 1) := by decide +kernel
theorem dX8_plainName_20 : decode cX8_plainName 20 = .ok (.getfield 19, 3) := by decide +kernel
theorem dX8_plainName_23 : decode cX8_plainName 23 = .ok (.aload_n 0, 1) := by decide +kernel
theorem dX8_plainName_24 : decode cX8_plainName 24 = .ok (.getfield 29, 3) := by decide +kernel
theorem dX8_plainName_27 : decode cX8_plainName 27 = .ok (.iaload, 1) := by decide +kernel
theorem dX8_plainName_28 : decode cX8_plainName 28 = .ok (.istore_n 1, 1) := by decide +kernel
theorem dX8_plainName_29 : decode cX8_plainName 29 = .ok (.aload_n 0, 1) := by decide +kernel
theorem dX8_plainName_30 : decode cX8_plainName 30 = .ok (.invokevirtual 140, 3) := by decide +kernel
theorem dX8_plainName_33 : decode cX8_plainName 33 = .ok (.iload_n 1, 1) := by decide +kernel
theorem dX8_plainName_34 : decode cX8_plainName 34 = .ok (.ireturn, 1) := by decide +kernel
theorem dX8_node_0 : decode cX8_node 0 = .ok (.aload_n 0, 1) := by decide +kernel
theorem dX8_node_1 : decode cX8_node 1 = .ok (.getfield 44, 3) := by decide +kernel
theorem dX8_node_4 : decode cX8_node 4 = .ok (.iload_n 1, 1) := by decide +kernel
theorem dX8_node_5 : decode cX8_node 5 = .ok (.aload_n 0, 1) := by decide +kernel
theorem dX8_node_6 : decode cX8_node 6 = .ok (.getfield 13, 3) := by decide +kernel
theorem dX8_node_9 : decode cX8_node 9 = .ok (.aload_n 0, 1) := by decide +kernel
theorem dX8_node_10 : decode cX8_node 10 = .ok (.getfield 29, 3) := by decide +kernel
theorem dX8_node_13 : decode cX8_node 13 = .ok (.iaload, 1) := by decide +kernel
theorem dX8_node_14 : decode cX8_node 14 = .ok (.invokevirtual 157, 3) := by decide +kernel
theorem dX8_node_17 : decode cX8_node 17 = .ok (.ireturn, 1) := by decide +kernel
theorem dX8_path_0 : decode cX8_path 0 = .ok (.iload_n 2, 1) := by decide +kernel
theorem dX8_path_1 : decode cX8_path 1 = .ok (.istore_n 3, 1) := by decide +kernel
theorem dX8_path_2 : decode cX8_path 2 = .ok (.iconst 0, 1) := by decide +kernel
theorem dX8_path_3 : decode cX8_path 3 = .ok (.istore 4, 2) := by decide +kernel
theorem dX8_path_5 : decode cX8_path 5 = .ok (.iload 4, 2) := by decide +kernel
theorem dX8_path_7 : decode cX8_path 7 = .ok (.bipush 6, 2) := by decide +kernel
theorem dX8_path_9 : decode cX8_path 9 = .ok (.if_icmp .ge 94, 3) := by decide +kernel
theorem dX8_path_12 : decode cX8_path 12 = .ok (.aload_n 0, 1) := by decide +kernel
theorem dX8_path_13 : decode cX8_path 13 = .ok (.bipush 6, 2) := by decide +kernel
theorem dX8_path_15 : decode cX8_path 15 = .ok (.invokevirtual 162, 3) := by decide +kernel
theorem dX8_path_18 : decode cX8_path 18 = .ok (.istore 5, 2) := by decide +kernel
theorem dX8_path_20 : decode cX8_path 20 = .ok (.aload_n 0, 1) := by decide +kernel
theorem dX8_path_21 : decode cX8_path 21 = .ok (.getfield 44, 3) := by decide +kernel
theorem dX8_path_24 : decode cX8_path 24 = .ok (.getfield 165, 3) := by decide +kernel
theorem dX8_path_27 : decode cX8_path 27 = .ok (.iload 5, 2) := by decide +kernel
theorem dX8_path_29 : decode cX8_path 29 = .ok (.aload_n 0, 1) := by decide +kernel
theorem dX8_path_30 : decode cX8_path 30 = .ok (.invokevirtual 168, 3) := by decide +kernel
theorem dX8_path_33 : decode cX8_path 33 = .ok (.iastore, 1) := by decide +kernel
theorem dX8_path_34 : decode cX8_path 34 = .ok (.aload_n 0, 1) := by decide +kernel
theorem dX8_path_35 : decode cX8_path 35 = .ok (.getfield 44, 3) := by decide +kernel
theorem dX8_path_38 : decode cX8_path 38 = .ok (.iload_n 1, 1) := by decide +kernel
theorem dX8_path_39 : decode cX8_path 39 = .ok (.iload 5, 2) := by decide +kernel
theorem dX8_path_41 : decode cX8_path 41 = .ok (.invokevirtual 172, 3) := by decide +kernel
theorem dX8_path_44 : decode cX8_path 44 = .ok (.aload_n 0, 1) := by decide +kernel
theorem dX8_path_45 : decode cX8_path 45 = .ok (.getfield 35, 3) := by decide +kernel
theorem dX8_path_48 : decode cX8_path 48 = .ok (.ifCond .lt 5, 3) := by decide +kernel
theorem dX8_path_51 : decode cX8_path 51 = .ok (.iconst 0, 1) := by decide +kernel
theorem dX8_path_52 : decode cX8_path 52 = .ok (.ireturn, 1) := by decide +kernel
theorem dX8_readModule_0 : decode cX8_readModule 0 = .ok (.aload_n 0, 1) := by decide +kernel
theorem dX8_readModule_1 : decode cX8_readModule 1 = .ok (.aload_n 1, 1) := by decide +kernel
theorem dX8_readModule_2 : decode cX8_readModule 2 = .ok (.iload_n 2, 1) := by decide +kernel
theorem dX8_readModule_3 : decode cX8_readModule 3 = .ok (.invokevirtual 181, 3) := by decide +kernel
theorem dX8_readModule_6 : decode cX8_readModule 6 = .ok (.aload_n 0, 1) := by decide +kernel
theorem dX8_readModule_7 : decode cX8_readModule 7 = .ok (.new 158, 3) := by decide +kernel
theorem dX8_readModule_10 : decode cX8_readModule 10 = .ok (.dup, 1) := by decide +kernel
theorem dX8_readModule_11 : decode cX8_readModule 11 = .ok (.iconst 2, 1) := by decide +kernel
theorem dX8_readModule_12 : decode cX8_readModule 12 = .ok (.iload_n 2, 1) := by decide +kernel
theorem dX8_readModule_13 : decode cX8_readModule 13 = .ok (.imul, 1) := by decide +kernel
theorem dX8_readModule_14 : decode cX8_readModule 14 = .ok (.bipush 32, 2) := by decide +kernel
theorem dX8_readModule_16 : decode cX8_readModule 16 = .ok (.iadd, 1) := by decide +kernel
theorem dX8_readModule_17 : decode cX8_readModule 17 = .ok (.invokespecial 185, 3) := by decide +kernel
theorem dX8_readModule_20 : decode cX8_readModule 20 = .ok (.putfield 44, 3) := by decide +kernel
theorem dX8_readModule_23 : decode cX8_readModule 23 = .ok (.aload_n 0, 1) := by decide +kernel
theorem dX8_readModule_24 : decode cX8_readModule 24 = .ok (.iconst 5, 1) := by decide +kernel
theorem dX8_readModule_25 : decode cX8_readModule 25 = .ok (.invokevirtual 146, 3) := by decide +kernel
theorem dX8_readModule_28 : decode cX8_readModule 28 = .ok (.aload_n 0, 1) := by decide +kernel
theorem dX8_readModule_29 : decode cX8_readModule 29 = .ok (.getfield 44, 3) := by decide +kernel
theorem dX8_readModule_32 : decode cX8_readModule 32 = .ok (.aload_n 0, 1) := by decide +kernel
theorem dX8_readModule_33 : decode cX8_readModule 33 = .ok (.aload_n 0, 1) := by decide +kernel
theorem dX8_readModule_34 : decode cX8_readModule 34 = .ok (.bipush 6, 2) := by decide +kernel
theorem dX8_readModule_36 : decode cX8_readModule 36 = .ok (.invokevirtual 162, 3) := by decide +kernel
theorem dX8_readModule_39 : decode cX8_readModule 39 = .ok (.iconst 0, 1) := by decide +kernel
theorem dX8_readModule_40 : decode cX8_readModule 40 = .ok (.invokevirtual 187, 3) := by decide +kernel
theorem dX8_readModule_43 : decode cX8_readModule 43 = .ok (.putfield 190, 3) := by decide +kernel
theorem dX8_readModule_46 : decode cX8_readModule 46 = .ok (.aload_n 0, 1) := by decide +kernel
theorem dX8_readModule_47 : decode cX8_readModule 47 = .ok (.getfield 44, 3) := by decide +kernel
theorem dX8_readModule_50 : decode cX8_readModule 50 = .ok (.aload_n 0, 1) := by decide +kernel
theorem dX8_readModule_51 : decode cX8_readModule 51 = .ok (.getfield 44, 3) := by decide +kernel
theorem dX8_readModule_54 : decode cX8_readModule 54 = .ok (.bipush 16, 2) := by decide +kernel
theorem dX8_readModule_56 : decode cX8_readModule 56 = .ok (.iconst 0, 1) := by decide +kernel
theorem dX8_readModule_57 : decode cX8_readModule 57 = .ok (.invokevirtual 157, 3) := by decide +kernel
theorem dX8_readModule_60 : decode cX8_readModule 60 = .ok (.putfield 193, 3) := by decide +kernel
theorem dX8_readModule_63 : decode cX8_readModule 63 = .ok (.aload_n 0, 1) := by decide +kernel
theorem dX8_readModule_64 : decode cX8_readModule 64 = .ok (.getfield 44, 3) := by decide +kernel
theorem dX8_readModule_67 : decode cX8_readModule 67 = .ok (.bipush 16, 2) := by decide +kernel
theorem dX8_readModule_69 : decode cX8_readModule 69 = .ok (.iconst 0, 1) := by decide +kernel
theorem dX8_readModule_70 : decode cX8_readModule 70 = .ok (.invokevirtual 157, 3) := by decide +kernel
theorem dX8_readModule_73 : decode cX8_readModule 73 = .ok (.istore_n 3, 1) := by decide +kernel
theorem dX8_readModule_74 : decode cX8_readModule 74 = .ok (.iconst 0, 1) := by decide +kernel
theorem dX8_readModule_75 : decode cX8_readModule 75 = .ok (.istore 4, 2) := by decide +kernel
theorem dX8_readModule_77 : decode cX8_readModule 77 = .ok (.iload 4, 2) := by decide +kernel
theorem dX8_readModule_79 : decode cX8_readModule 79 = .ok (.bipush 10, 2) := by decide +kernel
theorem dX8_readModule_81 : decode cX8_readModule 81 = .ok (.if_icmp .gt 41, 3) := by decide +kernel
theorem dX8_readModule_84 : decode cX8_readModule 84 = .ok (.aload_n 0, 1) := by decide +kernel
theorem dX8_readModule_85 : decode cX8_readModule 85 = .ok (.bipush 6, 2) := by decide +kernel
theorem dX8_readModule_87 : decode cX8_readModule 87 = .ok (.invokevirtual 137, 3) := by decide +kernel
theorem dX8_readModule_90 : decode cX8_readModule 90 = .ok (.ifCond .eq 32, 3) := by decide +kernel
theorem dX8_readModule_122 : decode cX8_readModule 122 = .ok (.aload_n 0, 1) := by decide +kernel
theorem dX8_readModule_123 : decode cX8_readModule 123 = .ok (.getfield 44, 3) := by decide +kernel
theorem dX8_readModule_126 : decode cX8_readModule 126 = .ok (.aload_n 0, 1) := by decide +kernel
theorem dX8_readModule_127 : decode cX8_readModule 127 = .ok (.getfield 44, 3) := by decide +kernel
theorem dX8_readModule_130 : decode cX8_readModule 130 = .ok (.getfield 199, 3) := by decide +kernel
theorem dX8_readModule_133 : decode cX8_readModule 133 = .ok (.iload_n 3, 1) := by decide +kernel
theorem dX8_readModule_134 : decode cX8_readModule 134 = .ok (.iaload, 1) := by decide +kernel
theorem dX8_readModule_135 : decode cX8_readModule 135 = .ok (.putfield 202, 3) := by decide +kernel
theorem dX8_readModule_138 : decode cX8_readModule 138 = .ok (.iconst 0, 1) := by decide +kernel
theorem dX8_readModule_139 : decode cX8_readModule 139 = .ok (.istore 4, 2) := by decide +kernel
theorem dX8_readModule_141 : decode cX8_readModule 141 = .ok (.iload 4, 2) := by decide +kernel
