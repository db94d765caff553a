def tyX12 : Nat → FieldType := fun k => match k with
  | 0 => .array .int
  | 1 => .array .int
  | 2 => .array .int
  | 3 => .array .int
  | 4 => .array .int
  | 5 => .array .int
  | 6 => .array .int
  | 7 => .array .int
  | 8 => .array .int
  | 9 => .array .int
  | 10 => .int
  | 11 => .int
  | 12 => .int
  | 13 => .int
  | _ => .int
theorem nmX12 : ∀ a, a < 15 → ∀ b, b < 15 → a ≠ b → (TX12 a).2.1 ≠ (TX12 b).2.1 := by decide +kernel
theorem tyX12_ok : ∀ k, k < 15 → parseFieldDescriptor (TX12 k).2.2.1 = some (tyX12 k) := by decide +kernel
theorem dX4_weight_0 : decode cX4_weight 0 = .ok (.aload_n 0, 1) := by decide +kernel
theorem dX4_weight_1 : decode cX4_weight 1 = .ok (.getfield 10, 3) := by decide +kernel
theorem dX4_weight_4 : decode cX4_weight 4 = .ok (.iload_n 1, 1) := by decide +kernel
theorem dX4_weight_5 : decode cX4_weight 5 = .ok (.iaload, 1) := by decide +kernel
theorem dX4_weight_6 : decode cX4_weight 6 = .ok (.bipush 15, 2) := by decide +kernel
theorem dX4_weight_8 : decode cX4_weight 8 = .ok (.iand, 1) := by decide +kernel
theorem dX4_weight_9 : decode cX4_weight 9 = .ok (.istore_n 2, 1) := by decide +kernel
theorem dX4_weight_10 : decode cX4_weight 10 = .ok (.iload_n 2, 1) := by decide +kernel
theorem dX4_weight_11 : decode cX4_weight 11 = .ok (.iconst 3, 1) := by decide +kernel
theorem dX4_weight_12 : decode cX4_weight 12 = .ok (.if_icmp .gt 5, 3) := by decide +kernel
theorem dX4_weight_17 : decode cX4_weight 17 = .ok (.iload_n 2, 1) := by decide +kernel
theorem dX4_weight_18 : decode cX4_weight 18 = .ok (.iconst 4, 1) := by decide +kernel
theorem dX4_weight_19 : decode cX4_weight 19 = .ok (.if_icmp .ne 16, 3) := by decide +kernel
theorem dX4_weight_35 : decode cX4_weight 35 = .ok (.aload_n 0, 1) := by decide +kernel
theorem dX4_weight_36 : decode cX4_weight 36 = .ok (.getfield 10, 3) := by decide +kernel
theorem dX4_weight_39 : decode cX4_weight 39 = .ok (.iload_n 1, 1) := by decide +kernel
theorem dX4_weight_40 : decode cX4_weight 40 = .ok (.iconst 1, 1) := by decide +kernel
theorem dX4_weight_41 : decode cX4_weight 41 = .ok (.iadd, 1) := by decide +kernel
theorem dX4_weight_42 : decode cX4_weight 42 = .ok (.iaload, 1) := by decide +kernel
theorem dX4_weight_43 : decode cX4_weight 43 = .ok (.bipush 6, 2) := by decide +kernel
theorem dX4_weight_45 : decode cX4_weight 45 = .ok (.iushr, 1) := by decide +kernel
theorem dX4_weight_46 : decode cX4_weight 46 = .ok (.ireturn, 1) := by decide +kernel
theorem dX8_behindBlanks_0 : decode cX8_behindBlanks 0 = .ok (.iload_n 2, 1) := by decide +kernel
theorem dX8_behindBlanks_1 : decode cX8_behindBlanks 1 = .ok (.istore 4, 2) := by decide +kernel
theorem dX8_behindBlanks_3 : decode cX8_behindBlanks 3 = .ok (.aload_n 0, 1) := by decide +kernel
theorem dX8_behindBlanks_4 : decode cX8_behindBlanks 4 = .ok (.iconst 0, 1) := by decide +kernel
theorem dX8_behindBlanks_5 : decode cX8_behindBlanks 5 = .ok (.putfield 38, 3) := by decide +kernel
theorem dX8_behindBlanks_8 : decode cX8_behindBlanks 8 = .ok (.iconst 0, 1) := by decide +kernel
theorem dX8_behindBlanks_9 : decode cX8_behindBlanks 9 = .ok (.istore 5, 2) := by decide +kernel
theorem dX8_behindBlanks_11 : decode cX8_behindBlanks 11 = .ok (.iload 4, 2) := by decide +kernel
theorem dX8_behindBlanks_13 : decode cX8_behindBlanks 13 = .ok (.iload_n 3, 1) := by decide +kernel
theorem dX8_behindBlanks_14 : decode cX8_behindBlanks 14 = .ok (.if_icmp .ge 82, 3) := by decide +kernel
theorem dX8_behindBlanks_96 : decode cX8_behindBlanks 96 = .ok (.iload 4, 2) := by decide +kernel
theorem dX8_behindBlanks_98 : decode cX8_behindBlanks 98 = .ok (.ireturn, 1) := by decide +kernel
theorem dX8_split_0 : decode cX8_split 0 = .ok (.aload_n 0, 1) := by decide +kernel
theorem dX8_split_1 : decode cX8_split 1 = .ok (.iconst 0, 1) := by decide +kernel
theorem dX8_split_2 : decode cX8_split 2 = .ok (.putfield 26, 3) := by decide +kernel
theorem dX8_split_5 : decode cX8_split 5 = .ok (.aload_n 0, 1) := by decide +kernel
theorem dX8_split_6 : decode cX8_split 6 = .ok (.iconst (-1), 1) := by decide +kernel
theorem dX8_split_7 : decode cX8_split 7 = .ok (.putfield 22, 3) := by decide +kernel
theorem dX8_split_10 : decode cX8_split 10 = .ok (.iconst 0, 1) := by decide +kernel
theorem dX8_split_11 : decode cX8_split 11 = .ok (.istore_n 3, 1) := by decide +kernel
theorem dX8_split_12 : decode cX8_split 12 = .ok (.iconst 0, 1) := by decide +kernel
theorem dX8_split_13 : decode cX8_split 13 = .ok (.istore 4, 2) := by decide +kernel
theorem dX8_split_15 : decode cX8_split 15 = .ok (.iload 4, 2) := by decide +kernel
theorem dX8_split_17 : decode cX8_split 17 = .ok (.sipush 6001, 3) := by decide +kernel
theorem dX8_split_20 : decode cX8_split 20 = .ok (.if_icmp .ge 103, 3) := by decide +kernel
theorem dX8_split_23 : decode cX8_split 23 = .ok (.aload_n 0, 1) := by decide +kernel
theorem dX8_split_24 : decode cX8_split 24 = .ok (.aload_n 1, 1) := by decide +kernel
theorem dX8_split_25 : decode cX8_split 25 = .ok (.iload_n 3, 1) := by decide +kernel
theorem dX8_split_26 : decode cX8_split 26 = .ok (.iload_n 2, 1) := by decide +kernel
theorem dX8_split_27 : decode cX8_split 27 = .ok (.invokevirtual 78, 3) := by decide +kernel
theorem dX8_split_30 : decode cX8_split 30 = .ok (.istore_n 3, 1) := by decide +kernel
theorem dX8_split_31 : decode cX8_split 31 = .ok (.aload_n 0, 1) := by decide +kernel
theorem dX8_split_32 : decode cX8_split 32 = .ok (.iload 4, 2) := by decide +kernel
theorem dX8_split_34 : decode cX8_split 34 = .ok (.iconst 1, 1) := by decide +kernel
theorem dX8_split_35 : decode cX8_split 35 = .ok (.iadd, 1) := by decide +kernel
theorem dX8_split_36 : decode cX8_split 36 = .ok (.putfield 26, 3) := by decide +kernel
theorem dX8_split_39 : decode cX8_split 39 = .ok (.aload_n 0, 1) := by decide +kernel
theorem dX8_split_40 : decode cX8_split 40 = .ok (.getfield 13, 3) := by decide +kernel
theorem dX8_split_43 : decode cX8_split 43 = .ok (.iload 4, 2) := by decide +kernel
theorem dX8_split_45 : decode cX8_split 45 = .ok (.iload_n 3, 1) := by decide +kernel
theorem dX8_split_46 : decode cX8_split 46 = .ok (.iastore, 1) := by decide +kernel
theorem dX8_split_47 : decode cX8_split 47 = .ok (.aload_n 0, 1) := by decide +kernel
theorem dX8_split_48 : decode cX8_split 48 = .ok (.getfield 16, 3) := by decide +kernel
theorem dX8_split_51 : decode cX8_split 51 = .ok (.iload 4, 2) := by decide +kernel
theorem dX8_split_53 : decode cX8_split 53 = .ok (.aload_n 0, 1) := by decide +kernel
theorem dX8_split_54 : decode cX8_split 54 = .ok (.getfield 38, 3) := by decide +kernel
theorem dX8_split_57 : decode cX8_split 57 = .ok (.iastore, 1) := by decide +kernel
theorem dX8_split_58 : decode cX8_split 58 = .ok (.aload_n 0, 1) := by decide +kernel
theorem dX8_split_59 : decode cX8_split 59 = .ok (.getfield 19, 3) := by decide +kernel
theorem dX8_split_62 : decode cX8_split 62 = .ok (.iload 4, 2) := by decide +kernel
theorem dX8_split_64 : decode cX8_split 64 = .ok (.iconst 0, 1) := by decide +kernel
theorem dX8_split_65 : decode cX8_split 65 = .ok (.iastore, 1) := by decide +kernel
theorem dX8_split_66 : decode cX8_split 66 = .ok (.aload_n 0, 1) := by decide +kernel
theorem dX8_split_67 : decode cX8_split 67 = .ok (.getfield 9, 3) := by decide +kernel
theorem dX8_split_70 : decode cX8_split 70 = .ok (.iload 4, 2) := by decide +kernel
theorem dX8_split_72 : decode cX8_split 72 = .ok (.iconst 0, 1) := by decide +kernel
theorem dX8_split_73 : decode cX8_split 73 = .ok (.iastore, 1) := by decide +kernel
theorem dX8_split_74 : decode cX8_split 74 = .ok (.iload_n 3, 1) := by decide +kernel
theorem dX8_split_75 : decode cX8_split 75 = .ok (.iload_n 2, 1) := by decide +kernel
theorem dX8_split_76 : decode cX8_split 76 = .ok (.if_icmp .lt 6, 3) := by decide +kernel
theorem dX8_split_79 : decode cX8_split 79 = .ok (.goto 44, 3) := by decide +kernel
theorem dX8_split_123 : decode cX8_split 123 = .ok (.aload_n 0, 1) := by decide +kernel
theorem dX8_split_124 : decode cX8_split 124 = .ok (.iconst 0, 1) := by decide +kernel
theorem dX8_split_125 : decode cX8_split 125 = .ok (.putfield 29, 3) := by decide +kernel
theorem dX8_split_128 : decode cX8_split 128 = .ok (.aload_n 0, 1) := by decide +kernel
theorem dX8_split_129 : decode cX8_split 129 = .ok (.iconst 0, 1) := by decide +kernel
theorem dX8_split_130 : decode cX8_split 130 = .ok (.putfield 32, 3) := by decide +kernel
theorem dX8_split_133 : decode cX8_split 133 = .ok (.aload_n 0, 1) := by decide +kernel
theorem dX8_split_134 : decode cX8_split 134 = .ok (.iconst (-1), 1) := by decide +kernel
theorem dX8_split_135 : decode cX8_split 135 = .ok (.putfield 35, 3) := by decide +kernel
theorem dX8_split_138 : decode cX8_split 138 = .ok (.return_, 1) := by decide +kernel
theorem dX8_is_0 : decode cX8_is 0 = .ok (.aload_n 0, 1) := by decide +kernel
theorem dX8_is_1 : decode cX8_is 1 = .ok (.getfield 35, 3) := by decide +kernel
theorem dX8_is_4 : decode cX8_is 4 = .ok (.ifCond .ge 20, 3) := by decide +kernel
theorem dX8_is_7 : decode cX8_is 7 = .ok (.aload_n 0, 1) := by decide +kernel
theorem dX8_is_8 : decode cX8_is 8 = .ok (.getfield 9, 3) := by decide +kernel
theorem dX8_is_11 : decode cX8_is 11 = .ok (.aload_n 0, 1) := by decide +kernel
theorem dX8_is_12 : decode cX8_is 12 = .ok (.getfield 29, 3) := by decide +kernel
theorem dX8_is_15 : decode cX8_is 15 = .ok (.iaload, 1) := by decide +kernel
theorem dX8_is_16 : decode cX8_is 16 = .ok (.iload_n 1, 1) := by decide +kernel
theorem dX8_is_17 : decode cX8_is 17 = .ok (.if_icmp .ne 7, 3) := by decide +kernel
theorem dX8_is_24 : decode cX8_is 24 = .ok (.iconst 0, 1) := by decide +kernel
theorem dX8_is_25 : decode cX8_is 25 = .ok (.ireturn, 1) := by decide +kernel
theorem dX8_fail_0 : decode cX8_fail 0 = .ok (.aload_n 0, 1) := by decide +kernel
theorem dX8_fail_1 : decode cX8_fail 1 = .ok (.getfield 35, 3) := by decide +kernel
theorem dX8_fail_4 : decode cX8_fail 4 = .ok (.ifCond .ge 16, 3) := by decide +kernel
theorem dX8_fail_7 : decode cX8_fail 7 = .ok (.aload_n 0, 1) := by decide +kernel
theorem dX8_fail_8 : decode cX8_fail 8 = .ok (.aload_n 0, 1) := by decide +kernel
theorem dX8_fail_9 : decode cX8_fail 9 = .ok (.getfield 13, 3) := by decide +kernel
theorem dX8_fail_12 : decode cX8_fail 12 = .ok (.aload_n 0, 1) := by decide +kernel
theorem dX8_fail_13 : decode cX8_fail 13 = .ok (.getfield 29, 3) := by decide +kernel
theorem dX8_fail_16 : decode cX8_fail 16 = .ok (.iaload, 1) := by decide +kernel
theorem dX8_fail_17 : decode cX8_fail 17 = .ok (.putfield 35, 3) := by decide +kernel
theorem dX8_fail_20 : decode cX8_fail 20 = .ok (.return_, 1) := by decide +kernel
theorem dX8_take_0 : decode cX8_take 0 = .ok (.aload_n 0, 1) := by decide +kernel
theorem dX8_take_1 : decode cX8_take 1 = .ok (.getfield 35, 3) := by decide +kernel
theorem dX8_take_4 : decode cX8_take 4 = .ok (.ifCond .lt 4, 3) := by decide +kernel
theorem dX8_take_7 : decode cX8_take 7 = .ok (.return_, 1) := by decide +kernel
theorem dX8_takes_0 : decode cX8_takes 0 = .ok (.aload_n 0, 1) := by decide +kernel
theorem dX8_takes_1 : decode cX8_takes 1 = .ok (.iload_n 1, 1) := by decide +kernel
theorem dX8_takes_2 : decode cX8_takes 2 = .ok (.invokevirtual 137, 3) := by decide +kernel
theorem dX8_takes_5 : decode cX8_takes 5 = .ok (.ifCond .ne 5, 3) := by decide +kernel
theorem dX8_takes_8 : decode cX8_takes 8 = .ok (.iconst 0, 1) := by decide +kernel
theorem dX8_takes_9 : decode cX8_takes 9 = .ok (.ireturn, 1) := by decide +kernel
theorem dX8_need_0 : decode cX8_need 0 = .ok (.aload_n 0, 1) := by decide +kernel
theorem dX8_need_1 : decode cX8_need 1 = .ok (.iload_n 1, 1) := by decide +kernel
theorem dX8_need_2 : decode cX8_need 2 = .ok (.invokevirtual 137, 3) := by decide +kernel
theorem dX8_need_5 : decode cX8_need 5 = .ok (.ifCond .eq 10, 3) := by decide +kernel
theorem dX8_need_15 : decode cX8_need 15 = .ok (.aload_n 0, 1) := by decide +kernel
theorem dX8_need_16 : decode cX8_need 16 = .ok (.invokevirtual 143, 3) := by decide +kernel
theorem dX8_need_19 : decode cX8_need 19 = .ok (.return_, 1) := by decide +kernel
theorem dX8_plainName_0 : decode cX8_plainName 0 = .ok (.aload_n 0, 1) := by decide +kernel
theorem dX8_plainName_1 : decode cX8_plainName 1 = .ok (.iconst 1, 1) := by decide +kernel
theorem dX8_plainName_2 : decode cX8_plainName 2 = .ok (.invokevirtual 137, 3) := by decide +kernel
theorem dX8_plainName_5 : decode cX8_plainName 5 = .ok (.ifCond .eq 10, 3) := by decide +kernel
theorem dX8_plainName_15 : decode cX8_plainName 15 = .ok (.aload_n 0, 1) := by decide +kernel
theorem dX8_plainName_16 : decode cX8_plainName 16 = .ok (.invokevirtual 143, 3) := by decide +kernel
theorem dX8_plainName_19 : decode cX8_plainName 19 = .ok (.aload_n 0, 1) := by decide +kernel
theorem dX8_plainName_20 : decode cX8_plainName 20 = .ok (.getfield 19, 3) := by decide +kernel
theorem dX8_plainName_23 : decode cX8_plainName 23 = .ok (.aload_n 0, 1) := by decide +kernel
theorem dX8_plainName_24 : decode cX8_plainName 24 = .ok (.getfield 29, 3) := by decide +kernel
theorem dX8_plainName_27 : decode cX8_plainName 27 = .ok (.iaload, 1) := by decide +kernel
theorem dX8_plainName_28 : decode cX8_plainName 28 = .ok (.istore_n 1, 1) := by decide +kernel
theorem dX8_plainName_29 : decode cX8_plainName 29 = .ok (.aload_n 0, 1) := by decide +kernel
theorem dX8_plainName_30 : decode cX8_plainName 30 = .ok (.invokevirtual 140, 3) := by decide +kernel
theorem dX8_plainName_33 : decode cX8_plainName 33 = .ok (.iload_n 1, 1) := by decide +kernel
theorem dX8_plainName_34 : decode cX8_plainName 34 = .ok (.ireturn, 1) := by decide +kernel
theorem dX8_node_0 : decode cX8_node 0 = .ok (.aload_n 0, 1) := by decide +kernel
theorem dX8_node_1 : decode cX8_node 1 = .ok (.getfield 44, 3) := by decide +kernel
theorem dX8_node_4 : decode cX8_node 4 = .ok (.iload_n 1, 1) := by decide +kernel
theorem dX8_node_5 : decode cX8_node 5 = .ok (.aload_n 0, 1) := by decide +kernel
theorem dX8_node_6 : decode cX8_node 6 = .ok (.getfield 13, 3) := by decide +kernel
theorem dX8_node_9 : decode cX8_node 9 = .ok (.aload_n 0, 1) := by decide +kernel
theorem dX8_node_10 : decode cX8_node 10 = .ok (.getfield 29, 3) := by decide +kernel
theorem dX8_node_13 : decode cX8_node 13 = .ok (.iaload, 1) := by decide +kernel
theorem dX8_node_14 : decode cX8_node 14 = .ok (.invokevirtual 157, 3) := by decide +kernel
theorem dX8_node_17 : decode cX8_node 17 = .ok (.ireturn, 1) := by decide +kernel
theorem dX8_path_0 : decode cX8_path 0 = .ok (.iload_n 2, 1) := by decide +kernel
theorem dX8_path_1 : decode cX8_path 1 = .ok (.istore_n 3, 1) := by decide +kernel
theorem dX8_path_2 : decode cX8_path 2 = .ok (.iconst 0, 1) := by decide +kernel
theorem dX8_path_3 : decode cX8_path 3 = .ok (.istore 4, 2) := by decide +kernel
theorem dX8_path_5 : decode cX8_path 5 = .ok (.iload 4, 2) := by decide +kernel
theorem dX8_path_7 : decode cX8_path 7 = .ok (.bipush 6, 2) := by decide +kernel
theorem dX8_path_9 : decode cX8_path 9 = .ok (.if_icmp .ge 94, 3) := by decide +kernel
theorem dX8_path_12 : decode cX8_path 12 = .ok (.aload_n 0, 1) := by decide +kernel
theorem dX8_path_13 : decode cX8_path 13 = .ok (.bipush 6, 2) := by decide +kernel
theorem dX8_path_15 : decode cX8_path 15 = .ok (.invokevirtual 162, 3) := by decide +kernel
theorem dX8_path_18 : decode cX8_path 18 = .ok (.istore 5, 2) := by decide +kernel
theorem dX8_path_20 : decode cX8_path 20 = .ok (.aload_n 0, 1) := by decide +kernel
theorem dX8_path_21 : decode cX8_path 21 = .ok (.getfield 44, 3) := by decide +kernel
theorem dX8_path_24 : decode cX8_path 24 = .ok (.getfield 165, 3) := by decide +kernel
theorem dX8_path_27 : decode cX8_path 27 = .ok (.iload 5, 2) := by decide +kernel
theorem dX8_path_29 : decode cX8_path 29 = .ok (.aload_n 0, 1) := by decide +kernel
theorem dX8_path_30 : decode cX8_path 30 = .ok (.invokevirtual 168, 3) := by decide +kernel
theorem dX8_path_33 : decode cX8_path 33 = .ok (.iastore, 1) := by decide +kernel
theorem dX8_path_34 : decode cX8_path 34 = .ok (.aload_n 0, 1) := by decide +kernel
theorem dX8_path_35 : decode cX8_path 35 = .ok (.getfield 44, 3) := by decide +kernel
theorem dX8_path_38 : decode cX8_path 38 = .ok (.iload_n 1, 1) := by decide +kernel
theorem dX8_path_39 : decode cX8_path 39 = .ok (.iload 5, 2) := by decide +kernel
theorem dX8_path_41 : decode cX8_path 41 = .ok (.invokevirtual 172, 3) := by decide +kernel
theorem dX8_path_44 : decode cX8_path 44 = .ok (.aload_n 0, 1) := by decide +kernel
theorem dX8_path_45 : decode cX8_path 45 = .ok (.getfield 35, 3) := by decide +kernel
theorem dX8_path_48 : decode cX8_path 48 = .ok (.ifCond .lt 5, 3) := by decide +kernel
theorem dX8_path_51 : decode cX8_path 51 = .ok (.iconst 0, 1) := by decide +kernel
theorem dX8_path_52 : decode cX8_path 52 = .ok (.ireturn, 1) := by decide +kernel
theorem dX8_readModule_0 : decode cX8_readModule 0 = .ok (.aload_n 0, 1) := by decide +kernel
theorem dX8_readModule_1 : decode cX8_readModule 1 = .ok (.aload_n 1, 1) := by decide +kernel
theorem dX8_readModule_2 : decode cX8_readModule 2 = .ok (.iload_n 2, 1) := by decide +kernel
theorem dX8_readModule_3 : decode cX8_readModule 3 = .ok (.invokevirtual 181, 3) := by decide +kernel
theorem dX8_readModule_6 : decode cX8_readModule 6 = .ok (.aload_n 0, 1) := by decide +kernel
theorem dX8_readModule_7 : decode cX8_readModule 7 = .ok (.new 158, 3) := by decide +kernel
theorem dX8_readModule_10 : decode cX8_readModule 10 = .ok (.dup, 1) := by decide +kernel
theorem dX8_readModule_11 : decode cX8_readModule 11 = .ok (.iconst 2, 1) := by decide +kernel
theorem dX8_readModule_12 : decode cX8_readModule 12 = .ok (.iload_n 2, 1) := by decide +kernel
theorem dX8_readModule_13 : decode cX8_readModule 13 = .ok (.imul, 1) := by decide +kernel
theorem dX8_readModule_14 : decode cX8_readModule 14 = .ok (.bipush 32, 2) := by decide +kernel
theorem dX8_readModule_16 : decode cX8_readModule 16 = .ok (.iadd, 1) := by decide +kernel
theorem dX8_readModule_17 : decode cX8_readModule 17 = .ok (.invokespecial 185, 3) := by decide +kernel
theorem dX8_readModule_20 : decode cX8_readModule 20 = .ok (.putfield 44, 3) := by decide +kernel
theorem dX8_readModule_23 : decode cX8_readModule 23 = .ok (.aload_n 0, 1) := by decide +kernel
theorem dX8_readModule_24 : decode cX8_readModule 24 = .ok (.iconst 5, 1) := by decide +kernel
theorem dX8_readModule_25 : decode cX8_readModule 25 = .ok (.invokevirtual 146, 3) := by decide +kernel
theorem dX8_readModule_28 : decode cX8_readModule 28 = .ok (.aload_n 0, 1) := by decide +kernel
theorem dX8_readModule_29 : decode cX8_readModule 29 = .ok (.getfield 44, 3) := by decide +kernel
theorem dX8_readModule_32 : decode cX8_readModule 32 = .ok (.aload_n 0, 1) := by decide +kernel
theorem dX8_readModule_33 : decode cX8_readModule 33 = .ok (.aload_n 0, 1) := by decide +kernel
theorem dX8_readModule_34 : decode cX8_readModule 34 = .ok (.bipush 6, 2) := by decide +kernel
theorem dX8_readModule_36 : decode cX8_readModule 36 = .ok (.invokevirtual 162, 3) := by decide +kernel
theorem dX8_readModule_39 : decode cX8_readModule 39 = .ok (.iconst 0, 1) := by decide +kernel
theorem dX8_readModule_40 : decode cX8_readModule 40 = .ok (.invokevirtual 187, 3) := by decide +kernel
theorem dX8_readModule_43 : decode cX8_readModule 43 = .ok (.putfield 190, 3) := by decide +kernel
theorem dX8_readModule_46 : decode cX8_readModule 46 = .ok (.aload_n 0, 1) := by decide +kernel
theorem dX8_readModule_47 : decode cX8_readModule 47 = .ok (.getfield 44, 3) := by decide +kernel
theorem dX8_readModule_50 : decode cX8_readModule 50 = .ok (.aload_n 0, 1) := by decide +kernel
theorem dX8_readModule_51 : decode cX8_readModule 51 = .ok (.getfield 44, 3) := by decide +kernel
theorem dX8_readModule_54 : decode cX8_readModule 54 = .ok (.bipush 16, 2) := by decide +kernel
theorem dX8_readModule_56 : decode cX8_readModule 56 = .ok (.iconst 0, 1) := by decide +kernel
theorem dX8_readModule_57 : decode cX8_readModule 57 = .ok (.invokevirtual 157, 3) := by decide +kernel
theorem dX8_readModule_60 : decode cX8_readModule 60 = .ok (.putfield 193, 3) := by decide +kernel
theorem dX8_readModule_63 : decode cX8_readModule 63 = .ok (.aload_n 0, 1) := by decide +kernel
theorem dX8_readModule_64 : decode cX8_readModule 64 = .ok (.getfield 44, 3) := by decide +kernel
theorem dX8_readModule_67 : decode cX8_readModule 67 = .ok (.bipush 16, 2) := by decide +kernel
theorem dX8_readModule_69 : decode cX8_readModule 69 = .ok (.iconst 0, 1) := by decide +kernel
theorem dX8_readModule_70 : decode cX8_readModule 70 = .ok (.invokevirtual 157, 3) := by decide +kernel
theorem dX8_readModule_73 : decode cX8_readModule 73 = .ok (.istore_n 3, 1) := by decide +kernel
theorem dX8_readModule_74 : decode cX8_readModule 74 = .ok (.iconst 0, 1) := by decide +kernel
theorem dX8_readModule_75 : decode cX8_readModule 75 = .ok (.istore 4, 2) := by decide +kernel
theorem dX8_readModule_77 : decode cX8_readModule 77 = .ok (.iload 4, 2) := by decide +kernel
theorem dX8_readModule_79 : decode cX8_readModule 79 = .ok (.bipush 10, 2) := by decide +kernel
theorem dX8_readModule_81 : decode cX8_readModule 81 = .ok (.if_icmp .gt 41, 3) := by decide +kernel
theorem dX8_readModule_84 : decode cX8_readModule 84 = .ok (.aload_n 0, 1) := by decide +kernel
theorem dX8_readModule_85 : decode cX8_readModule 85 = .ok (.bipush 6, 2) := by decide +kernel
theorem dX8_readModule_87 : decode cX8_readModule 87 = .ok (.invokevirtual 137, 3) := by decide +kernel
theorem dX8_readModule_90 : decode cX8_readModule 90 = .ok (.ifCond .eq 32, 3) := by decide +kernel
theorem dX8_readModule_122 : decode cX8_readModule 122 = .ok (.aload_n 0, 1) := by decide +kernel
theorem dX8_readModule_123 : decode cX8_readModule 123 = .ok (.getfield 44, 3) := by decide +kernel
theorem dX8_readModule_126 : decode cX8_readModule 126 = .ok (.aload_n 0, 1) := by decide +kernel
theorem dX8_readModule_127 : decode cX8_readModule 127 = .ok (.getfield 44, 3) := by decide +kernel
theorem dX8_readModule_130 : decode cX8_readModule 130 = .ok (.getfield 199, 3) := by decide +kernel
theorem dX8_readModule_133 : decode cX8_readModule 133 = .ok (.iload_n 3, 1) := by decide +kernel
theorem dX8_readModule_134 : decode cX8_readModule 134 = .ok (.iaload, 1) := by decide +kernel
theorem dX8_readModule_135 : decode cX8_readModule 135 = .ok (.putfield 202, 3) := by decide +kernel
theorem dX8_readModule_138 : decode cX8_readModule 138 = .ok (.iconst 0, 1) := by decide +kernel
theorem dX8_readModule_139 : decode cX8_readModule 139 = .ok (.istore 4, 2) := by decide +kernel
theorem dX8_readModule_141 : decode cX8_readModule 141 = .ok (.iload 4, 2) := by decide +kernel
theorem dX8_readModule_143 : decode cX8_readModule 143 = .ok (.bipush 100, 2) := by decide +kernel
theorem dX8_readModule_145 : decode cX8_readModule 145 = .ok (.if_icmp .gt 69, 3) := by decide +kernel
theorem dX8_readModule_148 : decode cX8_readModule 148 = .ok (.aload_n 0, 1) := by decide +kernel
theorem dX8_readModule_149 : decode cX8_readModule 149 = .ok (.getfield 35, 3) := by decide +kernel
theorem dX8_readModule_152 : decode cX8_readModule 152 = .ok (.ifCond .ge 62, 3) := by decide +kernel
theorem dX8_readModule_214 : decode cX8_readModule 214 = .ok (.aload_n 0, 1) := by decide +kernel
theorem dX8_readModule_215 : decode cX8_readModule 215 = .ok (.getfield 35, 3) := by decide +kernel
theorem dX8_readModule_218 : decode cX8_readModule 218 = .ok (.ifCond .ge 10, 3) := by decide +kernel
theorem dX8_readModule_228 : decode cX8_readModule 228 = .ok (.aconst_null, 1) := by decide +kernel
theorem dX8_readModule_229 : decode cX8_readModule 229 = .ok (.areturn, 1) := by decide +kernel
theorem dX8_readQuery_0 : decode cX8_readQuery 0 = .ok (.aload_n 0, 1) := by decide +kernel
theorem dX8_readQuery_1 : decode cX8_readQuery 1 = .ok (.aload_n 1, 1) := by decide +kernel
theorem dX8_readQuery_2 : decode cX8_readQuery 2 = .ok (.iload_n 2, 1) := by decide +kernel
theorem dX8_readQuery_3 : decode cX8_readQuery 3 = .ok (.invokevirtual 181, 3) := by decide +kernel
theorem dX8_readQuery_6 : decode cX8_readQuery 6 = .ok (.aload_n 0, 1) := by decide +kernel
theorem dX8_readQuery_7 : decode cX8_readQuery 7 = .ok (.new 158, 3) := by decide +kernel
theorem dX8_readQuery_10 : decode cX8_readQuery 10 = .ok (.dup, 1) := by decide +kernel
theorem dX8_readQuery_11 : decode cX8_readQuery 11 = .ok (.iconst 2, 1) := by decide +kernel
theorem dX8_readQuery_12 : decode cX8_readQuery 12 = .ok (.iload_n 2, 1) := by decide +kernel
theorem dX8_readQuery_13 : decode cX8_readQuery 13 = .ok (.imul, 1) := by decide +kernel
theorem dX8_readQuery_14 : decode cX8_readQuery 14 = .ok (.bipush 32, 2) := by decide +kernel
theorem dX8_readQuery_16 : decode cX8_readQuery 16 = .ok (.iadd, 1) := by decide +kernel
theorem dX8_readQuery_17 : decode cX8_readQuery 17 = .ok (.invokespecial 185, 3) := by decide +kernel
theorem dX8_readQuery_20 : decode cX8_readQuery 20 = .ok (.putfield 44, 3) := by decide +kernel
theorem dX8_readQuery_23 : decode cX8_readQuery 23 = .ok (.aload_n 0, 1) := by decide +kernel
theorem dX8_readQuery_24 : decode cX8_readQuery 24 = .ok (.getfield 44, 3) := by decide +kernel
theorem dX8_readQuery_27 : decode cX8_readQuery 27 = .ok (.aload_n 0, 1) := by decide +kernel
theorem dX8_readQuery_28 : decode cX8_readQuery 28 = .ok (.bipush 16, 2) := by decide +kernel
theorem dX8_readQuery_30 : decode cX8_readQuery 30 = .ok (.invokevirtual 162, 3) := by decide +kernel
theorem dX8_readQuery_33 : decode cX8_readQuery 33 = .ok (.putfield 193, 3) := by decide +kernel
theorem dX8_readQuery_36 : decode cX8_readQuery 36 = .ok (.aload_n 0, 1) := by decide +kernel
theorem dX8_readQuery_37 : decode cX8_readQuery 37 = .ok (.aload_n 0, 1) := by decide +kernel
theorem dX8_readQuery_38 : decode cX8_readQuery 38 = .ok (.getfield 44, 3) := by decide +kernel
theorem dX8_readQuery_41 : decode cX8_readQuery 41 = .ok (.getfield 193, 3) := by decide +kernel
theorem dX8_readQuery_44 : decode cX8_readQuery 44 = .ok (.iconst 0, 1) := by decide +kernel
theorem dX8_readQuery_45 : decode cX8_readQuery 45 = .ok (.invokevirtual 211, 3) := by decide +kernel
theorem dX8_readQuery_48 : decode cX8_readQuery 48 = .ok (.aload_n 0, 1) := by decide +kernel
theorem dX8_readQuery_49 : decode cX8_readQuery 49 = .ok (.getfield 35, 3) := by decide +kernel
theorem dX8_readQuery_52 : decode cX8_readQuery 52 = .ok (.ifCond .ge 15, 3) := by decide +kernel
theorem dX8_readQuery_67 : decode cX8_readQuery 67 = .ok (.aload_n 0, 1) := by decide +kernel
theorem dX8_readQuery_68 : decode cX8_readQuery 68 = .ok (.getfield 35, 3) := by decide +kernel
theorem dX8_readQuery_71 : decode cX8_readQuery 71 = .ok (.ifCond .ge 10, 3) := by decide +kernel
theorem dX8_readQuery_81 : decode cX8_readQuery 81 = .ok (.aconst_null, 1) := by decide +kernel
theorem dX8_readQuery_82 : decode cX8_readQuery 82 = .ok (.areturn, 1) := by decide +kernel
theorem dX8_readLiterals_0 : decode cX8_readLiterals 0 = .ok (.iconst 0, 1) := by decide +kernel
theorem dX8_readLiterals_1 : decode cX8_readLiterals 1 = .ok (.istore_n 3, 1) := by decide +kernel
theorem dX8_readLiterals_2 : decode cX8_readLiterals 2 = .ok (.aload_n 0, 1) := by decide +kernel
theorem dX8_readLiterals_3 : decode cX8_readLiterals 3 = .ok (.getfield 35, 3) := by decide +kernel
theorem dX8_readLiterals_6 : decode cX8_readLiterals 6 = .ok (.ifCond .ge 67, 3) := by decide +kernel
theorem dX8_readLiterals_9 : decode cX8_readLiterals 9 = .ok (.iload_n 3, 1) := by decide +kernel
theorem dX8_readLiterals_10 : decode cX8_readLiterals 10 = .ok (.sipush 6002, 3) := by decide +kernel
theorem dX8_readLiterals_13 : decode cX8_readLiterals 13 = .ok (.if_icmp .ge 60, 3) := by decide +kernel
theorem dX8_readLiterals_16 : decode cX8_readLiterals 16 = .ok (.aload_n 0, 1) := by decide +kernel
theorem dX8_readLiterals_17 : decode cX8_readLiterals 17 = .ok (.getfield 44, 3) := by decide +kernel
theorem dX8_readLiterals_20 : decode cX8_readLiterals 20 = .ok (.iload_n 1, 1) := by decide +kernel
theorem dX8_readLiterals_21 : decode cX8_readLiterals 21 = .ok (.aload_n 0, 1) := by decide +kernel
theorem dX8_readLiterals_22 : decode cX8_readLiterals 22 = .ok (.invokevirtual 259, 3) := by decide +kernel
theorem dX8_readLiterals_25 : decode cX8_readLiterals 25 = .ok (.invokevirtual 172, 3) := by decide +kernel
theorem dX8_readLiterals_28 : decode cX8_readLiterals 28 = .ok (.aload_n 0, 1) := by decide +kernel
theorem dX8_readLiterals_29 : decode cX8_readLiterals 29 = .ok (.bipush 42, 2) := by decide +kernel
theorem dX8_readLiterals_31 : decode cX8_readLiterals 31 = .ok (.invokevirtual 229, 3) := by decide +kernel
theorem dX8_readLiterals_34 : decode cX8_readLiterals 34 = .ok (.istore 4, 2) := by decide +kernel
theorem dX8_readLiterals_36 : decode cX8_readLiterals 36 = .ok (.aload_n 0, 1) := by decide +kernel
theorem dX8_readLiterals_37 : decode cX8_readLiterals 37 = .ok (.iload_n 2, 1) := by decide +kernel
theorem dX8_readLiterals_38 : decode cX8_readLiterals 38 = .ok (.invokevirtual 137, 3) := by decide +kernel
theorem dX8_readLiterals_41 : decode cX8_readLiterals 41 = .ok (.ifCond .eq 4, 3) := by decide +kernel
theorem dX8_readLiterals_45 : decode cX8_readLiterals 45 = .ok (.iload 4, 2) := by decide +kernel
theorem dX8_readLiterals_47 : decode cX8_readLiterals 47 = .ok (.ifCond .ne 20, 3) := by decide +kernel
theorem dX8_readLiterals_50 : decode cX8_readLiterals 50 = .ok (.aload_n 0, 1) := by decide +kernel
theorem dX8_readLiterals_51 : decode cX8_readLiterals 51 = .ok (.getfield 16, 3) := by decide +kernel
theorem dX8_readLiterals_54 : decode cX8_readLiterals 54 = .ok (.aload_n 0, 1) := by decide +kernel
theorem dX8_readLiterals_55 : decode cX8_readLiterals 55 = .ok (.getfield 29, 3) := by decide +kernel
theorem dX8_readLiterals_58 : decode cX8_readLiterals 58 = .ok (.iaload, 1) := by decide +kernel
theorem dX8_readLiterals_59 : decode cX8_readLiterals 59 = .ok (.iconst 2, 1) := by decide +kernel
theorem dX8_readLiterals_60 : decode cX8_readLiterals 60 = .ok (.if_icmp .ge 7, 3) := by decide +kernel
theorem dX8_readLiterals_63 : decode cX8_readLiterals 63 = .ok (.aload_n 0, 1) := by decide +kernel
theorem dX8_readLiterals_64 : decode cX8_readLiterals 64 = .ok (.invokevirtual 143, 3) := by decide +kernel
theorem dX8_readLiterals_67 : decode cX8_readLiterals 67 = .ok (.iinc 3 1, 3) := by decide +kernel
theorem dX8_readLiterals_70 : decode cX8_readLiterals 70 = .ok (.goto (-68), 3) := by decide +kernel
theorem dX8_readLiterals_73 : decode cX8_readLiterals 73 = .ok (.return_, 1) := by decide +kernel
theorem dX8_readLiteral_0 : decode cX8_readLiteral 0 = .ok (.aload_n 0, 1) := by decide +kernel
theorem dX8_readLiteral_1 : decode cX8_readLiteral 1 = .ok (.bipush 12, 2) := by decide +kernel
theorem dX8_readLiteral_3 : decode cX8_readLiteral 3 = .ok (.invokevirtual 137, 3) := by decide +kernel
theorem dX8_readLiteral_6 : decode cX8_readLiteral 6 = .ok (.ifCond .eq 11, 3) := by decide +kernel
theorem dX8_readLiteral_17 : decode cX8_readLiteral 17 = .ok (.aload_n 0, 1) := by decide +kernel
theorem dX8_readLiteral_18 : decode cX8_readLiteral 18 = .ok (.bipush 14, 2) := by decide +kernel
theorem dX8_readLiteral_20 : decode cX8_readLiteral 20 = .ok (.invokevirtual 137, 3) := by decide +kernel
theorem dX8_readLiteral_23 : decode cX8_readLiteral 23 = .ok (.ifCond .eq 11, 3) := by decide +kernel
theorem dX8_readLiteral_34 : decode cX8_readLiteral 34 = .ok (.aload_n 0, 1) := by decide +kernel
theorem dX8_readLiteral_35 : decode cX8_readLiteral 35 = .ok (.bipush 15, 2) := by decide +kernel
theorem dX8_readLiteral_37 : decode cX8_readLiteral 37 = .ok (.invokevirtual 137, 3) := by decide +kernel
theorem dX8_readLiteral_40 : decode cX8_readLiteral 40 = .ok (.ifCond .eq 30, 3) := by decide +kernel
theorem dX8_readLiteral_70 : decode cX8_readLiteral 70 = .ok (.aload_n 0, 1) := by decide +kernel
theorem dX8_readLiteral_71 : decode cX8_readLiteral 71 = .ok (.bipush 24, 2) := by decide +kernel
theorem dX8_readLiteral_73 : decode cX8_readLiteral 73 = .ok (.invokevirtual 162, 3) := by decide +kernel
theorem dX8_readLiteral_76 : decode cX8_readLiteral 76 = .ok (.istore_n 1, 1) := by decide +kernel
theorem dX8_readLiteral_77 : decode cX8_readLiteral 77 = .ok (.aload_n 0, 1) := by decide +kernel
theorem dX8_readLiteral_78 : decode cX8_readLiteral 78 = .ok (.iconst 0, 1) := by decide +kernel
theorem dX8_readLiteral_79 : decode cX8_readLiteral 79 = .ok (.invokevirtual 268, 3) := by decide +kernel
theorem dX8_readLiteral_82 : decode cX8_readLiteral 82 = .ok (.istore_n 2, 1) := by decide +kernel
theorem dX8_readLiteral_83 : decode cX8_readLiteral 83 = .ok (.aload_n 0, 1) := by decide +kernel
theorem dX8_readLiteral_84 : decode cX8_readLiteral 84 = .ok (.getfield 44, 3) := by decide +kernel
theorem dX8_readLiteral_87 : decode cX8_readLiteral 87 = .ok (.iload_n 1, 1) := by decide +kernel
theorem dX8_readLiteral_88 : decode cX8_readLiteral 88 = .ok (.iload_n 2, 1) := by decide +kernel
theorem dX8_readLiteral_89 : decode cX8_readLiteral 89 = .ok (.invokevirtual 172, 3) := by decide +kernel
theorem dX8_readLiteral_92 : decode cX8_readLiteral 92 = .ok (.aload_n 0, 1) := by decide +kernel
theorem dX8_readLiteral_93 : decode cX8_readLiteral 93 = .ok (.bipush 20, 2) := by decide +kernel
theorem dX8_readLiteral_95 : decode cX8_readLiteral 95 = .ok (.invokevirtual 137, 3) := by decide +kernel
theorem dX8_readLiteral_98 : decode cX8_readLiteral 98 = .ok (.istore_n 3, 1) := by decide +kernel
theorem dX8_readLiteral_99 : decode cX8_readLiteral 99 = .ok (.iload_n 3, 1) := by decide +kernel
theorem dX8_readLiteral_100 : decode cX8_readLiteral 100 = .ok (.ifCond .eq 21, 3) := by decide +kernel
theorem dX8_readLiteral_121 : decode cX8_readLiteral 121 = .ok (.iload_n 3, 1) := by decide +kernel
theorem dX8_readLiteral_122 : decode cX8_readLiteral 122 = .ok (.ifCond .ne 12, 3) := by decide +kernel
theorem dX8_readLiteral_125 : decode cX8_readLiteral 125 = .ok (.aload_n 0, 1) := by decide +kernel
theorem dX8_readLiteral_126 : decode cX8_readLiteral 126 = .ok (.bipush 25, 2) := by decide +kernel
theorem dX8_readLiteral_128 : decode cX8_readLiteral 128 = .ok (.invokevirtual 137, 3) := by decide +kernel
theorem dX8_readLiteral_131 : decode cX8_readLiteral 131 = .ok (.ifCond .eq 40, 3) := by decide +kernel
theorem dX8_readLiteral_171 : decode cX8_readLiteral 171 = .ok (.aload_n 0, 1) := by decide +kernel
theorem dX8_readLiteral_172 : decode cX8_readLiteral 172 = .ok (.getfield 44, 3) := by decide +kernel
theorem dX8_readLiteral_175 : decode cX8_readLiteral 175 = .ok (.getfield 271, 3) := by decide +kernel
theorem dX8_readLiteral_178 : decode cX8_readLiteral 178 = .ok (.iload_n 1, 1) := by decide +kernel
theorem dX8_readLiteral_179 : decode cX8_readLiteral 179 = .ok (.iaload, 1) := by decide +kernel
theorem dX8_readLiteral_180 : decode cX8_readLiteral 180 = .ok (.bipush 20, 2) := by decide +kernel
theorem dX8_readLiteral_182 : decode cX8_readLiteral 182 = .ok (.if_icmp .eq 8, 3) := by decide +kernel
theorem dX8_readLiteral_185 : decode cX8_readLiteral 185 = .ok (.aload_n 0, 1) := by decide +kernel
theorem dX8_readLiteral_186 : decode cX8_readLiteral 186 = .ok (.iload_n 1, 1) := by decide +kernel
theorem dX8_readLiteral_187 : decode cX8_readLiteral 187 = .ok (.invokevirtual 274, 3) := by decide +kernel
theorem dX8_readLiteral_190 : decode cX8_readLiteral 190 = .ok (.iload_n 1, 1) := by decide +kernel
theorem dX8_readLiteral_191 : decode cX8_readLiteral 191 = .ok (.ireturn, 1) := by decide +kernel
theorem dX8_readWiths_0 : decode cX8_readWiths 0 = .ok (.iconst 0, 1) := by decide +kernel
theorem dX8_readWiths_1 : decode cX8_readWiths 1 = .ok (.istore_n 2, 1) := by decide +kernel
theorem dX8_readWiths_2 : decode cX8_readWiths 2 = .ok (.iconst 0, 1) := by decide +kernel
theorem dX8_readWiths_3 : decode cX8_readWiths 3 = .ok (.istore_n 3, 1) := by decide +kernel
theorem dX8_readWiths_4 : decode cX8_readWiths 4 = .ok (.iload_n 3, 1) := by decide +kernel
theorem dX8_readWiths_5 : decode cX8_readWiths 5 = .ok (.iconst 4, 1) := by decide +kernel
theorem dX8_readWiths_6 : decode cX8_readWiths 6 = .ok (.if_icmp .gt 238, 3) := by decide +kernel
theorem dX8_readWiths_9 : decode cX8_readWiths 9 = .ok (.aload_n 0, 1) := by decide +kernel
theorem dX8_readWiths_10 : decode cX8_readWiths 10 = .ok (.bipush 16, 2) := by decide +kernel
theorem dX8_readWiths_12 : decode cX8_readWiths 12 = .ok (.invokevirtual 137, 3) := by decide +kernel
theorem dX8_readWiths_15 : decode cX8_readWiths 15 = .ok (.ifCond .eq 229, 3) := by decide +kernel
theorem dX8_readWiths_244 : decode cX8_readWiths 244 = .ok (.return_, 1) := by decide +kernel
theorem dX8_readExpression_0 : decode cX8_readExpression 0 = .ok (.aload_n 0, 1) := by decide +kernel
theorem dX8_readExpression_1 : decode cX8_readExpression 1 = .ok (.bipush 14, 2) := by decide +kernel
theorem dX8_readExpression_3 : decode cX8_readExpression 3 = .ok (.invokevirtual 162, 3) := by decide +kernel
theorem dX8_readExpression_6 : decode cX8_readExpression 6 = .ok (.istore_n 2, 1) := by decide +kernel
theorem dX8_readExpression_7 : decode cX8_readExpression 7 = .ok (.aload_n 0, 1) := by decide +kernel
theorem dX8_readExpression_8 : decode cX8_readExpression 8 = .ok (.iload_n 2, 1) := by decide +kernel
theorem dX8_readExpression_9 : decode cX8_readExpression 9 = .ok (.iload_n 1, 1) := by decide +kernel
theorem dX8_readExpression_10 : decode cX8_readExpression 10 = .ok (.invokevirtual 283, 3) := by decide +kernel
theorem dX8_readExpression_13 : decode cX8_readExpression 13 = .ok (.aload_n 0, 1) := by decide +kernel
theorem dX8_readExpression_14 : decode cX8_readExpression 14 = .ok (.getfield 44, 3) := by decide +kernel
theorem dX8_readExpression_17 : decode cX8_readExpression 17 = .ok (.getfield 199, 3) := by decide +kernel
theorem dX8_readExpression_20 : decode cX8_readExpression 20 = .ok (.iload_n 2, 1) := by decide +kernel
theorem dX8_readExpression_21 : decode cX8_readExpression 21 = .ok (.iaload, 1) := by decide +kernel
theorem dX8_readExpression_22 : decode cX8_readExpression 22 = .ok (.istore_n 3, 1) := by decide +kernel
theorem dX8_readExpression_23 : decode cX8_readExpression 23 = .ok (.aload_n 0, 1) := by decide +kernel
theorem dX8_readExpression_24 : decode cX8_readExpression 24 = .ok (.getfield 44, 3) := by decide +kernel
theorem dX8_readExpression_27 : decode cX8_readExpression 27 = .ok (.getfield 277, 3) := by decide +kernel
theorem dX8_readExpression_30 : decode cX8_readExpression 30 = .ok (.iload_n 3, 1) := by decide +kernel
theorem dX8_readExpression_31 : decode cX8_readExpression 31 = .ok (.iaload, 1) := by decide +kernel
theorem dX8_readExpression_32 : decode cX8_readExpression 32 = .ok (.ifCond .ne 7, 3) := by decide +kernel
theorem dX8_readExpression_35 : decode cX8_readExpression 35 = .ok (.iload_n 3, 1) := by decide +kernel
theorem dX8_readExpression_36 : decode cX8_readExpression 36 = .ok (.goto 4, 3) := by decide +kernel
theorem dX8_readExpression_40 : decode cX8_readExpression 40 = .ok (.ireturn, 1) := by decide +kernel
theorem dX8_readLevel_0 : decode cX8_readLevel 0 = .ok (.iload_n 2, 1) := by decide +kernel
theorem dX8_readLevel_1 : decode cX8_readLevel 1 = .ok (.iconst 5, 1) := by decide +kernel
theorem dX8_readLevel_2 : decode cX8_readLevel 2 = .ok (.if_icmp .ne 16, 3) := by decide +kernel
theorem dX8_readLevel_5 : decode cX8_readLevel 5 = .ok (.aload_n 0, 1) := by decide +kernel
theorem dX8_readLevel_6 : decode cX8_readLevel 6 = .ok (.getfield 44, 3) := by decide +kernel
theorem dX8_readLevel_9 : decode cX8_readLevel 9 = .ok (.iload_n 1, 1) := by decide +kernel
theorem dX8_readLevel_10 : decode cX8_readLevel 10 = .ok (.aload_n 0, 1) := by decide +kernel
theorem dX8_readLevel_11 : decode cX8_readLevel 11 = .ok (.invokevirtual 253, 3) := by decide +kernel
theorem dX8_readLevel_14 : decode cX8_readLevel 14 = .ok (.invokevirtual 172, 3) := by decide +kernel
theorem dX8_readLevel_17 : decode cX8_readLevel 17 = .ok (.return_, 1) := by decide +kernel
theorem dX8_readLevel_18 : decode cX8_readLevel 18 = .ok (.aload_n 0, 1) := by decide +kernel
theorem dX8_readLevel_19 : decode cX8_readLevel 19 = .ok (.iload_n 1, 1) := by decide +kernel
theorem dX8_readLevel_20 : decode cX8_readLevel 20 = .ok (.iload_n 2, 1) := by decide +kernel
theorem dX8_readLevel_21 : decode cX8_readLevel 21 = .ok (.iconst 1, 1) := by decide +kernel
theorem dX8_readLevel_22 : decode cX8_readLevel 22 = .ok (.iadd, 1) := by decide +kernel
theorem dX8_readLevel_23 : decode cX8_readLevel 23 = .ok (.invokevirtual 283, 3) := by decide +kernel
theorem dX8_readLevel_26 : decode cX8_readLevel 26 = .ok (.iconst 0, 1) := by decide +kernel
theorem dX8_readLevel_27 : decode cX8_readLevel 27 = .ok (.istore_n 3, 1) := by decide +kernel
theorem dX8_readLevel_28 : decode cX8_readLevel 28 = .ok (.iload_n 3, 1) := by decide +kernel
theorem dX8_readLevel_29 : decode cX8_readLevel 29 = .ok (.sipush 6002, 3) := by decide +kernel
theorem dX8_readLevel_32 : decode cX8_readLevel 32 = .ok (.if_icmp .ge 86, 3) := by decide +kernel
theorem dX8_readLevel_35 : decode cX8_readLevel 35 = .ok (.aload_n 0, 1) := by decide +kernel
theorem dX8_readLevel_36 : decode cX8_readLevel 36 = .ok (.getfield 35, 3) := by decide +kernel
theorem dX8_readLevel_39 : decode cX8_readLevel 39 = .ok (.ifCond .ge 79, 3) := by decide +kernel
theorem dX8_readLevel_118 : decode cX8_readLevel 118 = .ok (.return_, 1) := by decide +kernel
theorem dX8_readTerm_0 : decode cX8_readTerm 0 = .ok (.aload_n 0, 1) := by decide +kernel
theorem dX8_readTerm_1 : decode cX8_readTerm 1 = .ok (.iconst 1, 1) := by decide +kernel
theorem dX8_readTerm_2 : decode cX8_readTerm 2 = .ok (.invokevirtual 137, 3) := by decide +kernel
theorem dX8_readTerm_5 : decode cX8_readTerm 5 = .ok (.ifCond .eq 8, 3) := by decide +kernel
theorem dX8_readTerm_13 : decode cX8_readTerm 13 = .ok (.aload_n 0, 1) := by decide +kernel
theorem dX8_readTerm_14 : decode cX8_readTerm 14 = .ok (.bipush 35, 2) := by decide +kernel
theorem dX8_readTerm_16 : decode cX8_readTerm 16 = .ok (.invokevirtual 137, 3) := by decide +kernel
theorem dX8_readTerm_19 : decode cX8_readTerm 19 = .ok (.ifCond .eq 35, 3) := by decide +kernel
theorem dX8_readTerm_54 : decode cX8_readTerm 54 = .ok (.aload_n 0, 1) := by decide +kernel
theorem dX8_readTerm_55 : decode cX8_readTerm 55 = .ok (.bipush 37, 2) := by decide +kernel
theorem dX8_readTerm_57 : decode cX8_readTerm 57 = .ok (.invokevirtual 137, 3) := by decide +kernel
theorem dX8_readTerm_60 : decode cX8_readTerm 60 = .ok (.ifCond .eq 8, 3) := by decide +kernel
theorem dX8_readTerm_68 : decode cX8_readTerm 68 = .ok (.aload_n 0, 1) := by decide +kernel
theorem dX8_readTerm_69 : decode cX8_readTerm 69 = .ok (.bipush 39, 2) := by decide +kernel
theorem dX8_readTerm_71 : decode cX8_readTerm 71 = .ok (.invokevirtual 137, 3) := by decide +kernel
theorem dX8_readTerm_74 : decode cX8_readTerm 74 = .ok (.ifCond .eq 8, 3) := by decide +kernel
theorem dX8_readTerm_82 : decode cX8_readTerm 82 = .ok (.aload_n 0, 1) := by decide +kernel
theorem dX8_readTerm_83 : decode cX8_readTerm 83 = .ok (.invokevirtual 298, 3) := by decide +kernel
theorem dX8_readTerm_86 : decode cX8_readTerm 86 = .ok (.ireturn, 1) := by decide +kernel
theorem dX8_readScalar_0 : decode cX8_readScalar 0 = .ok (.aload_n 0, 1) := by decide +kernel
theorem dX8_readScalar_1 : decode cX8_readScalar 1 = .ok (.iconst 1, 1) := by decide +kernel
theorem dX8_readScalar_2 : decode cX8_readScalar 2 = .ok (.invokevirtual 162, 3) := by decide +kernel
theorem dX8_readScalar_5 : decode cX8_readScalar 5 = .ok (.istore_n 1, 1) := by decide +kernel
theorem dX8_readScalar_6 : decode cX8_readScalar 6 = .ok (.aload_n 0, 1) := by decide +kernel
theorem dX8_readScalar_7 : decode cX8_readScalar 7 = .ok (.getfield 44, 3) := by decide +kernel
theorem dX8_readScalar_10 : decode cX8_readScalar 10 = .ok (.getfield 165, 3) := by decide +kernel
theorem dX8_readScalar_13 : decode cX8_readScalar 13 = .ok (.iload_n 1, 1) := by decide +kernel
theorem dX8_readScalar_14 : decode cX8_readScalar 14 = .ok (.iconst 1, 1) := by decide +kernel
theorem dX8_readScalar_15 : decode cX8_readScalar 15 = .ok (.iastore, 1) := by decide +kernel
theorem dX8_readScalar_16 : decode cX8_readScalar 16 = .ok (.aload_n 0, 1) := by decide +kernel
theorem dX8_readScalar_17 : decode cX8_readScalar 17 = .ok (.bipush 29, 2) := by decide +kernel
theorem dX8_readScalar_19 : decode cX8_readScalar 19 = .ok (.invokevirtual 137, 3) := by decide +kernel
theorem dX8_readScalar_22 : decode cX8_readScalar 22 = .ok (.ifCond .eq 98, 3) := by decide +kernel
theorem dX8_readScalar_120 : decode cX8_readScalar 120 = .ok (.aload_n 0, 1) := by decide +kernel
theorem dX8_readScalar_121 : decode cX8_readScalar 121 = .ok (.iconst 2, 1) := by decide +kernel
theorem dX8_readScalar_122 : decode cX8_readScalar 122 = .ok (.invokevirtual 137, 3) := by decide +kernel
theorem dX8_readScalar_125 : decode cX8_readScalar 125 = .ok (.ifCond .ne 11, 3) := by decide +kernel
theorem dX8_readScalar_128 : decode cX8_readScalar 128 = .ok (.aload_n 0, 1) := by decide +kernel
theorem dX8_readScalar_129 : decode cX8_readScalar 129 = .ok (.iconst 3, 1) := by decide +kernel
theorem dX8_readScalar_130 : decode cX8_readScalar 130 = .ok (.invokevirtual 137, 3) := by decide +kernel
theorem dX8_readScalar_133 : decode cX8_readScalar 133 = .ok (.ifCond .eq 28, 3) := by decide +kernel
theorem dX8_readScalar_161 : decode cX8_readScalar 161 = .ok (.aload_n 0, 1) := by decide +kernel
theorem dX8_readScalar_162 : decode cX8_readScalar 162 = .ok (.bipush 17, 2) := by decide +kernel
theorem dX8_readScalar_164 : decode cX8_readScalar 164 = .ok (.invokevirtual 137, 3) := by decide +kernel
theorem dX8_readScalar_167 : decode cX8_readScalar 167 = .ok (.ifCond .ne 21, 3) := by decide +kernel
theorem dX8_readScalar_170 : decode cX8_readScalar 170 = .ok (.aload_n 0, 1) := by decide +kernel
theorem dX8_readScalar_171 : decode cX8_readScalar 171 = .ok (.bipush 18, 2) := by decide +kernel
theorem dX8_readScalar_173 : decode cX8_readScalar 173 = .ok (.invokevirtual 137, 3) := by decide +kernel
theorem dX8_readScalar_176 : decode cX8_readScalar 176 = .ok (.ifCond .ne 12, 3) := by decide +kernel
theorem dX8_readScalar_179 : decode cX8_readScalar 179 = .ok (.aload_n 0, 1) := by decide +kernel
theorem dX8_readScalar_180 : decode cX8_readScalar 180 = .ok (.bipush 19, 2) := by decide +kernel
theorem dX8_readScalar_182 : decode cX8_readScalar 182 = .ok (.invokevirtual 137, 3) := by decide +kernel
theorem dX8_readScalar_185 : decode cX8_readScalar 185 = .ok (.ifCond .eq 46, 3) := by decide +kernel
theorem dX8_readScalar_231 : decode cX8_readScalar 231 = .ok (.aload_n 0, 1) := by decide +kernel
theorem dX8_readScalar_232 : decode cX8_readScalar 232 = .ok (.invokevirtual 143, 3) := by decide +kernel
theorem dX8_readScalar_235 : decode cX8_readScalar 235 = .ok (.iload_n 1, 1) := by decide +kernel
theorem dX8_readScalar_236 : decode cX8_readScalar 236 = .ok (.ireturn, 1) := by decide +kernel
theorem dX11_readJson_0 : decode cX11_readJson 0 = .ok (.aload_n 0, 1) := by decide +kernel
theorem dX11_readJson_1 : decode cX11_readJson 1 = .ok (.aload_n 1, 1) := by decide +kernel
theorem dX11_readJson_2 : decode cX11_readJson 2 = .ok (.putfield 7, 3) := by decide +kernel
theorem dX11_readJson_5 : decode cX11_readJson 5 = .ok (.aload_n 0, 1) := by decide +kernel
theorem dX11_readJson_6 : decode cX11_readJson 6 = .ok (.iload_n 2, 1) := by decide +kernel
theorem dX11_readJson_7 : decode cX11_readJson 7 = .ok (.putfield 17, 3) := by decide +kernel
theorem dX11_readJson_10 : decode cX11_readJson 10 = .ok (.aload_n 0, 1) := by decide +kernel
theorem dX11_readJson_11 : decode cX11_readJson 11 = .ok (.iload_n 3, 1) := by decide +kernel
theorem dX11_readJson_12 : decode cX11_readJson 12 = .ok (.putfield 13, 3) := by decide +kernel
theorem dX11_readJson_15 : decode cX11_readJson 15 = .ok (.aload_n 0, 1) := by decide +kernel
theorem dX11_readJson_16 : decode cX11_readJson 16 = .ok (.iconst (-1), 1) := by decide +kernel
theorem dX11_readJson_17 : decode cX11_readJson 17 = .ok (.putfield 20, 3) := by decide +kernel
theorem dX11_readJson_20 : decode cX11_readJson 20 = .ok (.aload_n 0, 1) := by decide +kernel
theorem dX11_readJson_21 : decode cX11_readJson 21 = .ok (.iconst 0, 1) := by decide +kernel
theorem dX11_readJson_22 : decode cX11_readJson 22 = .ok (.invokevirtual 107, 3) := by decide +kernel
theorem dX11_readJson_25 : decode cX11_readJson 25 = .ok (.istore 4, 2) := by decide +kernel
theorem dX11_readJson_27 : decode cX11_readJson 27 = .ok (.aload_n 0, 1) := by decide +kernel
theorem dX11_readJson_28 : decode cX11_readJson 28 = .ok (.invokevirtual 110, 3) := by decide +kernel
theorem dX11_readJson_31 : decode cX11_readJson 31 = .ok (.aload_n 0, 1) := by decide +kernel
theorem dX11_readJson_32 : decode cX11_readJson 32 = .ok (.getfield 20, 3) := by decide +kernel
theorem dX11_readJson_35 : decode cX11_readJson 35 = .ok (.ifCond .ge 22, 3) := by decide +kernel
theorem dX11_readJson_57 : decode cX11_readJson 57 = .ok (.aload_n 0, 1) := by decide +kernel
theorem dX11_readJson_58 : decode cX11_readJson 58 = .ok (.getfield 20, 3) := by decide +kernel
theorem dX11_readJson_61 : decode cX11_readJson 61 = .ok (.ifCond .ge 8, 3) := by decide +kernel
theorem dX11_readJson_69 : decode cX11_readJson 69 = .ok (.iconst 0, 1) := by decide +kernel
theorem dX11_readJson_70 : decode cX11_readJson 70 = .ok (.ireturn, 1) := by decide +kernel
theorem dX11_skip_0 : decode cX11_skip 0 = .ok (.aload_n 0, 1) := by decide +kernel
theorem dX11_skip_1 : decode cX11_skip 1 = .ok (.getfield 17, 3) := by decide +kernel
theorem dX11_skip_4 : decode cX11_skip 4 = .ok (.aload_n 0, 1) := by decide +kernel
theorem dX11_skip_5 : decode cX11_skip 5 = .ok (.getfield 13, 3) := by decide +kernel
theorem dX11_skip_8 : decode cX11_skip 8 = .ok (.if_icmp .ge 31, 3) := by decide +kernel
theorem dX11_skip_39 : decode cX11_skip 39 = .ok (.return_, 1) := by decide +kernel
theorem dX11_fail_0 : decode cX11_fail 0 = .ok (.aload_n 0, 1) := by decide +kernel
theorem dX11_fail_1 : decode cX11_fail 1 = .ok (.getfield 20, 3) := by decide +kernel
theorem dX11_fail_4 : decode cX11_fail 4 = .ok (.ifCond .ge 8, 3) := by decide +kernel
theorem dX11_fail_7 : decode cX11_fail 7 = .ok (.aload_n 0, 1) := by decide +kernel
theorem dX11_fail_8 : decode cX11_fail 8 = .ok (.iload_n 1, 1) := by decide +kernel
theorem dX11_fail_9 : decode cX11_fail 9 = .ok (.putfield 20, 3) := by decide +kernel
theorem dX11_fail_12 : decode cX11_fail 12 = .ok (.return_, 1) := by decide +kernel
theorem dX11_readValue_0 : decode cX11_readValue 0 = .ok (.aload_n 0, 1) := by decide +kernel
theorem dX11_readValue_1 : decode cX11_readValue 1 = .ok (.invokevirtual 110, 3) := by decide +kernel
theorem dX11_readValue_4 : decode cX11_readValue 4 = .ok (.aload_n 0, 1) := by decide +kernel
theorem dX11_readValue_5 : decode cX11_readValue 5 = .ok (.getfield 20, 3) := by decide +kernel
theorem dX11_readValue_8 : decode cX11_readValue 8 = .ok (.ifCond .ge 14, 3) := by decide +kernel
theorem dX11_readValue_11 : decode cX11_readValue 11 = .ok (.aload_n 0, 1) := by decide +kernel
theorem dX11_readValue_12 : decode cX11_readValue 12 = .ok (.getfield 17, 3) := by decide +kernel
theorem dX11_readValue_15 : decode cX11_readValue 15 = .ok (.aload_n 0, 1) := by decide +kernel
theorem dX11_readValue_16 : decode cX11_readValue 16 = .ok (.getfield 13, 3) := by decide +kernel
theorem dX11_readValue_19 : decode cX11_readValue 19 = .ok (.if_icmp .lt 13, 3) := by decide +kernel
theorem dX11_readValue_22 : decode cX11_readValue 22 = .ok (.aload_n 0, 1) := by decide +kernel
theorem dX11_readValue_23 : decode cX11_readValue 23 = .ok (.aload_n 0, 1) := by decide +kernel
theorem dX11_readValue_24 : decode cX11_readValue 24 = .ok (.getfield 17, 3) := by decide +kernel
theorem dX11_readValue_27 : decode cX11_readValue 27 = .ok (.invokevirtual 119, 3) := by decide +kernel
theorem dX11_readValue_30 : decode cX11_readValue 30 = .ok (.iconst 1, 1) := by decide +kernel
theorem dX11_readValue_31 : decode cX11_readValue 31 = .ok (.ireturn, 1) := by decide +kernel
theorem dX12_init_0 : decode cX12_init 0 = .ok (.aload_n 0, 1) := by decide +kernel
theorem dX12_init_1 : decode cX12_init 1 = .ok (.invokespecial 1, 3) := by decide +kernel
theorem dX12_init_4 : decode cX12_init 4 = .ok (.aload_n 0, 1) := by decide +kernel
theorem dX12_init_5 : decode cX12_init 5 = .ok (.iconst 1, 1) := by decide +kernel
theorem dX12_init_6 : decode cX12_init 6 = .ok (.putfield 7, 3) := by decide +kernel
theorem dX12_init_9 : decode cX12_init 9 = .ok (.aload_n 0, 1) := by decide +kernel
theorem dX12_init_10 : decode cX12_init 10 = .ok (.iconst 0, 1) := by decide +kernel
theorem dX12_init_11 : decode cX12_init 11 = .ok (.putfield 13, 3) := by decide +kernel
theorem dX12_init_14 : decode cX12_init 14 = .ok (.aload_n 0, 1) := by decide +kernel
theorem dX12_init_15 : decode cX12_init 15 = .ok (.iconst 0, 1) := by decide +kernel
theorem dX12_init_16 : decode cX12_init 16 = .ok (.putfield 16, 3) := by decide +kernel
theorem dX12_init_19 : decode cX12_init 19 = .ok (.aload_n 0, 1) := by decide +kernel
theorem dX12_init_20 : decode cX12_init 20 = .ok (.iconst 0, 1) := by decide +kernel
theorem dX12_init_21 : decode cX12_init 21 = .ok (.putfield 19, 3) := by decide +kernel
theorem dX12_init_24 : decode cX12_init 24 = .ok (.aload_n 0, 1) := by decide +kernel
theorem dX12_init_25 : decode cX12_init 25 = .ok (.iconst 0, 1) := by decide +kernel
theorem dX12_init_26 : decode cX12_init 26 = .ok (.putfield 22, 3) := by decide +kernel
theorem dX12_init_29 : decode cX12_init 29 = .ok (.aload_n 0, 1) := by decide +kernel
theorem dX12_init_30 : decode cX12_init 30 = .ok (.iload_n 1, 1) := by decide +kernel
theorem dX12_init_31 : decode cX12_init 31 = .ok (.newarray .int, 2) := by decide +kernel
theorem dX12_init_33 : decode cX12_init 33 = .ok (.putfield 25, 3) := by decide +kernel
theorem dX12_init_36 : decode cX12_init 36 = .ok (.aload_n 0, 1) := by decide +kernel
theorem dX12_init_37 : decode cX12_init 37 = .ok (.iload_n 1, 1) := by decide +kernel
theorem dX12_init_38 : decode cX12_init 38 = .ok (.newarray .int, 2) := by decide +kernel
theorem dX12_init_40 : decode cX12_init 40 = .ok (.putfield 29, 3) := by decide +kernel
theorem dX12_init_43 : decode cX12_init 43 = .ok (.aload_n 0, 1) := by decide +kernel
theorem dX12_init_44 : decode cX12_init 44 = .ok (.iload_n 1, 1) := by decide +kernel
theorem dX12_init_45 : decode cX12_init 45 = .ok (.newarray .int, 2) := by decide +kernel
theorem dX12_init_47 : decode cX12_init 47 = .ok (.putfield 32, 3) := by decide +kernel
theorem dX12_init_50 : decode cX12_init 50 = .ok (.aload_n 0, 1) := by decide +kernel
theorem dX12_init_51 : decode cX12_init 51 = .ok (.iload_n 1, 1) := by decide +kernel
theorem dX12_init_52 : decode cX12_init 52 = .ok (.newarray .int, 2) := by decide +kernel
theorem dX12_init_54 : decode cX12_init 54 = .ok (.putfield 35, 3) := by decide +kernel
theorem dX12_init_57 : decode cX12_init 57 = .ok (.aload_n 0, 1) := by decide +kernel
theorem dX12_init_58 : decode cX12_init 58 = .ok (.iload_n 1, 1) := by decide +kernel
theorem dX12_init_59 : decode cX12_init 59 = .ok (.newarray .int, 2) := by decide +kernel
theorem dX12_init_61 : decode cX12_init 61 = .ok (.putfield 38, 3) := by decide +kernel
theorem dX12_init_64 : decode cX12_init 64 = .ok (.aload_n 0, 1) := by decide +kernel
theorem dX12_init_65 : decode cX12_init 65 = .ok (.iload_n 1, 1) := by decide +kernel
theorem dX12_init_66 : decode cX12_init 66 = .ok (.newarray .int, 2) := by decide +kernel
theorem dX12_init_68 : decode cX12_init 68 = .ok (.putfield 41, 3) := by decide +kernel
theorem dX12_init_71 : decode cX12_init 71 = .ok (.aload_n 0, 1) := by decide +kernel
theorem dX12_init_72 : decode cX12_init 72 = .ok (.iload_n 1, 1) := by decide +kernel
theorem dX12_init_73 : decode cX12_init 73 = .ok (.newarray .int, 2) := by decide +kernel
theorem dX12_init_75 : decode cX12_init 75 = .ok (.putfield 44, 3) := by decide +kernel
theorem dX12_init_78 : decode cX12_init 78 = .ok (.aload_n 0, 1) := by decide +kernel
theorem dX12_init_79 : decode cX12_init 79 = .ok (.iload_n 1, 1) := by decide +kernel
theorem dX12_init_80 : decode cX12_init 80 = .ok (.newarray .int, 2) := by decide +kernel
theorem dX12_init_82 : decode cX12_init 82 = .ok (.putfield 47, 3) := by decide +kernel
theorem dX12_init_85 : decode cX12_init 85 = .ok (.aload_n 0, 1) := by decide +kernel
theorem dX12_init_86 : decode cX12_init 86 = .ok (.iload_n 1, 1) := by decide +kernel
theorem dX12_init_87 : decode cX12_init 87 = .ok (.newarray .int, 2) := by decide +kernel
theorem dX12_init_89 : decode cX12_init 89 = .ok (.putfield 50, 3) := by decide +kernel
theorem dX12_init_92 : decode cX12_init 92 = .ok (.aload_n 0, 1) := by decide +kernel
theorem dX12_init_93 : decode cX12_init 93 = .ok (.iload_n 1, 1) := by decide +kernel
theorem dX12_init_94 : decode cX12_init 94 = .ok (.newarray .int, 2) := by decide +kernel
theorem dX12_init_96 : decode cX12_init 96 = .ok (.putfield 53, 3) := by decide +kernel
theorem dX12_init_99 : decode cX12_init 99 = .ok (.return_, 1) := by decide +kernel
theorem dX12_add_0 : decode cX12_add 0 = .ok (.aload_n 0, 1) := by decide +kernel
theorem dX12_add_1 : decode cX12_add 1 = .ok (.getfield 7, 3) := by decide +kernel
theorem dX12_add_4 : decode cX12_add 4 = .ok (.aload_n 0, 1) := by decide +kernel
theorem dX12_add_5 : decode cX12_add 5 = .ok (.getfield 25, 3) := by decide +kernel
theorem dX12_add_8 : decode cX12_add 8 = .ok (.arraylength, 1) := by decide +kernel
theorem dX12_add_9 : decode cX12_add 9 = .ok (.if_icmp .lt 5, 3) := by decide +kernel
theorem dX12_add_14 : decode cX12_add 14 = .ok (.aload_n 0, 1) := by decide +kernel
theorem dX12_add_15 : decode cX12_add 15 = .ok (.getfield 7, 3) := by decide +kernel
theorem dX12_add_18 : decode cX12_add 18 = .ok (.istore_n 3, 1) := by decide +kernel
theorem dX12_add_19 : decode cX12_add 19 = .ok (.aload_n 0, 1) := by decide +kernel
theorem dX12_add_20 : decode cX12_add 20 = .ok (.dup, 1) := by decide +kernel
theorem dX12_add_21 : decode cX12_add 21 = .ok (.getfield 7, 3) := by decide +kernel
theorem dX12_add_24 : decode cX12_add 24 = .ok (.iconst 1, 1) := by decide +kernel
theorem dX12_add_25 : decode cX12_add 25 = .ok (.iadd, 1) := by decide +kernel
theorem dX12_add_26 : decode cX12_add 26 = .ok (.putfield 7, 3) := by decide +kernel
theorem dX12_add_29 : decode cX12_add 29 = .ok (.aload_n 0, 1) := by decide +kernel
theorem dX12_add_30 : decode cX12_add 30 = .ok (.getfield 25, 3) := by decide +kernel
theorem dX12_add_33 : decode cX12_add 33 = .ok (.iload_n 3, 1) := by decide +kernel
theorem dX12_add_34 : decode cX12_add 34 = .ok (.iload_n 1, 1) := by decide +kernel
theorem dX12_add_35 : decode cX12_add 35 = .ok (.iastore, 1) := by decide +kernel
theorem dX12_add_36 : decode cX12_add 36 = .ok (.aload_n 0, 1) := by decide +kernel
theorem dX12_add_37 : decode cX12_add 37 = .ok (.getfield 29, 3) := by decide +kernel
theorem dX12_add_40 : decode cX12_add 40 = .ok (.iload_n 3, 1) := by decide +kernel
theorem dX12_add_41 : decode cX12_add 41 = .ok (.iload_n 2, 1) := by decide +kernel
theorem dX12_add_42 : decode cX12_add 42 = .ok (.iastore, 1) := by decide +kernel
theorem dX12_add_43 : decode cX12_add 43 = .ok (.iload_n 3, 1) := by decide +kernel
theorem dX12_add_44 : decode cX12_add 44 = .ok (.ireturn, 1) := by decide +kernel
theorem dX12_append_0 : decode cX12_append 0 = .ok (.iload_n 2, 1) := by decide +kernel
theorem dX12_append_1 : decode cX12_append 1 = .ok (.ifCond .ne 4, 3) := by decide +kernel
theorem dX12_append_5 : decode cX12_append 5 = .ok (.aload_n 0, 1) := by decide +kernel
theorem dX12_append_6 : decode cX12_append 6 = .ok (.getfield 41, 3) := by decide +kernel
theorem dX12_append_9 : decode cX12_append 9 = .ok (.iload_n 1, 1) := by decide +kernel
theorem dX12_append_10 : decode cX12_append 10 = .ok (.iaload, 1) := by decide +kernel
theorem dX12_append_11 : decode cX12_append 11 = .ok (.ifCond .ne 13, 3) := by decide +kernel
theorem dX12_append_14 : decode cX12_append 14 = .ok (.aload_n 0, 1) := by decide +kernel
theorem dX12_append_15 : decode cX12_append 15 = .ok (.getfield 41, 3) := by decide +kernel
theorem dX12_append_18 : decode cX12_append 18 = .ok (.iload_n 1, 1) := by decide +kernel
theorem dX12_append_19 : decode cX12_append 19 = .ok (.iload_n 2, 1) := by decide +kernel
theorem dX12_append_20 : decode cX12_append 20 = .ok (.iastore, 1) := by decide +kernel
theorem dX12_append_21 : decode cX12_append 21 = .ok (.goto 15, 3) := by decide +kernel
theorem dX12_append_36 : decode cX12_append 36 = .ok (.aload_n 0, 1) := by decide +kernel
theorem dX12_append_37 : decode cX12_append 37 = .ok (.getfield 47, 3) := by decide +kernel
theorem dX12_append_40 : decode cX12_append 40 = .ok (.iload_n 1, 1) := by decide +kernel
theorem dX12_append_41 : decode cX12_append 41 = .ok (.iload_n 2, 1) := by decide +kernel
theorem dX12_append_42 : decode cX12_append 42 = .ok (.iastore, 1) := by decide +kernel
theorem dX12_append_43 : decode cX12_append 43 = .ok (.return_, 1) := by decide +kernel
theorem dX13_feed_0 : decode cX13_feed 0 = .ok (.aload_n 0, 1) := by decide +kernel
theorem dX13_feed_1 : decode cX13_feed 1 = .ok (.getfield 70, 3) := by decide +kernel
theorem dX13_feed_4 : decode cX13_feed 4 = .ok (.bipush 20, 2) := by decide +kernel
theorem dX13_feed_6 : decode cX13_feed 6 = .ok (.iadd, 1) := by decide +kernel
theorem dX13_feed_7 : decode cX13_feed 7 = .ok (.sipush 6000, 3) := by decide +kernel
theorem dX13_feed_10 : decode cX13_feed 10 = .ok (.if_icmp .gt 13, 3) := by decide +kernel
theorem dX13_feed_13 : decode cX13_feed 13 = .ok (.aload_n 0, 1) := by decide +kernel
theorem dX13_feed_14 : decode cX13_feed 14 = .ok (.getfield 74, 3) := by decide +kernel
theorem dX13_feed_17 : decode cX13_feed 17 = .ok (.sipush 512, 3) := by decide +kernel
theorem dX13_feed_20 : decode cX13_feed 20 = .ok (.if_icmp .lt 5, 3) := by decide +kernel
theorem dX13_feed_25 : decode cX13_feed 25 = .ok (.aload_n 0, 1) := by decide +kernel
theorem dX13_feed_26 : decode cX13_feed 26 = .ok (.dup, 1) := by decide +kernel
theorem dX13_feed_27 : decode cX13_feed 27 = .ok (.getfield 74, 3) := by decide +kernel
theorem dX13_feed_30 : decode cX13_feed 30 = .ok (.iconst 1, 1) := by decide +kernel
theorem dX13_feed_31 : decode cX13_feed 31 = .ok (.iadd, 1) := by decide +kernel
theorem dX13_feed_32 : decode cX13_feed 32 = .ok (.putfield 74, 3) := by decide +kernel
theorem dX13_feed_35 : decode cX13_feed 35 = .ok (.aload_n 0, 1) := by decide +kernel
theorem dX13_feed_36 : decode cX13_feed 36 = .ok (.iload_n 1, 1) := by decide +kernel
theorem dX13_feed_37 : decode cX13_feed 37 = .ok (.invokevirtual 155, 3) := by decide +kernel
theorem dX13_feed_40 : decode cX13_feed 40 = .ok (.aload_n 0, 1) := by decide +kernel
theorem dX13_feed_41 : decode cX13_feed 41 = .ok (.iload_n 2, 1) := by decide +kernel
theorem dX13_feed_42 : decode cX13_feed 42 = .ok (.invokevirtual 155, 3) := by decide +kernel
theorem dX13_feed_45 : decode cX13_feed 45 = .ok (.aload_n 0, 1) := by decide +kernel
theorem dX13_feed_46 : decode cX13_feed 46 = .ok (.iload_n 3, 1) := by decide +kernel
theorem dX13_feed_47 : decode cX13_feed 47 = .ok (.invokevirtual 155, 3) := by decide +kernel
theorem dX13_feed_50 : decode cX13_feed 50 = .ok (.aload_n 0, 1) := by decide +kernel
theorem dX13_feed_51 : decode cX13_feed 51 = .ok (.iload 4, 2) := by decide +kernel
theorem dX13_feed_53 : decode cX13_feed 53 = .ok (.invokevirtual 155, 3) := by decide +kernel
theorem dX13_feed_56 : decode cX13_feed 56 = .ok (.aload_n 0, 1) := by decide +kernel
theorem dX13_feed_57 : decode cX13_feed 57 = .ok (.iload 5, 2) := by decide +kernel
theorem dX13_feed_59 : decode cX13_feed 59 = .ok (.invokevirtual 155, 3) := by decide +kernel
theorem dX13_feed_62 : decode cX13_feed 62 = .ok (.iconst 1, 1) := by decide +kernel
theorem dX13_feed_63 : decode cX13_feed 63 = .ok (.ireturn, 1) := by decide +kernel
theorem dX13_put_0 : decode cX13_put 0 = .ok (.bipush 24, 2) := by decide +kernel
theorem dX13_put_2 : decode cX13_put 2 = .ok (.istore_n 2, 1) := by decide +kernel
theorem dX13_put_3 : decode cX13_put 3 = .ok (.iload_n 2, 1) := by decide +kernel
theorem dX13_put_4 : decode cX13_put 4 = .ok (.ifCond .lt 45, 3) := by decide +kernel
theorem dX13_put_7 : decode cX13_put 7 = .ok (.aload_n 0, 1) := by decide +kernel
theorem dX13_put_8 : decode cX13_put 8 = .ok (.getfield 70, 3) := by decide +kernel
theorem dX13_put_11 : decode cX13_put 11 = .ok (.sipush 6000, 3) := by decide +kernel
theorem dX13_put_14 : decode cX13_put 14 = .ok (.if_icmp .ge 35, 3) := by decide +kernel
theorem dX13_put_17 : decode cX13_put 17 = .ok (.aload_n 0, 1) := by decide +kernel
theorem dX13_put_18 : decode cX13_put 18 = .ok (.getfield 66, 3) := by decide +kernel
theorem dX13_put_21 : decode cX13_put 21 = .ok (.aload_n 0, 1) := by decide +kernel
theorem dX13_put_22 : decode cX13_put 22 = .ok (.getfield 70, 3) := by decide +kernel
theorem dX13_put_25 : decode cX13_put 25 = .ok (.iload_n 1, 1) := by decide +kernel
theorem dX13_put_26 : decode cX13_put 26 = .ok (.iload_n 2, 1) := by decide +kernel
theorem dX13_put_27 : decode cX13_put 27 = .ok (.iushr, 1) := by decide +kernel
theorem dX13_put_28 : decode cX13_put 28 = .ok (.sipush 255, 3) := by decide +kernel
theorem dX13_put_31 : decode cX13_put 31 = .ok (.iand, 1) := by decide +kernel
theorem dX13_put_32 : decode cX13_put 32 = .ok (.iastore, 1) := by decide +kernel
theorem dX13_put_33 : decode cX13_put 33 = .ok (.aload_n 0, 1) := by decide +kernel
theorem dX13_put_34 : decode cX13_put 34 = .ok (.dup, 1) := by decide +kernel
theorem dX13_put_35 : decode cX13_put 35 = .ok (.getfield 70, 3) := by decide +kernel
theorem dX13_put_38 : decode cX13_put 38 = .ok (.iconst 1, 1) := by decide +kernel
theorem dX13_put_39 : decode cX13_put 39 = .ok (.iadd, 1) := by decide +kernel
theorem dX13_put_40 : decode cX13_put 40 = .ok (.putfield 70, 3) := by decide +kernel
theorem dX13_put_43 : decode cX13_put 43 = .ok (.iinc 2 (-8), 3) := by decide +kernel
theorem dX13_put_46 : decode cX13_put 46 = .ok (.goto (-43), 3) := by decide +kernel
theorem dX13_put_49 : decode cX13_put 49 = .ok (.return_, 1) := by decide +kernel
theorem dX13_end_0 : decode cX13_end 0 = .ok (.iload_n 1, 1) := by decide +kernel
theorem dX13_end_1 : decode cX13_end 1 = .ok (.ifCond .lt 11, 3) := by decide +kernel
theorem dX13_end_4 : decode cX13_end 4 = .ok (.iload_n 1, 1) := by decide +kernel
theorem dX13_end_5 : decode cX13_end 5 = .ok (.aload_n 0, 1) := by decide +kernel
theorem dX13_end_6 : decode cX13_end 6 = .ok (.getfield 70, 3) := by decide +kernel
theorem dX13_end_9 : decode cX13_end 9 = .ok (.if_icmp .le 5, 3) := by decide +kernel
theorem dX13_end_12 : decode cX13_end 12 = .ok (.iconst 0, 1) := by decide +kernel
theorem dX13_end_13 : decode cX13_end 13 = .ok (.ireturn, 1) := by decide +kernel
theorem dX13_end_14 : decode cX13_end 14 = .ok (.aload_n 0, 1) := by decide +kernel
theorem dX13_end_15 : decode cX13_end 15 = .ok (.iload_n 1, 1) := by decide +kernel
theorem dX13_end_16 : decode cX13_end 16 = .ok (.putfield 70, 3) := by decide +kernel
theorem dX13_end_19 : decode cX13_end 19 = .ok (.iconst 1, 1) := by decide +kernel
theorem dX13_end_20 : decode cX13_end 20 = .ok (.ireturn, 1) := by decide +kernel
theorem dX13_emptied_0 : decode cX13_emptied 0 = .ok (.aload_n 0, 1) := by decide +kernel
theorem dX13_emptied_1 : decode cX13_emptied 1 = .ok (.getfield 70, 3) := by decide +kernel
theorem dX13_emptied_4 : decode cX13_emptied 4 = .ok (.istore_n 1, 1) := by decide +kernel
theorem dX13_emptied_5 : decode cX13_emptied 5 = .ok (.aload_n 0, 1) := by decide +kernel
theorem dX13_emptied_6 : decode cX13_emptied 6 = .ok (.iconst 0, 1) := by decide +kernel
theorem dX13_emptied_7 : decode cX13_emptied 7 = .ok (.putfield 70, 3) := by decide +kernel
theorem dX13_emptied_10 : decode cX13_emptied 10 = .ok (.iload_n 1, 1) := by decide +kernel
theorem dX13_emptied_11 : decode cX13_emptied 11 = .ok (.ireturn, 1) := by decide +kernel
theorem dX13_module_0 : decode cX13_module 0 = .ok (.aload_n 0, 1) := by decide +kernel
theorem dX13_module_1 : decode cX13_module 1 = .ok (.getfield 37, 3) := by decide +kernel
theorem dX13_module_4 : decode cX13_module 4 = .ok (.aload_n 0, 1) := by decide +kernel
theorem dX13_module_5 : decode cX13_module 5 = .ok (.getfield 66, 3) := by decide +kernel
theorem dX13_module_8 : decode cX13_module 8 = .ok (.aload_n 0, 1) := by decide +kernel
theorem dX13_module_9 : decode cX13_module 9 = .ok (.invokevirtual 158, 3) := by decide +kernel
theorem dX13_module_12 : decode cX13_module 12 = .ok (.invokevirtual 162, 3) := by decide +kernel
theorem dX13_module_15 : decode cX13_module 15 = .ok (.astore_n 1, 1) := by decide +kernel
theorem dX13_module_16 : decode cX13_module 16 = .ok (.aload_n 1, 1) := by decide +kernel
theorem dX13_module_17 : decode cX13_module 17 = .ok (.ifnonnull 13, 3) := by decide +kernel
theorem dX13_module_20 : decode cX13_module 20 = .ok (.iconst (-1), 1) := by decide +kernel
theorem dX13_module_21 : decode cX13_module 21 = .ok (.aload_n 0, 1) := by decide +kernel
theorem dX13_module_22 : decode cX13_module 22 = .ok (.getfield 37, 3) := by decide +kernel
theorem dX13_module_25 : decode cX13_module 25 = .ok (.getfield 166, 3) := by decide +kernel
theorem dX13_module_28 : decode cX13_module 28 = .ok (.isub, 1) := by decide +kernel
theorem dX13_module_29 : decode cX13_module 29 = .ok (.ireturn, 1) := by decide +kernel
theorem dX13_drop_0 : decode cX13_drop 0 = .ok (.aload_n 0, 1) := by decide +kernel
theorem dX13_drop_1 : decode cX13_drop 1 = .ok (.getfield 83, 3) := by decide +kernel
theorem dX13_drop_4 : decode cX13_drop 4 = .ok (.istore_n 1, 1) := by decide +kernel
theorem dX13_drop_5 : decode cX13_drop 5 = .ok (.aload_n 0, 1) := by decide +kernel
theorem dX13_drop_6 : decode cX13_drop 6 = .ok (.iconst 0, 1) := by decide +kernel
theorem dX13_drop_7 : decode cX13_drop 7 = .ok (.putfield 83, 3) := by decide +kernel
theorem dX13_drop_10 : decode cX13_drop 10 = .ok (.aload_n 0, 1) := by decide +kernel
theorem dX13_drop_11 : decode cX13_drop 11 = .ok (.aconst_null, 1) := by decide +kernel
theorem dX13_drop_12 : decode cX13_drop 12 = .ok (.putfield 86, 3) := by decide +kernel
theorem dX13_drop_15 : decode cX13_drop 15 = .ok (.iload_n 1, 1) := by decide +kernel
theorem dX13_drop_16 : decode cX13_drop 16 = .ok (.ireturn, 1) := by decide +kernel
theorem dX13_bundleOfDraft_7 : decode cX13_bundleOfDraft 7 = .ok (.aload_n 0, 1) := by decide +kernel
theorem dX13_bundleOfDraft_8 : decode cX13_bundleOfDraft 8 = .ok (.getfield 86, 3) := by decide +kernel
theorem dX13_bundleOfDraft_11 : decode cX13_bundleOfDraft 11 = .ok (.areturn, 1) := by decide +kernel
theorem dX13_find_0 : decode cX13_find 0 = .ok (.aload_n 0, 1) := by decide +kernel
theorem dX13_find_1 : decode cX13_find 1 = .ok (.getfield 96, 3) := by decide +kernel
theorem dX13_find_4 : decode cX13_find 4 = .ok (.iconst 0, 1) := by decide +kernel
theorem dX13_find_5 : decode cX13_find 5 = .ok (.iload_n 1, 1) := by decide +kernel
theorem dX13_find_6 : decode cX13_find 6 = .ok (.iastore, 1) := by decide +kernel
theorem dX13_find_7 : decode cX13_find 7 = .ok (.aload_n 0, 1) := by decide +kernel
theorem dX13_find_8 : decode cX13_find 8 = .ok (.getfield 96, 3) := by decide +kernel
theorem dX13_find_11 : decode cX13_find 11 = .ok (.iconst 1, 1) := by decide +kernel
theorem dX13_find_12 : decode cX13_find 12 = .ok (.iload_n 1, 1) := by decide +kernel
theorem dX13_find_13 : decode cX13_find 13 = .ok (.ifCond .ne 7, 3) := by decide +kernel
theorem dX13_find_16 : decode cX13_find 16 = .ok (.iconst (-1), 1) := by decide +kernel
theorem dX13_find_17 : decode cX13_find 17 = .ok (.goto 4, 3) := by decide +kernel
theorem dX13_find_21 : decode cX13_find 21 = .ok (.iastore, 1) := by decide +kernel
theorem dX13_find_22 : decode cX13_find 22 = .ok (.aload_n 0, 1) := by decide +kernel
theorem dX13_find_23 : decode cX13_find 23 = .ok (.getfield 96, 3) := by decide +kernel
theorem dX13_find_26 : decode cX13_find 26 = .ok (.iconst 2, 1) := by decide +kernel
theorem dX13_find_27 : decode cX13_find 27 = .ok (.iload_n 1, 1) := by decide +kernel
theorem dX13_find_28 : decode cX13_find 28 = .ok (.ifCond .ne 7, 3) := by decide +kernel
theorem dX13_find_31 : decode cX13_find 31 = .ok (.iconst (-1), 1) := by decide +kernel
theorem dX13_find_32 : decode cX13_find 32 = .ok (.goto 4, 3) := by decide +kernel
theorem dX13_find_36 : decode cX13_find 36 = .ok (.iastore, 1) := by decide +kernel
theorem dX13_find_37 : decode cX13_find 37 = .ok (.iload_n 1, 1) := by decide +kernel
theorem dX13_find_38 : decode cX13_find 38 = .ok (.ireturn, 1) := by decide +kernel
theorem dX13_check_0 : decode cX13_check 0 = .ok (.aload_n 0, 1) := by decide +kernel
theorem dX13_check_1 : decode cX13_check 1 = .ok (.invokevirtual 148, 3) := by decide +kernel
theorem dX13_check_4 : decode cX13_check 4 = .ok (.astore_n 1, 1) := by decide +kernel
theorem dX13_check_5 : decode cX13_check 5 = .ok (.aload_n 0, 1) := by decide +kernel
theorem dX13_check_6 : decode cX13_check 6 = .ok (.aload_n 1, 1) := by decide +kernel
theorem dX13_check_7 : decode cX13_check 7 = .ok (.getfield 176, 3) := by decide +kernel
theorem dX13_check_10 : decode cX13_check 10 = .ok (.aload_n 1, 1) := by decide +kernel
theorem dX13_check_11 : decode cX13_check 11 = .ok (.getfield 188, 3) := by decide +kernel
theorem dX13_check_14 : decode cX13_check 14 = .ok (.aload_n 1, 1) := by decide +kernel
theorem dX13_check_15 : decode cX13_check 15 = .ok (.getfield 191, 3) := by decide +kernel
theorem dX13_check_18 : decode cX13_check 18 = .ok (.invokevirtual 194, 3) := by decide +kernel
theorem dX13_check_21 : decode cX13_check 21 = .ok (.ireturn, 1) := by decide +kernel
theorem dX13_activate_0 : decode cX13_activate 0 = .ok (.aload_n 0, 1) := by decide +kernel
theorem dX13_activate_1 : decode cX13_activate 1 = .ok (.invokevirtual 148, 3) := by decide +kernel
theorem dX13_activate_4 : decode cX13_activate 4 = .ok (.astore_n 1, 1) := by decide +kernel
theorem dX13_activate_5 : decode cX13_activate 5 = .ok (.aload_n 0, 1) := by decide +kernel
theorem dX13_activate_6 : decode cX13_activate 6 = .ok (.aload_n 1, 1) := by decide +kernel
theorem dX13_activate_7 : decode cX13_activate 7 = .ok (.getfield 176, 3) := by decide +kernel
theorem dX13_activate_10 : decode cX13_activate 10 = .ok (.aload_n 1, 1) := by decide +kernel
theorem dX13_activate_11 : decode cX13_activate 11 = .ok (.getfield 188, 3) := by decide +kernel
theorem dX13_activate_14 : decode cX13_activate 14 = .ok (.aload_n 1, 1) := by decide +kernel
theorem dX13_activate_15 : decode cX13_activate 15 = .ok (.getfield 191, 3) := by decide +kernel
theorem dX13_activate_18 : decode cX13_activate 18 = .ok (.invokevirtual 194, 3) := by decide +kernel
theorem dX13_activate_21 : decode cX13_activate 21 = .ok (.ifCond .eq 9, 3) := by decide +kernel
theorem dX13_activate_30 : decode cX13_activate 30 = .ok (.aload_n 0, 1) := by decide +kernel
theorem dX13_activate_31 : decode cX13_activate 31 = .ok (.aload_n 1, 1) := by decide +kernel
theorem dX13_activate_32 : decode cX13_activate 32 = .ok (.putfield 152, 3) := by decide +kernel
theorem dX13_activate_35 : decode cX13_activate 35 = .ok (.aload_n 1, 1) := by decide +kernel
theorem dX13_activate_36 : decode cX13_activate 36 = .ok (.getfield 198, 3) := by decide +kernel
theorem dX13_activate_39 : decode cX13_activate 39 = .ok (.ireturn, 1) := by decide +kernel
theorem dX13_fault_0 : decode cX13_fault 0 = .ok (.iload_n 1, 1) := by decide +kernel
theorem dX13_fault_1 : decode cX13_fault 1 = .ok (.ifCond .lt 8, 3) := by decide +kernel
theorem dX13_fault_4 : decode cX13_fault 4 = .ok (.iload_n 1, 1) := by decide +kernel
theorem dX13_fault_5 : decode cX13_fault 5 = .ok (.iconst 2, 1) := by decide +kernel
theorem dX13_fault_6 : decode cX13_fault 6 = .ok (.if_icmp .le 7, 3) := by decide +kernel
theorem dX13_fault_9 : decode cX13_fault 9 = .ok (.iconst (-1), 1) := by decide +kernel
theorem dX13_fault_10 : decode cX13_fault 10 = .ok (.goto 9, 3) := by decide +kernel
theorem dX13_fault_13 : decode cX13_fault 13 = .ok (.aload_n 0, 1) := by decide +kernel
theorem dX13_fault_14 : decode cX13_fault 14 = .ok (.getfield 96, 3) := by decide +kernel
theorem dX13_fault_17 : decode cX13_fault 17 = .ok (.iload_n 1, 1) := by decide +kernel
theorem dX13_fault_18 : decode cX13_fault 18 = .ok (.iaload, 1) := by decide +kernel
theorem dX13_fault_19 : decode cX13_fault 19 = .ok (.ireturn, 1) := by decide +kernel
theorem dX13_data_0 : decode cX13_data 0 = .ok (.aload_n 0, 1) := by decide +kernel
theorem dX13_data_1 : decode cX13_data 1 = .ok (.getfield 10, 3) := by decide +kernel
theorem dX13_data_4 : decode cX13_data 4 = .ok (.getfield 207, 3) := by decide +kernel
theorem dX13_data_7 : decode cX13_data 7 = .ok (.istore_n 1, 1) := by decide +kernel
theorem dX13_data_8 : decode cX13_data 8 = .ok (.aload_n 0, 1) := by decide +kernel
theorem dX13_data_9 : decode cX13_data 9 = .ok (.getfield 21, 3) := by decide +kernel
theorem dX13_data_12 : decode cX13_data 12 = .ok (.aload_n 0, 1) := by decide +kernel
theorem dX13_data_13 : decode cX13_data 13 = .ok (.getfield 66, 3) := by decide +kernel
theorem dX13_data_16 : decode cX13_data 16 = .ok (.iconst 0, 1) := by decide +kernel
theorem dX13_data_17 : decode cX13_data 17 = .ok (.aload_n 0, 1) := by decide +kernel
theorem dX13_data_18 : decode cX13_data 18 = .ok (.invokevirtual 158, 3) := by decide +kernel
theorem dX13_data_21 : decode cX13_data 21 = .ok (.invokevirtual 210, 3) := by decide +kernel
theorem dX13_data_24 : decode cX13_data 24 = .ok (.istore_n 2, 1) := by decide +kernel
theorem dX13_data_25 : decode cX13_data 25 = .ok (.aload_n 0, 1) := by decide +kernel
theorem dX13_data_26 : decode cX13_data 26 = .ok (.getfield 10, 3) := by decide +kernel
theorem dX13_data_29 : decode cX13_data 29 = .ok (.iload_n 1, 1) := by decide +kernel
theorem dX13_data_30 : decode cX13_data 30 = .ok (.putfield 207, 3) := by decide +kernel
theorem dX13_data_33 : decode cX13_data 33 = .ok (.iload_n 2, 1) := by decide +kernel
theorem dX13_data_34 : decode cX13_data 34 = .ok (.ifCond .gt 15, 3) := by decide +kernel
theorem dX13_data_37 : decode cX13_data 37 = .ok (.iconst (-1), 1) := by decide +kernel
theorem dX13_data_38 : decode cX13_data 38 = .ok (.aload_n 0, 1) := by decide +kernel
theorem dX13_data_39 : decode cX13_data 39 = .ok (.getfield 21, 3) := by decide +kernel
theorem dX13_data_42 : decode cX13_data 42 = .ok (.getfield 214, 3) := by decide +kernel
theorem dX13_data_45 : decode cX13_data 45 = .ok (.isub, 1) := by decide +kernel
theorem dX13_data_46 : decode cX13_data 46 = .ok (.goto 8, 3) := by decide +kernel
theorem dX13_data_54 : decode cX13_data 54 = .ok (.ireturn, 1) := by decide +kernel
theorem dX13_patch_0 : decode cX13_patch 0 = .ok (.aload_n 0, 1) := by decide +kernel
theorem dX13_patch_1 : decode cX13_patch 1 = .ok (.getfield 10, 3) := by decide +kernel
theorem dX13_patch_4 : decode cX13_patch 4 = .ok (.getfield 207, 3) := by decide +kernel
theorem dX13_patch_7 : decode cX13_patch 7 = .ok (.istore_n 1, 1) := by decide +kernel
theorem dX13_patch_8 : decode cX13_patch 8 = .ok (.aload_n 0, 1) := by decide +kernel
theorem dX13_patch_9 : decode cX13_patch 9 = .ok (.getfield 21, 3) := by decide +kernel
theorem dX13_patch_12 : decode cX13_patch 12 = .ok (.aload_n 0, 1) := by decide +kernel
theorem dX13_patch_13 : decode cX13_patch 13 = .ok (.getfield 66, 3) := by decide +kernel
theorem dX13_patch_16 : decode cX13_patch 16 = .ok (.iconst 0, 1) := by decide +kernel
theorem dX13_patch_17 : decode cX13_patch 17 = .ok (.aload_n 0, 1) := by decide +kernel
theorem dX13_patch_18 : decode cX13_patch 18 = .ok (.invokevirtual 158, 3) := by decide +kernel
theorem dX13_patch_21 : decode cX13_patch 21 = .ok (.invokevirtual 210, 3) := by decide +kernel
theorem dX13_patch_24 : decode cX13_patch 24 = .ok (.istore_n 2, 1) := by decide +kernel
theorem dX13_patch_25 : decode cX13_patch 25 = .ok (.iconst 0, 1) := by decide +kernel
theorem dX13_patch_26 : decode cX13_patch 26 = .ok (.istore_n 3, 1) := by decide +kernel
theorem dX13_patch_27 : decode cX13_patch 27 = .ok (.iload_n 2, 1) := by decide +kernel
theorem dX13_patch_28 : decode cX13_patch 28 = .ok (.ifCond .le 32, 3) := by decide +kernel
theorem dX13_patch_60 : decode cX13_patch 60 = .ok (.aload_n 0, 1) := by decide +kernel
theorem dX13_patch_61 : decode cX13_patch 61 = .ok (.getfield 10, 3) := by decide +kernel
theorem dX13_patch_64 : decode cX13_patch 64 = .ok (.iload_n 1, 1) := by decide +kernel
theorem dX13_patch_65 : decode cX13_patch 65 = .ok (.putfield 207, 3) := by decide +kernel
theorem dX13_patch_68 : decode cX13_patch 68 = .ok (.iload_n 2, 1) := by decide +kernel
theorem dX13_patch_69 : decode cX13_patch 69 = .ok (.ifCond .gt 13, 3) := by decide +kernel
theorem dX13_patch_72 : decode cX13_patch 72 = .ok (.iconst (-1), 1) := by decide +kernel
theorem dX13_patch_73 : decode cX13_patch 73 = .ok (.aload_n 0, 1) := by decide +kernel
theorem dX13_patch_74 : decode cX13_patch 74 = .ok (.getfield 21, 3) := by decide +kernel
theorem dX13_patch_77 : decode cX13_patch 77 = .ok (.getfield 214, 3) := by decide +kernel
theorem dX13_patch_80 : decode cX13_patch 80 = .ok (.isub, 1) := by decide +kernel
theorem dX13_patch_81 : decode cX13_patch 81 = .ok (.ireturn, 1) := by decide +kernel
theorem dX13_input_0 : decode cX13_input 0 = .ok (.aload_n 0, 1) := by decide +kernel
theorem dX13_input_1 : decode cX13_input 1 = .ok (.getfield 70, 3) := by decide +kernel
theorem dX13_input_4 : decode cX13_input 4 = .ok (.ifCond .ne 10, 3) := by decide +kernel
theorem dX13_input_7 : decode cX13_input 7 = .ok (.aload_n 0, 1) := by decide +kernel
theorem dX13_input_8 : decode cX13_input 8 = .ok (.iconst 0, 1) := by decide +kernel
theorem dX13_input_9 : decode cX13_input 9 = .ok (.putfield 99, 3) := by decide +kernel
theorem dX13_input_12 : decode cX13_input 12 = .ok (.iconst 0, 1) := by decide +kernel
theorem dX13_input_13 : decode cX13_input 13 = .ok (.ireturn, 1) := by decide +kernel
theorem dX13_prepare_0 : decode cX13_prepare 0 = .ok (.aload_n 0, 1) := by decide +kernel
theorem dX13_prepare_1 : decode cX13_prepare 1 = .ok (.getfield 37, 3) := by decide +kernel
theorem dX13_prepare_4 : decode cX13_prepare 4 = .ok (.aload_n 0, 1) := by decide +kernel
theorem dX13_prepare_5 : decode cX13_prepare 5 = .ok (.getfield 66, 3) := by decide +kernel
theorem dX13_prepare_8 : decode cX13_prepare 8 = .ok (.aload_n 0, 1) := by decide +kernel
theorem dX13_prepare_9 : decode cX13_prepare 9 = .ok (.invokevirtual 158, 3) := by decide +kernel
theorem dX13_prepare_12 : decode cX13_prepare 12 = .ok (.invokevirtual 245, 3) := by decide +kernel
theorem dX13_prepare_15 : decode cX13_prepare 15 = .ok (.astore_n 1, 1) := by decide +kernel
theorem dX13_prepare_16 : decode cX13_prepare 16 = .ok (.aload_n 1, 1) := by decide +kernel
theorem dX13_prepare_17 : decode cX13_prepare 17 = .ok (.ifnonnull 13, 3) := by decide +kernel
theorem dX13_prepare_20 : decode cX13_prepare 20 = .ok (.iconst (-1), 1) := by decide +kernel
theorem dX13_prepare_21 : decode cX13_prepare 21 = .ok (.aload_n 0, 1) := by decide +kernel
theorem dX13_prepare_22 : decode cX13_prepare 22 = .ok (.getfield 37, 3) := by decide +kernel
theorem dX13_prepare_25 : decode cX13_prepare 25 = .ok (.getfield 166, 3) := by decide +kernel
theorem dX13_prepare_28 : decode cX13_prepare 28 = .ok (.isub, 1) := by decide +kernel
theorem dX13_prepare_29 : decode cX13_prepare 29 = .ok (.ireturn, 1) := by decide +kernel
theorem dX13_query_0 : decode cX13_query 0 = .ok (.iload_n 1, 1) := by decide +kernel
theorem dX13_query_1 : decode cX13_query 1 = .ok (.ifCond .lt 8, 3) := by decide +kernel
theorem dX13_query_4 : decode cX13_query 4 = .ok (.iload_n 1, 1) := by decide +kernel
theorem dX13_query_5 : decode cX13_query 5 = .ok (.iconst 4, 1) := by decide +kernel
theorem dX13_query_6 : decode cX13_query 6 = .ok (.if_icmp .lt 7, 3) := by decide +kernel
theorem dX13_query_9 : decode cX13_query 9 = .ok (.aconst_null, 1) := by decide +kernel
theorem dX13_query_10 : decode cX13_query 10 = .ok (.goto 9, 3) := by decide +kernel
theorem dX13_query_13 : decode cX13_query 13 = .ok (.aload_n 0, 1) := by decide +kernel
theorem dX13_query_14 : decode cX13_query 14 = .ok (.getfield 92, 3) := by decide +kernel
theorem dX13_query_17 : decode cX13_query 17 = .ok (.iload_n 1, 1) := by decide +kernel
theorem dX13_query_18 : decode cX13_query 18 = .ok (.aaload, 1) := by decide +kernel
theorem dX13_query_19 : decode cX13_query 19 = .ok (.areturn, 1) := by decide +kernel
theorem dX13_renew_0 : decode cX13_renew 0 = .ok (.aload_n 0, 1) := by decide +kernel
theorem dX13_renew_1 : decode cX13_renew 1 = .ok (.iload_n 1, 1) := by decide +kernel
theorem dX13_renew_2 : decode cX13_renew 2 = .ok (.invokevirtual 291, 3) := by decide +kernel
theorem dX13_renew_5 : decode cX13_renew 5 = .ok (.astore_n 2, 1) := by decide +kernel
theorem dX13_renew_6 : decode cX13_renew 6 = .ok (.aload_n 2, 1) := by decide +kernel
theorem dX13_renew_7 : decode cX13_renew 7 = .ok (.ifnonnull 5, 3) := by decide +kernel
theorem dX13_renew_10 : decode cX13_renew 10 = .ok (.iconst (-1), 1) := by decide +kernel
theorem dX13_renew_11 : decode cX13_renew 11 = .ok (.ireturn, 1) := by decide +kernel
theorem dX13_release_0 : decode cX13_release 0 = .ok (.aload_n 0, 1) := by decide +kernel
theorem dX13_release_1 : decode cX13_release 1 = .ok (.iload_n 1, 1) := by decide +kernel
theorem dX13_release_2 : decode cX13_release 2 = .ok (.invokevirtual 291, 3) := by decide +kernel
theorem dX13_release_5 : decode cX13_release 5 = .ok (.ifnonnull 5, 3) := by decide +kernel
theorem dX13_release_8 : decode cX13_release 8 = .ok (.iconst 0, 1) := by decide +kernel
theorem dX13_release_9 : decode cX13_release 9 = .ok (.ireturn, 1) := by decide +kernel
theorem dX13_run_0 : decode cX13_run 0 = .ok (.aload_n 0, 1) := by decide +kernel
theorem dX13_run_1 : decode cX13_run 1 = .ok (.iload_n 1, 1) := by decide +kernel
theorem dX13_run_2 : decode cX13_run 2 = .ok (.invokevirtual 291, 3) := by decide +kernel
theorem dX13_run_5 : decode cX13_run 5 = .ok (.astore_n 3, 1) := by decide +kernel
theorem dX13_run_6 : decode cX13_run 6 = .ok (.aload_n 3, 1) := by decide +kernel
theorem dX13_run_7 : decode cX13_run 7 = .ok (.ifnonnull 5, 3) := by decide +kernel
theorem dX13_run_10 : decode cX13_run 10 = .ok (.iconst (-1), 1) := by decide +kernel
theorem dX13_run_11 : decode cX13_run 11 = .ok (.ireturn, 1) := by decide +kernel
theorem dX13_hasRun_0 : decode cX13_hasRun 0 = .ok (.aload_n 0, 1) := by decide +kernel
theorem dX13_hasRun_1 : decode cX13_hasRun 1 = .ok (.getfield 128, 3) := by decide +kernel
theorem dX13_hasRun_4 : decode cX13_hasRun 4 = .ok (.getfield 306, 3) := by decide +kernel
theorem dX13_hasRun_7 : decode cX13_hasRun 7 = .ok (.ifnull 7, 3) := by decide +kernel
theorem dX13_hasRun_14 : decode cX13_hasRun 14 = .ok (.iconst 0, 1) := by decide +kernel
theorem dX13_hasRun_15 : decode cX13_hasRun 15 = .ok (.ireturn, 1) := by decide +kernel
theorem dX13_hasRunOut_0 : decode cX13_hasRunOut 0 = .ok (.aload_n 0, 1) := by decide +kernel
theorem dX13_hasRunOut_1 : decode cX13_hasRunOut 1 = .ok (.getfield 128, 3) := by decide +kernel
theorem dX13_hasRunOut_4 : decode cX13_hasRunOut 4 = .ok (.getfield 306, 3) := by decide +kernel
theorem dX13_hasRunOut_7 : decode cX13_hasRunOut 7 = .ok (.ifnull 17, 3) := by decide +kernel
theorem dX13_hasRunOut_24 : decode cX13_hasRunOut 24 = .ok (.iconst 0, 1) := by decide +kernel
theorem dX13_hasRunOut_25 : decode cX13_hasRunOut 25 = .ok (.ireturn, 1) := by decide +kernel
theorem dX13_about_0 : decode cX13_about 0 = .ok (.aload_n 0, 1) := by decide +kernel
theorem dX13_about_1 : decode cX13_about 1 = .ok (.invokevirtual 311, 3) := by decide +kernel
theorem dX13_about_4 : decode cX13_about 4 = .ok (.ifCond .ne 5, 3) := by decide +kernel
theorem dX13_about_7 : decode cX13_about 7 = .ok (.iconst (-1), 1) := by decide +kernel
theorem dX13_about_8 : decode cX13_about 8 = .ok (.ireturn, 1) := by decide +kernel
theorem dX13_covered_0 : decode cX13_covered 0 = .ok (.aload_n 0, 1) := by decide +kernel
theorem dX13_covered_1 : decode cX13_covered 1 = .ok (.invokevirtual 324, 3) := by decide +kernel
theorem dX13_covered_4 : decode cX13_covered 4 = .ok (.ifCond .eq 22, 3) := by decide +kernel
theorem dX13_covered_26 : decode cX13_covered 26 = .ok (.iconst (-1), 1) := by decide +kernel
theorem dX13_covered_27 : decode cX13_covered 27 = .ok (.ireturn, 1) := by decide +kernel
theorem dX13_result_0 : decode cX13_result 0 = .ok (.aload_n 0, 1) := by decide +kernel
theorem dX13_result_1 : decode cX13_result 1 = .ok (.invokevirtual 311, 3) := by decide +kernel
theorem dX13_result_4 : decode cX13_result 4 = .ok (.ifCond .eq 22, 3) := by decide +kernel
theorem dX13_result_26 : decode cX13_result 26 = .ok (.iconst (-1), 1) := by decide +kernel
theorem dX13_result_27 : decode cX13_result 27 = .ok (.ireturn, 1) := by decide +kernel
theorem dX13_document_0 : decode cX13_document 0 = .ok (.aload_n 0, 1) := by decide +kernel
theorem dX13_document_1 : decode cX13_document 1 = .ok (.invokevirtual 324, 3) := by decide +kernel
theorem dX13_document_4 : decode cX13_document 4 = .ok (.ifCond .eq 21, 3) := by decide +kernel
theorem dX13_document_25 : decode cX13_document 25 = .ok (.iconst (-1), 1) := by decide +kernel
theorem dX13_document_26 : decode cX13_document 26 = .ok (.ireturn, 1) := by decide +kernel
theorem dX13_output_0 : decode cX13_output 0 = .ok (.iload_n 1, 1) := by decide +kernel
theorem dX13_output_1 : decode cX13_output 1 = .ok (.ifCond .lt 11, 3) := by decide +kernel
theorem dX13_output_4 : decode cX13_output 4 = .ok (.iload_n 1, 1) := by decide +kernel
theorem dX13_output_5 : decode cX13_output 5 = .ok (.aload_n 0, 1) := by decide +kernel
theorem dX13_output_6 : decode cX13_output 6 = .ok (.getfield 112, 3) := by decide +kernel
theorem dX13_output_9 : decode cX13_output 9 = .ok (.if_icmp .lt 7, 3) := by decide +kernel
theorem dX13_output_12 : decode cX13_output 12 = .ok (.iconst (-1), 1) := by decide +kernel
theorem dX13_output_13 : decode cX13_output 13 = .ok (.goto 24, 3) := by decide +kernel
theorem dX13_output_37 : decode cX13_output 37 = .ok (.ireturn, 1) := by decide +kernel
theorem dX13_order_0 : decode cX13_order 0 = .ok (.aload_n 0, 1) := by decide +kernel
theorem dX13_order_1 : decode cX13_order 1 = .ok (.iload_n 1, 1) := by decide +kernel
theorem dX13_order_2 : decode cX13_order 2 = .ok (.invokevirtual 291, 3) := by decide +kernel
theorem dX13_order_5 : decode cX13_order 5 = .ok (.astore_n 3, 1) := by decide +kernel
theorem dX13_order_6 : decode cX13_order 6 = .ok (.aload_n 3, 1) := by decide +kernel
theorem dX13_order_7 : decode cX13_order 7 = .ok (.ifnull 16, 3) := by decide +kernel
theorem dX13_order_23 : decode cX13_order 23 = .ok (.iconst (-1), 1) := by decide +kernel
theorem dX13_order_24 : decode cX13_order 24 = .ok (.goto 9, 3) := by decide +kernel
theorem dX13_order_33 : decode cX13_order 33 = .ok (.ireturn, 1) := by decide +kernel
theorem dX13_count_0 : decode cX13_count 0 = .ok (.iload_n 1, 1) := by decide +kernel
theorem dX13_count_1 : decode cX13_count 1 = .ok (.tableswitch 135 0 6 #[43, 48, 56, 90, 102, 125, 130], 43) := by decide +kernel
theorem dX13_count_44 : decode cX13_count 44 = .ok (.aload_n 0, 1) := by decide +kernel
theorem dX13_count_45 : decode cX13_count 45 = .ok (.getfield 83, 3) := by decide +kernel
theorem dX13_count_48 : decode cX13_count 48 = .ok (.ireturn, 1) := by decide +kernel
theorem dX13_count_49 : decode cX13_count 49 = .ok (.aload_n 0, 1) := by decide +kernel
theorem dX13_count_50 : decode cX13_count 50 = .ok (.getfield 152, 3) := by decide +kernel
theorem dX13_count_53 : decode cX13_count 53 = .ok (.getfield 198, 3) := by decide +kernel
theorem dX13_count_56 : decode cX13_count 56 = .ok (.ireturn, 1) := by decide +kernel
theorem dX13_count_57 : decode cX13_count 57 = .ok (.iconst 0, 1) := by decide +kernel
theorem dX13_count_58 : decode cX13_count 58 = .ok (.istore_n 2, 1) := by decide +kernel
theorem dX13_count_59 : decode cX13_count 59 = .ok (.iconst 0, 1) := by decide +kernel
theorem dX13_count_60 : decode cX13_count 60 = .ok (.istore_n 3, 1) := by decide +kernel
theorem dX13_count_61 : decode cX13_count 61 = .ok (.iload_n 3, 1) := by decide +kernel
theorem dX13_count_62 : decode cX13_count 62 = .ok (.iconst 4, 1) := by decide +kernel
theorem dX13_count_63 : decode cX13_count 63 = .ok (.if_icmp .ge 26, 3) := by decide +kernel
theorem dX13_count_66 : decode cX13_count 66 = .ok (.iload_n 2, 1) := by decide +kernel
theorem dX13_count_67 : decode cX13_count 67 = .ok (.aload_n 0, 1) := by decide +kernel
theorem dX13_count_68 : decode cX13_count 68 = .ok (.getfield 92, 3) := by decide +kernel
theorem dX13_count_71 : decode cX13_count 71 = .ok (.iload_n 3, 1) := by decide +kernel
theorem dX13_count_72 : decode cX13_count 72 = .ok (.aaload, 1) := by decide +kernel
theorem dX13_count_73 : decode cX13_count 73 = .ok (.ifnonnull 7, 3) := by decide +kernel
theorem dX13_count_76 : decode cX13_count 76 = .ok (.iconst 0, 1) := by decide +kernel
theorem dX13_count_77 : decode cX13_count 77 = .ok (.goto 4, 3) := by decide +kernel
theorem dX13_count_81 : decode cX13_count 81 = .ok (.iadd, 1) := by decide +kernel
theorem dX13_count_82 : decode cX13_count 82 = .ok (.istore_n 2, 1) := by decide +kernel
theorem dX13_count_83 : decode cX13_count 83 = .ok (.iinc 3 1, 3) := by decide +kernel
theorem dX13_count_86 : decode cX13_count 86 = .ok (.goto (-25), 3) := by decide +kernel
theorem dX13_count_89 : decode cX13_count 89 = .ok (.iload_n 2, 1) := by decide +kernel
theorem dX13_count_90 : decode cX13_count 90 = .ok (.ireturn, 1) := by decide +kernel
theorem dX13_count_91 : decode cX13_count 91 = .ok (.aload_n 0, 1) := by decide +kernel
theorem dX13_count_92 : decode cX13_count 92 = .ok (.getfield 10, 3) := by decide +kernel
theorem dX13_count_95 : decode cX13_count 95 = .ok (.aload_n 0, 1) := by decide +kernel
theorem dX13_count_96 : decode cX13_count 96 = .ok (.getfield 140, 3) := by decide +kernel
theorem dX13_count_99 : decode cX13_count 99 = .ok (.invokevirtual 228, 3) := by decide +kernel
theorem dX13_count_102 : decode cX13_count 102 = .ok (.ireturn, 1) := by decide +kernel
theorem dX13_count_103 : decode cX13_count 103 = .ok (.aload_n 0, 1) := by decide +kernel
theorem dX13_count_104 : decode cX13_count 104 = .ok (.getfield 99, 3) := by decide +kernel
theorem dX13_count_107 : decode cX13_count 107 = .ok (.ifCond .ne 7, 3) := by decide +kernel
theorem dX13_count_110 : decode cX13_count 110 = .ok (.iconst 0, 1) := by decide +kernel
theorem dX13_count_111 : decode cX13_count 111 = .ok (.goto 14, 3) := by decide +kernel
theorem dX13_count_125 : decode cX13_count 125 = .ok (.ireturn, 1) := by decide +kernel
theorem dX13_count_126 : decode cX13_count 126 = .ok (.aload_n 0, 1) := by decide +kernel
theorem dX13_count_127 : decode cX13_count 127 = .ok (.getfield 70, 3) := by decide +kernel
theorem dX13_count_130 : decode cX13_count 130 = .ok (.ireturn, 1) := by decide +kernel
theorem dX13_count_131 : decode cX13_count 131 = .ok (.aload_n 0, 1) := by decide +kernel
theorem dX13_count_132 : decode cX13_count 132 = .ok (.getfield 112, 3) := by decide +kernel
theorem dX13_count_135 : decode cX13_count 135 = .ok (.ireturn, 1) := by decide +kernel
theorem dX13_count_136 : decode cX13_count 136 = .ok (.iconst (-1), 1) := by decide +kernel
theorem dX13_count_137 : decode cX13_count 137 = .ok (.ireturn, 1) := by decide +kernel
