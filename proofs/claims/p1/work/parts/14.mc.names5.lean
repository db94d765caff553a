theorem dX16_fault_21 : decode cX16_fault 21 = .ok (.aload_n 0, 1) := by decide +kernel
theorem dX16_fault_22 : decode cX16_fault 22 = .ok (.getfield 2173, 3) := by decide +kernel
theorem dX16_fault_25 : decode cX16_fault 25 = .ok (.goto 16, 3) := by decide +kernel
theorem dX16_fault_28 : decode cX16_fault 28 = .ok (.iload_n 1, 1) := by decide +kernel
theorem dX16_fault_29 : decode cX16_fault 29 = .ok (.iconst 2, 1) := by decide +kernel
theorem dX16_fault_30 : decode cX16_fault 30 = .ok (.if_icmp .ne 10, 3) := by decide +kernel
theorem dX16_fault_33 : decode cX16_fault 33 = .ok (.aload_n 0, 1) := by decide +kernel
theorem dX16_fault_34 : decode cX16_fault 34 = .ok (.getfield 2176, 3) := by decide +kernel
theorem dX16_fault_37 : decode cX16_fault 37 = .ok (.goto 4, 3) := by decide +kernel
theorem dX16_fault_40 : decode cX16_fault 40 = .ok (.iconst (-1), 1) := by decide +kernel
theorem dX16_fault_41 : decode cX16_fault 41 = .ok (.ireturn, 1) := by decide +kernel
theorem dX16_data_0 : decode cX16_data 0 = .ok (.aload_n 0, 1) := by decide +kernel
theorem dX16_data_1 : decode cX16_data 1 = .ok (.invokevirtual 2234, 3) := by decide +kernel
theorem dX16_data_4 : decode cX16_data 4 = .ok (.istore_n 1, 1) := by decide +kernel
theorem dX16_data_5 : decode cX16_data 5 = .ok (.aload_n 0, 1) := by decide +kernel
theorem dX16_data_6 : decode cX16_data 6 = .ok (.getfield 2195, 3) := by decide +kernel
theorem dX16_data_9 : decode cX16_data 9 = .ok (.invokevirtual 1614, 3) := by decide +kernel
theorem dX16_data_12 : decode cX16_data 12 = .ok (.aload_n 0, 1) := by decide +kernel
theorem dX16_data_13 : decode cX16_data 13 = .ok (.aload_n 0, 1) := by decide +kernel
theorem dX16_data_14 : decode cX16_data 14 = .ok (.getfield 2195, 3) := by decide +kernel
theorem dX16_data_17 : decode cX16_data 17 = .ok (.aload_n 0, 1) := by decide +kernel
theorem dX16_data_18 : decode cX16_data 18 = .ok (.getfield 2204, 3) := by decide +kernel
theorem dX16_data_21 : decode cX16_data 21 = .ok (.iconst 0, 1) := by decide +kernel
theorem dX16_data_22 : decode cX16_data 22 = .ok (.iload_n 1, 1) := by decide +kernel
theorem dX16_data_23 : decode cX16_data 23 = .ok (.invokevirtual 1601, 3) := by decide +kernel
theorem dX16_data_26 : decode cX16_data 26 = .ok (.istore_n 2, 1) := by decide +kernel
theorem dX16_data_27 : decode cX16_data 27 = .ok (.iload_n 2, 1) := by decide +kernel
theorem dX16_data_28 : decode cX16_data 28 = .ok (.iconst (-1), 1) := by decide +kernel
theorem dX16_data_29 : decode cX16_data 29 = .ok (.if_icmp .ne 10, 3) := by decide +kernel
theorem dX16_data_32 : decode cX16_data 32 = .ok (.iconst (-1), 1) := by decide +kernel
theorem dX16_data_33 : decode cX16_data 33 = .ok (.aload_n 0, 1) := by decide +kernel
theorem dX16_data_34 : decode cX16_data 34 = .ok (.getfield 25, 3) := by decide +kernel
theorem dX16_data_37 : decode cX16_data 37 = .ok (.isub, 1) := by decide +kernel
theorem dX16_data_38 : decode cX16_data 38 = .ok (.ireturn, 1) := by decide +kernel
theorem dX16_patch_0 : decode cX16_patch 0 = .ok (.aload_n 0, 1) := by decide +kernel
theorem dX16_patch_1 : decode cX16_patch 1 = .ok (.invokevirtual 2234, 3) := by decide +kernel
theorem dX16_patch_4 : decode cX16_patch 4 = .ok (.istore_n 1, 1) := by decide +kernel
theorem dX16_patch_5 : decode cX16_patch 5 = .ok (.aload_n 0, 1) := by decide +kernel
theorem dX16_patch_6 : decode cX16_patch 6 = .ok (.getfield 2195, 3) := by decide +kernel
theorem dX16_patch_9 : decode cX16_patch 9 = .ok (.invokevirtual 1614, 3) := by decide +kernel
theorem dX16_patch_12 : decode cX16_patch 12 = .ok (.aload_n 0, 1) := by decide +kernel
theorem dX16_patch_13 : decode cX16_patch 13 = .ok (.aload_n 0, 1) := by decide +kernel
theorem dX16_patch_14 : decode cX16_patch 14 = .ok (.getfield 2195, 3) := by decide +kernel
theorem dX16_patch_17 : decode cX16_patch 17 = .ok (.aload_n 0, 1) := by decide +kernel
theorem dX16_patch_18 : decode cX16_patch 18 = .ok (.getfield 2204, 3) := by decide +kernel
theorem dX16_patch_21 : decode cX16_patch 21 = .ok (.iconst 0, 1) := by decide +kernel
theorem dX16_patch_22 : decode cX16_patch 22 = .ok (.iload_n 1, 1) := by decide +kernel
theorem dX16_patch_23 : decode cX16_patch 23 = .ok (.invokevirtual 1601, 3) := by decide +kernel
theorem dX16_patch_26 : decode cX16_patch 26 = .ok (.istore_n 2, 1) := by decide +kernel
theorem dX16_patch_27 : decode cX16_patch 27 = .ok (.iload_n 2, 1) := by decide +kernel
theorem dX16_patch_28 : decode cX16_patch 28 = .ok (.iconst (-1), 1) := by decide +kernel
theorem dX16_patch_29 : decode cX16_patch 29 = .ok (.if_icmp .ne 10, 3) := by decide +kernel
theorem dX16_patch_32 : decode cX16_patch 32 = .ok (.iconst (-1), 1) := by decide +kernel
theorem dX16_patch_33 : decode cX16_patch 33 = .ok (.aload_n 0, 1) := by decide +kernel
theorem dX16_patch_34 : decode cX16_patch 34 = .ok (.getfield 25, 3) := by decide +kernel
theorem dX16_patch_37 : decode cX16_patch 37 = .ok (.isub, 1) := by decide +kernel
theorem dX16_patch_38 : decode cX16_patch 38 = .ok (.ireturn, 1) := by decide +kernel
theorem dX16_input_0 : decode cX16_input 0 = .ok (.aload_n 0, 1) := by decide +kernel
theorem dX16_input_1 : decode cX16_input 1 = .ok (.invokevirtual 2234, 3) := by decide +kernel
theorem dX16_input_4 : decode cX16_input 4 = .ok (.istore_n 1, 1) := by decide +kernel
theorem dX16_input_5 : decode cX16_input 5 = .ok (.iload_n 1, 1) := by decide +kernel
theorem dX16_input_6 : decode cX16_input 6 = .ok (.ifCond .ne 10, 3) := by decide +kernel
theorem dX16_input_9 : decode cX16_input 9 = .ok (.aload_n 0, 1) := by decide +kernel
theorem dX16_input_10 : decode cX16_input 10 = .ok (.iconst (-1), 1) := by decide +kernel
theorem dX16_input_11 : decode cX16_input 11 = .ok (.putfield 2222, 3) := by decide +kernel
theorem dX16_input_14 : decode cX16_input 14 = .ok (.iconst 0, 1) := by decide +kernel
theorem dX16_input_15 : decode cX16_input 15 = .ok (.ireturn, 1) := by decide +kernel
theorem dX16_prepare_0 : decode cX16_prepare 0 = .ok (.aload_n 0, 1) := by decide +kernel
theorem dX16_prepare_1 : decode cX16_prepare 1 = .ok (.invokevirtual 2234, 3) := by decide +kernel
theorem dX16_prepare_4 : decode cX16_prepare 4 = .ok (.istore_n 1, 1) := by decide +kernel
theorem dX16_prepare_5 : decode cX16_prepare 5 = .ok (.aload_n 0, 1) := by decide +kernel
theorem dX16_prepare_6 : decode cX16_prepare 6 = .ok (.iconst 1, 1) := by decide +kernel
theorem dX16_prepare_7 : decode cX16_prepare 7 = .ok (.invokevirtual 2155, 3) := by decide +kernel
theorem dX16_prepare_10 : decode cX16_prepare 10 = .ok (.aload_n 0, 1) := by decide +kernel
theorem dX16_prepare_11 : decode cX16_prepare 11 = .ok (.aload_n 0, 1) := by decide +kernel
theorem dX16_prepare_12 : decode cX16_prepare 12 = .ok (.getfield 2204, 3) := by decide +kernel
theorem dX16_prepare_15 : decode cX16_prepare 15 = .ok (.iload_n 1, 1) := by decide +kernel
theorem dX16_prepare_16 : decode cX16_prepare 16 = .ok (.invokevirtual 2164, 3) := by decide +kernel
theorem dX16_prepare_19 : decode cX16_prepare 19 = .ok (.aload_n 0, 1) := by decide +kernel
theorem dX16_prepare_20 : decode cX16_prepare 20 = .ok (.invokevirtual 282, 3) := by decide +kernel
theorem dX16_prepare_23 : decode cX16_prepare 23 = .ok (.ifCond .eq 10, 3) := by decide +kernel
theorem dX16_prepare_26 : decode cX16_prepare 26 = .ok (.iconst (-1), 1) := by decide +kernel
theorem dX16_prepare_27 : decode cX16_prepare 27 = .ok (.aload_n 0, 1) := by decide +kernel
theorem dX16_prepare_28 : decode cX16_prepare 28 = .ok (.getfield 267, 3) := by decide +kernel
theorem dX16_prepare_31 : decode cX16_prepare 31 = .ok (.isub, 1) := by decide +kernel
theorem dX16_prepare_32 : decode cX16_prepare 32 = .ok (.ireturn, 1) := by decide +kernel
theorem dX16_isQuery_0 : decode cX16_isQuery 0 = .ok (.iload_n 1, 1) := by decide +kernel
theorem dX16_isQuery_1 : decode cX16_isQuery 1 = .ok (.ifCond .lt 21, 3) := by decide +kernel
theorem dX16_isQuery_4 : decode cX16_isQuery 4 = .ok (.iload_n 1, 1) := by decide +kernel
theorem dX16_isQuery_5 : decode cX16_isQuery 5 = .ok (.iconst 4, 1) := by decide +kernel
theorem dX16_isQuery_6 : decode cX16_isQuery 6 = .ok (.if_icmp .ge 16, 3) := by decide +kernel
theorem dX16_isQuery_9 : decode cX16_isQuery 9 = .ok (.aload_n 0, 1) := by decide +kernel
theorem dX16_isQuery_10 : decode cX16_isQuery 10 = .ok (.getfield 2198, 3) := by decide +kernel
theorem dX16_isQuery_13 : decode cX16_isQuery 13 = .ok (.iload_n 1, 1) := by decide +kernel
theorem dX16_isQuery_14 : decode cX16_isQuery 14 = .ok (.baload, 1) := by decide +kernel
theorem dX16_isQuery_15 : decode cX16_isQuery 15 = .ok (.ifCond .eq 7, 3) := by decide +kernel
theorem dX16_isQuery_22 : decode cX16_isQuery 22 = .ok (.iconst 0, 1) := by decide +kernel
theorem dX16_isQuery_23 : decode cX16_isQuery 23 = .ok (.ireturn, 1) := by decide +kernel
theorem dX16_renew_0 : decode cX16_renew 0 = .ok (.aload_n 0, 1) := by decide +kernel
theorem dX16_renew_1 : decode cX16_renew 1 = .ok (.iconst 0, 1) := by decide +kernel
theorem dX16_renew_2 : decode cX16_renew 2 = .ok (.putfield 2228, 3) := by decide +kernel
theorem dX16_renew_5 : decode cX16_renew 5 = .ok (.aload_n 0, 1) := by decide +kernel
theorem dX16_renew_6 : decode cX16_renew 6 = .ok (.iload_n 1, 1) := by decide +kernel
theorem dX16_renew_7 : decode cX16_renew 7 = .ok (.invokevirtual 2248, 3) := by decide +kernel
theorem dX16_renew_10 : decode cX16_renew 10 = .ok (.ifCond .ne 5, 3) := by decide +kernel
theorem dX16_renew_13 : decode cX16_renew 13 = .ok (.iconst (-1), 1) := by decide +kernel
theorem dX16_renew_14 : decode cX16_renew 14 = .ok (.ireturn, 1) := by decide +kernel
theorem dX16_release_0 : decode cX16_release 0 = .ok (.aload_n 0, 1) := by decide +kernel
theorem dX16_release_1 : decode cX16_release 1 = .ok (.iconst 0, 1) := by decide +kernel
theorem dX16_release_2 : decode cX16_release 2 = .ok (.putfield 2228, 3) := by decide +kernel
theorem dX16_release_5 : decode cX16_release 5 = .ok (.aload_n 0, 1) := by decide +kernel
theorem dX16_release_6 : decode cX16_release 6 = .ok (.iload_n 1, 1) := by decide +kernel
theorem dX16_release_7 : decode cX16_release 7 = .ok (.invokevirtual 2248, 3) := by decide +kernel
theorem dX16_release_10 : decode cX16_release 10 = .ok (.ifCond .ne 5, 3) := by decide +kernel
theorem dX16_release_13 : decode cX16_release 13 = .ok (.iconst 0, 1) := by decide +kernel
theorem dX16_release_14 : decode cX16_release 14 = .ok (.ireturn, 1) := by decide +kernel
theorem dX16_run_0 : decode cX16_run 0 = .ok (.aload_n 0, 1) := by decide +kernel
theorem dX16_run_1 : decode cX16_run 1 = .ok (.iconst 0, 1) := by decide +kernel
theorem dX16_run_2 : decode cX16_run 2 = .ok (.putfield 2228, 3) := by decide +kernel
theorem dX16_run_5 : decode cX16_run 5 = .ok (.aload_n 0, 1) := by decide +kernel
theorem dX16_run_6 : decode cX16_run 6 = .ok (.iload_n 1, 1) := by decide +kernel
theorem dX16_run_7 : decode cX16_run 7 = .ok (.invokevirtual 2248, 3) := by decide +kernel
theorem dX16_run_10 : decode cX16_run 10 = .ok (.ifCond .ne 5, 3) := by decide +kernel
theorem dX16_run_13 : decode cX16_run 13 = .ok (.iconst (-1), 1) := by decide +kernel
theorem dX16_run_14 : decode cX16_run 14 = .ok (.ireturn, 1) := by decide +kernel
theorem dX16_about_0 : decode cX16_about 0 = .ok (.aload_n 0, 1) := by decide +kernel
theorem dX16_about_1 : decode cX16_about 1 = .ok (.iconst 0, 1) := by decide +kernel
theorem dX16_about_2 : decode cX16_about 2 = .ok (.putfield 2228, 3) := by decide +kernel
theorem dX16_about_5 : decode cX16_about 5 = .ok (.aload_n 0, 1) := by decide +kernel
theorem dX16_about_6 : decode cX16_about 6 = .ok (.getfield 2263, 3) := by decide +kernel
theorem dX16_about_9 : decode cX16_about 9 = .ok (.ifCond .ne 5, 3) := by decide +kernel
theorem dX16_about_12 : decode cX16_about 12 = .ok (.iconst (-1), 1) := by decide +kernel
theorem dX16_about_13 : decode cX16_about 13 = .ok (.ireturn, 1) := by decide +kernel
theorem dX16_covered_0 : decode cX16_covered 0 = .ok (.aload_n 0, 1) := by decide +kernel
theorem dX16_covered_1 : decode cX16_covered 1 = .ok (.iconst 0, 1) := by decide +kernel
theorem dX16_covered_2 : decode cX16_covered 2 = .ok (.putfield 2228, 3) := by decide +kernel
theorem dX16_covered_5 : decode cX16_covered 5 = .ok (.aload_n 0, 1) := by decide +kernel
theorem dX16_covered_6 : decode cX16_covered 6 = .ok (.getfield 2263, 3) := by decide +kernel
theorem dX16_covered_9 : decode cX16_covered 9 = .ok (.ifCond .eq 24, 3) := by decide +kernel
theorem dX16_covered_33 : decode cX16_covered 33 = .ok (.iconst (-1), 1) := by decide +kernel
theorem dX16_covered_34 : decode cX16_covered 34 = .ok (.ireturn, 1) := by decide +kernel
theorem dX16_result_0 : decode cX16_result 0 = .ok (.aload_n 0, 1) := by decide +kernel
theorem dX16_result_1 : decode cX16_result 1 = .ok (.iconst 0, 1) := by decide +kernel
theorem dX16_result_2 : decode cX16_result 2 = .ok (.putfield 2228, 3) := by decide +kernel
theorem dX16_result_5 : decode cX16_result 5 = .ok (.aload_n 0, 1) := by decide +kernel
theorem dX16_result_6 : decode cX16_result 6 = .ok (.getfield 2263, 3) := by decide +kernel
theorem dX16_result_9 : decode cX16_result 9 = .ok (.ifCond .eq 24, 3) := by decide +kernel
theorem dX16_result_33 : decode cX16_result 33 = .ok (.iconst (-1), 1) := by decide +kernel
theorem dX16_result_34 : decode cX16_result 34 = .ok (.ireturn, 1) := by decide +kernel
theorem dX16_document_0 : decode cX16_document 0 = .ok (.aload_n 0, 1) := by decide +kernel
theorem dX16_document_1 : decode cX16_document 1 = .ok (.iconst 0, 1) := by decide +kernel
theorem dX16_document_2 : decode cX16_document 2 = .ok (.putfield 2228, 3) := by decide +kernel
theorem dX16_document_5 : decode cX16_document 5 = .ok (.aload_n 0, 1) := by decide +kernel
theorem dX16_document_6 : decode cX16_document 6 = .ok (.getfield 2263, 3) := by decide +kernel
theorem dX16_document_9 : decode cX16_document 9 = .ok (.ifCond .eq 42, 3) := by decide +kernel
theorem dX16_document_51 : decode cX16_document 51 = .ok (.iconst (-1), 1) := by decide +kernel
theorem dX16_document_52 : decode cX16_document 52 = .ok (.ireturn, 1) := by decide +kernel
theorem dX16_output_0 : decode cX16_output 0 = .ok (.aload_n 0, 1) := by decide +kernel
theorem dX16_output_1 : decode cX16_output 1 = .ok (.iconst 0, 1) := by decide +kernel
theorem dX16_output_2 : decode cX16_output 2 = .ok (.putfield 2228, 3) := by decide +kernel
theorem dX16_output_5 : decode cX16_output 5 = .ok (.iload_n 1, 1) := by decide +kernel
theorem dX16_output_6 : decode cX16_output 6 = .ok (.ifCond .lt 24, 3) := by decide +kernel
theorem dX16_output_9 : decode cX16_output 9 = .ok (.iload_n 1, 1) := by decide +kernel
theorem dX16_output_10 : decode cX16_output 10 = .ok (.aload_n 0, 1) := by decide +kernel
theorem dX16_output_11 : decode cX16_output 11 = .ok (.getfield 2278, 3) := by decide +kernel
theorem dX16_output_14 : decode cX16_output 14 = .ok (.if_icmp .ge 16, 3) := by decide +kernel
theorem dX16_output_30 : decode cX16_output 30 = .ok (.iconst (-1), 1) := by decide +kernel
theorem dX16_output_31 : decode cX16_output 31 = .ok (.ireturn, 1) := by decide +kernel
theorem dX16_rule_0 : decode cX16_rule 0 = .ok (.aload_n 0, 1) := by decide +kernel
theorem dX16_rule_1 : decode cX16_rule 1 = .ok (.iconst 0, 1) := by decide +kernel
theorem dX16_rule_2 : decode cX16_rule 2 = .ok (.putfield 2228, 3) := by decide +kernel
theorem dX16_rule_5 : decode cX16_rule 5 = .ok (.aload_n 0, 1) := by decide +kernel
theorem dX16_rule_6 : decode cX16_rule 6 = .ok (.iconst 1, 1) := by decide +kernel
theorem dX16_rule_7 : decode cX16_rule 7 = .ok (.invokevirtual 2155, 3) := by decide +kernel
theorem dX16_rule_10 : decode cX16_rule 10 = .ok (.iload_n 1, 1) := by decide +kernel
theorem dX16_rule_11 : decode cX16_rule 11 = .ok (.ifCond .lt 11, 3) := by decide +kernel
theorem dX16_rule_14 : decode cX16_rule 14 = .ok (.iload_n 1, 1) := by decide +kernel
theorem dX16_rule_15 : decode cX16_rule 15 = .ok (.aload_n 0, 1) := by decide +kernel
theorem dX16_rule_16 : decode cX16_rule 16 = .ok (.getfield 623, 3) := by decide +kernel
theorem dX16_rule_19 : decode cX16_rule 19 = .ok (.if_icmp .lt 10, 3) := by decide +kernel
theorem dX16_rule_22 : decode cX16_rule 22 = .ok (.aload_n 0, 1) := by decide +kernel
theorem dX16_rule_23 : decode cX16_rule 23 = .ok (.iconst 1, 1) := by decide +kernel
theorem dX16_rule_24 : decode cX16_rule 24 = .ok (.putfield 2228, 3) := by decide +kernel
theorem dX16_rule_27 : decode cX16_rule 27 = .ok (.iconst 0, 1) := by decide +kernel
theorem dX16_rule_28 : decode cX16_rule 28 = .ok (.ireturn, 1) := by decide +kernel
theorem dX16_order_0 : decode cX16_order 0 = .ok (.aload_n 0, 1) := by decide +kernel
theorem dX16_order_1 : decode cX16_order 1 = .ok (.iconst 0, 1) := by decide +kernel
theorem dX16_order_2 : decode cX16_order 2 = .ok (.putfield 2228, 3) := by decide +kernel
theorem dX16_order_5 : decode cX16_order 5 = .ok (.aload_n 0, 1) := by decide +kernel
theorem dX16_order_6 : decode cX16_order 6 = .ok (.iload_n 1, 1) := by decide +kernel
theorem dX16_order_7 : decode cX16_order 7 = .ok (.invokevirtual 2248, 3) := by decide +kernel
theorem dX16_order_10 : decode cX16_order 10 = .ok (.ifCond .ne 5, 3) := by decide +kernel
theorem dX16_order_13 : decode cX16_order 13 = .ok (.iconst (-1), 1) := by decide +kernel
theorem dX16_order_14 : decode cX16_order 14 = .ok (.ireturn, 1) := by decide +kernel
theorem dX16_count_0 : decode cX16_count 0 = .ok (.aload_n 0, 1) := by decide +kernel
theorem dX16_count_1 : decode cX16_count 1 = .ok (.iconst 0, 1) := by decide +kernel
theorem dX16_count_2 : decode cX16_count 2 = .ok (.putfield 2228, 3) := by decide +kernel
theorem dX16_count_5 : decode cX16_count 5 = .ok (.iload_n 1, 1) := by decide +kernel
theorem dX16_count_6 : decode cX16_count 6 = .ok (.tableswitch 139 0 6 #[42, 49, 59, 93, 105, 129, 134], 42) := by decide +kernel
theorem dX16_count_48 : decode cX16_count 48 = .ok (.aload_n 0, 1) := by decide +kernel
theorem dX16_count_49 : decode cX16_count 49 = .ok (.getfield 2076, 3) := by decide +kernel
theorem dX16_count_52 : decode cX16_count 52 = .ok (.iconst 0, 1) := by decide +kernel
theorem dX16_count_53 : decode cX16_count 53 = .ok (.iaload, 1) := by decide +kernel
theorem dX16_count_54 : decode cX16_count 54 = .ok (.ireturn, 1) := by decide +kernel
theorem dX16_count_55 : decode cX16_count 55 = .ok (.aload_n 0, 1) := by decide +kernel
theorem dX16_count_56 : decode cX16_count 56 = .ok (.iconst 1, 1) := by decide +kernel
theorem dX16_count_57 : decode cX16_count 57 = .ok (.invokevirtual 2155, 3) := by decide +kernel
theorem dX16_count_60 : decode cX16_count 60 = .ok (.aload_n 0, 1) := by decide +kernel
theorem dX16_count_61 : decode cX16_count 61 = .ok (.getfield 623, 3) := by decide +kernel
theorem dX16_count_64 : decode cX16_count 64 = .ok (.ireturn, 1) := by decide +kernel
theorem dX16_count_65 : decode cX16_count 65 = .ok (.iconst 0, 1) := by decide +kernel
theorem dX16_count_66 : decode cX16_count 66 = .ok (.istore_n 2, 1) := by decide +kernel
theorem dX16_count_67 : decode cX16_count 67 = .ok (.iconst 0, 1) := by decide +kernel
theorem dX16_count_68 : decode cX16_count 68 = .ok (.istore_n 3, 1) := by decide +kernel
theorem dX16_count_69 : decode cX16_count 69 = .ok (.iload_n 3, 1) := by decide +kernel
theorem dX16_count_70 : decode cX16_count 70 = .ok (.iconst 4, 1) := by decide +kernel
theorem dX16_count_71 : decode cX16_count 71 = .ok (.if_icmp .ge 26, 3) := by decide +kernel
theorem dX16_count_74 : decode cX16_count 74 = .ok (.iload_n 2, 1) := by decide +kernel
theorem dX16_count_75 : decode cX16_count 75 = .ok (.aload_n 0, 1) := by decide +kernel
theorem dX16_count_76 : decode cX16_count 76 = .ok (.getfield 2198, 3) := by decide +kernel
theorem dX16_count_79 : decode cX16_count 79 = .ok (.iload_n 3, 1) := by decide +kernel
theorem dX16_count_80 : decode cX16_count 80 = .ok (.baload, 1) := by decide +kernel
theorem dX16_count_81 : decode cX16_count 81 = .ok (.ifCond .eq 7, 3) := by decide +kernel
theorem dX16_count_88 : decode cX16_count 88 = .ok (.iconst 0, 1) := by decide +kernel
theorem dX16_count_89 : decode cX16_count 89 = .ok (.iadd, 1) := by decide +kernel
theorem dX16_count_90 : decode cX16_count 90 = .ok (.istore_n 2, 1) := by decide +kernel
theorem dX16_count_91 : decode cX16_count 91 = .ok (.iinc 3 1, 3) := by decide +kernel
theorem dX16_count_94 : decode cX16_count 94 = .ok (.goto (-25), 3) := by decide +kernel
theorem dX16_count_97 : decode cX16_count 97 = .ok (.iload_n 2, 1) := by decide +kernel
theorem dX16_count_98 : decode cX16_count 98 = .ok (.ireturn, 1) := by decide +kernel
theorem dX16_count_99 : decode cX16_count 99 = .ok (.aload_n 0, 1) := by decide +kernel
theorem dX16_count_100 : decode cX16_count 100 = .ok (.getfield 2207, 3) := by decide +kernel
theorem dX16_count_103 : decode cX16_count 103 = .ok (.aload_n 0, 1) := by decide +kernel
theorem dX16_count_104 : decode cX16_count 104 = .ok (.getfield 2225, 3) := by decide +kernel
theorem dX16_count_107 : decode cX16_count 107 = .ok (.invokevirtual 991, 3) := by decide +kernel
theorem dX16_count_110 : decode cX16_count 110 = .ok (.ireturn, 1) := by decide +kernel
theorem dX16_count_111 : decode cX16_count 111 = .ok (.aload_n 0, 1) := by decide +kernel
theorem dX16_count_112 : decode cX16_count 112 = .ok (.getfield 2222, 3) := by decide +kernel
theorem dX16_count_115 : decode cX16_count 115 = .ok (.iconst (-1), 1) := by decide +kernel
theorem dX16_count_116 : decode cX16_count 116 = .ok (.if_icmp .ne 7, 3) := by decide +kernel
theorem dX16_count_119 : decode cX16_count 119 = .ok (.iconst 0, 1) := by decide +kernel
theorem dX16_count_120 : decode cX16_count 120 = .ok (.goto 14, 3) := by decide +kernel
theorem dX16_count_134 : decode cX16_count 134 = .ok (.ireturn, 1) := by decide +kernel
theorem dX16_count_135 : decode cX16_count 135 = .ok (.aload_n 0, 1) := by decide +kernel
theorem dX16_count_136 : decode cX16_count 136 = .ok (.getfield 2231, 3) := by decide +kernel
theorem dX16_count_139 : decode cX16_count 139 = .ok (.ireturn, 1) := by decide +kernel
theorem dX16_count_140 : decode cX16_count 140 = .ok (.aload_n 0, 1) := by decide +kernel
theorem dX16_count_141 : decode cX16_count 141 = .ok (.getfield 2278, 3) := by decide +kernel
theorem dX16_count_144 : decode cX16_count 144 = .ok (.ireturn, 1) := by decide +kernel
theorem dX16_count_145 : decode cX16_count 145 = .ok (.iconst (-1), 1) := by decide +kernel
