theorem dX13_module_28 : decode cX13_module 28 = .ok (.isub, 1) := by decide +kernel
theorem dX13_module_29 : decode cX13_module 29 = .ok (.ireturn, 1) := by decide +kernel
theorem dX13_drop_0 : decode cX13_drop 0 = .ok (.aload_n 0, 1) := by decide +kernel
theorem dX13_drop_1 : decode cX13_drop 1 = .ok (.getfield 83, 3) := by decide +kernel
theorem dX13_drop_4 : decode cX13_drop 4 = .ok (.istore_n 1, 1) := by decide +kernel
theorem dX13_drop_5 : decode cX13_drop 5 = .ok (.aload_n 0, 1) := by decide +kernel
theorem dX13_drop_6 : decode cX13_drop 6 = .ok (.iconst 0, 1) := by decide +kernel
theorem dX13_drop_7 : decode cX13_drop 7 = .ok (.putfield 83, 3) := by decide +kernel
theorem dX13_drop_10 : decode cX13_drop 10 = .ok (.aload_n 0, 1) := by decide +kernel
theorem dX13_drop_11 : decode cX13_drop 11 = .ok (.aconst_null, 1) := by decide +kernel
theorem dX13_drop_12 : decode cX13_drop 12 = .ok (.putfield 86, 3) := by decide +kernel
theorem dX13_drop_15 : decode cX13_drop 15 = .ok (.iload_n 1, 1) := by decide +kernel
theorem dX13_drop_16 : decode cX13_drop 16 = .ok (.ireturn, 1) := by decide +kernel
theorem dX13_bundleOfDraft_7 : decode cX13_bundleOfDraft 7 = .ok (.aload_n 0, 1) := by decide +kernel
theorem dX13_bundleOfDraft_8 : decode cX13_bundleOfDraft 8 = .ok (.getfield 86, 3) := by decide +kernel
theorem dX13_bundleOfDraft_11 : decode cX13_bundleOfDraft 11 = .ok (.areturn, 1) := by decide +kernel
theorem dX13_find_0 : decode cX13_find 0 = .ok (.aload_n 0, 1) := by decide +kernel
theorem dX13_find_1 : decode cX13_find 1 = .ok (.getfield 96, 3) := by decide +kernel
theorem dX13_find_4 : decode cX13_find 4 = .ok (.iconst 0, 1) := by decide +kernel
theorem dX13_find_5 : decode cX13_find 5 = .ok (.iload_n 1, 1) := by decide +kernel
theorem dX13_find_6 : decode cX13_find 6 = .ok (.iastore, 1) := by decide +kernel
theorem dX13_find_7 : decode cX13_find 7 = .ok (.aload_n 0, 1) := by decide +kernel
theorem dX13_find_8 : decode cX13_find 8 = .ok (.getfield 96, 3) := by decide +kernel
theorem dX13_find_11 : decode cX13_find 11 = .ok (.iconst 1, 1) := by decide +kernel
theorem dX13_find_12 : decode cX13_find 12 = .ok (.iload_n 1, 1) := by decide +kernel
theorem dX13_find_13 : decode cX13_find 13 = .ok (.ifCond .ne 7, 3) := by decide +kernel
theorem dX13_find_16 : decode cX13_find 16 = .ok (.iconst (-1), 1) := by decide +kernel
theorem dX13_find_17 : decode cX13_find 17 = .ok (.goto 4, 3) := by decide +kernel
theorem dX13_find_21 : decode cX13_find 21 = .ok (.iastore, 1) := by decide +kernel
theorem dX13_find_22 : decode cX13_find 22 = .ok (.aload_n 0, 1) := by decide +kernel
theorem dX13_find_23 : decode cX13_find 23 = .ok (.getfield 96, 3) := by decide +kernel
theorem dX13_find_26 : decode cX13_find 26 = .ok (.iconst 2, 1) := by decide +kernel
theorem dX13_find_27 : decode cX13_find 27 = .ok (.iload_n 1, 1) := by decide +kernel
theorem dX13_find_28 : decode cX13_find 28 = .ok (.ifCond .ne 7, 3) := by decide +kernel
theorem dX13_find_31 : decode cX13_find 31 = .ok (.iconst (-1), 1) := by decide +kernel
theorem dX13_find_32 : decode cX13_find 32 = .ok (.goto 4, 3) := by decide +kernel
theorem dX13_find_36 : decode cX13_find 36 = .ok (.iastore, 1) := by decide +kernel
theorem dX13_find_37 : decode cX13_find 37 = .ok (.iload_n 1, 1) := by decide +kernel
theorem dX13_find_38 : decode cX13_find 38 = .ok (.ireturn, 1) := by decide +kernel
theorem dX13_check_0 : decode cX13_check 0 = .ok (.aload_n 0, 1) := by decide +kernel
theorem dX13_check_1 : decode cX13_check 1 = .ok (.invokevirtual 148, 3) := by decide +kernel
theorem dX13_check_4 : decode cX13_check 4 = .ok (.astore_n 1, 1) := by decide +kernel
theorem dX13_check_5 : decode cX13_check 5 = .ok (.aload_n 0, 1) := by decide +kernel
theorem dX13_check_6 : decode cX13_check 6 = .ok (.aload_n 1, 1) := by decide +kernel
theorem dX13_check_7 : decode cX13_check 7 = .ok (.getfield 176, 3) := by decide +kernel
theorem dX13_check_10 : decode cX13_check 10 = .ok (.aload_n 1, 1) := by decide +kernel
theorem dX13_check_11 : decode cX13_check 11 = .ok (.getfield 188, 3) := by decide +kernel
theorem dX13_check_14 : decode cX13_check 14 = .ok (.aload_n 1, 1) := by decide +kernel
theorem dX13_check_15 : decode cX13_check 15 = .ok (.getfield 191, 3) := by decide +kernel
theorem dX13_check_18 : decode cX13_check 18 = .ok (.invokevirtual 194, 3) := by decide +kernel
theorem dX13_check_21 : decode cX13_check 21 = .ok (.ireturn, 1) := by decide +kernel
theorem dX13_activate_0 : decode cX13_activate 0 = .ok (.aload_n 0, 1) := by decide +kernel
theorem dX13_activate_1 : decode cX13_activate 1 = .ok (.invokevirtual 148, 3) := by decide +kernel
theorem dX13_activate_4 : decode cX13_activate 4 = .ok (.astore_n 1, 1) := by decide +kernel
theorem dX13_activate_5 : decode cX13_activate 5 = .ok (.aload_n 0, 1) := by decide +kernel
theorem dX13_activate_6 : decode cX13_activate 6 = .ok (.aload_n 1, 1) := by decide +kernel
theorem dX13_activate_7 : decode cX13_activate 7 = .ok (.getfield 176, 3) := by decide +kernel
theorem dX13_activate_10 : decode cX13_activate 10 = .ok (.aload_n 1, 1) := by decide +kernel
theorem dX13_activate_11 : decode cX13_activate 11 = .ok (.getfield 188, 3) := by decide +kernel
theorem dX13_activate_14 : decode cX13_activate 14 = .ok (.aload_n 1, 1) := by decide +kernel
theorem dX13_activate_15 : decode cX13_activate 15 = .ok (.getfield 191, 3) := by decide +kernel
theorem dX13_activate_18 : decode cX13_activate 18 = .ok (.invokevirtual 194, 3) := by decide +kernel
theorem dX13_activate_21 : decode cX13_activate 21 = .ok (.ifCond .eq 9, 3) := by decide +kernel
theorem dX13_activate_30 : decode cX13_activate 30 = .ok (.aload_n 0, 1) := by decide +kernel
theorem dX13_activate_31 : decode cX13_activate 31 = .ok (.aload_n 1, 1) := by decide +kernel
theorem dX13_activate_32 : decode cX13_activate 32 = .ok (.putfield 152, 3) := by decide +kernel
theorem dX13_activate_35 : decode cX13_activate 35 = .ok (.aload_n 1, 1) := by decide +kernel
theorem dX13_activate_36 : decode cX13_activate 36 = .ok (.getfield 198, 3) := by decide +kernel
theorem dX13_activate_39 : decode cX13_activate 39 = .ok (.ireturn, 1) := by decide +kernel
theorem dX13_fault_0 : decode cX13_fault 0 = .ok (.iload_n 1, 1) := by decide +kernel
theorem dX13_fault_1 : decode cX13_fault 1 = .ok (.ifCond .lt 8, 3) := by decide +kernel
theorem dX13_fault_4 : decode cX13_fault 4 = .ok (.iload_n 1, 1) := by decide +kernel
theorem dX13_fault_5 : decode cX13_fault 5 = .ok (.iconst 2, 1) := by decide +kernel
theorem dX13_fault_6 : decode cX13_fault 6 = .ok (.if_icmp .le 7, 3) := by decide +kernel
theorem dX13_fault_9 : decode cX13_fault 9 = .ok (.iconst (-1), 1) := by decide +kernel
theorem dX13_fault_10 : decode cX13_fault 10 = .ok (.goto 9, 3) := by decide +kernel
theorem dX13_fault_13 : decode cX13_fault 13 = .ok (.aload_n 0, 1) := by decide +kernel
theorem dX13_fault_14 : decode cX13_fault 14 = .ok (.getfield 96, 3) := by decide +kernel
theorem dX13_fault_17 : decode cX13_fault 17 = .ok (.iload_n 1, 1) := by decide +kernel
theorem dX13_fault_18 : decode cX13_fault 18 = .ok (.iaload, 1) := by decide +kernel
theorem dX13_fault_19 : decode cX13_fault 19 = .ok (.ireturn, 1) := by decide +kernel
theorem dX13_data_0 : decode cX13_data 0 = .ok (.aload_n 0, 1) := by decide +kernel
theorem dX13_data_1 : decode cX13_data 1 = .ok (.getfield 10, 3) := by decide +kernel
theorem dX13_data_4 : decode cX13_data 4 = .ok (.getfield 207, 3) := by decide +kernel
theorem dX13_data_7 : decode cX13_data 7 = .ok (.istore_n 1, 1) := by decide +kernel
theorem dX13_data_8 : decode cX13_data 8 = .ok (.aload_n 0, 1) := by decide +kernel
theorem dX13_data_9 : decode cX13_data 9 = .ok (.getfield 21, 3) := by decide +kernel
theorem dX13_data_12 : decode cX13_data 12 = .ok (.aload_n 0, 1) := by decide +kernel
theorem dX13_data_13 : decode cX13_data 13 = .ok (.getfield 66, 3) := by decide +kernel
theorem dX13_data_16 : decode cX13_data 16 = .ok (.iconst 0, 1) := by decide +kernel
theorem dX13_data_17 : decode cX13_data 17 = .ok (.aload_n 0, 1) := by decide +kernel
theorem dX13_data_18 : decode cX13_data 18 = .ok (.invokevirtual 158, 3) := by decide +kernel
theorem dX13_data_21 : decode cX13_data 21 = .ok (.invokevirtual 210, 3) := by decide +kernel
theorem dX13_data_24 : decode cX13_data 24 = .ok (.istore_n 2, 1) := by decide +kernel
theorem dX13_data_25 : decode cX13_data 25 = .ok (.aload_n 0, 1) := by decide +kernel
theorem dX13_data_26 : decode cX13_data 26 = .ok (.getfield 10, 3) := by decide +kernel
theorem dX13_data_29 : decode cX13_data 29 = .ok (.iload_n 1, 1) := by decide +kernel
theorem dX13_data_30 : decode cX13_data 30 = .ok (.putfield 207, 3) := by decide +kernel
theorem dX13_data_33 : decode cX13_data 33 = .ok (.iload_n 2, 1) := by decide +kernel
theorem dX13_data_34 : decode cX13_data 34 = .ok (.ifCond .gt 15, 3) := by decide +kernel
theorem dX13_data_37 : decode cX13_data 37 = .ok (.iconst (-1), 1) := by decide +kernel
theorem dX13_data_38 : decode cX13_data 38 = .ok (.aload_n 0, 1) := by decide +kernel
theorem dX13_data_39 : decode cX13_data 39 = .ok (.getfield 21, 3) := by decide +kernel
theorem dX13_data_42 : decode cX13_data 42 = .ok (.getfield 214, 3) := by decide +kernel
theorem dX13_data_45 : decode cX13_data 45 = .ok (.isub, 1) := by decide +kernel
theorem dX13_data_46 : decode cX13_data 46 = .ok (.goto 8, 3) := by decide +kernel
theorem dX13_data_54 : decode cX13_data 54 = .ok (.ireturn, 1) := by decide +kernel
theorem dX13_patch_0 : decode cX13_patch 0 = .ok (.aload_n 0, 1) := by decide +kernel
theorem dX13_patch_1 : decode cX13_patch 1 = .ok (.getfield 10, 3) := by decide +kernel
theorem dX13_patch_4 : decode cX13_patch 4 = .ok (.getfield 207, 3) := by decide +kernel
theorem dX13_patch_7 : decode cX13_patch 7 = .ok (.istore_n 1, 1) := by decide +kernel
theorem dX13_patch_8 : decode cX13_patch 8 = .ok (.aload_n 0, 1) := by decide +kernel
theorem dX13_patch_9 : decode cX13_patch 9 = .ok (.getfield 21, 3) := by decide +kernel
theorem dX13_patch_12 : decode cX13_patch 12 = .ok (.aload_n 0, 1) := by decide +kernel
theorem dX13_patch_13 : decode cX13_patch 13 = .ok (.getfield 66, 3) := by decide +kernel
theorem dX13_patch_16 : decode cX13_patch 16 = .ok (.iconst 0, 1) := by decide +kernel
theorem dX13_patch_17 : decode cX13_patch 17 = .ok (.aload_n 0, 1) := by decide +kernel
theorem dX13_patch_18 : decode cX13_patch 18 = .ok (.invokevirtual 158, 3) := by decide +kernel
theorem dX13_patch_21 : decode cX13_patch 21 = .ok (.invokevirtual 210, 3) := by decide +kernel
theorem dX13_patch_24 : decode cX13_patch 24 = .ok (.istore_n 2, 1) := by decide +kernel
theorem dX13_patch_25 : decode cX13_patch 25 = .ok (.iconst 0, 1) := by decide +kernel
theorem dX13_patch_26 : decode cX13_patch 26 = .ok (.istore_n 3, 1) := by decide +kernel
theorem dX13_patch_27 : decode cX13_patch 27 = .ok (.iload_n 2, 1) := by decide +kernel
theorem dX13_patch_28 : decode cX13_patch 28 = .ok (.ifCond .le 32, 3) := by decide +kernel
theorem dX13_patch_60 : decode cX13_patch 60 = .ok (.aload_n 0, 1) := by decide +kernel
theorem dX13_patch_61 : decode cX13_patch 61 = .ok (.getfield 10, 3) := by decide +kernel
theorem dX13_patch_64 : decode cX13_patch 64 = .ok (.iload_n 1, 1) := by decide +kernel
theorem dX13_patch_65 : decode cX13_patch 65 = .ok (.putfield 207, 3) := by decide +kernel
theorem dX13_patch_68 : decode cX13_patch 68 = .ok (.iload_n 2, 1) := by decide +kernel
theorem dX13_patch_69 : decode cX13_patch 69 = .ok (.ifCond .gt 13, 3) := by decide +kernel
theorem dX13_patch_72 : decode cX13_patch 72 = .ok (.iconst (-1), 1) := by decide +kernel
theorem dX13_patch_73 : decode cX13_patch 73 = .ok (.aload_n 0, 1) := by decide +kernel
theorem dX13_patch_74 : decode cX13_patch 74 = .ok (.getfield 21, 3) := by decide +kernel
theorem dX13_patch_77 : decode cX13_patch 77 = .ok (.getfield 214, 3) := by decide +kernel
theorem dX13_patch_80 : decode cX13_patch 80 = .ok (.isub, 1) := by decide +kernel
theorem dX13_patch_81 : decode cX13_patch 81 = .ok (.ireturn, 1) := by decide +kernel
theorem dX13_input_0 : decode cX13_input 0 = .ok (.aload_n 0, 1) := by decide +kernel
theorem dX13_input_1 : decode cX13_input 1 = .ok (.getfield 70, 3) := by decide +kernel
theorem dX13_input_4 : decode cX13_input 4 = .ok (.ifCond .ne 10, 3) := by decide +kernel
theorem dX13_input_7 : decode cX13_input 7 = .ok (.aload_n 0, 1) := by decide +kernel
theorem dX13_input_8 : decode cX13_input 8 = .ok (.iconst 0, 1) := by decide +kernel
theorem dX13_input_9 : decode cX13_input 9 = .ok (.putfield 99, 3) := by decide +kernel
theorem dX13_input_12 : decode cX13_input 12 = .ok (.iconst 0, 1) := by decide +kernel
theorem dX13_input_13 : decode cX13_input 13 = .ok (.ireturn, 1) := by decide +kernel
theorem dX13_prepare_0 : decode cX13_prepare 0 = .ok (.aload_n 0, 1) := by decide +kernel
theorem dX13_prepare_1 : decode cX13_prepare 1 = .ok (.getfield 37, 3) := by decide +kernel
theorem dX13_prepare_4 : decode cX13_prepare 4 = .ok (.aload_n 0, 1) := by decide +kernel
theorem dX13_prepare_5 : decode cX13_prepare 5 = .ok (.getfield 66, 3) := by decide +kernel
theorem dX13_prepare_8 : decode cX13_prepare 8 = .ok (.aload_n 0, 1) := by decide +kernel
theorem dX13_prepare_9 : decode cX13_prepare 9 = .ok (.invokevirtual 158, 3) := by decide +kernel
theorem dX13_prepare_12 : decode cX13_prepare 12 = .ok (.invokevirtual 245, 3) := by decide +kernel
theorem dX13_prepare_15 : decode cX13_prepare 15 = .ok (.astore_n 1, 1) := by decide +kernel
theorem dX13_prepare_16 : decode cX13_prepare 16 = .ok (.aload_n 1, 1) := by decide +kernel
theorem dX13_prepare_17 : decode cX13_prepare 17 = .ok (.ifnonnull 13, 3) := by decide +kernel
theorem dX13_prepare_20 : decode cX13_prepare 20 = .ok (.iconst (-1), 1) := by decide +kernel
theorem dX13_prepare_21 : decode cX13_prepare 21 = .ok (.aload_n 0, 1) := by decide +kernel
theorem dX13_prepare_22 : decode cX13_prepare 22 = .ok (.getfield 37, 3) := by decide +kernel
theorem dX13_prepare_25 : decode cX13_prepare 25 = .ok (.getfield 166, 3) := by decide +kernel
theorem dX13_prepare_28 : decode cX13_prepare 28 = .ok (.isub, 1) := by decide +kernel
theorem dX13_prepare_29 : decode cX13_prepare 29 = .ok (.ireturn, 1) := by decide +kernel
theorem dX13_query_0 : decode cX13_query 0 = .ok (.iload_n 1, 1) := by decide +kernel
theorem dX13_query_1 : decode cX13_query 1 = .ok (.ifCond .lt 8, 3) := by decide +kernel
theorem dX13_query_4 : decode cX13_query 4 = .ok (.iload_n 1, 1) := by decide +kernel
theorem dX13_query_5 : decode cX13_query 5 = .ok (.iconst 4, 1) := by decide +kernel
theorem dX13_query_6 : decode cX13_query 6 = .ok (.if_icmp .lt 7, 3) := by decide +kernel
theorem dX13_query_9 : decode cX13_query 9 = .ok (.aconst_null, 1) := by decide +kernel
theorem dX13_query_10 : decode cX13_query 10 = .ok (.goto 9, 3) := by decide +kernel
theorem dX13_query_13 : decode cX13_query 13 = .ok (.aload_n 0, 1) := by decide +kernel
theorem dX13_query_14 : decode cX13_query 14 = .ok (.getfield 92, 3) := by decide +kernel
theorem dX13_query_17 : decode cX13_query 17 = .ok (.iload_n 1, 1) := by decide +kernel
theorem dX13_query_18 : decode cX13_query 18 = .ok (.aaload, 1) := by decide +kernel
theorem dX13_query_19 : decode cX13_query 19 = .ok (.areturn, 1) := by decide +kernel
theorem dX13_renew_0 : decode cX13_renew 0 = .ok (.aload_n 0, 1) := by decide +kernel
theorem dX13_renew_1 : decode cX13_renew 1 = .ok (.iload_n 1, 1) := by decide +kernel
theorem dX13_renew_2 : decode cX13_renew 2 = .ok (.invokevirtual 291, 3) := by decide +kernel
theorem dX13_renew_5 : decode cX13_renew 5 = .ok (.astore_n 2, 1) := by decide +kernel
theorem dX13_renew_6 : decode cX13_renew 6 = .ok (.aload_n 2, 1) := by decide +kernel
theorem dX13_renew_7 : decode cX13_renew 7 = .ok (.ifnonnull 5, 3) := by decide +kernel
theorem dX13_renew_10 : decode cX13_renew 10 = .ok (.iconst (-1), 1) := by decide +kernel
theorem dX13_renew_11 : decode cX13_renew 11 = .ok (.ireturn, 1) := by decide +kernel
theorem dX13_release_0 : decode cX13_release 0 = .ok (.aload_n 0, 1) := by decide +kernel
theorem dX13_release_1 : decode cX13_release 1 = .ok (.iload_n 1, 1) := by decide +kernel
theorem dX13_release_2 : decode cX13_release 2 = .ok (.invokevirtual 291, 3) := by decide +kernel
theorem dX13_release_5 : decode cX13_release 5 = .ok (.ifnonnull 5, 3) := by decide +kernel
theorem dX13_release_8 : decode cX13_release 8 = .ok (.iconst 0, 1) := by decide +kernel
theorem dX13_release_9 : decode cX13_release 9 = .ok (.ireturn, 1) := by decide +kernel
theorem dX13_run_0 : decode cX13_run 0 = .ok (.aload_n 0, 1) := by decide +kernel
theorem dX13_run_1 : decode cX13_run 1 = .ok (.iload_n 1, 1) := by decide +kernel
theorem dX13_run_2 : decode cX13_run 2 = .ok (.invokevirtual 291, 3) := by decide +kernel
theorem dX13_run_5 : decode cX13_run 5 = .ok (.astore_n 3, 1) := by decide +kernel
theorem dX13_run_6 : decode cX13_run 6 = .ok (.aload_n 3, 1) := by decide +kernel
theorem dX13_run_7 : decode cX13_run 7 = .ok (.ifnonnull 5, 3) := by decide +kernel
theorem dX13_run_10 : decode cX13_run 10 = .ok (.iconst (-1), 1) := by decide +kernel
theorem dX13_run_11 : decode cX13_run 11 = .ok (.ireturn, 1) := by decide +kernel
theorem dX13_hasRun_0 : decode cX13_hasRun 0 = .ok (.aload_n 0, 1) := by decide +kernel
theorem dX13_hasRun_1 : decode cX13_hasRun 1 = .ok (.getfield 128, 3) := by decide +kernel
theorem dX13_hasRun_4 : decode cX13_hasRun 4 = .ok (.getfield 306, 3) := by decide +kernel
theorem dX13_hasRun_7 : decode cX13_hasRun 7 = .ok (.ifnull 7, 3) := by decide +kernel
theorem dX13_hasRun_14 : decode cX13_hasRun 14 = .ok (.iconst 0, 1) := by decide +kernel
theorem dX13_hasRun_15 : decode cX13_hasRun 15 = .ok (.ireturn, 1) := by decide +kernel
theorem dX13_hasRunOut_0 : decode cX13_hasRunOut 0 = .ok (.aload_n 0, 1) := by decide +kernel
theorem dX13_hasRunOut_1 : decode cX13_hasRunOut 1 = .ok (.getfield 128, 3) := by decide +kernel
theorem dX13_hasRunOut_4 : decode cX13_hasRunOut 4 = .ok (.getfield 306, 3) := by decide +kernel
theorem dX13_hasRunOut_7 : decode cX13_hasRunOut 7 = .ok (.ifnull 17, 3) := by decide +kernel
theorem dX13_hasRunOut_24 : decode cX13_hasRunOut 24 = .ok (.iconst 0, 1) := by decide +kernel
theorem dX13_hasRunOut_25 : decode cX13_hasRunOut 25 = .ok (.ireturn, 1) := by decide +kernel
theorem dX13_about_0 : decode cX13_about 0 = .ok (.aload_n 0, 1) := by decide +kernel
theorem dX13_about_1 : decode cX13_about 1 = .ok (.invokevirtual 311, 3) := by decide +kernel
theorem dX13_about_4 : decode cX13_about 4 = .ok (.ifCond .ne 5, 3) := by decide +kernel
theorem dX13_about_7 : decode cX13_about 7 = .ok (.iconst (-1), 1) := by decide +kernel
theorem dX13_about_8 : decode cX13_about 8 = .ok (.ireturn, 1) := by decide +kernel
theorem dX13_covered_0 : decode cX13_covered 0 = .ok (.aload_n 0, 1) := by decide +kernel
theorem dX13_covered_1 : decode cX13_covered 1 = .ok (.invokevirtual 324, 3) := by decide +kernel
theorem dX13_covered_4 : decode cX13_covered 4 = .ok (.ifCond .eq 22, 3) := by decide +kernel
theorem dX13_covered_26 : decode cX13_covered 26 = .ok (.iconst (-1), 1) := by decide +kernel
theorem dX13_covered_27 : decode cX13_covered 27 = .ok (.ireturn, 1) := by decide +kernel
theorem dX13_result_0 : decode cX13_result 0 = .ok (.aload_n 0, 1) := by decide +kernel
theorem dX13_result_1 : decode cX13_result 1 = .ok (.invokevirtual 311, 3) := by decide +kernel
theorem dX13_result_4 : decode cX13_result 4 = .ok (.ifCond .eq 22, 3) := by decide +kernel
theorem dX13_result_26 : decode cX13_result 26 = .ok (.iconst (-1), 1) := by decide +kernel
theorem dX13_result_27 : decode cX13_result 27 = .ok (.ireturn, 1) := by decide +kernel
theorem dX13_document_0 : decode cX13_document 0 = .ok (.aload_n 0, 1) := by decide +kernel
theorem dX13_document_1 : decode cX13_document 1 = .ok (.invokevirtual 324, 3) := by decide +kernel
theorem dX13_document_4 : decode cX13_document 4 = .ok (.ifCond .eq 21, 3) := by decide +kernel
theorem dX13_document_25 : decode cX13_document 25 = .ok (.iconst (-1), 1) := by decide +kernel
theorem dX13_document_26 : decode cX13_document 26 = .ok (.ireturn, 1) := by decide +kernel
theorem dX13_output_0 : decode cX13_output 0 = .ok (.iload_n 1, 1) := by decide +kernel
theorem dX13_output_1 : decode cX13_output 1 = .ok (.ifCond .lt 11, 3) := by decide +kernel
theorem dX13_output_4 : decode cX13_output 4 = .ok (.iload_n 1, 1) := by decide +kernel
theorem dX13_output_5 : decode cX13_output 5 = .ok (.aload_n 0, 1) := by decide +kernel
theorem dX13_output_6 : decode cX13_output 6 = .ok (.getfield 112, 3) := by decide +kernel
theorem dX13_output_9 : decode cX13_output 9 = .ok (.if_icmp .lt 7, 3) := by decide +kernel
theorem dX13_output_12 : decode cX13_output 12 = .ok (.iconst (-1), 1) := by decide +kernel
theorem dX13_output_13 : decode cX13_output 13 = .ok (.goto 24, 3) := by decide +kernel
theorem dX13_output_37 : decode cX13_output 37 = .ok (.ireturn, 1) := by decide +kernel
theorem dX13_rule_0 : decode cX13_rule 0 = .ok (.iload_n 1, 1) := by decide +kernel
theorem dX13_rule_1 : decode cX13_rule 1 = .ok (.ifCond .lt 14, 3) := by decide +kernel
theorem dX13_rule_4 : decode cX13_rule 4 = .ok (.iload_n 1, 1) := by decide +kernel
theorem dX13_rule_5 : decode cX13_rule 5 = .ok (.aload_n 0, 1) := by decide +kernel
theorem dX13_rule_6 : decode cX13_rule 6 = .ok (.getfield 152, 3) := by decide +kernel
theorem dX13_rule_9 : decode cX13_rule 9 = .ok (.getfield 198, 3) := by decide +kernel
theorem dX13_rule_12 : decode cX13_rule 12 = .ok (.if_icmp .lt 14, 3) := by decide +kernel
theorem dX13_rule_15 : decode cX13_rule 15 = .ok (.new 367, 3) := by decide +kernel
theorem dX13_rule_18 : decode cX13_rule 18 = .ok (.dup, 1) := by decide +kernel
theorem dX13_rule_19 : decode cX13_rule 19 = .ok (.ldc_w 369, 3) := by decide +kernel
theorem dX13_rule_22 : decode cX13_rule 22 = .ok (.invokespecial 371, 3) := by decide +kernel
theorem dX13_rule_25 : decode cX13_rule 25 = .ok (.athrow, 1) := by decide +kernel
theorem dX13_order_0 : decode cX13_order 0 = .ok (.aload_n 0, 1) := by decide +kernel
theorem dX13_order_1 : decode cX13_order 1 = .ok (.iload_n 1, 1) := by decide +kernel
theorem dX13_order_2 : decode cX13_order 2 = .ok (.invokevirtual 291, 3) := by decide +kernel
