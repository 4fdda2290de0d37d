abbrev y_X5_mappingOf : MethodName := ⟨"VirtualRewrite$Rewriting", "mappingOf", "(II)LVirtualRewrite$Mapping;"⟩
theorem d_X5_mappingOf_0 : decode prog_7_method_3_code 0 = .ok (.aload_n 0, 1) := by decide +kernel
theorem d_X5_mappingOf_1 : decode prog_7_method_3_code 1 = .ok (.getfield 32, 3) := by decide +kernel
theorem d_X5_mappingOf_4 : decode prog_7_method_3_code 4 = .ok (.getfield 40, 3) := by decide +kernel
theorem d_X5_mappingOf_7 : decode prog_7_method_3_code 7 = .ok (.aload_n 0, 1) := by decide +kernel
theorem d_X5_mappingOf_8 : decode prog_7_method_3_code 8 = .ok (.iload_n 1, 1) := by decide +kernel
theorem d_X5_mappingOf_9 : decode prog_7_method_3_code 9 = .ok (.iload_n 2, 1) := by decide +kernel
theorem d_X5_mappingOf_10 : decode prog_7_method_3_code 10 = .ok (.invokevirtual 46, 3) := by decide +kernel
theorem d_X5_mappingOf_13 : decode prog_7_method_3_code 13 = .ok (.aaload, 1) := by decide +kernel
theorem d_X5_mappingOf_14 : decode prog_7_method_3_code 14 = .ok (.areturn, 1) := by decide +kernel
abbrev y_X0_estimate : MethodName := ⟨"VirtualRewrite", "estimate", "(I)I"⟩
theorem d_X0_estimate_0 : decode prog_1_method_12_code 0 = .ok (.aload_n 0, 1) := by decide +kernel
theorem d_X0_estimate_1 : decode prog_1_method_12_code 1 = .ok (.iload_n 1, 1) := by decide +kernel
theorem d_X0_estimate_2 : decode prog_1_method_12_code 2 = .ok (.invokevirtual 140, 3) := by decide +kernel
theorem d_X0_estimate_5 : decode prog_1_method_12_code 5 = .ok (.istore_n 2, 1) := by decide +kernel
theorem d_X0_estimate_6 : decode prog_1_method_12_code 6 = .ok (.iload_n 2, 1) := by decide +kernel
theorem d_X0_estimate_7 : decode prog_1_method_12_code 7 = .ok (.ifCond .eq 5, 3) := by decide +kernel
theorem d_X0_estimate_10 : decode prog_1_method_12_code 10 = .ok (.iload_n 2, 1) := by decide +kernel
theorem d_X0_estimate_11 : decode prog_1_method_12_code 11 = .ok (.ireturn, 1) := by decide +kernel
theorem d_X0_estimate_12 : decode prog_1_method_12_code 12 = .ok (.aload_n 0, 1) := by decide +kernel
theorem d_X0_estimate_13 : decode prog_1_method_12_code 13 = .ok (.getfield 37, 3) := by decide +kernel
theorem d_X0_estimate_16 : decode prog_1_method_12_code 16 = .ok (.iload_n 1, 1) := by decide +kernel
theorem d_X0_estimate_17 : decode prog_1_method_12_code 17 = .ok (.invokevirtual 148, 3) := by decide +kernel
theorem d_X0_estimate_20 : decode prog_1_method_12_code 20 = .ok (.aload_n 0, 1) := by decide +kernel
theorem d_X0_estimate_21 : decode prog_1_method_12_code 21 = .ok (.getfield 37, 3) := by decide +kernel
theorem d_X0_estimate_24 : decode prog_1_method_12_code 24 = .ok (.iload_n 1, 1) := by decide +kernel
theorem d_X0_estimate_25 : decode prog_1_method_12_code 25 = .ok (.invokevirtual 158, 3) := by decide +kernel
theorem d_X0_estimate_28 : decode prog_1_method_12_code 28 = .ok (.ireturn, 1) := by decide +kernel
abbrev y_X6_productOfRows : MethodName := ⟨"VirtualRewrite$Slots", "productOfRows", "(I)I"⟩
theorem d_X6_productOfRows_0 : decode prog_8_method_5_code 0 = .ok (.iconst 1, 1) := by decide +kernel
theorem d_X6_productOfRows_1 : decode prog_8_method_5_code 1 = .ok (.istore_n 2, 1) := by decide +kernel
theorem d_X6_productOfRows_2 : decode prog_8_method_5_code 2 = .ok (.iconst 0, 1) := by decide +kernel
theorem d_X6_productOfRows_3 : decode prog_8_method_5_code 3 = .ok (.istore_n 3, 1) := by decide +kernel
theorem d_X6_productOfRows_4 : decode prog_8_method_5_code 4 = .ok (.iconst 0, 1) := by decide +kernel
theorem d_X6_productOfRows_5 : decode prog_8_method_5_code 5 = .ok (.istore 4, 2) := by decide +kernel
theorem d_X6_productOfRows_7 : decode prog_8_method_5_code 7 = .ok (.iload 4, 2) := by decide +kernel
theorem d_X6_productOfRows_9 : decode prog_8_method_5_code 9 = .ok (.aload_n 0, 1) := by decide +kernel
theorem d_X6_productOfRows_10 : decode prog_8_method_5_code 10 = .ok (.getfield 23, 3) := by decide +kernel
theorem d_X6_productOfRows_13 : decode prog_8_method_5_code 13 = .ok (.getfield 31, 3) := by decide +kernel
theorem d_X6_productOfRows_16 : decode prog_8_method_5_code 16 = .ok (.if_icmp .ge 39, 3) := by decide +kernel
theorem d_X6_productOfRows_19 : decode prog_8_method_5_code 19 = .ok (.aload_n 0, 1) := by decide +kernel
theorem d_X6_productOfRows_20 : decode prog_8_method_5_code 20 = .ok (.getfield 9, 3) := by decide +kernel
theorem d_X6_productOfRows_23 : decode prog_8_method_5_code 23 = .ok (.iload 4, 2) := by decide +kernel
theorem d_X6_productOfRows_25 : decode prog_8_method_5_code 25 = .ok (.iaload, 1) := by decide +kernel
theorem d_X6_productOfRows_26 : decode prog_8_method_5_code 26 = .ok (.iload_n 3, 1) := by decide +kernel
theorem d_X6_productOfRows_27 : decode prog_8_method_5_code 27 = .ok (.if_icmp .ne 22, 3) := by decide +kernel
theorem d_X6_productOfRows_30 : decode prog_8_method_5_code 30 = .ok (.iload_n 2, 1) := by decide +kernel
theorem d_X6_productOfRows_31 : decode prog_8_method_5_code 31 = .ok (.aload_n 0, 1) := by decide +kernel
theorem d_X6_productOfRows_32 : decode prog_8_method_5_code 32 = .ok (.getfield 27, 3) := by decide +kernel
theorem d_X6_productOfRows_35 : decode prog_8_method_5_code 35 = .ok (.iload_n 1, 1) := by decide +kernel
theorem d_X6_productOfRows_36 : decode prog_8_method_5_code 36 = .ok (.iload 4, 2) := by decide +kernel
theorem d_X6_productOfRows_38 : decode prog_8_method_5_code 38 = .ok (.invokevirtual 73, 3) := by decide +kernel
theorem d_X6_productOfRows_41 : decode prog_8_method_5_code 41 = .ok (.getfield 76, 3) := by decide +kernel
theorem d_X6_productOfRows_44 : decode prog_8_method_5_code 44 = .ok (.imul, 1) := by decide +kernel
theorem d_X6_productOfRows_45 : decode prog_8_method_5_code 45 = .ok (.istore_n 2, 1) := by decide +kernel
theorem d_X6_productOfRows_46 : decode prog_8_method_5_code 46 = .ok (.iinc 3 1, 3) := by decide +kernel
theorem d_X6_productOfRows_49 : decode prog_8_method_5_code 49 = .ok (.iinc 4 1, 3) := by decide +kernel
theorem d_X6_productOfRows_52 : decode prog_8_method_5_code 52 = .ok (.goto (-45), 3) := by decide +kernel
theorem d_X6_productOfRows_55 : decode prog_8_method_5_code 55 = .ok (.iload_n 2, 1) := by decide +kernel
theorem d_X6_productOfRows_56 : decode prog_8_method_5_code 56 = .ok (.ireturn, 1) := by decide +kernel
abbrev y_X5_tableOf : MethodName := ⟨"VirtualRewrite$Rewriting", "tableOf", "(II)LVirtualRewrite$Table;"⟩
theorem d_X5_tableOf_0 : decode prog_7_method_4_code 0 = .ok (.aload_n 0, 1) := by decide +kernel
theorem d_X5_tableOf_1 : decode prog_7_method_4_code 1 = .ok (.getfield 32, 3) := by decide +kernel
theorem d_X5_tableOf_4 : decode prog_7_method_4_code 4 = .ok (.aload_n 0, 1) := by decide +kernel
theorem d_X5_tableOf_5 : decode prog_7_method_4_code 5 = .ok (.iload_n 1, 1) := by decide +kernel
theorem d_X5_tableOf_6 : decode prog_7_method_4_code 6 = .ok (.iload_n 2, 1) := by decide +kernel
theorem d_X5_tableOf_7 : decode prog_7_method_4_code 7 = .ok (.invokevirtual 50, 3) := by decide +kernel
theorem d_X5_tableOf_10 : decode prog_7_method_4_code 10 = .ok (.invokevirtual 54, 3) := by decide +kernel
theorem d_X5_tableOf_13 : decode prog_7_method_4_code 13 = .ok (.areturn, 1) := by decide +kernel
abbrev y_X0_run : MethodName := ⟨"VirtualRewrite", "run", "()I"⟩
theorem d_X0_run_0 : decode prog_1_method_13_code 0 = .ok (.aload_n 0, 1) := by decide +kernel
theorem d_X0_run_1 : decode prog_1_method_13_code 1 = .ok (.getfield 44, 3) := by decide +kernel
theorem d_X0_run_4 : decode prog_1_method_13_code 4 = .ok (.aload_n 0, 1) := by decide +kernel
theorem d_X0_run_5 : decode prog_1_method_13_code 5 = .ok (.getfield 19, 3) := by decide +kernel
theorem d_X0_run_8 : decode prog_1_method_13_code 8 = .ok (.invokevirtual 161, 3) := by decide +kernel
theorem d_X0_run_11 : decode prog_1_method_13_code 11 = .ok (.invokevirtual 164, 3) := by decide +kernel
theorem d_X0_run_14 : decode prog_1_method_13_code 14 = .ok (.aload_n 0, 1) := by decide +kernel
theorem d_X0_run_15 : decode prog_1_method_13_code 15 = .ok (.getfield 19, 3) := by decide +kernel
theorem d_X0_run_18 : decode prog_1_method_13_code 18 = .ok (.getfield 116, 3) := by decide +kernel
theorem d_X0_run_21 : decode prog_1_method_13_code 21 = .ok (.ifCond .ne 5, 3) := by decide +kernel
theorem d_X0_run_24 : decode prog_1_method_13_code 24 = .ok (.iconst (-1), 1) := by decide +kernel
theorem d_X0_run_25 : decode prog_1_method_13_code 25 = .ok (.ireturn, 1) := by decide +kernel
theorem d_X0_run_26 : decode prog_1_method_13_code 26 = .ok (.aload_n 0, 1) := by decide +kernel
theorem d_X0_run_27 : decode prog_1_method_13_code 27 = .ok (.getfield 28, 3) := by decide +kernel
theorem d_X0_run_30 : decode prog_1_method_13_code 30 = .ok (.invokevirtual 129, 3) := by decide +kernel
theorem d_X0_run_33 : decode prog_1_method_13_code 33 = .ok (.aload_n 0, 1) := by decide +kernel
theorem d_X0_run_34 : decode prog_1_method_13_code 34 = .ok (.getfield 28, 3) := by decide +kernel
theorem d_X0_run_37 : decode prog_1_method_13_code 37 = .ok (.getfield 132, 3) := by decide +kernel
theorem d_X0_run_40 : decode prog_1_method_13_code 40 = .ok (.ifCond .eq 6, 3) := by decide +kernel
theorem d_X0_run_43 : decode prog_1_method_13_code 43 = .ok (.bipush (-3), 2) := by decide +kernel
theorem d_X0_run_45 : decode prog_1_method_13_code 45 = .ok (.ireturn, 1) := by decide +kernel
theorem d_X0_run_46 : decode prog_1_method_13_code 46 = .ok (.iconst 0, 1) := by decide +kernel
theorem d_X0_run_47 : decode prog_1_method_13_code 47 = .ok (.istore_n 1, 1) := by decide +kernel
theorem d_X0_run_48 : decode prog_1_method_13_code 48 = .ok (.iload_n 1, 1) := by decide +kernel
theorem d_X0_run_49 : decode prog_1_method_13_code 49 = .ok (.aload_n 0, 1) := by decide +kernel
theorem d_X0_run_50 : decode prog_1_method_13_code 50 = .ok (.getfield 28, 3) := by decide +kernel
theorem d_X0_run_53 : decode prog_1_method_13_code 53 = .ok (.getfield 136, 3) := by decide +kernel
theorem d_X0_run_56 : decode prog_1_method_13_code 56 = .ok (.if_icmp .ge 27, 3) := by decide +kernel
theorem d_X0_run_59 : decode prog_1_method_13_code 59 = .ok (.aload_n 0, 1) := by decide +kernel
theorem d_X0_run_60 : decode prog_1_method_13_code 60 = .ok (.getfield 44, 3) := by decide +kernel
theorem d_X0_run_63 : decode prog_1_method_13_code 63 = .ok (.getfield 167, 3) := by decide +kernel
theorem d_X0_run_66 : decode prog_1_method_13_code 66 = .ok (.ifCond .ne 17, 3) := by decide +kernel
theorem d_X0_run_69 : decode prog_1_method_13_code 69 = .ok (.aload_n 0, 1) := by decide +kernel
theorem d_X0_run_70 : decode prog_1_method_13_code 70 = .ok (.getfield 53, 3) := by decide +kernel
theorem d_X0_run_73 : decode prog_1_method_13_code 73 = .ok (.iload_n 1, 1) := by decide +kernel
theorem d_X0_run_74 : decode prog_1_method_13_code 74 = .ok (.invokevirtual 168, 3) := by decide +kernel
theorem d_X0_run_77 : decode prog_1_method_13_code 77 = .ok (.iinc 1 1, 3) := by decide +kernel
theorem d_X0_run_80 : decode prog_1_method_13_code 80 = .ok (.goto (-32), 3) := by decide +kernel
theorem d_X0_run_83 : decode prog_1_method_13_code 83 = .ok (.aload_n 0, 1) := by decide +kernel
theorem d_X0_run_84 : decode prog_1_method_13_code 84 = .ok (.getfield 44, 3) := by decide +kernel
theorem d_X0_run_87 : decode prog_1_method_13_code 87 = .ok (.getfield 167, 3) := by decide +kernel
theorem d_X0_run_90 : decode prog_1_method_13_code 90 = .ok (.ifCond .eq 14, 3) := by decide +kernel
theorem d_X0_run_93 : decode prog_1_method_13_code 93 = .ok (.aload_n 0, 1) := by decide +kernel
theorem d_X0_run_94 : decode prog_1_method_13_code 94 = .ok (.getfield 44, 3) := by decide +kernel
theorem d_X0_run_97 : decode prog_1_method_13_code 97 = .ok (.iconst 0, 1) := by decide +kernel
theorem d_X0_run_98 : decode prog_1_method_13_code 98 = .ok (.putfield 171, 3) := by decide +kernel
theorem d_X0_run_101 : decode prog_1_method_13_code 101 = .ok (.bipush (-3), 2) := by decide +kernel
theorem d_X0_run_103 : decode prog_1_method_13_code 103 = .ok (.ireturn, 1) := by decide +kernel
theorem d_X0_run_104 : decode prog_1_method_13_code 104 = .ok (.aload_n 0, 1) := by decide +kernel
theorem d_X0_run_105 : decode prog_1_method_13_code 105 = .ok (.getfield 44, 3) := by decide +kernel
theorem d_X0_run_108 : decode prog_1_method_13_code 108 = .ok (.getfield 171, 3) := by decide +kernel
theorem d_X0_run_111 : decode prog_1_method_13_code 111 = .ok (.ireturn, 1) := by decide +kernel
abbrev y_X4_variables : MethodName := ⟨"VirtualRewrite$Question", "variables", "()I"⟩
theorem d_X4_variables_0 : decode prog_6_method_7_code 0 = .ok (.iconst 0, 1) := by decide +kernel
theorem d_X4_variables_1 : decode prog_6_method_7_code 1 = .ok (.istore_n 1, 1) := by decide +kernel
theorem d_X4_variables_2 : decode prog_6_method_7_code 2 = .ok (.iconst 0, 1) := by decide +kernel
theorem d_X4_variables_3 : decode prog_6_method_7_code 3 = .ok (.istore_n 2, 1) := by decide +kernel
theorem d_X4_variables_4 : decode prog_6_method_7_code 4 = .ok (.iload_n 2, 1) := by decide +kernel
theorem d_X4_variables_5 : decode prog_6_method_7_code 5 = .ok (.aload_n 0, 1) := by decide +kernel
theorem d_X4_variables_6 : decode prog_6_method_7_code 6 = .ok (.getfield 24, 3) := by decide +kernel
theorem d_X4_variables_9 : decode prog_6_method_7_code 9 = .ok (.iconst 2, 1) := by decide +kernel
theorem d_X4_variables_10 : decode prog_6_method_7_code 10 = .ok (.imul, 1) := by decide +kernel
theorem d_X4_variables_11 : decode prog_6_method_7_code 11 = .ok (.if_icmp .ge 35, 3) := by decide +kernel
theorem d_X4_variables_14 : decode prog_6_method_7_code 14 = .ok (.aload_n 0, 1) := by decide +kernel
theorem d_X4_variables_15 : decode prog_6_method_7_code 15 = .ok (.getfield 15, 3) := by decide +kernel
theorem d_X4_variables_18 : decode prog_6_method_7_code 18 = .ok (.iload_n 2, 1) := by decide +kernel
theorem d_X4_variables_19 : decode prog_6_method_7_code 19 = .ok (.iaload, 1) := by decide +kernel
theorem d_X4_variables_20 : decode prog_6_method_7_code 20 = .ok (.invokestatic 40, 3) := by decide +kernel
theorem d_X4_variables_23 : decode prog_6_method_7_code 23 = .ok (.ifCond .eq 17, 3) := by decide +kernel
theorem d_X4_variables_26 : decode prog_6_method_7_code 26 = .ok (.iload_n 1, 1) := by decide +kernel
theorem d_X4_variables_27 : decode prog_6_method_7_code 27 = .ok (.aload_n 0, 1) := by decide +kernel
theorem d_X4_variables_28 : decode prog_6_method_7_code 28 = .ok (.getfield 15, 3) := by decide +kernel
theorem d_X4_variables_31 : decode prog_6_method_7_code 31 = .ok (.iload_n 2, 1) := by decide +kernel
theorem d_X4_variables_32 : decode prog_6_method_7_code 32 = .ok (.iaload, 1) := by decide +kernel
theorem d_X4_variables_33 : decode prog_6_method_7_code 33 = .ok (.invokestatic 44, 3) := by decide +kernel
theorem d_X4_variables_36 : decode prog_6_method_7_code 36 = .ok (.invokestatic 48, 3) := by decide +kernel
theorem d_X4_variables_39 : decode prog_6_method_7_code 39 = .ok (.istore_n 1, 1) := by decide +kernel
theorem d_X4_variables_40 : decode prog_6_method_7_code 40 = .ok (.iinc 2 1, 3) := by decide +kernel
theorem d_X4_variables_43 : decode prog_6_method_7_code 43 = .ok (.goto (-39), 3) := by decide +kernel
theorem d_X4_variables_46 : decode prog_6_method_7_code 46 = .ok (.iload_n 1, 1) := by decide +kernel
theorem d_X4_variables_47 : decode prog_6_method_7_code 47 = .ok (.ireturn, 1) := by decide +kernel
abbrev y_X7_begin : MethodName := ⟨"VirtualRewrite$Answers", "begin", "(I)V"⟩
theorem d_X7_begin_0 : decode prog_2_method_2_code 0 = .ok (.aload_n 0, 1) := by decide +kernel
theorem d_X7_begin_1 : decode prog_2_method_2_code 1 = .ok (.iconst 0, 1) := by decide +kernel
theorem d_X7_begin_2 : decode prog_2_method_2_code 2 = .ok (.putfield 24, 3) := by decide +kernel
theorem d_X7_begin_5 : decode prog_2_method_2_code 5 = .ok (.aload_n 0, 1) := by decide +kernel
theorem d_X7_begin_6 : decode prog_2_method_2_code 6 = .ok (.iload_n 1, 1) := by decide +kernel
theorem d_X7_begin_7 : decode prog_2_method_2_code 7 = .ok (.putfield 28, 3) := by decide +kernel
theorem d_X7_begin_10 : decode prog_2_method_2_code 10 = .ok (.aload_n 0, 1) := by decide +kernel
theorem d_X7_begin_11 : decode prog_2_method_2_code 11 = .ok (.iconst 0, 1) := by decide +kernel
theorem d_X7_begin_12 : decode prog_2_method_2_code 12 = .ok (.putfield 31, 3) := by decide +kernel
theorem d_X7_begin_15 : decode prog_2_method_2_code 15 = .ok (.return_, 1) := by decide +kernel
abbrev y_X8_find : MethodName := ⟨"VirtualRewrite$Finder", "find", "(I)V"⟩
theorem d_X8_find_0 : decode prog_4_method_2_code 0 = .ok (.aload_n 0, 1) := by decide +kernel
theorem d_X8_find_1 : decode prog_4_method_2_code 1 = .ok (.iload_n 1, 1) := by decide +kernel
theorem d_X8_find_2 : decode prog_4_method_2_code 2 = .ok (.putfield 36, 3) := by decide +kernel
theorem d_X8_find_5 : decode prog_4_method_2_code 5 = .ok (.aload_n 0, 1) := by decide +kernel
theorem d_X8_find_6 : decode prog_4_method_2_code 6 = .ok (.getfield 48, 3) := by decide +kernel
theorem d_X8_find_9 : decode prog_4_method_2_code 9 = .ok (.iload_n 1, 1) := by decide +kernel
theorem d_X8_find_10 : decode prog_4_method_2_code 10 = .ok (.invokevirtual 56, 3) := by decide +kernel
theorem d_X8_find_13 : decode prog_4_method_2_code 13 = .ok (.aload_n 0, 1) := by decide +kernel
theorem d_X8_find_14 : decode prog_4_method_2_code 14 = .ok (.invokevirtual 62, 3) := by decide +kernel
theorem d_X8_find_17 : decode prog_4_method_2_code 17 = .ok (.iconst 1, 1) := by decide +kernel
theorem d_X8_find_18 : decode prog_4_method_2_code 18 = .ok (.istore_n 2, 1) := by decide +kernel
theorem d_X8_find_19 : decode prog_4_method_2_code 19 = .ok (.iconst 0, 1) := by decide +kernel
theorem d_X8_find_20 : decode prog_4_method_2_code 20 = .ok (.istore_n 3, 1) := by decide +kernel
theorem d_X8_find_21 : decode prog_4_method_2_code 21 = .ok (.iload_n 3, 1) := by decide +kernel
theorem d_X8_find_22 : decode prog_4_method_2_code 22 = .ok (.aload_n 0, 1) := by decide +kernel
theorem d_X8_find_23 : decode prog_4_method_2_code 23 = .ok (.getfield 48, 3) := by decide +kernel
theorem d_X8_find_26 : decode prog_4_method_2_code 26 = .ok (.getfield 65, 3) := by decide +kernel
theorem d_X8_find_29 : decode prog_4_method_2_code 29 = .ok (.if_icmp .ge 33, 3) := by decide +kernel
theorem d_X8_find_32 : decode prog_4_method_2_code 32 = .ok (.iload_n 2, 1) := by decide +kernel
theorem d_X8_find_33 : decode prog_4_method_2_code 33 = .ok (.ifCond .eq 29, 3) := by decide +kernel
theorem d_X8_find_36 : decode prog_4_method_2_code 36 = .ok (.aload_n 0, 1) := by decide +kernel
theorem d_X8_find_37 : decode prog_4_method_2_code 37 = .ok (.iload_n 3, 1) := by decide +kernel
theorem d_X8_find_38 : decode prog_4_method_2_code 38 = .ok (.invokevirtual 68, 3) := by decide +kernel
theorem d_X8_find_41 : decode prog_4_method_2_code 41 = .ok (.aload_n 0, 1) := by decide +kernel
theorem d_X8_find_42 : decode prog_4_method_2_code 42 = .ok (.getfield 24, 3) := by decide +kernel
theorem d_X8_find_45 : decode prog_4_method_2_code 45 = .ok (.iload_n 3, 1) := by decide +kernel
theorem d_X8_find_46 : decode prog_4_method_2_code 46 = .ok (.iaload, 1) := by decide +kernel
theorem d_X8_find_47 : decode prog_4_method_2_code 47 = .ok (.ifCond .le 7, 3) := by decide +kernel
theorem d_X8_find_50 : decode prog_4_method_2_code 50 = .ok (.iconst 1, 1) := by decide +kernel
theorem d_X8_find_51 : decode prog_4_method_2_code 51 = .ok (.goto 4, 3) := by decide +kernel
theorem d_X8_find_54 : decode prog_4_method_2_code 54 = .ok (.iconst 0, 1) := by decide +kernel
theorem d_X8_find_55 : decode prog_4_method_2_code 55 = .ok (.istore_n 2, 1) := by decide +kernel
theorem d_X8_find_56 : decode prog_4_method_2_code 56 = .ok (.iinc 3 1, 3) := by decide +kernel
theorem d_X8_find_59 : decode prog_4_method_2_code 59 = .ok (.goto (-38), 3) := by decide +kernel
theorem d_X8_find_62 : decode prog_4_method_2_code 62 = .ok (.iload_n 2, 1) := by decide +kernel
theorem d_X8_find_63 : decode prog_4_method_2_code 63 = .ok (.ifCond .eq 14, 3) := by decide +kernel
theorem d_X8_find_66 : decode prog_4_method_2_code 66 = .ok (.aload_n 0, 1) := by decide +kernel
theorem d_X8_find_67 : decode prog_4_method_2_code 67 = .ok (.invokevirtual 71, 3) := by decide +kernel
theorem d_X8_find_70 : decode prog_4_method_2_code 70 = .ok (.aload_n 0, 1) := by decide +kernel
theorem d_X8_find_71 : decode prog_4_method_2_code 71 = .ok (.iconst 0, 1) := by decide +kernel
theorem d_X8_find_72 : decode prog_4_method_2_code 72 = .ok (.iconst 0, 1) := by decide +kernel
theorem d_X8_find_73 : decode prog_4_method_2_code 73 = .ok (.invokevirtual 74, 3) := by decide +kernel
theorem d_X8_find_76 : decode prog_4_method_2_code 76 = .ok (.pop, 1) := by decide +kernel
theorem d_X8_find_77 : decode prog_4_method_2_code 77 = .ok (.return_, 1) := by decide +kernel
abbrev y_X8_layOut : MethodName := ⟨"VirtualRewrite$Finder", "layOut", "()V"⟩
theorem d_X8_layOut_0 : decode prog_4_method_3_code 0 = .ok (.iconst 0, 1) := by decide +kernel
theorem d_X8_layOut_1 : decode prog_4_method_3_code 1 = .ok (.istore_n 1, 1) := by decide +kernel
theorem d_X8_layOut_2 : decode prog_4_method_3_code 2 = .ok (.iload_n 1, 1) := by decide +kernel
theorem d_X8_layOut_3 : decode prog_4_method_3_code 3 = .ok (.bipush 6, 2) := by decide +kernel
theorem d_X8_layOut_5 : decode prog_4_method_3_code 5 = .ok (.if_icmp .ge 16, 3) := by decide +kernel
theorem d_X8_layOut_8 : decode prog_4_method_3_code 8 = .ok (.aload_n 0, 1) := by decide +kernel
theorem d_X8_layOut_9 : decode prog_4_method_3_code 9 = .ok (.getfield 33, 3) := by decide +kernel
theorem d_X8_layOut_12 : decode prog_4_method_3_code 12 = .ok (.iload_n 1, 1) := by decide +kernel
theorem d_X8_layOut_13 : decode prog_4_method_3_code 13 = .ok (.iconst 0, 1) := by decide +kernel
theorem d_X8_layOut_14 : decode prog_4_method_3_code 14 = .ok (.iastore, 1) := by decide +kernel
theorem d_X8_layOut_15 : decode prog_4_method_3_code 15 = .ok (.iinc 1 1, 3) := by decide +kernel
theorem d_X8_layOut_18 : decode prog_4_method_3_code 18 = .ok (.goto (-16), 3) := by decide +kernel
theorem d_X8_layOut_21 : decode prog_4_method_3_code 21 = .ok (.iconst 0, 1) := by decide +kernel
theorem d_X8_layOut_22 : decode prog_4_method_3_code 22 = .ok (.istore_n 1, 1) := by decide +kernel
theorem d_X8_layOut_23 : decode prog_4_method_3_code 23 = .ok (.iload_n 1, 1) := by decide +kernel
theorem d_X8_layOut_24 : decode prog_4_method_3_code 24 = .ok (.bipush 24, 2) := by decide +kernel
theorem d_X8_layOut_26 : decode prog_4_method_3_code 26 = .ok (.if_icmp .ge 16, 3) := by decide +kernel
theorem d_X8_layOut_29 : decode prog_4_method_3_code 29 = .ok (.aload_n 0, 1) := by decide +kernel
theorem d_X8_layOut_30 : decode prog_4_method_3_code 30 = .ok (.getfield 18, 3) := by decide +kernel
theorem d_X8_layOut_33 : decode prog_4_method_3_code 33 = .ok (.iload_n 1, 1) := by decide +kernel
theorem d_X8_layOut_34 : decode prog_4_method_3_code 34 = .ok (.iconst (-1), 1) := by decide +kernel
theorem d_X8_layOut_35 : decode prog_4_method_3_code 35 = .ok (.iastore, 1) := by decide +kernel
theorem d_X8_layOut_36 : decode prog_4_method_3_code 36 = .ok (.iinc 1 1, 3) := by decide +kernel
theorem d_X8_layOut_39 : decode prog_4_method_3_code 39 = .ok (.goto (-16), 3) := by decide +kernel
theorem d_X8_layOut_42 : decode prog_4_method_3_code 42 = .ok (.iconst 0, 1) := by decide +kernel
theorem d_X8_layOut_43 : decode prog_4_method_3_code 43 = .ok (.istore_n 1, 1) := by decide +kernel
theorem d_X8_layOut_44 : decode prog_4_method_3_code 44 = .ok (.iload_n 1, 1) := by decide +kernel
theorem d_X8_layOut_45 : decode prog_4_method_3_code 45 = .ok (.iconst 4, 1) := by decide +kernel
theorem d_X8_layOut_46 : decode prog_4_method_3_code 46 = .ok (.if_icmp .ge 16, 3) := by decide +kernel
theorem d_X8_layOut_49 : decode prog_4_method_3_code 49 = .ok (.aload_n 0, 1) := by decide +kernel
theorem d_X8_layOut_50 : decode prog_4_method_3_code 50 = .ok (.getfield 15, 3) := by decide +kernel
theorem d_X8_layOut_53 : decode prog_4_method_3_code 53 = .ok (.iload_n 1, 1) := by decide +kernel
theorem d_X8_layOut_54 : decode prog_4_method_3_code 54 = .ok (.iconst 0, 1) := by decide +kernel
theorem d_X8_layOut_55 : decode prog_4_method_3_code 55 = .ok (.iastore, 1) := by decide +kernel
theorem d_X8_layOut_56 : decode prog_4_method_3_code 56 = .ok (.iinc 1 1, 3) := by decide +kernel
theorem d_X8_layOut_59 : decode prog_4_method_3_code 59 = .ok (.goto (-15), 3) := by decide +kernel
theorem d_X8_layOut_62 : decode prog_4_method_3_code 62 = .ok (.iconst 0, 1) := by decide +kernel
theorem d_X8_layOut_63 : decode prog_4_method_3_code 63 = .ok (.istore_n 1, 1) := by decide +kernel
theorem d_X8_layOut_64 : decode prog_4_method_3_code 64 = .ok (.iload_n 1, 1) := by decide +kernel
theorem d_X8_layOut_65 : decode prog_4_method_3_code 65 = .ok (.aload_n 0, 1) := by decide +kernel
theorem d_X8_layOut_66 : decode prog_4_method_3_code 66 = .ok (.getfield 40, 3) := by decide +kernel
theorem d_X8_layOut_69 : decode prog_4_method_3_code 69 = .ok (.getfield 78, 3) := by decide +kernel
theorem d_X8_layOut_72 : decode prog_4_method_3_code 72 = .ok (.if_icmp .ge 58, 3) := by decide +kernel
theorem d_X8_layOut_75 : decode prog_4_method_3_code 75 = .ok (.aload_n 0, 1) := by decide +kernel
theorem d_X8_layOut_76 : decode prog_4_method_3_code 76 = .ok (.getfield 9, 3) := by decide +kernel
theorem d_X8_layOut_79 : decode prog_4_method_3_code 79 = .ok (.aload_n 0, 1) := by decide +kernel
theorem d_X8_layOut_80 : decode prog_4_method_3_code 80 = .ok (.getfield 48, 3) := by decide +kernel
theorem d_X8_layOut_83 : decode prog_4_method_3_code 83 = .ok (.getfield 83, 3) := by decide +kernel
theorem d_X8_layOut_86 : decode prog_4_method_3_code 86 = .ok (.iload_n 1, 1) := by decide +kernel
theorem d_X8_layOut_87 : decode prog_4_method_3_code 87 = .ok (.iaload, 1) := by decide +kernel
theorem d_X8_layOut_88 : decode prog_4_method_3_code 88 = .ok (.iload_n 1, 1) := by decide +kernel
theorem d_X8_layOut_89 : decode prog_4_method_3_code 89 = .ok (.iastore, 1) := by decide +kernel
theorem d_X8_layOut_90 : decode prog_4_method_3_code 90 = .ok (.iconst 0, 1) := by decide +kernel
theorem d_X8_layOut_91 : decode prog_4_method_3_code 91 = .ok (.istore_n 2, 1) := by decide +kernel
theorem d_X8_layOut_92 : decode prog_4_method_3_code 92 = .ok (.iload_n 2, 1) := by decide +kernel
theorem d_X8_layOut_93 : decode prog_4_method_3_code 93 = .ok (.iconst 2, 1) := by decide +kernel
theorem d_X8_layOut_94 : decode prog_4_method_3_code 94 = .ok (.if_icmp .ge 30, 3) := by decide +kernel
theorem d_X8_layOut_97 : decode prog_4_method_3_code 97 = .ok (.aload_n 0, 1) := by decide +kernel
theorem d_X8_layOut_98 : decode prog_4_method_3_code 98 = .ok (.getfield 40, 3) := by decide +kernel
theorem d_X8_layOut_101 : decode prog_4_method_3_code 101 = .ok (.iload_n 1, 1) := by decide +kernel
theorem d_X8_layOut_102 : decode prog_4_method_3_code 102 = .ok (.iload_n 2, 1) := by decide +kernel
theorem d_X8_layOut_103 : decode prog_4_method_3_code 103 = .ok (.invokevirtual 86, 3) := by decide +kernel
theorem d_X8_layOut_106 : decode prog_4_method_3_code 106 = .ok (.invokestatic 89, 3) := by decide +kernel
theorem d_X8_layOut_109 : decode prog_4_method_3_code 109 = .ok (.ifCond .eq 9, 3) := by decide +kernel
theorem d_X8_layOut_112 : decode prog_4_method_3_code 112 = .ok (.aload_n 0, 1) := by decide +kernel
theorem d_X8_layOut_113 : decode prog_4_method_3_code 113 = .ok (.iload_n 1, 1) := by decide +kernel
theorem d_X8_layOut_114 : decode prog_4_method_3_code 114 = .ok (.iload_n 2, 1) := by decide +kernel
theorem d_X8_layOut_115 : decode prog_4_method_3_code 115 = .ok (.invokevirtual 93, 3) := by decide +kernel
theorem d_X8_layOut_118 : decode prog_4_method_3_code 118 = .ok (.iinc 2 1, 3) := by decide +kernel
theorem d_X8_layOut_121 : decode prog_4_method_3_code 121 = .ok (.goto (-29), 3) := by decide +kernel
theorem d_X8_layOut_124 : decode prog_4_method_3_code 124 = .ok (.iinc 1 1, 3) := by decide +kernel
theorem d_X8_layOut_127 : decode prog_4_method_3_code 127 = .ok (.goto (-63), 3) := by decide +kernel
theorem d_X8_layOut_130 : decode prog_4_method_3_code 130 = .ok (.return_, 1) := by decide +kernel
abbrev y_X8_layOutVariable : MethodName := ⟨"VirtualRewrite$Finder", "layOutVariable", "(II)V"⟩
theorem d_X8_layOutVariable_0 : decode prog_4_method_4_code 0 = .ok (.aload_n 0, 1) := by decide +kernel
theorem d_X8_layOutVariable_1 : decode prog_4_method_4_code 1 = .ok (.getfield 40, 3) := by decide +kernel
theorem d_X8_layOutVariable_4 : decode prog_4_method_4_code 4 = .ok (.iload_n 1, 1) := by decide +kernel
theorem d_X8_layOutVariable_5 : decode prog_4_method_4_code 5 = .ok (.iload_n 2, 1) := by decide +kernel
theorem d_X8_layOutVariable_6 : decode prog_4_method_4_code 6 = .ok (.invokevirtual 86, 3) := by decide +kernel
theorem d_X8_layOutVariable_9 : decode prog_4_method_4_code 9 = .ok (.invokestatic 97, 3) := by decide +kernel
theorem d_X8_layOutVariable_12 : decode prog_4_method_4_code 12 = .ok (.istore_n 3, 1) := by decide +kernel
theorem d_X8_layOutVariable_13 : decode prog_4_method_4_code 13 = .ok (.aload_n 0, 1) := by decide +kernel
theorem d_X8_layOutVariable_14 : decode prog_4_method_4_code 14 = .ok (.getfield 48, 3) := by decide +kernel
theorem d_X8_layOutVariable_17 : decode prog_4_method_4_code 17 = .ok (.getfield 83, 3) := by decide +kernel
theorem d_X8_layOutVariable_20 : decode prog_4_method_4_code 20 = .ok (.iload_n 1, 1) := by decide +kernel
theorem d_X8_layOutVariable_21 : decode prog_4_method_4_code 21 = .ok (.iaload, 1) := by decide +kernel
theorem d_X8_layOutVariable_22 : decode prog_4_method_4_code 22 = .ok (.istore 4, 2) := by decide +kernel
theorem d_X8_layOutVariable_24 : decode prog_4_method_4_code 24 = .ok (.aload_n 0, 1) := by decide +kernel
theorem d_X8_layOutVariable_25 : decode prog_4_method_4_code 25 = .ok (.getfield 44, 3) := by decide +kernel
theorem d_X8_layOutVariable_28 : decode prog_4_method_4_code 28 = .ok (.aload_n 0, 1) := by decide +kernel
theorem d_X8_layOutVariable_29 : decode prog_4_method_4_code 29 = .ok (.getfield 36, 3) := by decide +kernel
theorem d_X8_layOutVariable_32 : decode prog_4_method_4_code 32 = .ok (.iload_n 1, 1) := by decide +kernel
theorem d_X8_layOutVariable_33 : decode prog_4_method_4_code 33 = .ok (.invokevirtual 101, 3) := by decide +kernel
theorem d_X8_layOutVariable_36 : decode prog_4_method_4_code 36 = .ok (.astore 5, 2) := by decide +kernel
theorem d_X8_layOutVariable_38 : decode prog_4_method_4_code 38 = .ok (.aload_n 0, 1) := by decide +kernel
theorem d_X8_layOutVariable_39 : decode prog_4_method_4_code 39 = .ok (.getfield 30, 3) := by decide +kernel
theorem d_X8_layOutVariable_42 : decode prog_4_method_4_code 42 = .ok (.iload_n 3, 1) := by decide +kernel
theorem d_X8_layOutVariable_43 : decode prog_4_method_4_code 43 = .ok (.aload 5, 2) := by decide +kernel
theorem d_X8_layOutVariable_45 : decode prog_4_method_4_code 45 = .ok (.getfield 107, 3) := by decide +kernel
theorem d_X8_layOutVariable_48 : decode prog_4_method_4_code 48 = .ok (.iload_n 2, 1) := by decide +kernel
theorem d_X8_layOutVariable_49 : decode prog_4_method_4_code 49 = .ok (.iaload, 1) := by decide +kernel
theorem d_X8_layOutVariable_50 : decode prog_4_method_4_code 50 = .ok (.iastore, 1) := by decide +kernel
theorem d_X8_layOutVariable_51 : decode prog_4_method_4_code 51 = .ok (.aload_n 0, 1) := by decide +kernel
theorem d_X8_layOutVariable_52 : decode prog_4_method_4_code 52 = .ok (.getfield 18, 3) := by decide +kernel
theorem d_X8_layOutVariable_55 : decode prog_4_method_4_code 55 = .ok (.iload 4, 2) := by decide +kernel
theorem d_X8_layOutVariable_57 : decode prog_4_method_4_code 57 = .ok (.bipush 6, 2) := by decide +kernel
theorem d_X8_layOutVariable_59 : decode prog_4_method_4_code 59 = .ok (.imul, 1) := by decide +kernel
theorem d_X8_layOutVariable_60 : decode prog_4_method_4_code 60 = .ok (.iload_n 3, 1) := by decide +kernel
theorem d_X8_layOutVariable_61 : decode prog_4_method_4_code 61 = .ok (.iadd, 1) := by decide +kernel
theorem d_X8_layOutVariable_62 : decode prog_4_method_4_code 62 = .ok (.aload 5, 2) := by decide +kernel
theorem d_X8_layOutVariable_64 : decode prog_4_method_4_code 64 = .ok (.getfield 110, 3) := by decide +kernel
theorem d_X8_layOutVariable_67 : decode prog_4_method_4_code 67 = .ok (.iload_n 2, 1) := by decide +kernel
theorem d_X8_layOutVariable_68 : decode prog_4_method_4_code 68 = .ok (.iaload, 1) := by decide +kernel
theorem d_X8_layOutVariable_69 : decode prog_4_method_4_code 69 = .ok (.iastore, 1) := by decide +kernel
theorem d_X8_layOutVariable_70 : decode prog_4_method_4_code 70 = .ok (.aload_n 0, 1) := by decide +kernel
theorem d_X8_layOutVariable_71 : decode prog_4_method_4_code 71 = .ok (.getfield 15, 3) := by decide +kernel
theorem d_X8_layOutVariable_74 : decode prog_4_method_4_code 74 = .ok (.iload 4, 2) := by decide +kernel
theorem d_X8_layOutVariable_76 : decode prog_4_method_4_code 76 = .ok (.aload_n 0, 1) := by decide +kernel
theorem d_X8_layOutVariable_77 : decode prog_4_method_4_code 77 = .ok (.getfield 15, 3) := by decide +kernel
theorem d_X8_layOutVariable_80 : decode prog_4_method_4_code 80 = .ok (.iload 4, 2) := by decide +kernel
theorem d_X8_layOutVariable_82 : decode prog_4_method_4_code 82 = .ok (.iaload, 1) := by decide +kernel
theorem d_X8_layOutVariable_83 : decode prog_4_method_4_code 83 = .ok (.iload_n 3, 1) := by decide +kernel
theorem d_X8_layOutVariable_84 : decode prog_4_method_4_code 84 = .ok (.invokestatic 111, 3) := by decide +kernel
theorem d_X8_layOutVariable_87 : decode prog_4_method_4_code 87 = .ok (.iastore, 1) := by decide +kernel
theorem d_X8_layOutVariable_88 : decode prog_4_method_4_code 88 = .ok (.return_, 1) := by decide +kernel
abbrev y_X8_gatherRows : MethodName := ⟨"VirtualRewrite$Finder", "gatherRows", "(I)V"⟩
theorem d_X8_gatherRows_0 : decode prog_4_method_6_code 0 = .ok (.aload_n 0, 1) := by decide +kernel
theorem d_X8_gatherRows_1 : decode prog_4_method_6_code 1 = .ok (.iload_n 1, 1) := by decide +kernel
theorem d_X8_gatherRows_2 : decode prog_4_method_6_code 2 = .ok (.invokevirtual 118, 3) := by decide +kernel
theorem d_X8_gatherRows_5 : decode prog_4_method_6_code 5 = .ok (.astore_n 2, 1) := by decide +kernel
theorem d_X8_gatherRows_6 : decode prog_4_method_6_code 6 = .ok (.iconst 0, 1) := by decide +kernel
theorem d_X8_gatherRows_7 : decode prog_4_method_6_code 7 = .ok (.istore_n 3, 1) := by decide +kernel
theorem d_X8_gatherRows_8 : decode prog_4_method_6_code 8 = .ok (.iconst 0, 1) := by decide +kernel
theorem d_X8_gatherRows_9 : decode prog_4_method_6_code 9 = .ok (.istore 4, 2) := by decide +kernel
theorem d_X8_gatherRows_11 : decode prog_4_method_6_code 11 = .ok (.iload 4, 2) := by decide +kernel
theorem d_X8_gatherRows_13 : decode prog_4_method_6_code 13 = .ok (.aload_n 2, 1) := by decide +kernel
theorem d_X8_gatherRows_14 : decode prog_4_method_6_code 14 = .ok (.getfield 121, 3) := by decide +kernel
theorem d_X8_gatherRows_17 : decode prog_4_method_6_code 17 = .ok (.if_icmp .ge 48, 3) := by decide +kernel
theorem d_X8_gatherRows_20 : decode prog_4_method_6_code 20 = .ok (.aload_n 0, 1) := by decide +kernel
theorem d_X8_gatherRows_21 : decode prog_4_method_6_code 21 = .ok (.iload_n 1, 1) := by decide +kernel
theorem d_X8_gatherRows_22 : decode prog_4_method_6_code 22 = .ok (.aload_n 2, 1) := by decide +kernel
theorem d_X8_gatherRows_23 : decode prog_4_method_6_code 23 = .ok (.iload 4, 2) := by decide +kernel
theorem d_X8_gatherRows_25 : decode prog_4_method_6_code 25 = .ok (.invokevirtual 126, 3) := by decide +kernel
theorem d_X8_gatherRows_28 : decode prog_4_method_6_code 28 = .ok (.ifCond .eq 31, 3) := by decide +kernel
theorem d_X8_gatherRows_31 : decode prog_4_method_6_code 31 = .ok (.aload_n 0, 1) := by decide +kernel
theorem d_X8_gatherRows_32 : decode prog_4_method_6_code 32 = .ok (.iload_n 1, 1) := by decide +kernel
theorem d_X8_gatherRows_33 : decode prog_4_method_6_code 33 = .ok (.aload_n 2, 1) := by decide +kernel
theorem d_X8_gatherRows_34 : decode prog_4_method_6_code 34 = .ok (.iload 4, 2) := by decide +kernel
theorem d_X8_gatherRows_36 : decode prog_4_method_6_code 36 = .ok (.iload_n 3, 1) := by decide +kernel
theorem d_X8_gatherRows_37 : decode prog_4_method_6_code 37 = .ok (.invokevirtual 130, 3) := by decide +kernel
theorem d_X8_gatherRows_40 : decode prog_4_method_6_code 40 = .ok (.ifCond .ne 19, 3) := by decide +kernel
theorem d_X8_gatherRows_43 : decode prog_4_method_6_code 43 = .ok (.aload_n 0, 1) := by decide +kernel
theorem d_X8_gatherRows_44 : decode prog_4_method_6_code 44 = .ok (.getfield 21, 3) := by decide +kernel
theorem d_X8_gatherRows_47 : decode prog_4_method_6_code 47 = .ok (.iload_n 1, 1) := by decide +kernel
theorem d_X8_gatherRows_48 : decode prog_4_method_6_code 48 = .ok (.bipush 20, 2) := by decide +kernel
theorem d_X8_gatherRows_50 : decode prog_4_method_6_code 50 = .ok (.imul, 1) := by decide +kernel
theorem d_X8_gatherRows_51 : decode prog_4_method_6_code 51 = .ok (.iload_n 3, 1) := by decide +kernel
theorem d_X8_gatherRows_52 : decode prog_4_method_6_code 52 = .ok (.iadd, 1) := by decide +kernel
theorem d_X8_gatherRows_53 : decode prog_4_method_6_code 53 = .ok (.iload 4, 2) := by decide +kernel
theorem d_X8_gatherRows_55 : decode prog_4_method_6_code 55 = .ok (.iastore, 1) := by decide +kernel
theorem d_X8_gatherRows_56 : decode prog_4_method_6_code 56 = .ok (.iinc 3 1, 3) := by decide +kernel
theorem d_X8_gatherRows_59 : decode prog_4_method_6_code 59 = .ok (.iinc 4 1, 3) := by decide +kernel
theorem d_X8_gatherRows_62 : decode prog_4_method_6_code 62 = .ok (.goto (-51), 3) := by decide +kernel
theorem d_X8_gatherRows_65 : decode prog_4_method_6_code 65 = .ok (.aload_n 0, 1) := by decide +kernel
theorem d_X8_gatherRows_66 : decode prog_4_method_6_code 66 = .ok (.getfield 24, 3) := by decide +kernel
theorem d_X8_gatherRows_69 : decode prog_4_method_6_code 69 = .ok (.iload_n 1, 1) := by decide +kernel
theorem d_X8_gatherRows_70 : decode prog_4_method_6_code 70 = .ok (.iload_n 3, 1) := by decide +kernel
theorem d_X8_gatherRows_71 : decode prog_4_method_6_code 71 = .ok (.iastore, 1) := by decide +kernel
theorem d_X8_gatherRows_72 : decode prog_4_method_6_code 72 = .ok (.return_, 1) := by decide +kernel
abbrev y_X8_tableOf : MethodName := ⟨"VirtualRewrite$Finder", "tableOf", "(I)LVirtualRewrite$Table;"⟩
theorem d_X8_tableOf_0 : decode prog_4_method_5_code 0 = .ok (.aload_n 0, 1) := by decide +kernel
theorem d_X8_tableOf_1 : decode prog_4_method_5_code 1 = .ok (.getfield 44, 3) := by decide +kernel
theorem d_X8_tableOf_4 : decode prog_4_method_5_code 4 = .ok (.aload_n 0, 1) := by decide +kernel
theorem d_X8_tableOf_5 : decode prog_4_method_5_code 5 = .ok (.getfield 36, 3) := by decide +kernel
theorem d_X8_tableOf_8 : decode prog_4_method_5_code 8 = .ok (.aload_n 0, 1) := by decide +kernel
theorem d_X8_tableOf_9 : decode prog_4_method_5_code 9 = .ok (.getfield 9, 3) := by decide +kernel
theorem d_X8_tableOf_12 : decode prog_4_method_5_code 12 = .ok (.iload_n 1, 1) := by decide +kernel
theorem d_X8_tableOf_13 : decode prog_4_method_5_code 13 = .ok (.iaload, 1) := by decide +kernel
theorem d_X8_tableOf_14 : decode prog_4_method_5_code 14 = .ok (.invokevirtual 114, 3) := by decide +kernel
theorem d_X8_tableOf_17 : decode prog_4_method_5_code 17 = .ok (.areturn, 1) := by decide +kernel
abbrev y_X8_suits : MethodName := ⟨"VirtualRewrite$Finder", "suits", "(ILVirtualRewrite$Table;I)Z"⟩
theorem d_X8_suits_0 : decode prog_4_method_7_code 0 = .ok (.iconst 0, 1) := by decide +kernel
theorem d_X8_suits_1 : decode prog_4_method_7_code 1 = .ok (.istore 4, 2) := by decide +kernel
theorem d_X8_suits_3 : decode prog_4_method_7_code 3 = .ok (.iload 4, 2) := by decide +kernel
theorem d_X8_suits_5 : decode prog_4_method_7_code 5 = .ok (.aload_n 0, 1) := by decide +kernel
theorem d_X8_suits_6 : decode prog_4_method_7_code 6 = .ok (.getfield 40, 3) := by decide +kernel
theorem d_X8_suits_9 : decode prog_4_method_7_code 9 = .ok (.getfield 78, 3) := by decide +kernel
theorem d_X8_suits_12 : decode prog_4_method_7_code 12 = .ok (.if_icmp .ge 36, 3) := by decide +kernel
theorem d_X8_suits_15 : decode prog_4_method_7_code 15 = .ok (.aload_n 0, 1) := by decide +kernel
theorem d_X8_suits_16 : decode prog_4_method_7_code 16 = .ok (.getfield 48, 3) := by decide +kernel
theorem d_X8_suits_19 : decode prog_4_method_7_code 19 = .ok (.getfield 83, 3) := by decide +kernel
theorem d_X8_suits_22 : decode prog_4_method_7_code 22 = .ok (.iload 4, 2) := by decide +kernel
theorem d_X8_suits_24 : decode prog_4_method_7_code 24 = .ok (.iaload, 1) := by decide +kernel
theorem d_X8_suits_25 : decode prog_4_method_7_code 25 = .ok (.iload_n 1, 1) := by decide +kernel
theorem d_X8_suits_26 : decode prog_4_method_7_code 26 = .ok (.if_icmp .ne 16, 3) := by decide +kernel
theorem d_X8_suits_29 : decode prog_4_method_7_code 29 = .ok (.aload_n 0, 1) := by decide +kernel
theorem d_X8_suits_30 : decode prog_4_method_7_code 30 = .ok (.iload 4, 2) := by decide +kernel
theorem d_X8_suits_32 : decode prog_4_method_7_code 32 = .ok (.aload_n 2, 1) := by decide +kernel
theorem d_X8_suits_33 : decode prog_4_method_7_code 33 = .ok (.iload_n 3, 1) := by decide +kernel
theorem d_X8_suits_34 : decode prog_4_method_7_code 34 = .ok (.invokevirtual 134, 3) := by decide +kernel
theorem d_X8_suits_37 : decode prog_4_method_7_code 37 = .ok (.ifCond .ne 5, 3) := by decide +kernel
theorem d_X8_suits_40 : decode prog_4_method_7_code 40 = .ok (.iconst 0, 1) := by decide +kernel
theorem d_X8_suits_41 : decode prog_4_method_7_code 41 = .ok (.ireturn, 1) := by decide +kernel
theorem d_X8_suits_42 : decode prog_4_method_7_code 42 = .ok (.iinc 4 1, 3) := by decide +kernel
theorem d_X8_suits_45 : decode prog_4_method_7_code 45 = .ok (.goto (-42), 3) := by decide +kernel
theorem d_X8_suits_48 : decode prog_4_method_7_code 48 = .ok (.iconst 1, 1) := by decide +kernel
theorem d_X8_suits_49 : decode prog_4_method_7_code 49 = .ok (.ireturn, 1) := by decide +kernel
abbrev y_X8_suitsAtom : MethodName := ⟨"VirtualRewrite$Finder", "suitsAtom", "(ILVirtualRewrite$Table;I)Z"⟩
theorem d_X8_suitsAtom_0 : decode prog_4_method_8_code 0 = .ok (.aload_n 0, 1) := by decide +kernel
theorem d_X8_suitsAtom_1 : decode prog_4_method_8_code 1 = .ok (.getfield 44, 3) := by decide +kernel
theorem d_X8_suitsAtom_4 : decode prog_4_method_8_code 4 = .ok (.aload_n 0, 1) := by decide +kernel
theorem d_X8_suitsAtom_5 : decode prog_4_method_8_code 5 = .ok (.getfield 36, 3) := by decide +kernel
theorem d_X8_suitsAtom_8 : decode prog_4_method_8_code 8 = .ok (.iload_n 1, 1) := by decide +kernel
theorem d_X8_suitsAtom_9 : decode prog_4_method_8_code 9 = .ok (.invokevirtual 101, 3) := by decide +kernel
theorem d_X8_suitsAtom_12 : decode prog_4_method_8_code 12 = .ok (.astore 4, 2) := by decide +kernel
theorem d_X8_suitsAtom_14 : decode prog_4_method_8_code 14 = .ok (.iconst 0, 1) := by decide +kernel
theorem d_X8_suitsAtom_15 : decode prog_4_method_8_code 15 = .ok (.istore 5, 2) := by decide +kernel
theorem d_X8_suitsAtom_17 : decode prog_4_method_8_code 17 = .ok (.iload 5, 2) := by decide +kernel
theorem d_X8_suitsAtom_19 : decode prog_4_method_8_code 19 = .ok (.iconst 2, 1) := by decide +kernel
theorem d_X8_suitsAtom_20 : decode prog_4_method_8_code 20 = .ok (.if_icmp .ge 114, 3) := by decide +kernel
theorem d_X8_suitsAtom_23 : decode prog_4_method_8_code 23 = .ok (.aload_n 0, 1) := by decide +kernel
theorem d_X8_suitsAtom_24 : decode prog_4_method_8_code 24 = .ok (.getfield 40, 3) := by decide +kernel
theorem d_X8_suitsAtom_27 : decode prog_4_method_8_code 27 = .ok (.iload_n 1, 1) := by decide +kernel
theorem d_X8_suitsAtom_28 : decode prog_4_method_8_code 28 = .ok (.iload 5, 2) := by decide +kernel
theorem d_X8_suitsAtom_30 : decode prog_4_method_8_code 30 = .ok (.invokevirtual 86, 3) := by decide +kernel
theorem d_X8_suitsAtom_33 : decode prog_4_method_8_code 33 = .ok (.istore 6, 2) := by decide +kernel
theorem d_X8_suitsAtom_35 : decode prog_4_method_8_code 35 = .ok (.aload_n 2, 1) := by decide +kernel
theorem d_X8_suitsAtom_36 : decode prog_4_method_8_code 36 = .ok (.iload_n 3, 1) := by decide +kernel
theorem d_X8_suitsAtom_37 : decode prog_4_method_8_code 37 = .ok (.aload 4, 2) := by decide +kernel
theorem d_X8_suitsAtom_39 : decode prog_4_method_8_code 39 = .ok (.getfield 110, 3) := by decide +kernel
theorem d_X8_suitsAtom_42 : decode prog_4_method_8_code 42 = .ok (.iload 5, 2) := by decide +kernel
theorem d_X8_suitsAtom_44 : decode prog_4_method_8_code 44 = .ok (.iaload, 1) := by decide +kernel
theorem d_X8_suitsAtom_45 : decode prog_4_method_8_code 45 = .ok (.invokevirtual 137, 3) := by decide +kernel
theorem d_X8_suitsAtom_48 : decode prog_4_method_8_code 48 = .ok (.istore 7, 2) := by decide +kernel
theorem d_X8_suitsAtom_50 : decode prog_4_method_8_code 50 = .ok (.iload 6, 2) := by decide +kernel
theorem d_X8_suitsAtom_52 : decode prog_4_method_8_code 52 = .ok (.invokestatic 89, 3) := by decide +kernel
theorem d_X8_suitsAtom_55 : decode prog_4_method_8_code 55 = .ok (.ifCond .ne 16, 3) := by decide +kernel
theorem d_X8_suitsAtom_58 : decode prog_4_method_8_code 58 = .ok (.iload 6, 2) := by decide +kernel
theorem d_X8_suitsAtom_60 : decode prog_4_method_8_code 60 = .ok (.sipush 10000, 3) := by decide +kernel
theorem d_X8_suitsAtom_63 : decode prog_4_method_8_code 63 = .ok (.irem, 1) := by decide +kernel
theorem d_X8_suitsAtom_64 : decode prog_4_method_8_code 64 = .ok (.iload 7, 2) := by decide +kernel
theorem d_X8_suitsAtom_66 : decode prog_4_method_8_code 66 = .ok (.if_icmp .eq 62, 3) := by decide +kernel
theorem d_X8_suitsAtom_69 : decode prog_4_method_8_code 69 = .ok (.iconst 0, 1) := by decide +kernel
theorem d_X8_suitsAtom_70 : decode prog_4_method_8_code 70 = .ok (.ireturn, 1) := by decide +kernel
theorem d_X8_suitsAtom_71 : decode prog_4_method_8_code 71 = .ok (.iload 6, 2) := by decide +kernel
theorem d_X8_suitsAtom_73 : decode prog_4_method_8_code 73 = .ok (.invokestatic 97, 3) := by decide +kernel
theorem d_X8_suitsAtom_76 : decode prog_4_method_8_code 76 = .ok (.istore 8, 2) := by decide +kernel
theorem d_X8_suitsAtom_78 : decode prog_4_method_8_code 78 = .ok (.aload_n 0, 1) := by decide +kernel
theorem d_X8_suitsAtom_79 : decode prog_4_method_8_code 79 = .ok (.getfield 18, 3) := by decide +kernel
theorem d_X8_suitsAtom_82 : decode prog_4_method_8_code 82 = .ok (.aload_n 0, 1) := by decide +kernel
theorem d_X8_suitsAtom_83 : decode prog_4_method_8_code 83 = .ok (.getfield 48, 3) := by decide +kernel
theorem d_X8_suitsAtom_86 : decode prog_4_method_8_code 86 = .ok (.getfield 83, 3) := by decide +kernel
theorem d_X8_suitsAtom_89 : decode prog_4_method_8_code 89 = .ok (.iload_n 1, 1) := by decide +kernel
theorem d_X8_suitsAtom_90 : decode prog_4_method_8_code 90 = .ok (.iaload, 1) := by decide +kernel
theorem d_X8_suitsAtom_91 : decode prog_4_method_8_code 91 = .ok (.bipush 6, 2) := by decide +kernel
theorem d_X8_suitsAtom_93 : decode prog_4_method_8_code 93 = .ok (.imul, 1) := by decide +kernel
theorem d_X8_suitsAtom_94 : decode prog_4_method_8_code 94 = .ok (.iload 8, 2) := by decide +kernel
theorem d_X8_suitsAtom_96 : decode prog_4_method_8_code 96 = .ok (.iadd, 1) := by decide +kernel
theorem d_X8_suitsAtom_97 : decode prog_4_method_8_code 97 = .ok (.iaload, 1) := by decide +kernel
theorem d_X8_suitsAtom_98 : decode prog_4_method_8_code 98 = .ok (.istore 9, 2) := by decide +kernel
theorem d_X8_suitsAtom_100 : decode prog_4_method_8_code 100 = .ok (.iload 7, 2) := by decide +kernel
theorem d_X8_suitsAtom_102 : decode prog_4_method_8_code 102 = .ok (.aload_n 2, 1) := by decide +kernel
theorem d_X8_suitsAtom_103 : decode prog_4_method_8_code 103 = .ok (.iload_n 3, 1) := by decide +kernel
theorem d_X8_suitsAtom_104 : decode prog_4_method_8_code 104 = .ok (.iload 9, 2) := by decide +kernel
theorem d_X8_suitsAtom_106 : decode prog_4_method_8_code 106 = .ok (.invokevirtual 137, 3) := by decide +kernel
theorem d_X8_suitsAtom_109 : decode prog_4_method_8_code 109 = .ok (.if_icmp .ne 17, 3) := by decide +kernel
theorem d_X8_suitsAtom_112 : decode prog_4_method_8_code 112 = .ok (.aload_n 0, 1) := by decide +kernel
theorem d_X8_suitsAtom_113 : decode prog_4_method_8_code 113 = .ok (.getfield 40, 3) := by decide +kernel
theorem d_X8_suitsAtom_116 : decode prog_4_method_8_code 116 = .ok (.iload 8, 2) := by decide +kernel
theorem d_X8_suitsAtom_118 : decode prog_4_method_8_code 118 = .ok (.iload 7, 2) := by decide +kernel
theorem d_X8_suitsAtom_120 : decode prog_4_method_8_code 120 = .ok (.invokevirtual 140, 3) := by decide +kernel
theorem d_X8_suitsAtom_123 : decode prog_4_method_8_code 123 = .ok (.ifCond .ne 5, 3) := by decide +kernel
theorem d_X8_suitsAtom_126 : decode prog_4_method_8_code 126 = .ok (.iconst 0, 1) := by decide +kernel
theorem d_X8_suitsAtom_127 : decode prog_4_method_8_code 127 = .ok (.ireturn, 1) := by decide +kernel
theorem d_X8_suitsAtom_128 : decode prog_4_method_8_code 128 = .ok (.iinc 5 1, 3) := by decide +kernel
theorem d_X8_suitsAtom_131 : decode prog_4_method_8_code 131 = .ok (.goto (-114), 3) := by decide +kernel
theorem d_X8_suitsAtom_134 : decode prog_4_method_8_code 134 = .ok (.iconst 1, 1) := by decide +kernel
theorem d_X8_suitsAtom_135 : decode prog_4_method_8_code 135 = .ok (.ireturn, 1) := by decide +kernel
