abbrev y_X8_agrees : MethodName := ⟨"VirtualRewrite$Finder", "agrees", "(ILVirtualRewrite$Table;II)Z"⟩
theorem d_X8_agrees_0 : decode prog_4_method_14_code 0 = .ok (.iconst 0, 1) := by decide +kernel
theorem d_X8_agrees_1 : decode prog_4_method_14_code 1 = .ok (.istore 5, 2) := by decide +kernel
theorem d_X8_agrees_3 : decode prog_4_method_14_code 3 = .ok (.iload 5, 2) := by decide +kernel
theorem d_X8_agrees_5 : decode prog_4_method_14_code 5 = .ok (.bipush 6, 2) := by decide +kernel
theorem d_X8_agrees_7 : decode prog_4_method_14_code 7 = .ok (.if_icmp .ge 62, 3) := by decide +kernel
theorem d_X8_agrees_10 : decode prog_4_method_14_code 10 = .ok (.aload_n 0, 1) := by decide +kernel
theorem d_X8_agrees_11 : decode prog_4_method_14_code 11 = .ok (.getfield 18, 3) := by decide +kernel
theorem d_X8_agrees_14 : decode prog_4_method_14_code 14 = .ok (.iload_n 1, 1) := by decide +kernel
theorem d_X8_agrees_15 : decode prog_4_method_14_code 15 = .ok (.bipush 6, 2) := by decide +kernel
theorem d_X8_agrees_17 : decode prog_4_method_14_code 17 = .ok (.imul, 1) := by decide +kernel
theorem d_X8_agrees_18 : decode prog_4_method_14_code 18 = .ok (.iload 5, 2) := by decide +kernel
theorem d_X8_agrees_20 : decode prog_4_method_14_code 20 = .ok (.iadd, 1) := by decide +kernel
theorem d_X8_agrees_21 : decode prog_4_method_14_code 21 = .ok (.iaload, 1) := by decide +kernel
theorem d_X8_agrees_22 : decode prog_4_method_14_code 22 = .ok (.istore 6, 2) := by decide +kernel
theorem d_X8_agrees_24 : decode prog_4_method_14_code 24 = .ok (.iload 6, 2) := by decide +kernel
theorem d_X8_agrees_26 : decode prog_4_method_14_code 26 = .ok (.iconst (-1), 1) := by decide +kernel
theorem d_X8_agrees_27 : decode prog_4_method_14_code 27 = .ok (.if_icmp .eq 36, 3) := by decide +kernel
theorem d_X8_agrees_30 : decode prog_4_method_14_code 30 = .ok (.iload 4, 2) := by decide +kernel
theorem d_X8_agrees_32 : decode prog_4_method_14_code 32 = .ok (.iload 5, 2) := by decide +kernel
theorem d_X8_agrees_34 : decode prog_4_method_14_code 34 = .ok (.invokestatic 173, 3) := by decide +kernel
theorem d_X8_agrees_37 : decode prog_4_method_14_code 37 = .ok (.ifCond .eq 26, 3) := by decide +kernel
theorem d_X8_agrees_40 : decode prog_4_method_14_code 40 = .ok (.aload_n 0, 1) := by decide +kernel
theorem d_X8_agrees_41 : decode prog_4_method_14_code 41 = .ok (.getfield 33, 3) := by decide +kernel
theorem d_X8_agrees_44 : decode prog_4_method_14_code 44 = .ok (.iload 5, 2) := by decide +kernel
theorem d_X8_agrees_46 : decode prog_4_method_14_code 46 = .ok (.iaload, 1) := by decide +kernel
theorem d_X8_agrees_47 : decode prog_4_method_14_code 47 = .ok (.sipush 10000, 3) := by decide +kernel
theorem d_X8_agrees_50 : decode prog_4_method_14_code 50 = .ok (.irem, 1) := by decide +kernel
theorem d_X8_agrees_51 : decode prog_4_method_14_code 51 = .ok (.aload_n 2, 1) := by decide +kernel
theorem d_X8_agrees_52 : decode prog_4_method_14_code 52 = .ok (.iload_n 3, 1) := by decide +kernel
theorem d_X8_agrees_53 : decode prog_4_method_14_code 53 = .ok (.iload 6, 2) := by decide +kernel
theorem d_X8_agrees_55 : decode prog_4_method_14_code 55 = .ok (.invokevirtual 137, 3) := by decide +kernel
theorem d_X8_agrees_58 : decode prog_4_method_14_code 58 = .ok (.if_icmp .eq 5, 3) := by decide +kernel
theorem d_X8_agrees_61 : decode prog_4_method_14_code 61 = .ok (.iconst 0, 1) := by decide +kernel
theorem d_X8_agrees_62 : decode prog_4_method_14_code 62 = .ok (.ireturn, 1) := by decide +kernel
theorem d_X8_agrees_63 : decode prog_4_method_14_code 63 = .ok (.iinc 5 1, 3) := by decide +kernel
theorem d_X8_agrees_66 : decode prog_4_method_14_code 66 = .ok (.goto (-63), 3) := by decide +kernel
theorem d_X8_agrees_69 : decode prog_4_method_14_code 69 = .ok (.iconst 1, 1) := by decide +kernel
theorem d_X8_agrees_70 : decode prog_4_method_14_code 70 = .ok (.ireturn, 1) := by decide +kernel
abbrev y_X8_settleVariables : MethodName := ⟨"VirtualRewrite$Finder", "settleVariables", "(ILVirtualRewrite$Table;I)V"⟩
theorem d_X8_settleVariables_0 : decode prog_4_method_15_code 0 = .ok (.iconst 0, 1) := by decide +kernel
theorem d_X8_settleVariables_1 : decode prog_4_method_15_code 1 = .ok (.istore 4, 2) := by decide +kernel
theorem d_X8_settleVariables_3 : decode prog_4_method_15_code 3 = .ok (.iload 4, 2) := by decide +kernel
theorem d_X8_settleVariables_5 : decode prog_4_method_15_code 5 = .ok (.bipush 6, 2) := by decide +kernel
theorem d_X8_settleVariables_7 : decode prog_4_method_15_code 7 = .ok (.if_icmp .ge 55, 3) := by decide +kernel
theorem d_X8_settleVariables_10 : decode prog_4_method_15_code 10 = .ok (.aload_n 0, 1) := by decide +kernel
theorem d_X8_settleVariables_11 : decode prog_4_method_15_code 11 = .ok (.getfield 18, 3) := by decide +kernel
theorem d_X8_settleVariables_14 : decode prog_4_method_15_code 14 = .ok (.iload_n 1, 1) := by decide +kernel
theorem d_X8_settleVariables_15 : decode prog_4_method_15_code 15 = .ok (.bipush 6, 2) := by decide +kernel
theorem d_X8_settleVariables_17 : decode prog_4_method_15_code 17 = .ok (.imul, 1) := by decide +kernel
theorem d_X8_settleVariables_18 : decode prog_4_method_15_code 18 = .ok (.iload 4, 2) := by decide +kernel
theorem d_X8_settleVariables_20 : decode prog_4_method_15_code 20 = .ok (.iadd, 1) := by decide +kernel
theorem d_X8_settleVariables_21 : decode prog_4_method_15_code 21 = .ok (.iaload, 1) := by decide +kernel
theorem d_X8_settleVariables_22 : decode prog_4_method_15_code 22 = .ok (.istore 5, 2) := by decide +kernel
theorem d_X8_settleVariables_24 : decode prog_4_method_15_code 24 = .ok (.iload 5, 2) := by decide +kernel
theorem d_X8_settleVariables_26 : decode prog_4_method_15_code 26 = .ok (.iconst (-1), 1) := by decide +kernel
theorem d_X8_settleVariables_27 : decode prog_4_method_15_code 27 = .ok (.if_icmp .eq 29, 3) := by decide +kernel
theorem d_X8_settleVariables_30 : decode prog_4_method_15_code 30 = .ok (.aload_n 0, 1) := by decide +kernel
theorem d_X8_settleVariables_31 : decode prog_4_method_15_code 31 = .ok (.getfield 33, 3) := by decide +kernel
theorem d_X8_settleVariables_34 : decode prog_4_method_15_code 34 = .ok (.iload 4, 2) := by decide +kernel
theorem d_X8_settleVariables_36 : decode prog_4_method_15_code 36 = .ok (.aload_n 0, 1) := by decide +kernel
theorem d_X8_settleVariables_37 : decode prog_4_method_15_code 37 = .ok (.getfield 30, 3) := by decide +kernel
theorem d_X8_settleVariables_40 : decode prog_4_method_15_code 40 = .ok (.iload 4, 2) := by decide +kernel
theorem d_X8_settleVariables_42 : decode prog_4_method_15_code 42 = .ok (.iaload, 1) := by decide +kernel
theorem d_X8_settleVariables_43 : decode prog_4_method_15_code 43 = .ok (.sipush 10000, 3) := by decide +kernel
theorem d_X8_settleVariables_46 : decode prog_4_method_15_code 46 = .ok (.imul, 1) := by decide +kernel
theorem d_X8_settleVariables_47 : decode prog_4_method_15_code 47 = .ok (.aload_n 2, 1) := by decide +kernel
theorem d_X8_settleVariables_48 : decode prog_4_method_15_code 48 = .ok (.iload_n 3, 1) := by decide +kernel
theorem d_X8_settleVariables_49 : decode prog_4_method_15_code 49 = .ok (.iload 5, 2) := by decide +kernel
theorem d_X8_settleVariables_51 : decode prog_4_method_15_code 51 = .ok (.invokevirtual 137, 3) := by decide +kernel
theorem d_X8_settleVariables_54 : decode prog_4_method_15_code 54 = .ok (.iadd, 1) := by decide +kernel
theorem d_X8_settleVariables_55 : decode prog_4_method_15_code 55 = .ok (.iastore, 1) := by decide +kernel
theorem d_X8_settleVariables_56 : decode prog_4_method_15_code 56 = .ok (.iinc 4 1, 3) := by decide +kernel
theorem d_X8_settleVariables_59 : decode prog_4_method_15_code 59 = .ok (.goto (-56), 3) := by decide +kernel
theorem d_X8_settleVariables_62 : decode prog_4_method_15_code 62 = .ok (.return_, 1) := by decide +kernel
abbrev y_X0_found : MethodName := ⟨"VirtualRewrite", "found", "(II)I"⟩
theorem d_X0_found_0 : decode prog_1_method_15_code 0 = .ok (.iload_n 1, 1) := by decide +kernel
theorem d_X0_found_1 : decode prog_1_method_15_code 1 = .ok (.aload_n 0, 1) := by decide +kernel
theorem d_X0_found_2 : decode prog_1_method_15_code 2 = .ok (.getfield 44, 3) := by decide +kernel
theorem d_X0_found_5 : decode prog_1_method_15_code 5 = .ok (.getfield 171, 3) := by decide +kernel
theorem d_X0_found_8 : decode prog_1_method_15_code 8 = .ok (.invokestatic 57, 3) := by decide +kernel
theorem d_X0_found_11 : decode prog_1_method_15_code 11 = .ok (.ifCond .eq 11, 3) := by decide +kernel
theorem d_X0_found_14 : decode prog_1_method_15_code 14 = .ok (.iload_n 2, 1) := by decide +kernel
theorem d_X0_found_15 : decode prog_1_method_15_code 15 = .ok (.iconst 2, 1) := by decide +kernel
theorem d_X0_found_16 : decode prog_1_method_15_code 16 = .ok (.invokestatic 57, 3) := by decide +kernel
theorem d_X0_found_19 : decode prog_1_method_15_code 19 = .ok (.ifCond .ne 5, 3) := by decide +kernel
theorem d_X0_found_22 : decode prog_1_method_15_code 22 = .ok (.iconst (-1), 1) := by decide +kernel
theorem d_X0_found_23 : decode prog_1_method_15_code 23 = .ok (.ireturn, 1) := by decide +kernel
theorem d_X0_found_24 : decode prog_1_method_15_code 24 = .ok (.iload_n 2, 1) := by decide +kernel
theorem d_X0_found_25 : decode prog_1_method_15_code 25 = .ok (.ifCond .ne 14, 3) := by decide +kernel
theorem d_X0_found_28 : decode prog_1_method_15_code 28 = .ok (.aload_n 0, 1) := by decide +kernel
theorem d_X0_found_29 : decode prog_1_method_15_code 29 = .ok (.getfield 44, 3) := by decide +kernel
theorem d_X0_found_32 : decode prog_1_method_15_code 32 = .ok (.iload_n 1, 1) := by decide +kernel
theorem d_X0_found_33 : decode prog_1_method_15_code 33 = .ok (.invokevirtual 187, 3) := by decide +kernel
theorem d_X0_found_36 : decode prog_1_method_15_code 36 = .ok (.goto 11, 3) := by decide +kernel
theorem d_X0_found_39 : decode prog_1_method_15_code 39 = .ok (.aload_n 0, 1) := by decide +kernel
theorem d_X0_found_40 : decode prog_1_method_15_code 40 = .ok (.getfield 44, 3) := by decide +kernel
theorem d_X0_found_43 : decode prog_1_method_15_code 43 = .ok (.iload_n 1, 1) := by decide +kernel
theorem d_X0_found_44 : decode prog_1_method_15_code 44 = .ok (.invokevirtual 190, 3) := by decide +kernel
theorem d_X0_found_47 : decode prog_1_method_15_code 47 = .ok (.ireturn, 1) := by decide +kernel
abbrev y_X7_finders : MethodName := ⟨"VirtualRewrite$Answers", "finders", "(I)I"⟩
theorem d_X7_finders_0 : decode prog_2_method_4_code 0 = .ok (.aload_n 0, 1) := by decide +kernel
theorem d_X7_finders_1 : decode prog_2_method_4_code 1 = .ok (.getfield 18, 3) := by decide +kernel
theorem d_X7_finders_4 : decode prog_2_method_4_code 4 = .ok (.aload_n 0, 1) := by decide +kernel
theorem d_X7_finders_5 : decode prog_2_method_4_code 5 = .ok (.getfield 15, 3) := by decide +kernel
theorem d_X7_finders_8 : decode prog_2_method_4_code 8 = .ok (.iload_n 1, 1) := by decide +kernel
theorem d_X7_finders_9 : decode prog_2_method_4_code 9 = .ok (.iaload, 1) := by decide +kernel
theorem d_X7_finders_10 : decode prog_2_method_4_code 10 = .ok (.iaload, 1) := by decide +kernel
theorem d_X7_finders_11 : decode prog_2_method_4_code 11 = .ok (.ireturn, 1) := by decide +kernel
abbrev y_X7_firstFinder : MethodName := ⟨"VirtualRewrite$Answers", "firstFinder", "(I)I"⟩
theorem d_X7_firstFinder_0 : decode prog_2_method_5_code 0 = .ok (.aload_n 0, 1) := by decide +kernel
theorem d_X7_firstFinder_1 : decode prog_2_method_5_code 1 = .ok (.getfield 21, 3) := by decide +kernel
theorem d_X7_firstFinder_4 : decode prog_2_method_5_code 4 = .ok (.aload_n 0, 1) := by decide +kernel
theorem d_X7_firstFinder_5 : decode prog_2_method_5_code 5 = .ok (.getfield 15, 3) := by decide +kernel
theorem d_X7_firstFinder_8 : decode prog_2_method_5_code 8 = .ok (.iload_n 1, 1) := by decide +kernel
theorem d_X7_firstFinder_9 : decode prog_2_method_5_code 9 = .ok (.iaload, 1) := by decide +kernel
theorem d_X7_firstFinder_10 : decode prog_2_method_5_code 10 = .ok (.iaload, 1) := by decide +kernel
theorem d_X7_firstFinder_11 : decode prog_2_method_5_code 11 = .ok (.ireturn, 1) := by decide +kernel
abbrev y_X0_value : MethodName := ⟨"VirtualRewrite", "value", "(II)I"⟩
theorem d_X0_value_0 : decode prog_1_method_14_code 0 = .ok (.iload_n 1, 1) := by decide +kernel
theorem d_X0_value_1 : decode prog_1_method_14_code 1 = .ok (.aload_n 0, 1) := by decide +kernel
theorem d_X0_value_2 : decode prog_1_method_14_code 2 = .ok (.getfield 44, 3) := by decide +kernel
theorem d_X0_value_5 : decode prog_1_method_14_code 5 = .ok (.getfield 171, 3) := by decide +kernel
theorem d_X0_value_8 : decode prog_1_method_14_code 8 = .ok (.invokestatic 57, 3) := by decide +kernel
theorem d_X0_value_11 : decode prog_1_method_14_code 11 = .ok (.ifCond .eq 12, 3) := by decide +kernel
theorem d_X0_value_14 : decode prog_1_method_14_code 14 = .ok (.iload_n 2, 1) := by decide +kernel
theorem d_X0_value_15 : decode prog_1_method_14_code 15 = .ok (.bipush 6, 2) := by decide +kernel
theorem d_X0_value_17 : decode prog_1_method_14_code 17 = .ok (.invokestatic 57, 3) := by decide +kernel
theorem d_X0_value_20 : decode prog_1_method_14_code 20 = .ok (.ifCond .ne 5, 3) := by decide +kernel
theorem d_X0_value_23 : decode prog_1_method_14_code 23 = .ok (.iconst (-1), 1) := by decide +kernel
theorem d_X0_value_24 : decode prog_1_method_14_code 24 = .ok (.ireturn, 1) := by decide +kernel
theorem d_X0_value_25 : decode prog_1_method_14_code 25 = .ok (.aload_n 0, 1) := by decide +kernel
theorem d_X0_value_26 : decode prog_1_method_14_code 26 = .ok (.getfield 44, 3) := by decide +kernel
theorem d_X0_value_29 : decode prog_1_method_14_code 29 = .ok (.getfield 172, 3) := by decide +kernel
theorem d_X0_value_32 : decode prog_1_method_14_code 32 = .ok (.iload_n 2, 1) := by decide +kernel
theorem d_X0_value_33 : decode prog_1_method_14_code 33 = .ok (.invokestatic 174, 3) := by decide +kernel
theorem d_X0_value_36 : decode prog_1_method_14_code 36 = .ok (.ifCond .ne 13, 3) := by decide +kernel
theorem d_X0_value_39 : decode prog_1_method_14_code 39 = .ok (.new 177, 3) := by decide +kernel
theorem d_X0_value_42 : decode prog_1_method_14_code 42 = .ok (.dup, 1) := by decide +kernel
theorem d_X0_value_43 : decode prog_1_method_14_code 43 = .ok (.ldc 179, 2) := by decide +kernel
theorem d_X0_value_45 : decode prog_1_method_14_code 45 = .ok (.invokespecial 181, 3) := by decide +kernel
theorem d_X0_value_48 : decode prog_1_method_14_code 48 = .ok (.athrow, 1) := by decide +kernel
theorem d_X0_value_49 : decode prog_1_method_14_code 49 = .ok (.aload_n 0, 1) := by decide +kernel
theorem d_X0_value_50 : decode prog_1_method_14_code 50 = .ok (.getfield 44, 3) := by decide +kernel
theorem d_X0_value_53 : decode prog_1_method_14_code 53 = .ok (.iload_n 1, 1) := by decide +kernel
theorem d_X0_value_54 : decode prog_1_method_14_code 54 = .ok (.iload_n 2, 1) := by decide +kernel
theorem d_X0_value_55 : decode prog_1_method_14_code 55 = .ok (.invokevirtual 184, 3) := by decide +kernel
theorem d_X0_value_58 : decode prog_1_method_14_code 58 = .ok (.ireturn, 1) := by decide +kernel
