abbrev y_X8_agrees : MethodName := ⟨"VirtualRewrite$Finder", "agrees", "(ILVirtualRewrite$Table;II)Z"⟩
theorem d_X8_agrees_0 : decode prog_4_method_14_code 0 = .ok (.iconst 0, 1) := by decide +kernel
theorem d_X8_agrees_1 : decode prog_4_method_14_code 1 = .ok (.istore 5, 2) := by decide +kernel
theorem d_X8_agrees_3 : decode prog_4_method_14_code 3 = .ok (.iload 5, 2) := by decide +kernel
theorem d_X8_agrees_5 : decode prog_4_method_14_code 5 = .ok (.bipush 6, 2) := by decide +kernel
theorem d_X8_agrees_7 : decode prog_4_method_14_code 7 = .ok (.if_icmp .ge 62, 3) := by decide +kernel
theorem d_X8_agrees_10 : decode prog_4_method_14_code 10 = .ok (.aload_n 0, 1) := by decide +kernel
theorem d_X8_agrees_11 : decode prog_4_method_14_code 11 = .ok (.getfield 18, 3) := by decide +kernel
theorem d_X8_agrees_14 : decode prog_4_method_14_code 14 = .ok (.iload_n 1, 1) := by decide +kernel
theorem d_X8_agrees_15 : decode prog_4_method_14_code 15 = .ok (.bipush 6, 2) := by decide +kernel
theorem d_X8_agrees_17 : decode prog_4_method_14_code 17 = .ok (.imul, 1) := by decide +kernel
theorem d_X8_agrees_18 : decode prog_4_method_14_code 18 = .ok (.iload 5, 2) := by decide +kernel
theorem d_X8_agrees_20 : decode prog_4_method_14_code 20 = .ok (.iadd, 1) := by decide +kernel
theorem d_X8_agrees_21 : decode prog_4_method_14_code 21 = .ok (.iaload, 1) := by decide +kernel
theorem d_X8_agrees_22 : decode prog_4_method_14_code 22 = .ok (.istore 6, 2) := by decide +kernel
theorem d_X8_agrees_24 : decode prog_4_method_14_code 24 = .ok (.iload 6, 2) := by decide +kernel
theorem d_X8_agrees_26 : decode prog_4_method_14_code 26 = .ok (.iconst (-1), 1) := by decide +kernel
theorem d_X8_agrees_27 : decode prog_4_method_14_code 27 = .ok (.if_icmp .eq 36, 3) := by decide +kernel
theorem d_X8_agrees_30 : decode prog_4_method_14_code 30 = .ok (.iload 4, 2) := by decide +kernel
theorem d_X8_agrees_32 : decode prog_4_method_14_code 32 = .ok (.iload 5, 2) := by decide +kernel
theorem d_X8_agrees_34 : decode prog_4_method_14_code 34 = .ok (.invokestatic 173, 3) := by decide +kernel
theorem d_X8_agrees_37 : decode prog_4_method_14_code 37 = .ok (.ifCond .eq 26, 3) := by decide +kernel
theorem d_X8_agrees_40 : decode prog_4_method_14_code 40 = .ok (.aload_n 0, 1) := by decide +kernel
theorem d_X8_agrees_41 : decode prog_4_method_14_code 41 = .ok (.getfield 33, 3) := by decide +kernel
theorem d_X8_agrees_44 : decode prog_4_method_14_code 44 = .ok (.iload 5, 2) := by decide +kernel
theorem d_X8_agrees_46 : decode prog_4_method_14_code 46 = .ok (.iaload, 1) := by decide +kernel
theorem d_X8_agrees_47 : decode prog_4_method_14_code 47 = .ok (.sipush 10000, 3) := by decide +kernel
theorem d_X8_agrees_50 : decode prog_4_method_14_code 50 = .ok (.irem, 1) := by decide +kernel
theorem d_X8_agrees_51 : decode prog_4_method_14_code 51 = .ok (.aload_n 2, 1) := by decide +kernel
theorem d_X8_agrees_52 : decode prog_4_method_14_code 52 = .ok (.iload_n 3, 1) := by decide +kernel
theorem d_X8_agrees_53 : decode prog_4_method_14_code 53 = .ok (.iload 6, 2) := by decide +kernel
theorem d_X8_agrees_55 : decode prog_4_method_14_code 55 = .ok (.invokevirtual 137, 3) := by decide +kernel
theorem d_X8_agrees_58 : decode prog_4_method_14_code 58 = .ok (.if_icmp .eq 5, 3) := by decide +kernel
theorem d_X8_agrees_61 : decode prog_4_method_14_code 61 = .ok (.iconst 0, 1) := by decide +kernel
theorem d_X8_agrees_62 : decode prog_4_method_14_code 62 = .ok (.ireturn, 1) := by decide +kernel
theorem d_X8_agrees_63 : decode prog_4_method_14_code 63 = .ok (.iinc 5 1, 3) := by decide +kernel
theorem d_X8_agrees_66 : decode prog_4_method_14_code 66 = .ok (.goto (-63), 3) := by decide +kernel
theorem d_X8_agrees_69 : decode prog_4_method_14_code 69 = .ok (.iconst 1, 1) := by decide +kernel
theorem d_X8_agrees_70 : decode prog_4_method_14_code 70 = .ok (.ireturn, 1) := by decide +kernel
abbrev y_X8_settleVariables : MethodName := ⟨"VirtualRewrite$Finder", "settleVariables", "(ILVirtualRewrite$Table;I)V"⟩
theorem d_X8_settleVariables_0 : decode prog_4_method_15_code 0 = .ok (.iconst 0, 1) := by decide +kernel
theorem d_X8_settleVariables_1 : decode prog_4_method_15_code 1 = .ok (.istore 4, 2) := by decide +kernel
theorem d_X8_settleVariables_3 : decode prog_4_method_15_code 3 = .ok (.iload 4, 2) := by decide +kernel
theorem d_X8_settleVariables_5 : decode prog_4_method_15_code 5 = .ok (.bipush 6, 2) := by decide +kernel
theorem d_X8_settleVariables_7 : decode prog_4_method_15_code 7 = .ok (.if_icmp .ge 55, 3) := by decide +kernel
theorem d_X8_settleVariables_10 : decode prog_4_method_15_code 10 = .ok (.aload_n 0, 1) := by decide +kernel
theorem d_X8_settleVariables_11 : decode prog_4_method_15_code 11 = .ok (.getfield 18, 3) := by decide +kernel
theorem d_X8_settleVariables_14 : decode prog_4_method_15_code 14 = .ok (.iload_n 1, 1) := by decide +kernel
theorem d_X8_settleVariables_15 : decode prog_4_method_15_code 15 = .ok (.bipush 6, 2) := by decide +kernel
theorem d_X8_settleVariables_17 : decode prog_4_method_15_code 17 = .ok (.imul, 1) := by decide +kernel
theorem d_X8_settleVariables_18 : decode prog_4_method_15_code 18 = .ok (.iload 4, 2) := by decide +kernel
theorem d_X8_settleVariables_20 : decode prog_4_method_15_code 20 = .ok (.iadd, 1) := by decide +kernel
theorem d_X8_settleVariables_21 : decode prog_4_method_15_code 21 = .ok (.iaload, 1) := by decide +kernel
theorem d_X8_settleVariables_22 : decode prog_4_method_15_code 22 = .ok (.istore 5, 2) := by decide +kernel
theorem d_X8_settleVariables_24 : decode prog_4_method_15_code 24 = .ok (.iload 5, 2) := by decide +kernel
theorem d_X8_settleVariables_26 : decode prog_4_method_15_code 26 = .ok (.iconst (-1), 1) := by decide +kernel
theorem d_X8_settleVariables_27 : decode prog_4_method_15_code 27 = .ok (.if_icmp .eq 29, 3) := by decide +kernel
theorem d_X8_settleVariables_30 : decode prog_4_method_15_code 30 = .ok (.aload_n 0, 1) := by decide +kernel
theorem d_X8_settleVariables_31 : decode prog_4_method_15_code 31 = .ok (.getfield 33, 3) := by decide +kernel
theorem d_X8_settleVariables_34 : decode prog_4_method_15_code 34 = .ok (.iload 4, 2) := by decide +kernel
theorem d_X8_settleVariables_36 : decode prog_4_method_15_code 36 = .ok (.aload_n 0, 1) := by decide +kernel
theorem d_X8_settleVariables_37 : decode prog_4_method_15_code 37 = .ok (.getfield 30, 3) := by decide +kernel
theorem d_X8_settleVariables_40 : decode prog_4_method_15_code 40 = .ok (.iload 4, 2) := by decide +kernel
theorem d_X8_settleVariables_42 : decode prog_4_method_15_code 42 = .ok (.iaload, 1) := by decide +kernel
theorem d_X8_settleVariables_43 : decode prog_4_method_15_code 43 = .ok (.sipush 10000, 3) := by decide +kernel
theorem d_X8_settleVariables_46 : decode prog_4_method_15_code 46 = .ok (.imul, 1) := by decide +kernel
theorem d_X8_settleVariables_47 : decode prog_4_method_15_code 47 = .ok (.aload_n 2, 1) := by decide +kernel
theorem d_X8_settleVariables_48 : decode prog_4_method_15_code 48 = .ok (.iload_n 3, 1) := by decide +kernel
theorem d_X8_settleVariables_49 : decode prog_4_method_15_code 49 = .ok (.iload 5, 2) := by decide +kernel
theorem d_X8_settleVariables_51 : decode prog_4_method_15_code 51 = .ok (.invokevirtual 137, 3) := by decide +kernel
theorem d_X8_settleVariables_54 : decode prog_4_method_15_code 54 = .ok (.iadd, 1) := by decide +kernel
theorem d_X8_settleVariables_55 : decode prog_4_method_15_code 55 = .ok (.iastore, 1) := by decide +kernel
theorem d_X8_settleVariables_56 : decode prog_4_method_15_code 56 = .ok (.iinc 4 1, 3) := by decide +kernel
theorem d_X8_settleVariables_59 : decode prog_4_method_15_code 59 = .ok (.goto (-56), 3) := by decide +kernel
theorem d_X8_settleVariables_62 : decode prog_4_method_15_code 62 = .ok (.return_, 1) := by decide +kernel
abbrev y_X0_found : MethodName := ⟨"VirtualRewrite", "found", "(II)I"⟩
theorem d_X0_found_0 : decode prog_1_method_15_code 0 = .ok (.iload_n 1, 1) := by decide +kernel
theorem d_X0_found_1 : decode prog_1_method_15_code 1 = .ok (.aload_n 0, 1) := by decide +kernel
theorem d_X0_found_2 : decode prog_1_method_15_code 2 = .ok (.getfield 44, 3) := by decide +kernel
theorem d_X0_found_5 : decode prog_1_method_15_code 5 = .ok (.getfield 171, 3) := by decide +kernel
theorem d_X0_found_8 : decode prog_1_method_15_code 8 = .ok (.invokestatic 57, 3) := by decide +kernel
theorem d_X0_found_11 : decode prog_1_method_15_code 11 = .ok (.ifCond .eq 11, 3) := by decide +kernel
theorem d_X0_found_14 : decode prog_1_method_15_code 14 = .ok (.iload_n 2, 1) := by decide +kernel
theorem d_X0_found_15 : decode prog_1_method_15_code 15 = .ok (.iconst 2, 1) := by decide +kernel
theorem d_X0_found_16 : decode prog_1_method_15_code 16 = .ok (.invokestatic 57, 3) := by decide +kernel
theorem d_X0_found_19 : decode prog_1_method_15_code 19 = .ok (.ifCond .ne 5, 3) := by decide +kernel
theorem d_X0_found_22 : decode prog_1_method_15_code 22 = .ok (.iconst (-1), 1) := by decide +kernel
theorem d_X0_found_23 : decode prog_1_method_15_code 23 = .ok (.ireturn, 1) := by decide +kernel
theorem d_X0_found_24 : decode prog_1_method_15_code 24 = .ok (.iload_n 2, 1) := by decide +kernel
theorem d_X0_found_25 : decode prog_1_method_15_code 25 = .ok (.ifCond .ne 14, 3) := by decide +kernel
theorem d_X0_found_28 : decode prog_1_method_15_code 28 = .ok (.aload_n 0, 1) := by decide +kernel
theorem d_X0_found_29 : decode prog_1_method_15_code 29 = .ok (.getfield 44, 3) := by decide +kernel
theorem d_X0_found_32 : decode prog_1_method_15_code 32 = .ok (.iload_n 1, 1) := by decide +kernel
theorem d_X0_found_33 : decode prog_1_method_15_code 33 = .ok (.invokevirtual 187, 3) := by decide +kernel
theorem d_X0_found_36 : decode prog_1_method_15_code 36 = .ok (.goto 11, 3) := by decide +kernel
theorem d_X0_found_39 : decode prog_1_method_15_code 39 = .ok (.aload_n 0, 1) := by decide +kernel
theorem d_X0_found_40 : decode prog_1_method_15_code 40 = .ok (.getfield 44, 3) := by decide +kernel
theorem d_X0_found_43 : decode prog_1_method_15_code 43 = .ok (.iload_n 1, 1) := by decide +kernel
theorem d_X0_found_44 : decode prog_1_method_15_code 44 = .ok (.invokevirtual 190, 3) := by decide +kernel
theorem d_X0_found_47 : decode prog_1_method_15_code 47 = .ok (.ireturn, 1) := by decide +kernel
abbrev y_X7_finders : MethodName := ⟨"VirtualRewrite$Answers", "finders", "(I)I"⟩
theorem d_X7_finders_0 : decode prog_2_method_4_code 0 = .ok (.aload_n 0, 1) := by decide +kernel
theorem d_X7_finders_1 : decode prog_2_method_4_code 1 = .ok (.getfield 18, 3) := by decide +kernel
theorem d_X7_finders_4 : decode prog_2_method_4_code 4 = .ok (.aload_n 0, 1) := by decide +kernel
theorem d_X7_finders_5 : decode prog_2_method_4_code 5 = .ok (.getfield 15, 3) := by decide +kernel
theorem d_X7_finders_8 : decode prog_2_method_4_code 8 = .ok (.iload_n 1, 1) := by decide +kernel
theorem d_X7_finders_9 : decode prog_2_method_4_code 9 = .ok (.iaload, 1) := by decide +kernel
theorem d_X7_finders_10 : decode prog_2_method_4_code 10 = .ok (.iaload, 1) := by decide +kernel
theorem d_X7_finders_11 : decode prog_2_method_4_code 11 = .ok (.ireturn, 1) := by decide +kernel
abbrev y_X7_firstFinder : MethodName := ⟨"VirtualRewrite$Answers", "firstFinder", "(I)I"⟩
theorem d_X7_firstFinder_0 : decode prog_2_method_5_code 0 = .ok (.aload_n 0, 1) := by decide +kernel
theorem d_X7_firstFinder_1 : decode prog_2_method_5_code 1 = .ok (.getfield 21, 3) := by decide +kernel
theorem d_X7_firstFinder_4 : decode prog_2_method_5_code 4 = .ok (.aload_n 0, 1) := by decide +kernel
theorem d_X7_firstFinder_5 : decode prog_2_method_5_code 5 = .ok (.getfield 15, 3) := by decide +kernel
theorem d_X7_firstFinder_8 : decode prog_2_method_5_code 8 = .ok (.iload_n 1, 1) := by decide +kernel
theorem d_X7_firstFinder_9 : decode prog_2_method_5_code 9 = .ok (.iaload, 1) := by decide +kernel
theorem d_X7_firstFinder_10 : decode prog_2_method_5_code 10 = .ok (.iaload, 1) := by decide +kernel
theorem d_X7_firstFinder_11 : decode prog_2_method_5_code 11 = .ok (.ireturn, 1) := by decide +kernel
abbrev y_X0_value : MethodName := ⟨"VirtualRewrite", "value", "(II)I"⟩
theorem d_X0_value_0 : decode prog_1_method_14_code 0 = .ok (.iload_n 1, 1) := by decide +kernel
theorem d_X0_value_1 : decode prog_1_method_14_code 1 = .ok (.aload_n 0, 1) := by decide +kernel
theorem d_X0_value_2 : decode prog_1_method_14_code 2 = .ok (.getfield 44, 3) := by decide +kernel
theorem d_X0_value_5 : decode prog_1_method_14_code 5 = .ok (.getfield 171, 3) := by decide +kernel
theorem d_X0_value_8 : decode prog_1_method_14_code 8 = .ok (.invokestatic 57, 3) := by decide +kernel
theorem d_X0_value_11 : decode prog_1_method_14_code 11 = .ok (.ifCond .eq 12, 3) := by decide +kernel
theorem d_X0_value_14 : decode prog_1_method_14_code 14 = .ok (.iload_n 2, 1) := by decide +kernel
theorem d_X0_value_15 : decode prog_1_method_14_code 15 = .ok (.bipush 6, 2) := by decide +kernel
theorem d_X0_value_17 : decode prog_1_method_14_code 17 = .ok (.invokestatic 57, 3) := by decide +kernel
theorem d_X0_value_20 : decode prog_1_method_14_code 20 = .ok (.ifCond .ne 5, 3) := by decide +kernel
theorem d_X0_value_23 : decode prog_1_method_14_code 23 = .ok (.iconst (-1), 1) := by decide +kernel
theorem d_X0_value_24 : decode prog_1_method_14_code 24 = .ok (.ireturn, 1) := by decide +kernel
theorem d_X0_value_25 : decode prog_1_method_14_code 25 = .ok (.aload_n 0, 1) := by decide +kernel
theorem d_X0_value_26 : decode prog_1_method_14_code 26 = .ok (.getfield 44, 3) := by decide +kernel
theorem d_X0_value_29 : decode prog_1_method_14_code 29 = .ok (.getfield 172, 3) := by decide +kernel
theorem d_X0_value_32 : decode prog_1_method_14_code 32 = .ok (.iload_n 2, 1) := by decide +kernel
theorem d_X0_value_33 : decode prog_1_method_14_code 33 = .ok (.invokestatic 174, 3) := by decide +kernel
theorem d_X0_value_36 : decode prog_1_method_14_code 36 = .ok (.ifCond .ne 13, 3) := by decide +kernel
theorem d_X0_value_39 : decode prog_1_method_14_code 39 = .ok (.new 177, 3) := by decide +kernel
theorem d_X0_value_42 : decode prog_1_method_14_code 42 = .ok (.dup, 1) := by decide +kernel
theorem d_X0_value_43 : decode prog_1_method_14_code 43 = .ok (.ldc 179, 2) := by decide +kernel
theorem d_X0_value_45 : decode prog_1_method_14_code 45 = .ok (.invokespecial 181, 3) := by decide +kernel
theorem d_X0_value_48 : decode prog_1_method_14_code 48 = .ok (.athrow, 1) := by decide +kernel
theorem d_X0_value_49 : decode prog_1_method_14_code 49 = .ok (.aload_n 0, 1) := by decide +kernel
theorem d_X0_value_50 : decode prog_1_method_14_code 50 = .ok (.getfield 44, 3) := by decide +kernel
theorem d_X0_value_53 : decode prog_1_method_14_code 53 = .ok (.iload_n 1, 1) := by decide +kernel
theorem d_X0_value_54 : decode prog_1_method_14_code 54 = .ok (.iload_n 2, 1) := by decide +kernel
theorem d_X0_value_55 : decode prog_1_method_14_code 55 = .ok (.invokevirtual 184, 3) := by decide +kernel
theorem d_X0_value_58 : decode prog_1_method_14_code 58 = .ok (.ireturn, 1) := by decide +kernel
abbrev y_X9_init : MethodName := ⟨"VirtualRewriteModel", "<init>", "()V"⟩
theorem d_X9_init_0 : decode prog_11_method_1_code 0 = .ok (.aload_n 0, 1) := by decide +kernel
theorem d_X9_init_1 : decode prog_11_method_1_code 1 = .ok (.invokespecial 1, 3) := by decide +kernel
theorem d_X9_init_4 : decode prog_11_method_1_code 4 = .ok (.aload_n 0, 1) := by decide +kernel
theorem d_X9_init_5 : decode prog_11_method_1_code 5 = .ok (.sipush 240, 3) := by decide +kernel
theorem d_X9_init_8 : decode prog_11_method_1_code 8 = .ok (.newarray .int, 2) := by decide +kernel
theorem d_X9_init_10 : decode prog_11_method_1_code 10 = .ok (.putfield 7, 3) := by decide +kernel
theorem d_X9_init_13 : decode prog_11_method_1_code 13 = .ok (.aload_n 0, 1) := by decide +kernel
theorem d_X9_init_14 : decode prog_11_method_1_code 14 = .ok (.iconst 4, 1) := by decide +kernel
theorem d_X9_init_15 : decode prog_11_method_1_code 15 = .ok (.newarray .int, 2) := by decide +kernel
theorem d_X9_init_17 : decode prog_11_method_1_code 17 = .ok (.putfield 13, 3) := by decide +kernel
theorem d_X9_init_20 : decode prog_11_method_1_code 20 = .ok (.aload_n 0, 1) := by decide +kernel
theorem d_X9_init_21 : decode prog_11_method_1_code 21 = .ok (.bipush 12, 2) := by decide +kernel
theorem d_X9_init_23 : decode prog_11_method_1_code 23 = .ok (.newarray .boolean, 2) := by decide +kernel
theorem d_X9_init_25 : decode prog_11_method_1_code 25 = .ok (.putfield 16, 3) := by decide +kernel
theorem d_X9_init_28 : decode prog_11_method_1_code 28 = .ok (.aload_n 0, 1) := by decide +kernel
theorem d_X9_init_29 : decode prog_11_method_1_code 29 = .ok (.bipush 12, 2) := by decide +kernel
theorem d_X9_init_31 : decode prog_11_method_1_code 31 = .ok (.newarray .int, 2) := by decide +kernel
theorem d_X9_init_33 : decode prog_11_method_1_code 33 = .ok (.putfield 20, 3) := by decide +kernel
theorem d_X9_init_36 : decode prog_11_method_1_code 36 = .ok (.aload_n 0, 1) := by decide +kernel
theorem d_X9_init_37 : decode prog_11_method_1_code 37 = .ok (.bipush 12, 2) := by decide +kernel
theorem d_X9_init_39 : decode prog_11_method_1_code 39 = .ok (.newarray .int, 2) := by decide +kernel
theorem d_X9_init_41 : decode prog_11_method_1_code 41 = .ok (.putfield 23, 3) := by decide +kernel
theorem d_X9_init_44 : decode prog_11_method_1_code 44 = .ok (.aload_n 0, 1) := by decide +kernel
theorem d_X9_init_45 : decode prog_11_method_1_code 45 = .ok (.bipush 24, 2) := by decide +kernel
theorem d_X9_init_47 : decode prog_11_method_1_code 47 = .ok (.newarray .int, 2) := by decide +kernel
theorem d_X9_init_49 : decode prog_11_method_1_code 49 = .ok (.putfield 26, 3) := by decide +kernel
theorem d_X9_init_52 : decode prog_11_method_1_code 52 = .ok (.aload_n 0, 1) := by decide +kernel
theorem d_X9_init_53 : decode prog_11_method_1_code 53 = .ok (.bipush 24, 2) := by decide +kernel
theorem d_X9_init_55 : decode prog_11_method_1_code 55 = .ok (.newarray .int, 2) := by decide +kernel
theorem d_X9_init_57 : decode prog_11_method_1_code 57 = .ok (.putfield 29, 3) := by decide +kernel
theorem d_X9_init_60 : decode prog_11_method_1_code 60 = .ok (.aload_n 0, 1) := by decide +kernel
theorem d_X9_init_61 : decode prog_11_method_1_code 61 = .ok (.iconst 4, 1) := by decide +kernel
theorem d_X9_init_62 : decode prog_11_method_1_code 62 = .ok (.newarray .int, 2) := by decide +kernel
theorem d_X9_init_64 : decode prog_11_method_1_code 64 = .ok (.putfield 32, 3) := by decide +kernel
theorem d_X9_init_67 : decode prog_11_method_1_code 67 = .ok (.aload_n 0, 1) := by decide +kernel
theorem d_X9_init_68 : decode prog_11_method_1_code 68 = .ok (.bipush 8, 2) := by decide +kernel
theorem d_X9_init_70 : decode prog_11_method_1_code 70 = .ok (.newarray .int, 2) := by decide +kernel
theorem d_X9_init_72 : decode prog_11_method_1_code 72 = .ok (.putfield 35, 3) := by decide +kernel
theorem d_X9_init_75 : decode prog_11_method_1_code 75 = .ok (.aload_n 0, 1) := by decide +kernel
theorem d_X9_init_76 : decode prog_11_method_1_code 76 = .ok (.iconst 4, 1) := by decide +kernel
theorem d_X9_init_77 : decode prog_11_method_1_code 77 = .ok (.newarray .int, 2) := by decide +kernel
theorem d_X9_init_79 : decode prog_11_method_1_code 79 = .ok (.putfield 38, 3) := by decide +kernel
theorem d_X9_init_82 : decode prog_11_method_1_code 82 = .ok (.aload_n 0, 1) := by decide +kernel
theorem d_X9_init_83 : decode prog_11_method_1_code 83 = .ok (.iconst 4, 1) := by decide +kernel
theorem d_X9_init_84 : decode prog_11_method_1_code 84 = .ok (.newarray .int, 2) := by decide +kernel
theorem d_X9_init_86 : decode prog_11_method_1_code 86 = .ok (.putfield 41, 3) := by decide +kernel
theorem d_X9_init_89 : decode prog_11_method_1_code 89 = .ok (.aload_n 0, 1) := by decide +kernel
theorem d_X9_init_90 : decode prog_11_method_1_code 90 = .ok (.iconst 4, 1) := by decide +kernel
theorem d_X9_init_91 : decode prog_11_method_1_code 91 = .ok (.newarray .int, 2) := by decide +kernel
theorem d_X9_init_93 : decode prog_11_method_1_code 93 = .ok (.putfield 44, 3) := by decide +kernel
theorem d_X9_init_96 : decode prog_11_method_1_code 96 = .ok (.aload_n 0, 1) := by decide +kernel
theorem d_X9_init_97 : decode prog_11_method_1_code 97 = .ok (.sipush 604, 3) := by decide +kernel
theorem d_X9_init_100 : decode prog_11_method_1_code 100 = .ok (.newarray .int, 2) := by decide +kernel
theorem d_X9_init_102 : decode prog_11_method_1_code 102 = .ok (.putfield 47, 3) := by decide +kernel
theorem d_X9_init_105 : decode prog_11_method_1_code 105 = .ok (.aload_n 0, 1) := by decide +kernel
theorem d_X9_init_106 : decode prog_11_method_1_code 106 = .ok (.sipush 604, 3) := by decide +kernel
theorem d_X9_init_109 : decode prog_11_method_1_code 109 = .ok (.newarray .int, 2) := by decide +kernel
theorem d_X9_init_111 : decode prog_11_method_1_code 111 = .ok (.putfield 50, 3) := by decide +kernel
theorem d_X9_init_114 : decode prog_11_method_1_code 114 = .ok (.aload_n 0, 1) := by decide +kernel
theorem d_X9_init_115 : decode prog_11_method_1_code 115 = .ok (.sipush 151, 3) := by decide +kernel
theorem d_X9_init_118 : decode prog_11_method_1_code 118 = .ok (.newarray .int, 2) := by decide +kernel
theorem d_X9_init_120 : decode prog_11_method_1_code 120 = .ok (.putfield 53, 3) := by decide +kernel
theorem d_X9_init_123 : decode prog_11_method_1_code 123 = .ok (.aload_n 0, 1) := by decide +kernel
theorem d_X9_init_124 : decode prog_11_method_1_code 124 = .ok (.iconst 4, 1) := by decide +kernel
theorem d_X9_init_125 : decode prog_11_method_1_code 125 = .ok (.newarray .int, 2) := by decide +kernel
theorem d_X9_init_127 : decode prog_11_method_1_code 127 = .ok (.putfield 56, 3) := by decide +kernel
theorem d_X9_init_130 : decode prog_11_method_1_code 130 = .ok (.aload_n 0, 1) := by decide +kernel
theorem d_X9_init_131 : decode prog_11_method_1_code 131 = .ok (.bipush 6, 2) := by decide +kernel
theorem d_X9_init_133 : decode prog_11_method_1_code 133 = .ok (.newarray .int, 2) := by decide +kernel
theorem d_X9_init_135 : decode prog_11_method_1_code 135 = .ok (.putfield 59, 3) := by decide +kernel
theorem d_X9_init_138 : decode prog_11_method_1_code 138 = .ok (.aload_n 0, 1) := by decide +kernel
theorem d_X9_init_139 : decode prog_11_method_1_code 139 = .ok (.bipush 6, 2) := by decide +kernel
theorem d_X9_init_141 : decode prog_11_method_1_code 141 = .ok (.newarray .int, 2) := by decide +kernel
theorem d_X9_init_143 : decode prog_11_method_1_code 143 = .ok (.putfield 62, 3) := by decide +kernel
theorem d_X9_init_146 : decode prog_11_method_1_code 146 = .ok (.aload_n 0, 1) := by decide +kernel
theorem d_X9_init_147 : decode prog_11_method_1_code 147 = .ok (.bipush 6, 2) := by decide +kernel
theorem d_X9_init_149 : decode prog_11_method_1_code 149 = .ok (.newarray .boolean, 2) := by decide +kernel
theorem d_X9_init_151 : decode prog_11_method_1_code 151 = .ok (.putfield 65, 3) := by decide +kernel
theorem d_X9_init_154 : decode prog_11_method_1_code 154 = .ok (.aload_n 0, 1) := by decide +kernel
theorem d_X9_init_155 : decode prog_11_method_1_code 155 = .ok (.sipush 1812, 3) := by decide +kernel
theorem d_X9_init_158 : decode prog_11_method_1_code 158 = .ok (.newarray .int, 2) := by decide +kernel
theorem d_X9_init_160 : decode prog_11_method_1_code 160 = .ok (.putfield 68, 3) := by decide +kernel
theorem d_X9_init_163 : decode prog_11_method_1_code 163 = .ok (.aload_n 0, 1) := by decide +kernel
theorem d_X9_init_164 : decode prog_11_method_1_code 164 = .ok (.sipush 302, 3) := by decide +kernel
theorem d_X9_init_167 : decode prog_11_method_1_code 167 = .ok (.newarray .int, 2) := by decide +kernel
theorem d_X9_init_169 : decode prog_11_method_1_code 169 = .ok (.putfield 71, 3) := by decide +kernel
theorem d_X9_init_172 : decode prog_11_method_1_code 172 = .ok (.aload_n 0, 1) := by decide +kernel
theorem d_X9_init_173 : decode prog_11_method_1_code 173 = .ok (.sipush 302, 3) := by decide +kernel
theorem d_X9_init_176 : decode prog_11_method_1_code 176 = .ok (.newarray .int, 2) := by decide +kernel
theorem d_X9_init_178 : decode prog_11_method_1_code 178 = .ok (.putfield 74, 3) := by decide +kernel
theorem d_X9_init_181 : decode prog_11_method_1_code 181 = .ok (.aload_n 0, 1) := by decide +kernel
theorem d_X9_init_182 : decode prog_11_method_1_code 182 = .ok (.sipush 302, 3) := by decide +kernel
theorem d_X9_init_185 : decode prog_11_method_1_code 185 = .ok (.newarray .int, 2) := by decide +kernel
theorem d_X9_init_187 : decode prog_11_method_1_code 187 = .ok (.putfield 77, 3) := by decide +kernel
theorem d_X9_init_190 : decode prog_11_method_1_code 190 = .ok (.return_, 1) := by decide +kernel
abbrev y_X9_thrown : MethodName := ⟨"VirtualRewriteModel", "thrown", "()I"⟩
theorem d_X9_thrown_0 : decode prog_11_method_2_code 0 = .ok (.aload_n 0, 1) := by decide +kernel
theorem d_X9_thrown_1 : decode prog_11_method_2_code 1 = .ok (.getfield 80, 3) := by decide +kernel
theorem d_X9_thrown_4 : decode prog_11_method_2_code 4 = .ok (.ireturn, 1) := by decide +kernel
abbrev y_X9_key : MethodName := ⟨"VirtualRewriteModel", "key", "(IIZ)I"⟩
theorem d_X9_key_0 : decode prog_11_method_5_code 0 = .ok (.aload_n 0, 1) := by decide +kernel
theorem d_X9_key_1 : decode prog_11_method_5_code 1 = .ok (.iconst 0, 1) := by decide +kernel
theorem d_X9_key_2 : decode prog_11_method_5_code 2 = .ok (.putfield 80, 3) := by decide +kernel
theorem d_X9_key_5 : decode prog_11_method_5_code 5 = .ok (.iload_n 1, 1) := by decide +kernel
theorem d_X9_key_6 : decode prog_11_method_5_code 6 = .ok (.iconst 0, 1) := by decide +kernel
theorem d_X9_key_7 : decode prog_11_method_5_code 7 = .ok (.iconst 3, 1) := by decide +kernel
theorem d_X9_key_8 : decode prog_11_method_5_code 8 = .ok (.invokestatic 84, 3) := by decide +kernel
theorem d_X9_key_11 : decode prog_11_method_5_code 11 = .ok (.ifCond .eq 12, 3) := by decide +kernel
theorem d_X9_key_14 : decode prog_11_method_5_code 14 = .ok (.iload_n 2, 1) := by decide +kernel
theorem d_X9_key_15 : decode prog_11_method_5_code 15 = .ok (.iconst 0, 1) := by decide +kernel
theorem d_X9_key_16 : decode prog_11_method_5_code 16 = .ok (.iconst 2, 1) := by decide +kernel
theorem d_X9_key_17 : decode prog_11_method_5_code 17 = .ok (.invokestatic 84, 3) := by decide +kernel
theorem d_X9_key_20 : decode prog_11_method_5_code 20 = .ok (.ifCond .ne 5, 3) := by decide +kernel
theorem d_X9_key_23 : decode prog_11_method_5_code 23 = .ok (.iconst (-1), 1) := by decide +kernel
theorem d_X9_key_24 : decode prog_11_method_5_code 24 = .ok (.ireturn, 1) := by decide +kernel
theorem d_X9_key_25 : decode prog_11_method_5_code 25 = .ok (.aload_n 0, 1) := by decide +kernel
theorem d_X9_key_26 : decode prog_11_method_5_code 26 = .ok (.getfield 16, 3) := by decide +kernel
theorem d_X9_key_29 : decode prog_11_method_5_code 29 = .ok (.iconst 3, 1) := by decide +kernel
theorem d_X9_key_30 : decode prog_11_method_5_code 30 = .ok (.iload_n 1, 1) := by decide +kernel
theorem d_X9_key_31 : decode prog_11_method_5_code 31 = .ok (.imul, 1) := by decide +kernel
theorem d_X9_key_32 : decode prog_11_method_5_code 32 = .ok (.iload_n 2, 1) := by decide +kernel
theorem d_X9_key_33 : decode prog_11_method_5_code 33 = .ok (.iadd, 1) := by decide +kernel
theorem d_X9_key_34 : decode prog_11_method_5_code 34 = .ok (.baload, 1) := by decide +kernel
theorem d_X9_key_35 : decode prog_11_method_5_code 35 = .ok (.iload_n 3, 1) := by decide +kernel
theorem d_X9_key_36 : decode prog_11_method_5_code 36 = .ok (.if_icmp .ne 5, 3) := by decide +kernel
theorem d_X9_key_39 : decode prog_11_method_5_code 39 = .ok (.iconst 0, 1) := by decide +kernel
theorem d_X9_key_40 : decode prog_11_method_5_code 40 = .ok (.ireturn, 1) := by decide +kernel
theorem d_X9_key_41 : decode prog_11_method_5_code 41 = .ok (.iconst 0, 1) := by decide +kernel
theorem d_X9_key_42 : decode prog_11_method_5_code 42 = .ok (.istore 4, 2) := by decide +kernel
theorem d_X9_key_44 : decode prog_11_method_5_code 44 = .ok (.iconst 0, 1) := by decide +kernel
theorem d_X9_key_45 : decode prog_11_method_5_code 45 = .ok (.istore 5, 2) := by decide +kernel
theorem d_X9_key_47 : decode prog_11_method_5_code 47 = .ok (.iload 5, 2) := by decide +kernel
theorem d_X9_key_49 : decode prog_11_method_5_code 49 = .ok (.aload_n 0, 1) := by decide +kernel
theorem d_X9_key_50 : decode prog_11_method_5_code 50 = .ok (.getfield 13, 3) := by decide +kernel
theorem d_X9_key_53 : decode prog_11_method_5_code 53 = .ok (.iload_n 1, 1) := by decide +kernel
theorem d_X9_key_54 : decode prog_11_method_5_code 54 = .ok (.iaload, 1) := by decide +kernel
theorem d_X9_key_55 : decode prog_11_method_5_code 55 = .ok (.if_icmp .ge 47, 3) := by decide +kernel
theorem d_X9_key_58 : decode prog_11_method_5_code 58 = .ok (.iload 4, 2) := by decide +kernel
theorem d_X9_key_60 : decode prog_11_method_5_code 60 = .ok (.ifCond .ne 29, 3) := by decide +kernel
theorem d_X9_key_63 : decode prog_11_method_5_code 63 = .ok (.aload_n 0, 1) := by decide +kernel
theorem d_X9_key_64 : decode prog_11_method_5_code 64 = .ok (.iload_n 1, 1) := by decide +kernel
theorem d_X9_key_65 : decode prog_11_method_5_code 65 = .ok (.iload_n 2, 1) := by decide +kernel
theorem d_X9_key_66 : decode prog_11_method_5_code 66 = .ok (.aload_n 0, 1) := by decide +kernel
theorem d_X9_key_67 : decode prog_11_method_5_code 67 = .ok (.getfield 7, 3) := by decide +kernel
theorem d_X9_key_70 : decode prog_11_method_5_code 70 = .ok (.bipush 60, 2) := by decide +kernel
theorem d_X9_key_72 : decode prog_11_method_5_code 72 = .ok (.iload_n 1, 1) := by decide +kernel
theorem d_X9_key_73 : decode prog_11_method_5_code 73 = .ok (.imul, 1) := by decide +kernel
theorem d_X9_key_74 : decode prog_11_method_5_code 74 = .ok (.iconst 3, 1) := by decide +kernel
theorem d_X9_key_75 : decode prog_11_method_5_code 75 = .ok (.iload 5, 2) := by decide +kernel
theorem d_X9_key_77 : decode prog_11_method_5_code 77 = .ok (.imul, 1) := by decide +kernel
theorem d_X9_key_78 : decode prog_11_method_5_code 78 = .ok (.iadd, 1) := by decide +kernel
theorem d_X9_key_79 : decode prog_11_method_5_code 79 = .ok (.iload_n 2, 1) := by decide +kernel
theorem d_X9_key_80 : decode prog_11_method_5_code 80 = .ok (.iadd, 1) := by decide +kernel
theorem d_X9_key_81 : decode prog_11_method_5_code 81 = .ok (.iaload, 1) := by decide +kernel
theorem d_X9_key_82 : decode prog_11_method_5_code 82 = .ok (.invokevirtual 88, 3) := by decide +kernel
theorem d_X9_key_85 : decode prog_11_method_5_code 85 = .ok (.iconst 1, 1) := by decide +kernel
theorem d_X9_key_86 : decode prog_11_method_5_code 86 = .ok (.if_icmp .le 7, 3) := by decide +kernel
theorem d_X9_key_89 : decode prog_11_method_5_code 89 = .ok (.iconst 1, 1) := by decide +kernel
theorem d_X9_key_90 : decode prog_11_method_5_code 90 = .ok (.goto 4, 3) := by decide +kernel
theorem d_X9_key_93 : decode prog_11_method_5_code 93 = .ok (.iconst 0, 1) := by decide +kernel
theorem d_X9_key_94 : decode prog_11_method_5_code 94 = .ok (.istore 4, 2) := by decide +kernel
theorem d_X9_key_96 : decode prog_11_method_5_code 96 = .ok (.iinc 5 1, 3) := by decide +kernel
theorem d_X9_key_99 : decode prog_11_method_5_code 99 = .ok (.goto (-52), 3) := by decide +kernel
theorem d_X9_key_102 : decode prog_11_method_5_code 102 = .ok (.iload_n 3, 1) := by decide +kernel
theorem d_X9_key_103 : decode prog_11_method_5_code 103 = .ok (.ifCond .eq 11, 3) := by decide +kernel
theorem d_X9_key_106 : decode prog_11_method_5_code 106 = .ok (.iload 4, 2) := by decide +kernel
theorem d_X9_key_108 : decode prog_11_method_5_code 108 = .ok (.ifCond .eq 6, 3) := by decide +kernel
theorem d_X9_key_111 : decode prog_11_method_5_code 111 = .ok (.bipush (-4), 2) := by decide +kernel
theorem d_X9_key_113 : decode prog_11_method_5_code 113 = .ok (.ireturn, 1) := by decide +kernel
theorem d_X9_key_114 : decode prog_11_method_5_code 114 = .ok (.aload_n 0, 1) := by decide +kernel
theorem d_X9_key_115 : decode prog_11_method_5_code 115 = .ok (.getfield 16, 3) := by decide +kernel
theorem d_X9_key_118 : decode prog_11_method_5_code 118 = .ok (.iconst 3, 1) := by decide +kernel
theorem d_X9_key_119 : decode prog_11_method_5_code 119 = .ok (.iload_n 1, 1) := by decide +kernel
theorem d_X9_key_120 : decode prog_11_method_5_code 120 = .ok (.imul, 1) := by decide +kernel
theorem d_X9_key_121 : decode prog_11_method_5_code 121 = .ok (.iload_n 2, 1) := by decide +kernel
theorem d_X9_key_122 : decode prog_11_method_5_code 122 = .ok (.iadd, 1) := by decide +kernel
theorem d_X9_key_123 : decode prog_11_method_5_code 123 = .ok (.iload_n 3, 1) := by decide +kernel
theorem d_X9_key_124 : decode prog_11_method_5_code 124 = .ok (.bastore, 1) := by decide +kernel
theorem d_X9_key_125 : decode prog_11_method_5_code 125 = .ok (.iconst 1, 1) := by decide +kernel
theorem d_X9_key_126 : decode prog_11_method_5_code 126 = .ok (.ireturn, 1) := by decide +kernel
abbrev y_X9_in : MethodName := ⟨"VirtualRewriteModel", "in", "(III)Z"⟩
theorem d_X9_in_0 : decode prog_11_method_3_code 0 = .ok (.iload_n 0, 1) := by decide +kernel
theorem d_X9_in_1 : decode prog_11_method_3_code 1 = .ok (.iload_n 1, 1) := by decide +kernel
theorem d_X9_in_2 : decode prog_11_method_3_code 2 = .ok (.if_icmp .lt 12, 3) := by decide +kernel
theorem d_X9_in_5 : decode prog_11_method_3_code 5 = .ok (.iload_n 0, 1) := by decide +kernel
theorem d_X9_in_6 : decode prog_11_method_3_code 6 = .ok (.iload_n 2, 1) := by decide +kernel
theorem d_X9_in_7 : decode prog_11_method_3_code 7 = .ok (.if_icmp .gt 7, 3) := by decide +kernel
theorem d_X9_in_10 : decode prog_11_method_3_code 10 = .ok (.iconst 1, 1) := by decide +kernel
theorem d_X9_in_11 : decode prog_11_method_3_code 11 = .ok (.goto 4, 3) := by decide +kernel
theorem d_X9_in_14 : decode prog_11_method_3_code 14 = .ok (.iconst 0, 1) := by decide +kernel
theorem d_X9_in_15 : decode prog_11_method_3_code 15 = .ok (.ireturn, 1) := by decide +kernel
abbrev y_X9_count : MethodName := ⟨"VirtualRewriteModel", "count", "(III)I"⟩
theorem d_X9_count_0 : decode prog_11_method_4_code 0 = .ok (.iconst 0, 1) := by decide +kernel
theorem d_X9_count_1 : decode prog_11_method_4_code 1 = .ok (.istore 4, 2) := by decide +kernel
theorem d_X9_count_3 : decode prog_11_method_4_code 3 = .ok (.iconst 0, 1) := by decide +kernel
theorem d_X9_count_4 : decode prog_11_method_4_code 4 = .ok (.istore 5, 2) := by decide +kernel
theorem d_X9_count_6 : decode prog_11_method_4_code 6 = .ok (.iload 5, 2) := by decide +kernel
theorem d_X9_count_8 : decode prog_11_method_4_code 8 = .ok (.aload_n 0, 1) := by decide +kernel
theorem d_X9_count_9 : decode prog_11_method_4_code 9 = .ok (.getfield 13, 3) := by decide +kernel
theorem d_X9_count_12 : decode prog_11_method_4_code 12 = .ok (.iload_n 1, 1) := by decide +kernel
theorem d_X9_count_13 : decode prog_11_method_4_code 13 = .ok (.iaload, 1) := by decide +kernel
theorem d_X9_count_14 : decode prog_11_method_4_code 14 = .ok (.if_icmp .ge 39, 3) := by decide +kernel
theorem d_X9_count_17 : decode prog_11_method_4_code 17 = .ok (.iload 4, 2) := by decide +kernel
theorem d_X9_count_19 : decode prog_11_method_4_code 19 = .ok (.aload_n 0, 1) := by decide +kernel
theorem d_X9_count_20 : decode prog_11_method_4_code 20 = .ok (.getfield 7, 3) := by decide +kernel
theorem d_X9_count_23 : decode prog_11_method_4_code 23 = .ok (.bipush 60, 2) := by decide +kernel
theorem d_X9_count_25 : decode prog_11_method_4_code 25 = .ok (.iload_n 1, 1) := by decide +kernel
theorem d_X9_count_26 : decode prog_11_method_4_code 26 = .ok (.imul, 1) := by decide +kernel
theorem d_X9_count_27 : decode prog_11_method_4_code 27 = .ok (.iconst 3, 1) := by decide +kernel
theorem d_X9_count_28 : decode prog_11_method_4_code 28 = .ok (.iload 5, 2) := by decide +kernel
theorem d_X9_count_30 : decode prog_11_method_4_code 30 = .ok (.imul, 1) := by decide +kernel
theorem d_X9_count_31 : decode prog_11_method_4_code 31 = .ok (.iadd, 1) := by decide +kernel
theorem d_X9_count_32 : decode prog_11_method_4_code 32 = .ok (.iload_n 2, 1) := by decide +kernel
theorem d_X9_count_33 : decode prog_11_method_4_code 33 = .ok (.iadd, 1) := by decide +kernel
theorem d_X9_count_34 : decode prog_11_method_4_code 34 = .ok (.iaload, 1) := by decide +kernel
theorem d_X9_count_35 : decode prog_11_method_4_code 35 = .ok (.iload_n 3, 1) := by decide +kernel
theorem d_X9_count_36 : decode prog_11_method_4_code 36 = .ok (.if_icmp .ne 7, 3) := by decide +kernel
theorem d_X9_count_39 : decode prog_11_method_4_code 39 = .ok (.iconst 1, 1) := by decide +kernel
theorem d_X9_count_40 : decode prog_11_method_4_code 40 = .ok (.goto 4, 3) := by decide +kernel
theorem d_X9_count_43 : decode prog_11_method_4_code 43 = .ok (.iconst 0, 1) := by decide +kernel
theorem d_X9_count_44 : decode prog_11_method_4_code 44 = .ok (.iadd, 1) := by decide +kernel
theorem d_X9_count_45 : decode prog_11_method_4_code 45 = .ok (.istore 4, 2) := by decide +kernel
theorem d_X9_count_47 : decode prog_11_method_4_code 47 = .ok (.iinc 5 1, 3) := by decide +kernel
theorem d_X9_count_50 : decode prog_11_method_4_code 50 = .ok (.goto (-44), 3) := by decide +kernel
theorem d_X9_count_53 : decode prog_11_method_4_code 53 = .ok (.iload 4, 2) := by decide +kernel
theorem d_X9_count_55 : decode prog_11_method_4_code 55 = .ok (.ireturn, 1) := by decide +kernel
abbrev y_X9_row : MethodName := ⟨"VirtualRewriteModel", "row", "(IIII)I"⟩
theorem d_X9_row_0 : decode prog_11_method_6_code 0 = .ok (.aload_n 0, 1) := by decide +kernel
theorem d_X9_row_1 : decode prog_11_method_6_code 1 = .ok (.iconst 0, 1) := by decide +kernel
theorem d_X9_row_2 : decode prog_11_method_6_code 2 = .ok (.putfield 80, 3) := by decide +kernel
theorem d_X9_row_5 : decode prog_11_method_6_code 5 = .ok (.iload_n 1, 1) := by decide +kernel
theorem d_X9_row_6 : decode prog_11_method_6_code 6 = .ok (.iconst 0, 1) := by decide +kernel
theorem d_X9_row_7 : decode prog_11_method_6_code 7 = .ok (.iconst 3, 1) := by decide +kernel
theorem d_X9_row_8 : decode prog_11_method_6_code 8 = .ok (.invokestatic 84, 3) := by decide +kernel
theorem d_X9_row_11 : decode prog_11_method_6_code 11 = .ok (.ifCond .eq 37, 3) := by decide +kernel
theorem d_X9_row_14 : decode prog_11_method_6_code 14 = .ok (.iload_n 2, 1) := by decide +kernel
theorem d_X9_row_15 : decode prog_11_method_6_code 15 = .ok (.iconst 0, 1) := by decide +kernel
theorem d_X9_row_16 : decode prog_11_method_6_code 16 = .ok (.sipush 9999, 3) := by decide +kernel
theorem d_X9_row_19 : decode prog_11_method_6_code 19 = .ok (.invokestatic 84, 3) := by decide +kernel
theorem d_X9_row_22 : decode prog_11_method_6_code 22 = .ok (.ifCond .eq 26, 3) := by decide +kernel
theorem d_X9_row_25 : decode prog_11_method_6_code 25 = .ok (.iload_n 3, 1) := by decide +kernel
theorem d_X9_row_26 : decode prog_11_method_6_code 26 = .ok (.iconst 0, 1) := by decide +kernel
theorem d_X9_row_27 : decode prog_11_method_6_code 27 = .ok (.sipush 9999, 3) := by decide +kernel
theorem d_X9_row_30 : decode prog_11_method_6_code 30 = .ok (.invokestatic 84, 3) := by decide +kernel
theorem d_X9_row_33 : decode prog_11_method_6_code 33 = .ok (.ifCond .eq 15, 3) := by decide +kernel
theorem d_X9_row_36 : decode prog_11_method_6_code 36 = .ok (.iload 4, 2) := by decide +kernel
theorem d_X9_row_38 : decode prog_11_method_6_code 38 = .ok (.iconst 0, 1) := by decide +kernel
theorem d_X9_row_39 : decode prog_11_method_6_code 39 = .ok (.sipush 9999, 3) := by decide +kernel
theorem d_X9_row_42 : decode prog_11_method_6_code 42 = .ok (.invokestatic 84, 3) := by decide +kernel
theorem d_X9_row_45 : decode prog_11_method_6_code 45 = .ok (.ifCond .ne 5, 3) := by decide +kernel
theorem d_X9_row_48 : decode prog_11_method_6_code 48 = .ok (.iconst (-1), 1) := by decide +kernel
theorem d_X9_row_49 : decode prog_11_method_6_code 49 = .ok (.ireturn, 1) := by decide +kernel
theorem d_X9_row_50 : decode prog_11_method_6_code 50 = .ok (.aload_n 0, 1) := by decide +kernel
theorem d_X9_row_51 : decode prog_11_method_6_code 51 = .ok (.getfield 16, 3) := by decide +kernel
theorem d_X9_row_54 : decode prog_11_method_6_code 54 = .ok (.iconst 3, 1) := by decide +kernel
theorem d_X9_row_55 : decode prog_11_method_6_code 55 = .ok (.iload_n 1, 1) := by decide +kernel
theorem d_X9_row_56 : decode prog_11_method_6_code 56 = .ok (.imul, 1) := by decide +kernel
theorem d_X9_row_57 : decode prog_11_method_6_code 57 = .ok (.baload, 1) := by decide +kernel
theorem d_X9_row_58 : decode prog_11_method_6_code 58 = .ok (.ifCond .eq 13, 3) := by decide +kernel
theorem d_X9_row_61 : decode prog_11_method_6_code 61 = .ok (.aload_n 0, 1) := by decide +kernel
theorem d_X9_row_62 : decode prog_11_method_6_code 62 = .ok (.iload_n 1, 1) := by decide +kernel
theorem d_X9_row_63 : decode prog_11_method_6_code 63 = .ok (.iconst 0, 1) := by decide +kernel
theorem d_X9_row_64 : decode prog_11_method_6_code 64 = .ok (.iload_n 2, 1) := by decide +kernel
theorem d_X9_row_65 : decode prog_11_method_6_code 65 = .ok (.invokevirtual 88, 3) := by decide +kernel
theorem d_X9_row_68 : decode prog_11_method_6_code 68 = .ok (.ifCond .gt 50, 3) := by decide +kernel
theorem d_X9_row_71 : decode prog_11_method_6_code 71 = .ok (.aload_n 0, 1) := by decide +kernel
theorem d_X9_row_72 : decode prog_11_method_6_code 72 = .ok (.getfield 16, 3) := by decide +kernel
theorem d_X9_row_75 : decode prog_11_method_6_code 75 = .ok (.iconst 3, 1) := by decide +kernel
theorem d_X9_row_76 : decode prog_11_method_6_code 76 = .ok (.iload_n 1, 1) := by decide +kernel
theorem d_X9_row_77 : decode prog_11_method_6_code 77 = .ok (.imul, 1) := by decide +kernel
theorem d_X9_row_78 : decode prog_11_method_6_code 78 = .ok (.iconst 1, 1) := by decide +kernel
theorem d_X9_row_79 : decode prog_11_method_6_code 79 = .ok (.iadd, 1) := by decide +kernel
theorem d_X9_row_80 : decode prog_11_method_6_code 80 = .ok (.baload, 1) := by decide +kernel
theorem d_X9_row_81 : decode prog_11_method_6_code 81 = .ok (.ifCond .eq 13, 3) := by decide +kernel
theorem d_X9_row_84 : decode prog_11_method_6_code 84 = .ok (.aload_n 0, 1) := by decide +kernel
theorem d_X9_row_85 : decode prog_11_method_6_code 85 = .ok (.iload_n 1, 1) := by decide +kernel
theorem d_X9_row_86 : decode prog_11_method_6_code 86 = .ok (.iconst 1, 1) := by decide +kernel
theorem d_X9_row_87 : decode prog_11_method_6_code 87 = .ok (.iload_n 3, 1) := by decide +kernel
theorem d_X9_row_88 : decode prog_11_method_6_code 88 = .ok (.invokevirtual 88, 3) := by decide +kernel
theorem d_X9_row_91 : decode prog_11_method_6_code 91 = .ok (.ifCond .gt 27, 3) := by decide +kernel
theorem d_X9_row_94 : decode prog_11_method_6_code 94 = .ok (.aload_n 0, 1) := by decide +kernel
theorem d_X9_row_95 : decode prog_11_method_6_code 95 = .ok (.getfield 16, 3) := by decide +kernel
theorem d_X9_row_98 : decode prog_11_method_6_code 98 = .ok (.iconst 3, 1) := by decide +kernel
theorem d_X9_row_99 : decode prog_11_method_6_code 99 = .ok (.iload_n 1, 1) := by decide +kernel
theorem d_X9_row_100 : decode prog_11_method_6_code 100 = .ok (.imul, 1) := by decide +kernel
theorem d_X9_row_101 : decode prog_11_method_6_code 101 = .ok (.iconst 2, 1) := by decide +kernel
theorem d_X9_row_102 : decode prog_11_method_6_code 102 = .ok (.iadd, 1) := by decide +kernel
theorem d_X9_row_103 : decode prog_11_method_6_code 103 = .ok (.baload, 1) := by decide +kernel
theorem d_X9_row_104 : decode prog_11_method_6_code 104 = .ok (.ifCond .eq 17, 3) := by decide +kernel
theorem d_X9_row_107 : decode prog_11_method_6_code 107 = .ok (.aload_n 0, 1) := by decide +kernel
theorem d_X9_row_108 : decode prog_11_method_6_code 108 = .ok (.iload_n 1, 1) := by decide +kernel
theorem d_X9_row_109 : decode prog_11_method_6_code 109 = .ok (.iconst 2, 1) := by decide +kernel
theorem d_X9_row_110 : decode prog_11_method_6_code 110 = .ok (.iload 4, 2) := by decide +kernel
theorem d_X9_row_112 : decode prog_11_method_6_code 112 = .ok (.invokevirtual 88, 3) := by decide +kernel
theorem d_X9_row_115 : decode prog_11_method_6_code 115 = .ok (.ifCond .le 6, 3) := by decide +kernel
theorem d_X9_row_118 : decode prog_11_method_6_code 118 = .ok (.bipush (-4), 2) := by decide +kernel
theorem d_X9_row_120 : decode prog_11_method_6_code 120 = .ok (.ireturn, 1) := by decide +kernel
theorem d_X9_row_121 : decode prog_11_method_6_code 121 = .ok (.aload_n 0, 1) := by decide +kernel
theorem d_X9_row_122 : decode prog_11_method_6_code 122 = .ok (.getfield 13, 3) := by decide +kernel
theorem d_X9_row_125 : decode prog_11_method_6_code 125 = .ok (.iload_n 1, 1) := by decide +kernel
theorem d_X9_row_126 : decode prog_11_method_6_code 126 = .ok (.iaload, 1) := by decide +kernel
theorem d_X9_row_127 : decode prog_11_method_6_code 127 = .ok (.bipush 20, 2) := by decide +kernel
theorem d_X9_row_129 : decode prog_11_method_6_code 129 = .ok (.if_icmp .ne 6, 3) := by decide +kernel
theorem d_X9_row_132 : decode prog_11_method_6_code 132 = .ok (.bipush (-2), 2) := by decide +kernel
theorem d_X9_row_134 : decode prog_11_method_6_code 134 = .ok (.ireturn, 1) := by decide +kernel
theorem d_X9_row_135 : decode prog_11_method_6_code 135 = .ok (.bipush 60, 2) := by decide +kernel
theorem d_X9_row_137 : decode prog_11_method_6_code 137 = .ok (.iload_n 1, 1) := by decide +kernel
theorem d_X9_row_138 : decode prog_11_method_6_code 138 = .ok (.imul, 1) := by decide +kernel
theorem d_X9_row_139 : decode prog_11_method_6_code 139 = .ok (.iconst 3, 1) := by decide +kernel
theorem d_X9_row_140 : decode prog_11_method_6_code 140 = .ok (.aload_n 0, 1) := by decide +kernel
theorem d_X9_row_141 : decode prog_11_method_6_code 141 = .ok (.getfield 13, 3) := by decide +kernel
theorem d_X9_row_144 : decode prog_11_method_6_code 144 = .ok (.iload_n 1, 1) := by decide +kernel
theorem d_X9_row_145 : decode prog_11_method_6_code 145 = .ok (.iaload, 1) := by decide +kernel
theorem d_X9_row_146 : decode prog_11_method_6_code 146 = .ok (.imul, 1) := by decide +kernel
theorem d_X9_row_147 : decode prog_11_method_6_code 147 = .ok (.iadd, 1) := by decide +kernel
theorem d_X9_row_148 : decode prog_11_method_6_code 148 = .ok (.istore 5, 2) := by decide +kernel
theorem d_X9_row_150 : decode prog_11_method_6_code 150 = .ok (.aload_n 0, 1) := by decide +kernel
theorem d_X9_row_151 : decode prog_11_method_6_code 151 = .ok (.getfield 7, 3) := by decide +kernel
theorem d_X9_row_154 : decode prog_11_method_6_code 154 = .ok (.iload 5, 2) := by decide +kernel
theorem d_X9_row_156 : decode prog_11_method_6_code 156 = .ok (.iload_n 2, 1) := by decide +kernel
theorem d_X9_row_157 : decode prog_11_method_6_code 157 = .ok (.iastore, 1) := by decide +kernel
theorem d_X9_row_158 : decode prog_11_method_6_code 158 = .ok (.aload_n 0, 1) := by decide +kernel
theorem d_X9_row_159 : decode prog_11_method_6_code 159 = .ok (.getfield 7, 3) := by decide +kernel
theorem d_X9_row_162 : decode prog_11_method_6_code 162 = .ok (.iload 5, 2) := by decide +kernel
theorem d_X9_row_164 : decode prog_11_method_6_code 164 = .ok (.iconst 1, 1) := by decide +kernel
theorem d_X9_row_165 : decode prog_11_method_6_code 165 = .ok (.iadd, 1) := by decide +kernel
theorem d_X9_row_166 : decode prog_11_method_6_code 166 = .ok (.iload_n 3, 1) := by decide +kernel
theorem d_X9_row_167 : decode prog_11_method_6_code 167 = .ok (.iastore, 1) := by decide +kernel
theorem d_X9_row_168 : decode prog_11_method_6_code 168 = .ok (.aload_n 0, 1) := by decide +kernel
theorem d_X9_row_169 : decode prog_11_method_6_code 169 = .ok (.getfield 7, 3) := by decide +kernel
theorem d_X9_row_172 : decode prog_11_method_6_code 172 = .ok (.iload 5, 2) := by decide +kernel
theorem d_X9_row_174 : decode prog_11_method_6_code 174 = .ok (.iconst 2, 1) := by decide +kernel
theorem d_X9_row_175 : decode prog_11_method_6_code 175 = .ok (.iadd, 1) := by decide +kernel
theorem d_X9_row_176 : decode prog_11_method_6_code 176 = .ok (.iload 4, 2) := by decide +kernel
theorem d_X9_row_178 : decode prog_11_method_6_code 178 = .ok (.iastore, 1) := by decide +kernel
theorem d_X9_row_179 : decode prog_11_method_6_code 179 = .ok (.aload_n 0, 1) := by decide +kernel
theorem d_X9_row_180 : decode prog_11_method_6_code 180 = .ok (.getfield 13, 3) := by decide +kernel
theorem d_X9_row_183 : decode prog_11_method_6_code 183 = .ok (.iload_n 1, 1) := by decide +kernel
theorem d_X9_row_184 : decode prog_11_method_6_code 184 = .ok (.dup2, 1) := by decide +kernel
theorem d_X9_row_185 : decode prog_11_method_6_code 185 = .ok (.iaload, 1) := by decide +kernel
theorem d_X9_row_186 : decode prog_11_method_6_code 186 = .ok (.iconst 1, 1) := by decide +kernel
theorem d_X9_row_187 : decode prog_11_method_6_code 187 = .ok (.iadd, 1) := by decide +kernel
theorem d_X9_row_188 : decode prog_11_method_6_code 188 = .ok (.iastore, 1) := by decide +kernel
theorem d_X9_row_189 : decode prog_11_method_6_code 189 = .ok (.aload_n 0, 1) := by decide +kernel
theorem d_X9_row_190 : decode prog_11_method_6_code 190 = .ok (.getfield 13, 3) := by decide +kernel
theorem d_X9_row_193 : decode prog_11_method_6_code 193 = .ok (.iload_n 1, 1) := by decide +kernel
theorem d_X9_row_194 : decode prog_11_method_6_code 194 = .ok (.iaload, 1) := by decide +kernel
theorem d_X9_row_195 : decode prog_11_method_6_code 195 = .ok (.ireturn, 1) := by decide +kernel
