abbrev y_JMath_max : MethodName := ⟨"java/lang/Math", "max", "(II)I"⟩
theorem d_JMath_max_0 : decode prog_15_method_65_code 0 = .ok (.iload_n 0, 1) := by decide +kernel
theorem d_JMath_max_1 : decode prog_15_method_65_code 1 = .ok (.iload_n 1, 1) := by decide +kernel
theorem d_JMath_max_2 : decode prog_15_method_65_code 2 = .ok (.if_icmp .lt 7, 3) := by decide +kernel
theorem d_JMath_max_5 : decode prog_15_method_65_code 5 = .ok (.iload_n 0, 1) := by decide +kernel
theorem d_JMath_max_6 : decode prog_15_method_65_code 6 = .ok (.goto 4, 3) := by decide +kernel
theorem d_JMath_max_9 : decode prog_15_method_65_code 9 = .ok (.iload_n 1, 1) := by decide +kernel
theorem d_JMath_max_10 : decode prog_15_method_65_code 10 = .ok (.ireturn, 1) := by decide +kernel
abbrev y_JMath_min : MethodName := ⟨"java/lang/Math", "min", "(II)I"⟩
theorem d_JMath_min_0 : decode prog_15_method_69_code 0 = .ok (.iload_n 0, 1) := by decide +kernel
theorem d_JMath_min_1 : decode prog_15_method_69_code 1 = .ok (.iload_n 1, 1) := by decide +kernel
theorem d_JMath_min_2 : decode prog_15_method_69_code 2 = .ok (.if_icmp .gt 7, 3) := by decide +kernel
theorem d_JMath_min_5 : decode prog_15_method_69_code 5 = .ok (.iload_n 0, 1) := by decide +kernel
theorem d_JMath_min_6 : decode prog_15_method_69_code 6 = .ok (.goto 4, 3) := by decide +kernel
theorem d_JMath_min_9 : decode prog_15_method_69_code 9 = .ok (.iload_n 1, 1) := by decide +kernel
theorem d_JMath_min_10 : decode prog_15_method_69_code 10 = .ok (.ireturn, 1) := by decide +kernel
abbrev y_X0_clear : MethodName := ⟨"VirtualRewrite", "clear", "()I"⟩
theorem d_X0_clear_0 : decode prog_1_method_9_code 0 = .ok (.aload_n 0, 1) := by decide +kernel
theorem d_X0_clear_1 : decode prog_1_method_9_code 1 = .ok (.getfield 19, 3) := by decide +kernel
theorem d_X0_clear_4 : decode prog_1_method_9_code 4 = .ok (.getfield 116, 3) := by decide +kernel
theorem d_X0_clear_7 : decode prog_1_method_9_code 7 = .ok (.istore_n 1, 1) := by decide +kernel
theorem d_X0_clear_8 : decode prog_1_method_9_code 8 = .ok (.aload_n 0, 1) := by decide +kernel
theorem d_X0_clear_9 : decode prog_1_method_9_code 9 = .ok (.getfield 19, 3) := by decide +kernel
theorem d_X0_clear_12 : decode prog_1_method_9_code 12 = .ok (.invokevirtual 126, 3) := by decide +kernel
theorem d_X0_clear_15 : decode prog_1_method_9_code 15 = .ok (.aload_n 0, 1) := by decide +kernel
theorem d_X0_clear_16 : decode prog_1_method_9_code 16 = .ok (.getfield 28, 3) := by decide +kernel
theorem d_X0_clear_19 : decode prog_1_method_9_code 19 = .ok (.invokevirtual 106, 3) := by decide +kernel
theorem d_X0_clear_22 : decode prog_1_method_9_code 22 = .ok (.iload_n 1, 1) := by decide +kernel
theorem d_X0_clear_23 : decode prog_1_method_9_code 23 = .ok (.ireturn, 1) := by decide +kernel
abbrev y_X4_reset : MethodName := ⟨"VirtualRewrite$Question", "reset", "()V"⟩
theorem d_X4_reset_0 : decode prog_6_method_4_code 0 = .ok (.aload_n 0, 1) := by decide +kernel
theorem d_X4_reset_1 : decode prog_6_method_4_code 1 = .ok (.iconst 0, 1) := by decide +kernel
theorem d_X4_reset_2 : decode prog_6_method_4_code 2 = .ok (.putfield 24, 3) := by decide +kernel
theorem d_X4_reset_5 : decode prog_6_method_4_code 5 = .ok (.aload_n 0, 1) := by decide +kernel
theorem d_X4_reset_6 : decode prog_6_method_4_code 6 = .ok (.iconst 0, 1) := by decide +kernel
theorem d_X4_reset_7 : decode prog_6_method_4_code 7 = .ok (.putfield 28, 3) := by decide +kernel
theorem d_X4_reset_10 : decode prog_6_method_4_code 10 = .ok (.iconst 0, 1) := by decide +kernel
theorem d_X4_reset_11 : decode prog_6_method_4_code 11 = .ok (.istore_n 1, 1) := by decide +kernel
theorem d_X4_reset_12 : decode prog_6_method_4_code 12 = .ok (.iload_n 1, 1) := by decide +kernel
theorem d_X4_reset_13 : decode prog_6_method_4_code 13 = .ok (.bipush 6, 2) := by decide +kernel
theorem d_X4_reset_15 : decode prog_6_method_4_code 15 = .ok (.if_icmp .ge 25, 3) := by decide +kernel
theorem d_X4_reset_18 : decode prog_6_method_4_code 18 = .ok (.aload_n 0, 1) := by decide +kernel
theorem d_X4_reset_19 : decode prog_6_method_4_code 19 = .ok (.getfield 18, 3) := by decide +kernel
theorem d_X4_reset_22 : decode prog_6_method_4_code 22 = .ok (.iload_n 1, 1) := by decide +kernel
theorem d_X4_reset_23 : decode prog_6_method_4_code 23 = .ok (.iconst 0, 1) := by decide +kernel
theorem d_X4_reset_24 : decode prog_6_method_4_code 24 = .ok (.iastore, 1) := by decide +kernel
theorem d_X4_reset_25 : decode prog_6_method_4_code 25 = .ok (.aload_n 0, 1) := by decide +kernel
theorem d_X4_reset_26 : decode prog_6_method_4_code 26 = .ok (.getfield 21, 3) := by decide +kernel
theorem d_X4_reset_29 : decode prog_6_method_4_code 29 = .ok (.iload_n 1, 1) := by decide +kernel
theorem d_X4_reset_30 : decode prog_6_method_4_code 30 = .ok (.sipush 9999, 3) := by decide +kernel
theorem d_X4_reset_33 : decode prog_6_method_4_code 33 = .ok (.iastore, 1) := by decide +kernel
theorem d_X4_reset_34 : decode prog_6_method_4_code 34 = .ok (.iinc 1 1, 3) := by decide +kernel
theorem d_X4_reset_37 : decode prog_6_method_4_code 37 = .ok (.goto (-25), 3) := by decide +kernel
theorem d_X4_reset_40 : decode prog_6_method_4_code 40 = .ok (.return_, 1) := by decide +kernel
abbrev y_X0_unions : MethodName := ⟨"VirtualRewrite", "unions", "()I"⟩
theorem d_X0_unions_0 : decode prog_1_method_10_code 0 = .ok (.aload_n 0, 1) := by decide +kernel
theorem d_X0_unions_1 : decode prog_1_method_10_code 1 = .ok (.getfield 19, 3) := by decide +kernel
theorem d_X0_unions_4 : decode prog_1_method_10_code 4 = .ok (.getfield 116, 3) := by decide +kernel
theorem d_X0_unions_7 : decode prog_1_method_10_code 7 = .ok (.ifCond .ne 5, 3) := by decide +kernel
theorem d_X0_unions_10 : decode prog_1_method_10_code 10 = .ok (.iconst (-1), 1) := by decide +kernel
theorem d_X0_unions_11 : decode prog_1_method_10_code 11 = .ok (.ireturn, 1) := by decide +kernel
theorem d_X0_unions_12 : decode prog_1_method_10_code 12 = .ok (.aload_n 0, 1) := by decide +kernel
theorem d_X0_unions_13 : decode prog_1_method_10_code 13 = .ok (.getfield 28, 3) := by decide +kernel
theorem d_X0_unions_16 : decode prog_1_method_10_code 16 = .ok (.invokevirtual 129, 3) := by decide +kernel
theorem d_X0_unions_19 : decode prog_1_method_10_code 19 = .ok (.aload_n 0, 1) := by decide +kernel
theorem d_X0_unions_20 : decode prog_1_method_10_code 20 = .ok (.getfield 28, 3) := by decide +kernel
theorem d_X0_unions_23 : decode prog_1_method_10_code 23 = .ok (.getfield 132, 3) := by decide +kernel
theorem d_X0_unions_26 : decode prog_1_method_10_code 26 = .ok (.ifCond .eq 8, 3) := by decide +kernel
theorem d_X0_unions_29 : decode prog_1_method_10_code 29 = .ok (.bipush (-3), 2) := by decide +kernel
theorem d_X0_unions_31 : decode prog_1_method_10_code 31 = .ok (.goto 10, 3) := by decide +kernel
theorem d_X0_unions_34 : decode prog_1_method_10_code 34 = .ok (.aload_n 0, 1) := by decide +kernel
theorem d_X0_unions_35 : decode prog_1_method_10_code 35 = .ok (.getfield 28, 3) := by decide +kernel
theorem d_X0_unions_38 : decode prog_1_method_10_code 38 = .ok (.getfield 136, 3) := by decide +kernel
theorem d_X0_unions_41 : decode prog_1_method_10_code 41 = .ok (.ireturn, 1) := by decide +kernel
abbrev y_X5_refresh : MethodName := ⟨"VirtualRewrite$Rewriting", "refresh", "()V"⟩
theorem d_X5_refresh_0 : decode prog_7_method_6_code 0 = .ok (.aload_n 0, 1) := by decide +kernel
theorem d_X5_refresh_1 : decode prog_7_method_6_code 1 = .ok (.getfield 29, 3) := by decide +kernel
theorem d_X5_refresh_4 : decode prog_7_method_6_code 4 = .ok (.ifCond .eq 4, 3) := by decide +kernel
theorem d_X5_refresh_7 : decode prog_7_method_6_code 7 = .ok (.return_, 1) := by decide +kernel
theorem d_X5_refresh_8 : decode prog_7_method_6_code 8 = .ok (.aload_n 0, 1) := by decide +kernel
theorem d_X5_refresh_9 : decode prog_7_method_6_code 9 = .ok (.iconst 0, 1) := by decide +kernel
theorem d_X5_refresh_10 : decode prog_7_method_6_code 10 = .ok (.putfield 21, 3) := by decide +kernel
theorem d_X5_refresh_13 : decode prog_7_method_6_code 13 = .ok (.aload_n 0, 1) := by decide +kernel
theorem d_X5_refresh_14 : decode prog_7_method_6_code 14 = .ok (.iconst 0, 1) := by decide +kernel
theorem d_X5_refresh_15 : decode prog_7_method_6_code 15 = .ok (.putfield 25, 3) := by decide +kernel
theorem d_X5_refresh_18 : decode prog_7_method_6_code 18 = .ok (.aload_n 0, 1) := by decide +kernel
theorem d_X5_refresh_19 : decode prog_7_method_6_code 19 = .ok (.iconst 0, 1) := by decide +kernel
theorem d_X5_refresh_20 : decode prog_7_method_6_code 20 = .ok (.iconst 0, 1) := by decide +kernel
theorem d_X5_refresh_21 : decode prog_7_method_6_code 21 = .ok (.invokevirtual 58, 3) := by decide +kernel
theorem d_X5_refresh_24 : decode prog_7_method_6_code 24 = .ok (.aload_n 0, 1) := by decide +kernel
theorem d_X5_refresh_25 : decode prog_7_method_6_code 25 = .ok (.iconst 1, 1) := by decide +kernel
theorem d_X5_refresh_26 : decode prog_7_method_6_code 26 = .ok (.putfield 29, 3) := by decide +kernel
theorem d_X5_refresh_29 : decode prog_7_method_6_code 29 = .ok (.return_, 1) := by decide +kernel
abbrev y_X5_extend : MethodName := ⟨"VirtualRewrite$Rewriting", "extend", "(II)V"⟩
theorem d_X5_extend_0 : decode prog_7_method_7_code 0 = .ok (.iload_n 1, 1) := by decide +kernel
theorem d_X5_extend_1 : decode prog_7_method_7_code 1 = .ok (.aload_n 0, 1) := by decide +kernel
theorem d_X5_extend_2 : decode prog_7_method_7_code 2 = .ok (.getfield 36, 3) := by decide +kernel
theorem d_X5_extend_5 : decode prog_7_method_7_code 5 = .ok (.getfield 62, 3) := by decide +kernel
theorem d_X5_extend_8 : decode prog_7_method_7_code 8 = .ok (.if_icmp .lt 8, 3) := by decide +kernel
theorem d_X5_extend_11 : decode prog_7_method_7_code 11 = .ok (.aload_n 0, 1) := by decide +kernel
theorem d_X5_extend_12 : decode prog_7_method_7_code 12 = .ok (.invokevirtual 67, 3) := by decide +kernel
theorem d_X5_extend_15 : decode prog_7_method_7_code 15 = .ok (.return_, 1) := by decide +kernel
theorem d_X5_extend_16 : decode prog_7_method_7_code 16 = .ok (.iconst 0, 1) := by decide +kernel
theorem d_X5_extend_17 : decode prog_7_method_7_code 17 = .ok (.istore_n 3, 1) := by decide +kernel
theorem d_X5_extend_18 : decode prog_7_method_7_code 18 = .ok (.iload_n 3, 1) := by decide +kernel
theorem d_X5_extend_19 : decode prog_7_method_7_code 19 = .ok (.aload_n 0, 1) := by decide +kernel
theorem d_X5_extend_20 : decode prog_7_method_7_code 20 = .ok (.getfield 32, 3) := by decide +kernel
theorem d_X5_extend_23 : decode prog_7_method_7_code 23 = .ok (.getfield 70, 3) := by decide +kernel
theorem d_X5_extend_26 : decode prog_7_method_7_code 26 = .ok (.if_icmp .ge 79, 3) := by decide +kernel
theorem d_X5_extend_29 : decode prog_7_method_7_code 29 = .ok (.aload_n 0, 1) := by decide +kernel
theorem d_X5_extend_30 : decode prog_7_method_7_code 30 = .ok (.getfield 25, 3) := by decide +kernel
theorem d_X5_extend_33 : decode prog_7_method_7_code 33 = .ok (.ifCond .ne 72, 3) := by decide +kernel
theorem d_X5_extend_36 : decode prog_7_method_7_code 36 = .ok (.aload_n 0, 1) := by decide +kernel
theorem d_X5_extend_37 : decode prog_7_method_7_code 37 = .ok (.getfield 32, 3) := by decide +kernel
theorem d_X5_extend_40 : decode prog_7_method_7_code 40 = .ok (.getfield 40, 3) := by decide +kernel
theorem d_X5_extend_43 : decode prog_7_method_7_code 43 = .ok (.iload_n 3, 1) := by decide +kernel
theorem d_X5_extend_44 : decode prog_7_method_7_code 44 = .ok (.aaload, 1) := by decide +kernel
theorem d_X5_extend_45 : decode prog_7_method_7_code 45 = .ok (.getfield 71, 3) := by decide +kernel
theorem d_X5_extend_48 : decode prog_7_method_7_code 48 = .ok (.aload_n 0, 1) := by decide +kernel
theorem d_X5_extend_49 : decode prog_7_method_7_code 49 = .ok (.getfield 36, 3) := by decide +kernel
theorem d_X5_extend_52 : decode prog_7_method_7_code 52 = .ok (.getfield 76, 3) := by decide +kernel
theorem d_X5_extend_55 : decode prog_7_method_7_code 55 = .ok (.iload_n 1, 1) := by decide +kernel
theorem d_X5_extend_56 : decode prog_7_method_7_code 56 = .ok (.iaload, 1) := by decide +kernel
theorem d_X5_extend_57 : decode prog_7_method_7_code 57 = .ok (.if_icmp .ne 42, 3) := by decide +kernel
theorem d_X5_extend_60 : decode prog_7_method_7_code 60 = .ok (.aload_n 0, 1) := by decide +kernel
theorem d_X5_extend_61 : decode prog_7_method_7_code 61 = .ok (.iload_n 1, 1) := by decide +kernel
theorem d_X5_extend_62 : decode prog_7_method_7_code 62 = .ok (.aload_n 0, 1) := by decide +kernel
theorem d_X5_extend_63 : decode prog_7_method_7_code 63 = .ok (.getfield 32, 3) := by decide +kernel
theorem d_X5_extend_66 : decode prog_7_method_7_code 66 = .ok (.getfield 40, 3) := by decide +kernel
theorem d_X5_extend_69 : decode prog_7_method_7_code 69 = .ok (.iload_n 3, 1) := by decide +kernel
theorem d_X5_extend_70 : decode prog_7_method_7_code 70 = .ok (.aaload, 1) := by decide +kernel
theorem d_X5_extend_71 : decode prog_7_method_7_code 71 = .ok (.iload_n 2, 1) := by decide +kernel
theorem d_X5_extend_72 : decode prog_7_method_7_code 72 = .ok (.invokevirtual 79, 3) := by decide +kernel
theorem d_X5_extend_75 : decode prog_7_method_7_code 75 = .ok (.istore 4, 2) := by decide +kernel
theorem d_X5_extend_77 : decode prog_7_method_7_code 77 = .ok (.iload 4, 2) := by decide +kernel
theorem d_X5_extend_79 : decode prog_7_method_7_code 79 = .ok (.iconst (-1), 1) := by decide +kernel
theorem d_X5_extend_80 : decode prog_7_method_7_code 80 = .ok (.if_icmp .eq 19, 3) := by decide +kernel
theorem d_X5_extend_83 : decode prog_7_method_7_code 83 = .ok (.aload_n 0, 1) := by decide +kernel
theorem d_X5_extend_84 : decode prog_7_method_7_code 84 = .ok (.getfield 15, 3) := by decide +kernel
theorem d_X5_extend_87 : decode prog_7_method_7_code 87 = .ok (.iload_n 1, 1) := by decide +kernel
theorem d_X5_extend_88 : decode prog_7_method_7_code 88 = .ok (.iload_n 3, 1) := by decide +kernel
theorem d_X5_extend_89 : decode prog_7_method_7_code 89 = .ok (.iastore, 1) := by decide +kernel
theorem d_X5_extend_90 : decode prog_7_method_7_code 90 = .ok (.aload_n 0, 1) := by decide +kernel
theorem d_X5_extend_91 : decode prog_7_method_7_code 91 = .ok (.iload_n 1, 1) := by decide +kernel
theorem d_X5_extend_92 : decode prog_7_method_7_code 92 = .ok (.iconst 1, 1) := by decide +kernel
theorem d_X5_extend_93 : decode prog_7_method_7_code 93 = .ok (.iadd, 1) := by decide +kernel
theorem d_X5_extend_94 : decode prog_7_method_7_code 94 = .ok (.iload 4, 2) := by decide +kernel
theorem d_X5_extend_96 : decode prog_7_method_7_code 96 = .ok (.invokevirtual 58, 3) := by decide +kernel
theorem d_X5_extend_99 : decode prog_7_method_7_code 99 = .ok (.iinc 3 1, 3) := by decide +kernel
theorem d_X5_extend_102 : decode prog_7_method_7_code 102 = .ok (.goto (-84), 3) := by decide +kernel
theorem d_X5_extend_105 : decode prog_7_method_7_code 105 = .ok (.return_, 1) := by decide +kernel
abbrev y_X5_keep : MethodName := ⟨"VirtualRewrite$Rewriting", "keep", "()V"⟩
theorem d_X5_keep_0 : decode prog_7_method_8_code 0 = .ok (.aload_n 0, 1) := by decide +kernel
theorem d_X5_keep_1 : decode prog_7_method_8_code 1 = .ok (.getfield 21, 3) := by decide +kernel
theorem d_X5_keep_4 : decode prog_7_method_8_code 4 = .ok (.sipush 150, 3) := by decide +kernel
theorem d_X5_keep_7 : decode prog_7_method_8_code 7 = .ok (.if_icmp .lt 9, 3) := by decide +kernel
theorem d_X5_keep_10 : decode prog_7_method_8_code 10 = .ok (.aload_n 0, 1) := by decide +kernel
theorem d_X5_keep_11 : decode prog_7_method_8_code 11 = .ok (.iconst 1, 1) := by decide +kernel
theorem d_X5_keep_12 : decode prog_7_method_8_code 12 = .ok (.putfield 25, 3) := by decide +kernel
theorem d_X5_keep_15 : decode prog_7_method_8_code 15 = .ok (.return_, 1) := by decide +kernel
theorem d_X5_keep_16 : decode prog_7_method_8_code 16 = .ok (.aload_n 0, 1) := by decide +kernel
theorem d_X5_keep_17 : decode prog_7_method_8_code 17 = .ok (.getfield 15, 3) := by decide +kernel
theorem d_X5_keep_20 : decode prog_7_method_8_code 20 = .ok (.iconst 0, 1) := by decide +kernel
theorem d_X5_keep_21 : decode prog_7_method_8_code 21 = .ok (.aload_n 0, 1) := by decide +kernel
theorem d_X5_keep_22 : decode prog_7_method_8_code 22 = .ok (.getfield 9, 3) := by decide +kernel
theorem d_X5_keep_25 : decode prog_7_method_8_code 25 = .ok (.aload_n 0, 1) := by decide +kernel
theorem d_X5_keep_26 : decode prog_7_method_8_code 26 = .ok (.getfield 21, 3) := by decide +kernel
theorem d_X5_keep_29 : decode prog_7_method_8_code 29 = .ok (.iconst 4, 1) := by decide +kernel
theorem d_X5_keep_30 : decode prog_7_method_8_code 30 = .ok (.imul, 1) := by decide +kernel
theorem d_X5_keep_31 : decode prog_7_method_8_code 31 = .ok (.iconst 4, 1) := by decide +kernel
theorem d_X5_keep_32 : decode prog_7_method_8_code 32 = .ok (.invokestatic 83, 3) := by decide +kernel
theorem d_X5_keep_35 : decode prog_7_method_8_code 35 = .ok (.aload_n 0, 1) := by decide +kernel
theorem d_X5_keep_36 : decode prog_7_method_8_code 36 = .ok (.dup, 1) := by decide +kernel
theorem d_X5_keep_37 : decode prog_7_method_8_code 37 = .ok (.getfield 21, 3) := by decide +kernel
theorem d_X5_keep_40 : decode prog_7_method_8_code 40 = .ok (.iconst 1, 1) := by decide +kernel
theorem d_X5_keep_41 : decode prog_7_method_8_code 41 = .ok (.iadd, 1) := by decide +kernel
theorem d_X5_keep_42 : decode prog_7_method_8_code 42 = .ok (.putfield 21, 3) := by decide +kernel
theorem d_X5_keep_45 : decode prog_7_method_8_code 45 = .ok (.return_, 1) := by decide +kernel
abbrev y_X5_settle : MethodName := ⟨"VirtualRewrite$Rewriting", "settle", "(ILVirtualRewrite$Mapping;I)I"⟩
theorem d_X5_settle_0 : decode prog_7_method_9_code 0 = .ok (.iload_n 3, 1) := by decide +kernel
theorem d_X5_settle_1 : decode prog_7_method_9_code 1 = .ok (.istore 4, 2) := by decide +kernel
theorem d_X5_settle_3 : decode prog_7_method_9_code 3 = .ok (.iconst 0, 1) := by decide +kernel
theorem d_X5_settle_4 : decode prog_7_method_9_code 4 = .ok (.istore 5, 2) := by decide +kernel
theorem d_X5_settle_6 : decode prog_7_method_9_code 6 = .ok (.iload 5, 2) := by decide +kernel
theorem d_X5_settle_8 : decode prog_7_method_9_code 8 = .ok (.iconst 2, 1) := by decide +kernel
theorem d_X5_settle_9 : decode prog_7_method_9_code 9 = .ok (.if_icmp .ge 108, 3) := by decide +kernel
theorem d_X5_settle_12 : decode prog_7_method_9_code 12 = .ok (.aload_n 0, 1) := by decide +kernel
theorem d_X5_settle_13 : decode prog_7_method_9_code 13 = .ok (.getfield 36, 3) := by decide +kernel
theorem d_X5_settle_16 : decode prog_7_method_9_code 16 = .ok (.iload_n 1, 1) := by decide +kernel
theorem d_X5_settle_17 : decode prog_7_method_9_code 17 = .ok (.iload 5, 2) := by decide +kernel
theorem d_X5_settle_19 : decode prog_7_method_9_code 19 = .ok (.invokevirtual 89, 3) := by decide +kernel
theorem d_X5_settle_22 : decode prog_7_method_9_code 22 = .ok (.istore 6, 2) := by decide +kernel
theorem d_X5_settle_24 : decode prog_7_method_9_code 24 = .ok (.aload_n 2, 1) := by decide +kernel
theorem d_X5_settle_25 : decode prog_7_method_9_code 25 = .ok (.getfield 92, 3) := by decide +kernel
theorem d_X5_settle_28 : decode prog_7_method_9_code 28 = .ok (.iload 5, 2) := by decide +kernel
theorem d_X5_settle_30 : decode prog_7_method_9_code 30 = .ok (.iaload, 1) := by decide +kernel
theorem d_X5_settle_31 : decode prog_7_method_9_code 31 = .ok (.istore 7, 2) := by decide +kernel
theorem d_X5_settle_33 : decode prog_7_method_9_code 33 = .ok (.iload 6, 2) := by decide +kernel
theorem d_X5_settle_35 : decode prog_7_method_9_code 35 = .ok (.invokestatic 93, 3) := by decide +kernel
theorem d_X5_settle_38 : decode prog_7_method_9_code 38 = .ok (.ifCond .ne 16, 3) := by decide +kernel
theorem d_X5_settle_41 : decode prog_7_method_9_code 41 = .ok (.iload 6, 2) := by decide +kernel
theorem d_X5_settle_43 : decode prog_7_method_9_code 43 = .ok (.sipush 10000, 3) := by decide +kernel
theorem d_X5_settle_46 : decode prog_7_method_9_code 46 = .ok (.idiv, 1) := by decide +kernel
theorem d_X5_settle_47 : decode prog_7_method_9_code 47 = .ok (.iload 7, 2) := by decide +kernel
theorem d_X5_settle_49 : decode prog_7_method_9_code 49 = .ok (.if_icmp .eq 62, 3) := by decide +kernel
theorem d_X5_settle_52 : decode prog_7_method_9_code 52 = .ok (.iconst (-1), 1) := by decide +kernel
theorem d_X5_settle_53 : decode prog_7_method_9_code 53 = .ok (.ireturn, 1) := by decide +kernel
theorem d_X5_settle_54 : decode prog_7_method_9_code 54 = .ok (.iload 4, 2) := by decide +kernel
theorem d_X5_settle_56 : decode prog_7_method_9_code 56 = .ok (.iload 6, 2) := by decide +kernel
theorem d_X5_settle_58 : decode prog_7_method_9_code 58 = .ok (.invokestatic 97, 3) := by decide +kernel
theorem d_X5_settle_61 : decode prog_7_method_9_code 61 = .ok (.invokestatic 101, 3) := by decide +kernel
theorem d_X5_settle_64 : decode prog_7_method_9_code 64 = .ok (.ifCond .ne 30, 3) := by decide +kernel
theorem d_X5_settle_67 : decode prog_7_method_9_code 67 = .ok (.aload_n 0, 1) := by decide +kernel
theorem d_X5_settle_68 : decode prog_7_method_9_code 68 = .ok (.getfield 18, 3) := by decide +kernel
theorem d_X5_settle_71 : decode prog_7_method_9_code 71 = .ok (.iload 6, 2) := by decide +kernel
theorem d_X5_settle_73 : decode prog_7_method_9_code 73 = .ok (.invokestatic 97, 3) := by decide +kernel
theorem d_X5_settle_76 : decode prog_7_method_9_code 76 = .ok (.iload 7, 2) := by decide +kernel
theorem d_X5_settle_78 : decode prog_7_method_9_code 78 = .ok (.iastore, 1) := by decide +kernel
theorem d_X5_settle_79 : decode prog_7_method_9_code 79 = .ok (.iload 4, 2) := by decide +kernel
theorem d_X5_settle_81 : decode prog_7_method_9_code 81 = .ok (.iload 6, 2) := by decide +kernel
theorem d_X5_settle_83 : decode prog_7_method_9_code 83 = .ok (.invokestatic 97, 3) := by decide +kernel
theorem d_X5_settle_86 : decode prog_7_method_9_code 86 = .ok (.invokestatic 105, 3) := by decide +kernel
theorem d_X5_settle_89 : decode prog_7_method_9_code 89 = .ok (.istore 4, 2) := by decide +kernel
theorem d_X5_settle_91 : decode prog_7_method_9_code 91 = .ok (.goto 20, 3) := by decide +kernel
theorem d_X5_settle_94 : decode prog_7_method_9_code 94 = .ok (.aload_n 0, 1) := by decide +kernel
theorem d_X5_settle_95 : decode prog_7_method_9_code 95 = .ok (.getfield 18, 3) := by decide +kernel
theorem d_X5_settle_98 : decode prog_7_method_9_code 98 = .ok (.iload 6, 2) := by decide +kernel
theorem d_X5_settle_100 : decode prog_7_method_9_code 100 = .ok (.invokestatic 97, 3) := by decide +kernel
theorem d_X5_settle_103 : decode prog_7_method_9_code 103 = .ok (.iaload, 1) := by decide +kernel
theorem d_X5_settle_104 : decode prog_7_method_9_code 104 = .ok (.iload 7, 2) := by decide +kernel
theorem d_X5_settle_106 : decode prog_7_method_9_code 106 = .ok (.if_icmp .eq 5, 3) := by decide +kernel
theorem d_X5_settle_109 : decode prog_7_method_9_code 109 = .ok (.iconst (-1), 1) := by decide +kernel
theorem d_X5_settle_110 : decode prog_7_method_9_code 110 = .ok (.ireturn, 1) := by decide +kernel
theorem d_X5_settle_111 : decode prog_7_method_9_code 111 = .ok (.iinc 5 1, 3) := by decide +kernel
theorem d_X5_settle_114 : decode prog_7_method_9_code 114 = .ok (.goto (-108), 3) := by decide +kernel
theorem d_X5_settle_117 : decode prog_7_method_9_code 117 = .ok (.iload 4, 2) := by decide +kernel
theorem d_X5_settle_119 : decode prog_7_method_9_code 119 = .ok (.ireturn, 1) := by decide +kernel
abbrev y_X4_told : MethodName := ⟨"VirtualRewrite$Question", "told", "(II)I"⟩
theorem d_X4_told_0 : decode prog_6_method_5_code 0 = .ok (.aload_n 0, 1) := by decide +kernel
theorem d_X4_told_1 : decode prog_6_method_5_code 1 = .ok (.getfield 15, 3) := by decide +kernel
theorem d_X4_told_4 : decode prog_6_method_5_code 4 = .ok (.iload_n 1, 1) := by decide +kernel
theorem d_X4_told_5 : decode prog_6_method_5_code 5 = .ok (.iconst 2, 1) := by decide +kernel
theorem d_X4_told_6 : decode prog_6_method_5_code 6 = .ok (.imul, 1) := by decide +kernel
theorem d_X4_told_7 : decode prog_6_method_5_code 7 = .ok (.iload_n 2, 1) := by decide +kernel
theorem d_X4_told_8 : decode prog_6_method_5_code 8 = .ok (.iadd, 1) := by decide +kernel
theorem d_X4_told_9 : decode prog_6_method_5_code 9 = .ok (.iaload, 1) := by decide +kernel
theorem d_X4_told_10 : decode prog_6_method_5_code 10 = .ok (.ireturn, 1) := by decide +kernel
abbrev y_X0_isVariable : MethodName := ⟨"VirtualRewrite", "isVariable", "(I)Z"⟩
theorem d_X0_isVariable_0 : decode prog_1_method_20_code 0 = .ok (.iload_n 0, 1) := by decide +kernel
theorem d_X0_isVariable_1 : decode prog_1_method_20_code 1 = .ok (.ifCond .ge 7, 3) := by decide +kernel
theorem d_X0_isVariable_4 : decode prog_1_method_20_code 4 = .ok (.iconst 1, 1) := by decide +kernel
theorem d_X0_isVariable_5 : decode prog_1_method_20_code 5 = .ok (.goto 4, 3) := by decide +kernel
theorem d_X0_isVariable_8 : decode prog_1_method_20_code 8 = .ok (.iconst 0, 1) := by decide +kernel
theorem d_X0_isVariable_9 : decode prog_1_method_20_code 9 = .ok (.ireturn, 1) := by decide +kernel
abbrev y_X0_variableOf : MethodName := ⟨"VirtualRewrite", "variableOf", "(I)I"⟩
theorem d_X0_variableOf_0 : decode prog_1_method_21_code 0 = .ok (.iconst (-1), 1) := by decide +kernel
theorem d_X0_variableOf_1 : decode prog_1_method_21_code 1 = .ok (.iload_n 0, 1) := by decide +kernel
theorem d_X0_variableOf_2 : decode prog_1_method_21_code 2 = .ok (.isub, 1) := by decide +kernel
theorem d_X0_variableOf_3 : decode prog_1_method_21_code 3 = .ok (.ireturn, 1) := by decide +kernel
abbrev y_X0_has : MethodName := ⟨"VirtualRewrite", "has", "(II)Z"⟩
theorem d_X0_has_0 : decode prog_1_method_22_code 0 = .ok (.iload_n 0, 1) := by decide +kernel
theorem d_X0_has_1 : decode prog_1_method_22_code 1 = .ok (.iload_n 1, 1) := by decide +kernel
theorem d_X0_has_2 : decode prog_1_method_22_code 2 = .ok (.ishr, 1) := by decide +kernel
theorem d_X0_has_3 : decode prog_1_method_22_code 3 = .ok (.iconst 1, 1) := by decide +kernel
theorem d_X0_has_4 : decode prog_1_method_22_code 4 = .ok (.iand, 1) := by decide +kernel
theorem d_X0_has_5 : decode prog_1_method_22_code 5 = .ok (.ifCond .eq 7, 3) := by decide +kernel
theorem d_X0_has_8 : decode prog_1_method_22_code 8 = .ok (.iconst 1, 1) := by decide +kernel
theorem d_X0_has_9 : decode prog_1_method_22_code 9 = .ok (.goto 4, 3) := by decide +kernel
theorem d_X0_has_12 : decode prog_1_method_22_code 12 = .ok (.iconst 0, 1) := by decide +kernel
theorem d_X0_has_13 : decode prog_1_method_22_code 13 = .ok (.ireturn, 1) := by decide +kernel
abbrev y_X0_with : MethodName := ⟨"VirtualRewrite", "with", "(II)I"⟩
theorem d_X0_with_0 : decode prog_1_method_23_code 0 = .ok (.iload_n 0, 1) := by decide +kernel
theorem d_X0_with_1 : decode prog_1_method_23_code 1 = .ok (.iconst 1, 1) := by decide +kernel
theorem d_X0_with_2 : decode prog_1_method_23_code 2 = .ok (.iload_n 1, 1) := by decide +kernel
theorem d_X0_with_3 : decode prog_1_method_23_code 3 = .ok (.ishl, 1) := by decide +kernel
theorem d_X0_with_4 : decode prog_1_method_23_code 4 = .ok (.ior, 1) := by decide +kernel
theorem d_X0_with_5 : decode prog_1_method_23_code 5 = .ok (.ireturn, 1) := by decide +kernel
abbrev y_X0_union : MethodName := ⟨"VirtualRewrite", "union", "(II)I"⟩
theorem d_X0_union_0 : decode prog_1_method_11_code 0 = .ok (.aload_n 0, 1) := by decide +kernel
theorem d_X0_union_1 : decode prog_1_method_11_code 1 = .ok (.iload_n 2, 1) := by decide +kernel
theorem d_X0_union_2 : decode prog_1_method_11_code 2 = .ok (.invokevirtual 137, 3) := by decide +kernel
theorem d_X0_union_5 : decode prog_1_method_11_code 5 = .ok (.ifCond .ne 5, 3) := by decide +kernel
theorem d_X0_union_8 : decode prog_1_method_11_code 8 = .ok (.iconst (-1), 1) := by decide +kernel
theorem d_X0_union_9 : decode prog_1_method_11_code 9 = .ok (.ireturn, 1) := by decide +kernel
theorem d_X0_union_10 : decode prog_1_method_11_code 10 = .ok (.aload_n 0, 1) := by decide +kernel
theorem d_X0_union_11 : decode prog_1_method_11_code 11 = .ok (.iload_n 1, 1) := by decide +kernel
theorem d_X0_union_12 : decode prog_1_method_11_code 12 = .ok (.invokevirtual 140, 3) := by decide +kernel
theorem d_X0_union_15 : decode prog_1_method_11_code 15 = .ok (.istore_n 3, 1) := by decide +kernel
theorem d_X0_union_16 : decode prog_1_method_11_code 16 = .ok (.iload_n 3, 1) := by decide +kernel
theorem d_X0_union_17 : decode prog_1_method_11_code 17 = .ok (.ifCond .eq 5, 3) := by decide +kernel
theorem d_X0_union_20 : decode prog_1_method_11_code 20 = .ok (.iload_n 3, 1) := by decide +kernel
theorem d_X0_union_21 : decode prog_1_method_11_code 21 = .ok (.ireturn, 1) := by decide +kernel
theorem d_X0_union_22 : decode prog_1_method_11_code 22 = .ok (.iload_n 2, 1) := by decide +kernel
theorem d_X0_union_23 : decode prog_1_method_11_code 23 = .ok (.iconst 4, 1) := by decide +kernel
theorem d_X0_union_24 : decode prog_1_method_11_code 24 = .ok (.if_icmp .ge 13, 3) := by decide +kernel
theorem d_X0_union_27 : decode prog_1_method_11_code 27 = .ok (.aload_n 0, 1) := by decide +kernel
theorem d_X0_union_28 : decode prog_1_method_11_code 28 = .ok (.getfield 28, 3) := by decide +kernel
theorem d_X0_union_31 : decode prog_1_method_11_code 31 = .ok (.iload_n 1, 1) := by decide +kernel
theorem d_X0_union_32 : decode prog_1_method_11_code 32 = .ok (.iload_n 2, 1) := by decide +kernel
theorem d_X0_union_33 : decode prog_1_method_11_code 33 = .ok (.invokevirtual 144, 3) := by decide +kernel
theorem d_X0_union_36 : decode prog_1_method_11_code 36 = .ok (.ireturn, 1) := by decide +kernel
theorem d_X0_union_37 : decode prog_1_method_11_code 37 = .ok (.aload_n 0, 1) := by decide +kernel
theorem d_X0_union_38 : decode prog_1_method_11_code 38 = .ok (.getfield 37, 3) := by decide +kernel
theorem d_X0_union_41 : decode prog_1_method_11_code 41 = .ok (.iload_n 1, 1) := by decide +kernel
theorem d_X0_union_42 : decode prog_1_method_11_code 42 = .ok (.invokevirtual 148, 3) := by decide +kernel
theorem d_X0_union_45 : decode prog_1_method_11_code 45 = .ok (.iload_n 2, 1) := by decide +kernel
theorem d_X0_union_46 : decode prog_1_method_11_code 46 = .ok (.bipush 8, 2) := by decide +kernel
theorem d_X0_union_48 : decode prog_1_method_11_code 48 = .ok (.if_icmp .ge 17, 3) := by decide +kernel
theorem d_X0_union_51 : decode prog_1_method_11_code 51 = .ok (.aload_n 0, 1) := by decide +kernel
theorem d_X0_union_52 : decode prog_1_method_11_code 52 = .ok (.getfield 37, 3) := by decide +kernel
theorem d_X0_union_55 : decode prog_1_method_11_code 55 = .ok (.getfield 151, 3) := by decide +kernel
theorem d_X0_union_58 : decode prog_1_method_11_code 58 = .ok (.iload_n 2, 1) := by decide +kernel
theorem d_X0_union_59 : decode prog_1_method_11_code 59 = .ok (.iconst 4, 1) := by decide +kernel
theorem d_X0_union_60 : decode prog_1_method_11_code 60 = .ok (.isub, 1) := by decide +kernel
theorem d_X0_union_61 : decode prog_1_method_11_code 61 = .ok (.iaload, 1) := by decide +kernel
theorem d_X0_union_62 : decode prog_1_method_11_code 62 = .ok (.goto 10, 3) := by decide +kernel
theorem d_X0_union_65 : decode prog_1_method_11_code 65 = .ok (.aload_n 0, 1) := by decide +kernel
theorem d_X0_union_66 : decode prog_1_method_11_code 66 = .ok (.getfield 37, 3) := by decide +kernel
theorem d_X0_union_69 : decode prog_1_method_11_code 69 = .ok (.getfield 155, 3) := by decide +kernel
theorem d_X0_union_72 : decode prog_1_method_11_code 72 = .ok (.ireturn, 1) := by decide +kernel
abbrev y_X0_isAsked : MethodName := ⟨"VirtualRewrite", "isAsked", "(I)Z"⟩
theorem d_X0_isAsked_0 : decode prog_1_method_16_code 0 = .ok (.iload_n 1, 1) := by decide +kernel
theorem d_X0_isAsked_1 : decode prog_1_method_16_code 1 = .ok (.bipush 8, 2) := by decide +kernel
theorem d_X0_isAsked_3 : decode prog_1_method_16_code 3 = .ok (.if_icmp .ne 5, 3) := by decide +kernel
theorem d_X0_isAsked_6 : decode prog_1_method_16_code 6 = .ok (.iconst 1, 1) := by decide +kernel
theorem d_X0_isAsked_7 : decode prog_1_method_16_code 7 = .ok (.ireturn, 1) := by decide +kernel
theorem d_X0_isAsked_8 : decode prog_1_method_16_code 8 = .ok (.iload_n 1, 1) := by decide +kernel
theorem d_X0_isAsked_9 : decode prog_1_method_16_code 9 = .ok (.bipush 8, 2) := by decide +kernel
theorem d_X0_isAsked_11 : decode prog_1_method_16_code 11 = .ok (.invokestatic 57, 3) := by decide +kernel
theorem d_X0_isAsked_14 : decode prog_1_method_16_code 14 = .ok (.ifCond .eq 20, 3) := by decide +kernel
theorem d_X0_isAsked_17 : decode prog_1_method_16_code 17 = .ok (.iload_n 1, 1) := by decide +kernel
theorem d_X0_isAsked_18 : decode prog_1_method_16_code 18 = .ok (.iconst 4, 1) := by decide +kernel
theorem d_X0_isAsked_19 : decode prog_1_method_16_code 19 = .ok (.irem, 1) := by decide +kernel
theorem d_X0_isAsked_20 : decode prog_1_method_16_code 20 = .ok (.aload_n 0, 1) := by decide +kernel
theorem d_X0_isAsked_21 : decode prog_1_method_16_code 21 = .ok (.getfield 19, 3) := by decide +kernel
theorem d_X0_isAsked_24 : decode prog_1_method_16_code 24 = .ok (.getfield 116, 3) := by decide +kernel
theorem d_X0_isAsked_27 : decode prog_1_method_16_code 27 = .ok (.if_icmp .ge 7, 3) := by decide +kernel
theorem d_X0_isAsked_30 : decode prog_1_method_16_code 30 = .ok (.iconst 1, 1) := by decide +kernel
theorem d_X0_isAsked_31 : decode prog_1_method_16_code 31 = .ok (.goto 4, 3) := by decide +kernel
theorem d_X0_isAsked_34 : decode prog_1_method_16_code 34 = .ok (.iconst 0, 1) := by decide +kernel
theorem d_X0_isAsked_35 : decode prog_1_method_16_code 35 = .ok (.ireturn, 1) := by decide +kernel
abbrev y_X0_troubleWith : MethodName := ⟨"VirtualRewrite", "troubleWith", "(I)I"⟩
theorem d_X0_troubleWith_0 : decode prog_1_method_17_code 0 = .ok (.iload_n 1, 1) := by decide +kernel
theorem d_X0_troubleWith_1 : decode prog_1_method_17_code 1 = .ok (.ifCond .lt 13, 3) := by decide +kernel
theorem d_X0_troubleWith_4 : decode prog_1_method_17_code 4 = .ok (.aload_n 0, 1) := by decide +kernel
theorem d_X0_troubleWith_5 : decode prog_1_method_17_code 5 = .ok (.getfield 19, 3) := by decide +kernel
theorem d_X0_troubleWith_8 : decode prog_1_method_17_code 8 = .ok (.getfield 116, 3) := by decide +kernel
theorem d_X0_troubleWith_11 : decode prog_1_method_17_code 11 = .ok (.ifCond .ne 5, 3) := by decide +kernel
theorem d_X0_troubleWith_14 : decode prog_1_method_17_code 14 = .ok (.iconst (-1), 1) := by decide +kernel
theorem d_X0_troubleWith_15 : decode prog_1_method_17_code 15 = .ok (.ireturn, 1) := by decide +kernel
theorem d_X0_troubleWith_16 : decode prog_1_method_17_code 16 = .ok (.aload_n 0, 1) := by decide +kernel
theorem d_X0_troubleWith_17 : decode prog_1_method_17_code 17 = .ok (.getfield 28, 3) := by decide +kernel
theorem d_X0_troubleWith_20 : decode prog_1_method_17_code 20 = .ok (.invokevirtual 129, 3) := by decide +kernel
theorem d_X0_troubleWith_23 : decode prog_1_method_17_code 23 = .ok (.aload_n 0, 1) := by decide +kernel
theorem d_X0_troubleWith_24 : decode prog_1_method_17_code 24 = .ok (.getfield 28, 3) := by decide +kernel
theorem d_X0_troubleWith_27 : decode prog_1_method_17_code 27 = .ok (.getfield 132, 3) := by decide +kernel
theorem d_X0_troubleWith_30 : decode prog_1_method_17_code 30 = .ok (.ifCond .eq 6, 3) := by decide +kernel
theorem d_X0_troubleWith_33 : decode prog_1_method_17_code 33 = .ok (.bipush (-3), 2) := by decide +kernel
theorem d_X0_troubleWith_35 : decode prog_1_method_17_code 35 = .ok (.ireturn, 1) := by decide +kernel
theorem d_X0_troubleWith_36 : decode prog_1_method_17_code 36 = .ok (.iload_n 1, 1) := by decide +kernel
theorem d_X0_troubleWith_37 : decode prog_1_method_17_code 37 = .ok (.aload_n 0, 1) := by decide +kernel
theorem d_X0_troubleWith_38 : decode prog_1_method_17_code 38 = .ok (.getfield 28, 3) := by decide +kernel
theorem d_X0_troubleWith_41 : decode prog_1_method_17_code 41 = .ok (.getfield 136, 3) := by decide +kernel
theorem d_X0_troubleWith_44 : decode prog_1_method_17_code 44 = .ok (.if_icmp .ge 7, 3) := by decide +kernel
theorem d_X0_troubleWith_47 : decode prog_1_method_17_code 47 = .ok (.iconst 0, 1) := by decide +kernel
theorem d_X0_troubleWith_48 : decode prog_1_method_17_code 48 = .ok (.goto 4, 3) := by decide +kernel
theorem d_X0_troubleWith_51 : decode prog_1_method_17_code 51 = .ok (.iconst (-1), 1) := by decide +kernel
theorem d_X0_troubleWith_52 : decode prog_1_method_17_code 52 = .ok (.ireturn, 1) := by decide +kernel
abbrev y_X5_chosen : MethodName := ⟨"VirtualRewrite$Rewriting", "chosen", "(II)I"⟩
theorem d_X5_chosen_0 : decode prog_7_method_2_code 0 = .ok (.aload_n 0, 1) := by decide +kernel
theorem d_X5_chosen_1 : decode prog_7_method_2_code 1 = .ok (.getfield 9, 3) := by decide +kernel
theorem d_X5_chosen_4 : decode prog_7_method_2_code 4 = .ok (.iload_n 1, 1) := by decide +kernel
theorem d_X5_chosen_5 : decode prog_7_method_2_code 5 = .ok (.iconst 4, 1) := by decide +kernel
theorem d_X5_chosen_6 : decode prog_7_method_2_code 6 = .ok (.imul, 1) := by decide +kernel
theorem d_X5_chosen_7 : decode prog_7_method_2_code 7 = .ok (.iload_n 2, 1) := by decide +kernel
theorem d_X5_chosen_8 : decode prog_7_method_2_code 8 = .ok (.iadd, 1) := by decide +kernel
theorem d_X5_chosen_9 : decode prog_7_method_2_code 9 = .ok (.iaload, 1) := by decide +kernel
theorem d_X5_chosen_10 : decode prog_7_method_2_code 10 = .ok (.ireturn, 1) := by decide +kernel
abbrev y_X6_assign : MethodName := ⟨"VirtualRewrite$Slots", "assign", "(I)V"⟩
theorem d_X6_assign_0 : decode prog_8_method_2_code 0 = .ok (.aload_n 0, 1) := by decide +kernel
theorem d_X6_assign_1 : decode prog_8_method_2_code 1 = .ok (.iconst 0, 1) := by decide +kernel
theorem d_X6_assign_2 : decode prog_8_method_2_code 2 = .ok (.putfield 15, 3) := by decide +kernel
theorem d_X6_assign_5 : decode prog_8_method_2_code 5 = .ok (.iconst 0, 1) := by decide +kernel
theorem d_X6_assign_6 : decode prog_8_method_2_code 6 = .ok (.istore_n 2, 1) := by decide +kernel
theorem d_X6_assign_7 : decode prog_8_method_2_code 7 = .ok (.iload_n 2, 1) := by decide +kernel
theorem d_X6_assign_8 : decode prog_8_method_2_code 8 = .ok (.aload_n 0, 1) := by decide +kernel
theorem d_X6_assign_9 : decode prog_8_method_2_code 9 = .ok (.getfield 23, 3) := by decide +kernel
theorem d_X6_assign_12 : decode prog_8_method_2_code 12 = .ok (.getfield 31, 3) := by decide +kernel
theorem d_X6_assign_15 : decode prog_8_method_2_code 15 = .ok (.if_icmp .ge 56, 3) := by decide +kernel
theorem d_X6_assign_18 : decode prog_8_method_2_code 18 = .ok (.aload_n 0, 1) := by decide +kernel
theorem d_X6_assign_19 : decode prog_8_method_2_code 19 = .ok (.iload_n 1, 1) := by decide +kernel
theorem d_X6_assign_20 : decode prog_8_method_2_code 20 = .ok (.iload_n 2, 1) := by decide +kernel
theorem d_X6_assign_21 : decode prog_8_method_2_code 21 = .ok (.invokevirtual 36, 3) := by decide +kernel
theorem d_X6_assign_24 : decode prog_8_method_2_code 24 = .ok (.istore_n 3, 1) := by decide +kernel
theorem d_X6_assign_25 : decode prog_8_method_2_code 25 = .ok (.iload_n 3, 1) := by decide +kernel
theorem d_X6_assign_26 : decode prog_8_method_2_code 26 = .ok (.iload_n 2, 1) := by decide +kernel
theorem d_X6_assign_27 : decode prog_8_method_2_code 27 = .ok (.if_icmp .ge 18, 3) := by decide +kernel
theorem d_X6_assign_30 : decode prog_8_method_2_code 30 = .ok (.aload_n 0, 1) := by decide +kernel
theorem d_X6_assign_31 : decode prog_8_method_2_code 31 = .ok (.getfield 9, 3) := by decide +kernel
theorem d_X6_assign_34 : decode prog_8_method_2_code 34 = .ok (.iload_n 2, 1) := by decide +kernel
theorem d_X6_assign_35 : decode prog_8_method_2_code 35 = .ok (.aload_n 0, 1) := by decide +kernel
theorem d_X6_assign_36 : decode prog_8_method_2_code 36 = .ok (.getfield 9, 3) := by decide +kernel
theorem d_X6_assign_39 : decode prog_8_method_2_code 39 = .ok (.iload_n 3, 1) := by decide +kernel
theorem d_X6_assign_40 : decode prog_8_method_2_code 40 = .ok (.iaload, 1) := by decide +kernel
theorem d_X6_assign_41 : decode prog_8_method_2_code 41 = .ok (.iastore, 1) := by decide +kernel
theorem d_X6_assign_42 : decode prog_8_method_2_code 42 = .ok (.goto 23, 3) := by decide +kernel
theorem d_X6_assign_45 : decode prog_8_method_2_code 45 = .ok (.aload_n 0, 1) := by decide +kernel
theorem d_X6_assign_46 : decode prog_8_method_2_code 46 = .ok (.getfield 9, 3) := by decide +kernel
theorem d_X6_assign_49 : decode prog_8_method_2_code 49 = .ok (.iload_n 2, 1) := by decide +kernel
theorem d_X6_assign_50 : decode prog_8_method_2_code 50 = .ok (.aload_n 0, 1) := by decide +kernel
theorem d_X6_assign_51 : decode prog_8_method_2_code 51 = .ok (.getfield 15, 3) := by decide +kernel
theorem d_X6_assign_54 : decode prog_8_method_2_code 54 = .ok (.iastore, 1) := by decide +kernel
theorem d_X6_assign_55 : decode prog_8_method_2_code 55 = .ok (.aload_n 0, 1) := by decide +kernel
theorem d_X6_assign_56 : decode prog_8_method_2_code 56 = .ok (.dup, 1) := by decide +kernel
theorem d_X6_assign_57 : decode prog_8_method_2_code 57 = .ok (.getfield 15, 3) := by decide +kernel
theorem d_X6_assign_60 : decode prog_8_method_2_code 60 = .ok (.iconst 1, 1) := by decide +kernel
theorem d_X6_assign_61 : decode prog_8_method_2_code 61 = .ok (.iadd, 1) := by decide +kernel
theorem d_X6_assign_62 : decode prog_8_method_2_code 62 = .ok (.putfield 15, 3) := by decide +kernel
theorem d_X6_assign_65 : decode prog_8_method_2_code 65 = .ok (.iinc 2 1, 3) := by decide +kernel
theorem d_X6_assign_68 : decode prog_8_method_2_code 68 = .ok (.goto (-61), 3) := by decide +kernel
theorem d_X6_assign_71 : decode prog_8_method_2_code 71 = .ok (.return_, 1) := by decide +kernel
abbrev y_X6_leastOfOneRow : MethodName := ⟨"VirtualRewrite$Slots", "leastOfOneRow", "(II)I"⟩
theorem d_X6_leastOfOneRow_0 : decode prog_8_method_3_code 0 = .ok (.iconst 0, 1) := by decide +kernel
theorem d_X6_leastOfOneRow_1 : decode prog_8_method_3_code 1 = .ok (.istore_n 3, 1) := by decide +kernel
theorem d_X6_leastOfOneRow_2 : decode prog_8_method_3_code 2 = .ok (.iload_n 3, 1) := by decide +kernel
theorem d_X6_leastOfOneRow_3 : decode prog_8_method_3_code 3 = .ok (.iload_n 2, 1) := by decide +kernel
theorem d_X6_leastOfOneRow_4 : decode prog_8_method_3_code 4 = .ok (.if_icmp .ge 21, 3) := by decide +kernel
theorem d_X6_leastOfOneRow_7 : decode prog_8_method_3_code 7 = .ok (.aload_n 0, 1) := by decide +kernel
theorem d_X6_leastOfOneRow_8 : decode prog_8_method_3_code 8 = .ok (.iload_n 1, 1) := by decide +kernel
theorem d_X6_leastOfOneRow_9 : decode prog_8_method_3_code 9 = .ok (.iload_n 3, 1) := by decide +kernel
theorem d_X6_leastOfOneRow_10 : decode prog_8_method_3_code 10 = .ok (.iload_n 2, 1) := by decide +kernel
theorem d_X6_leastOfOneRow_11 : decode prog_8_method_3_code 11 = .ok (.invokevirtual 40, 3) := by decide +kernel
theorem d_X6_leastOfOneRow_14 : decode prog_8_method_3_code 14 = .ok (.ifCond .eq 5, 3) := by decide +kernel
theorem d_X6_leastOfOneRow_17 : decode prog_8_method_3_code 17 = .ok (.iload_n 3, 1) := by decide +kernel
theorem d_X6_leastOfOneRow_18 : decode prog_8_method_3_code 18 = .ok (.ireturn, 1) := by decide +kernel
theorem d_X6_leastOfOneRow_19 : decode prog_8_method_3_code 19 = .ok (.iinc 3 1, 3) := by decide +kernel
theorem d_X6_leastOfOneRow_22 : decode prog_8_method_3_code 22 = .ok (.goto (-20), 3) := by decide +kernel
theorem d_X6_leastOfOneRow_25 : decode prog_8_method_3_code 25 = .ok (.iload_n 2, 1) := by decide +kernel
theorem d_X6_leastOfOneRow_26 : decode prog_8_method_3_code 26 = .ok (.ireturn, 1) := by decide +kernel
abbrev y_X6_areOfOneRow : MethodName := ⟨"VirtualRewrite$Slots", "areOfOneRow", "(III)Z"⟩
theorem d_X6_areOfOneRow_0 : decode prog_8_method_4_code 0 = .ok (.aload_n 0, 1) := by decide +kernel
theorem d_X6_areOfOneRow_1 : decode prog_8_method_4_code 1 = .ok (.getfield 27, 3) := by decide +kernel
theorem d_X6_areOfOneRow_4 : decode prog_8_method_4_code 4 = .ok (.iload_n 1, 1) := by decide +kernel
theorem d_X6_areOfOneRow_5 : decode prog_8_method_4_code 5 = .ok (.iload_n 2, 1) := by decide +kernel
theorem d_X6_areOfOneRow_6 : decode prog_8_method_4_code 6 = .ok (.invokevirtual 44, 3) := by decide +kernel
theorem d_X6_areOfOneRow_9 : decode prog_8_method_4_code 9 = .ok (.astore 4, 2) := by decide +kernel
theorem d_X6_areOfOneRow_11 : decode prog_8_method_4_code 11 = .ok (.aload_n 0, 1) := by decide +kernel
theorem d_X6_areOfOneRow_12 : decode prog_8_method_4_code 12 = .ok (.getfield 27, 3) := by decide +kernel
theorem d_X6_areOfOneRow_15 : decode prog_8_method_4_code 15 = .ok (.iload_n 1, 1) := by decide +kernel
theorem d_X6_areOfOneRow_16 : decode prog_8_method_4_code 16 = .ok (.iload_n 3, 1) := by decide +kernel
theorem d_X6_areOfOneRow_17 : decode prog_8_method_4_code 17 = .ok (.invokevirtual 44, 3) := by decide +kernel
theorem d_X6_areOfOneRow_20 : decode prog_8_method_4_code 20 = .ok (.astore 5, 2) := by decide +kernel
theorem d_X6_areOfOneRow_22 : decode prog_8_method_4_code 22 = .ok (.aload 4, 2) := by decide +kernel
theorem d_X6_areOfOneRow_24 : decode prog_8_method_4_code 24 = .ok (.getfield 50, 3) := by decide +kernel
theorem d_X6_areOfOneRow_27 : decode prog_8_method_4_code 27 = .ok (.aload 5, 2) := by decide +kernel
theorem d_X6_areOfOneRow_29 : decode prog_8_method_4_code 29 = .ok (.getfield 50, 3) := by decide +kernel
theorem d_X6_areOfOneRow_32 : decode prog_8_method_4_code 32 = .ok (.if_icmp .eq 5, 3) := by decide +kernel
theorem d_X6_areOfOneRow_35 : decode prog_8_method_4_code 35 = .ok (.iconst 0, 1) := by decide +kernel
theorem d_X6_areOfOneRow_36 : decode prog_8_method_4_code 36 = .ok (.ireturn, 1) := by decide +kernel
theorem d_X6_areOfOneRow_37 : decode prog_8_method_4_code 37 = .ok (.aload_n 0, 1) := by decide +kernel
theorem d_X6_areOfOneRow_38 : decode prog_8_method_4_code 38 = .ok (.getfield 19, 3) := by decide +kernel
theorem d_X6_areOfOneRow_41 : decode prog_8_method_4_code 41 = .ok (.aload 4, 2) := by decide +kernel
theorem d_X6_areOfOneRow_43 : decode prog_8_method_4_code 43 = .ok (.invokevirtual 55, 3) := by decide +kernel
theorem d_X6_areOfOneRow_46 : decode prog_8_method_4_code 46 = .ok (.getfield 61, 3) := by decide +kernel
theorem d_X6_areOfOneRow_49 : decode prog_8_method_4_code 49 = .ok (.astore 6, 2) := by decide +kernel
theorem d_X6_areOfOneRow_51 : decode prog_8_method_4_code 51 = .ok (.iconst 0, 1) := by decide +kernel
theorem d_X6_areOfOneRow_52 : decode prog_8_method_4_code 52 = .ok (.istore 7, 2) := by decide +kernel
theorem d_X6_areOfOneRow_54 : decode prog_8_method_4_code 54 = .ok (.iload 7, 2) := by decide +kernel
theorem d_X6_areOfOneRow_56 : decode prog_8_method_4_code 56 = .ok (.iconst 2, 1) := by decide +kernel
theorem d_X6_areOfOneRow_57 : decode prog_8_method_4_code 57 = .ok (.if_icmp .ge 94, 3) := by decide +kernel
theorem d_X6_areOfOneRow_60 : decode prog_8_method_4_code 60 = .ok (.iconst 0, 1) := by decide +kernel
theorem d_X6_areOfOneRow_61 : decode prog_8_method_4_code 61 = .ok (.istore 8, 2) := by decide +kernel
theorem d_X6_areOfOneRow_63 : decode prog_8_method_4_code 63 = .ok (.iload 8, 2) := by decide +kernel
theorem d_X6_areOfOneRow_65 : decode prog_8_method_4_code 65 = .ok (.iconst 2, 1) := by decide +kernel
theorem d_X6_areOfOneRow_66 : decode prog_8_method_4_code 66 = .ok (.if_icmp .ge 79, 3) := by decide +kernel
theorem d_X6_areOfOneRow_69 : decode prog_8_method_4_code 69 = .ok (.aload 4, 2) := by decide +kernel
theorem d_X6_areOfOneRow_71 : decode prog_8_method_4_code 71 = .ok (.getfield 67, 3) := by decide +kernel
theorem d_X6_areOfOneRow_74 : decode prog_8_method_4_code 74 = .ok (.iload 7, 2) := by decide +kernel
theorem d_X6_areOfOneRow_76 : decode prog_8_method_4_code 76 = .ok (.iaload, 1) := by decide +kernel
theorem d_X6_areOfOneRow_77 : decode prog_8_method_4_code 77 = .ok (.aload 5, 2) := by decide +kernel
theorem d_X6_areOfOneRow_79 : decode prog_8_method_4_code 79 = .ok (.getfield 67, 3) := by decide +kernel
theorem d_X6_areOfOneRow_82 : decode prog_8_method_4_code 82 = .ok (.iload 8, 2) := by decide +kernel
theorem d_X6_areOfOneRow_84 : decode prog_8_method_4_code 84 = .ok (.iaload, 1) := by decide +kernel
theorem d_X6_areOfOneRow_85 : decode prog_8_method_4_code 85 = .ok (.if_icmp .ne 21, 3) := by decide +kernel
theorem d_X6_areOfOneRow_88 : decode prog_8_method_4_code 88 = .ok (.aload 6, 2) := by decide +kernel
theorem d_X6_areOfOneRow_90 : decode prog_8_method_4_code 90 = .ok (.aload 4, 2) := by decide +kernel
theorem d_X6_areOfOneRow_92 : decode prog_8_method_4_code 92 = .ok (.getfield 67, 3) := by decide +kernel
theorem d_X6_areOfOneRow_95 : decode prog_8_method_4_code 95 = .ok (.iload 7, 2) := by decide +kernel
theorem d_X6_areOfOneRow_97 : decode prog_8_method_4_code 97 = .ok (.iaload, 1) := by decide +kernel
theorem d_X6_areOfOneRow_98 : decode prog_8_method_4_code 98 = .ok (.baload, 1) := by decide +kernel
theorem d_X6_areOfOneRow_99 : decode prog_8_method_4_code 99 = .ok (.ifCond .eq 7, 3) := by decide +kernel
theorem d_X6_areOfOneRow_102 : decode prog_8_method_4_code 102 = .ok (.iconst 1, 1) := by decide +kernel
theorem d_X6_areOfOneRow_103 : decode prog_8_method_4_code 103 = .ok (.goto 4, 3) := by decide +kernel
theorem d_X6_areOfOneRow_106 : decode prog_8_method_4_code 106 = .ok (.iconst 0, 1) := by decide +kernel
theorem d_X6_areOfOneRow_107 : decode prog_8_method_4_code 107 = .ok (.istore 9, 2) := by decide +kernel
theorem d_X6_areOfOneRow_109 : decode prog_8_method_4_code 109 = .ok (.iload 9, 2) := by decide +kernel
theorem d_X6_areOfOneRow_111 : decode prog_8_method_4_code 111 = .ok (.ifCond .eq 28, 3) := by decide +kernel
theorem d_X6_areOfOneRow_114 : decode prog_8_method_4_code 114 = .ok (.aload_n 0, 1) := by decide +kernel
theorem d_X6_areOfOneRow_115 : decode prog_8_method_4_code 115 = .ok (.getfield 23, 3) := by decide +kernel
theorem d_X6_areOfOneRow_118 : decode prog_8_method_4_code 118 = .ok (.iload_n 2, 1) := by decide +kernel
theorem d_X6_areOfOneRow_119 : decode prog_8_method_4_code 119 = .ok (.iload 7, 2) := by decide +kernel
theorem d_X6_areOfOneRow_121 : decode prog_8_method_4_code 121 = .ok (.invokevirtual 70, 3) := by decide +kernel
theorem d_X6_areOfOneRow_124 : decode prog_8_method_4_code 124 = .ok (.aload_n 0, 1) := by decide +kernel
theorem d_X6_areOfOneRow_125 : decode prog_8_method_4_code 125 = .ok (.getfield 23, 3) := by decide +kernel
theorem d_X6_areOfOneRow_128 : decode prog_8_method_4_code 128 = .ok (.iload_n 3, 1) := by decide +kernel
theorem d_X6_areOfOneRow_129 : decode prog_8_method_4_code 129 = .ok (.iload 8, 2) := by decide +kernel
theorem d_X6_areOfOneRow_131 : decode prog_8_method_4_code 131 = .ok (.invokevirtual 70, 3) := by decide +kernel
theorem d_X6_areOfOneRow_134 : decode prog_8_method_4_code 134 = .ok (.if_icmp .ne 5, 3) := by decide +kernel
theorem d_X6_areOfOneRow_137 : decode prog_8_method_4_code 137 = .ok (.iconst 1, 1) := by decide +kernel
theorem d_X6_areOfOneRow_138 : decode prog_8_method_4_code 138 = .ok (.ireturn, 1) := by decide +kernel
theorem d_X6_areOfOneRow_139 : decode prog_8_method_4_code 139 = .ok (.iinc 8 1, 3) := by decide +kernel
theorem d_X6_areOfOneRow_142 : decode prog_8_method_4_code 142 = .ok (.goto (-79), 3) := by decide +kernel
theorem d_X6_areOfOneRow_145 : decode prog_8_method_4_code 145 = .ok (.iinc 7 1, 3) := by decide +kernel
theorem d_X6_areOfOneRow_148 : decode prog_8_method_4_code 148 = .ok (.goto (-94), 3) := by decide +kernel
theorem d_X6_areOfOneRow_151 : decode prog_8_method_4_code 151 = .ok (.iconst 0, 1) := by decide +kernel
theorem d_X6_areOfOneRow_152 : decode prog_8_method_4_code 152 = .ok (.ireturn, 1) := by decide +kernel
