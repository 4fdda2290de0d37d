abbrev y_X0_init : MethodName := ⟨"VirtualRewrite", "<init>", "()V"⟩
theorem d_X0_init_0 : decode prog_1_method_1_code 0 = .ok (.aload_n 0, 1) := by decide +kernel
theorem d_X0_init_1 : decode prog_1_method_1_code 1 = .ok (.invokespecial 3, 3) := by decide +kernel
theorem d_X0_init_4 : decode prog_1_method_1_code 4 = .ok (.aload_n 0, 1) := by decide +kernel
theorem d_X0_init_5 : decode prog_1_method_1_code 5 = .ok (.new 9, 3) := by decide +kernel
theorem d_X0_init_8 : decode prog_1_method_1_code 8 = .ok (.dup, 1) := by decide +kernel
theorem d_X0_init_9 : decode prog_1_method_1_code 9 = .ok (.invokespecial 11, 3) := by decide +kernel
theorem d_X0_init_12 : decode prog_1_method_1_code 12 = .ok (.putfield 12, 3) := by decide +kernel
theorem d_X0_init_15 : decode prog_1_method_1_code 15 = .ok (.aload_n 0, 1) := by decide +kernel
theorem d_X0_init_16 : decode prog_1_method_1_code 16 = .ok (.new 16, 3) := by decide +kernel
theorem d_X0_init_19 : decode prog_1_method_1_code 19 = .ok (.dup, 1) := by decide +kernel
theorem d_X0_init_20 : decode prog_1_method_1_code 20 = .ok (.invokespecial 18, 3) := by decide +kernel
theorem d_X0_init_23 : decode prog_1_method_1_code 23 = .ok (.putfield 19, 3) := by decide +kernel
theorem d_X0_init_26 : decode prog_1_method_1_code 26 = .ok (.aload_n 0, 1) := by decide +kernel
theorem d_X0_init_27 : decode prog_1_method_1_code 27 = .ok (.new 23, 3) := by decide +kernel
theorem d_X0_init_30 : decode prog_1_method_1_code 30 = .ok (.dup, 1) := by decide +kernel
theorem d_X0_init_31 : decode prog_1_method_1_code 31 = .ok (.aload_n 0, 1) := by decide +kernel
theorem d_X0_init_32 : decode prog_1_method_1_code 32 = .ok (.getfield 12, 3) := by decide +kernel
theorem d_X0_init_35 : decode prog_1_method_1_code 35 = .ok (.aload_n 0, 1) := by decide +kernel
theorem d_X0_init_36 : decode prog_1_method_1_code 36 = .ok (.getfield 19, 3) := by decide +kernel
theorem d_X0_init_39 : decode prog_1_method_1_code 39 = .ok (.invokespecial 25, 3) := by decide +kernel
theorem d_X0_init_42 : decode prog_1_method_1_code 42 = .ok (.putfield 28, 3) := by decide +kernel
theorem d_X0_init_45 : decode prog_1_method_1_code 45 = .ok (.aload_n 0, 1) := by decide +kernel
theorem d_X0_init_46 : decode prog_1_method_1_code 46 = .ok (.new 32, 3) := by decide +kernel
theorem d_X0_init_49 : decode prog_1_method_1_code 49 = .ok (.dup, 1) := by decide +kernel
theorem d_X0_init_50 : decode prog_1_method_1_code 50 = .ok (.aload_n 0, 1) := by decide +kernel
theorem d_X0_init_51 : decode prog_1_method_1_code 51 = .ok (.getfield 12, 3) := by decide +kernel
theorem d_X0_init_54 : decode prog_1_method_1_code 54 = .ok (.aload_n 0, 1) := by decide +kernel
theorem d_X0_init_55 : decode prog_1_method_1_code 55 = .ok (.getfield 19, 3) := by decide +kernel
theorem d_X0_init_58 : decode prog_1_method_1_code 58 = .ok (.aload_n 0, 1) := by decide +kernel
theorem d_X0_init_59 : decode prog_1_method_1_code 59 = .ok (.getfield 28, 3) := by decide +kernel
theorem d_X0_init_62 : decode prog_1_method_1_code 62 = .ok (.invokespecial 34, 3) := by decide +kernel
theorem d_X0_init_65 : decode prog_1_method_1_code 65 = .ok (.putfield 37, 3) := by decide +kernel
theorem d_X0_init_68 : decode prog_1_method_1_code 68 = .ok (.aload_n 0, 1) := by decide +kernel
theorem d_X0_init_69 : decode prog_1_method_1_code 69 = .ok (.new 41, 3) := by decide +kernel
theorem d_X0_init_72 : decode prog_1_method_1_code 72 = .ok (.dup, 1) := by decide +kernel
theorem d_X0_init_73 : decode prog_1_method_1_code 73 = .ok (.invokespecial 43, 3) := by decide +kernel
theorem d_X0_init_76 : decode prog_1_method_1_code 76 = .ok (.putfield 44, 3) := by decide +kernel
theorem d_X0_init_79 : decode prog_1_method_1_code 79 = .ok (.aload_n 0, 1) := by decide +kernel
theorem d_X0_init_80 : decode prog_1_method_1_code 80 = .ok (.new 48, 3) := by decide +kernel
theorem d_X0_init_83 : decode prog_1_method_1_code 83 = .ok (.dup, 1) := by decide +kernel
theorem d_X0_init_84 : decode prog_1_method_1_code 84 = .ok (.aload_n 0, 1) := by decide +kernel
theorem d_X0_init_85 : decode prog_1_method_1_code 85 = .ok (.getfield 19, 3) := by decide +kernel
theorem d_X0_init_88 : decode prog_1_method_1_code 88 = .ok (.aload_n 0, 1) := by decide +kernel
theorem d_X0_init_89 : decode prog_1_method_1_code 89 = .ok (.getfield 28, 3) := by decide +kernel
theorem d_X0_init_92 : decode prog_1_method_1_code 92 = .ok (.aload_n 0, 1) := by decide +kernel
theorem d_X0_init_93 : decode prog_1_method_1_code 93 = .ok (.getfield 37, 3) := by decide +kernel
theorem d_X0_init_96 : decode prog_1_method_1_code 96 = .ok (.aload_n 0, 1) := by decide +kernel
theorem d_X0_init_97 : decode prog_1_method_1_code 97 = .ok (.getfield 44, 3) := by decide +kernel
theorem d_X0_init_100 : decode prog_1_method_1_code 100 = .ok (.invokespecial 50, 3) := by decide +kernel
theorem d_X0_init_103 : decode prog_1_method_1_code 103 = .ok (.putfield 53, 3) := by decide +kernel
theorem d_X0_init_106 : decode prog_1_method_1_code 106 = .ok (.return_, 1) := by decide +kernel
abbrev y_X1_init : MethodName := ⟨"VirtualRewrite$Catalog", "<init>", "()V"⟩
theorem d_X1_init_0 : decode prog_3_method_1_code 0 = .ok (.aload_n 0, 1) := by decide +kernel
theorem d_X1_init_1 : decode prog_3_method_1_code 1 = .ok (.invokespecial 3, 3) := by decide +kernel
theorem d_X1_init_4 : decode prog_3_method_1_code 4 = .ok (.aload_n 0, 1) := by decide +kernel
theorem d_X1_init_5 : decode prog_3_method_1_code 5 = .ok (.iconst 4, 1) := by decide +kernel
theorem d_X1_init_6 : decode prog_3_method_1_code 6 = .ok (.anewarray 9, 3) := by decide +kernel
theorem d_X1_init_9 : decode prog_3_method_1_code 9 = .ok (.putfield 11, 3) := by decide +kernel
theorem d_X1_init_12 : decode prog_3_method_1_code 12 = .ok (.aload_n 0, 1) := by decide +kernel
theorem d_X1_init_13 : decode prog_3_method_1_code 13 = .ok (.bipush 12, 2) := by decide +kernel
theorem d_X1_init_15 : decode prog_3_method_1_code 15 = .ok (.anewarray 17, 3) := by decide +kernel
theorem d_X1_init_18 : decode prog_3_method_1_code 18 = .ok (.putfield 19, 3) := by decide +kernel
theorem d_X1_init_21 : decode prog_3_method_1_code 21 = .ok (.aload_n 0, 1) := by decide +kernel
theorem d_X1_init_22 : decode prog_3_method_1_code 22 = .ok (.sipush 240, 3) := by decide +kernel
theorem d_X1_init_25 : decode prog_3_method_1_code 25 = .ok (.newarray .long, 2) := by decide +kernel
theorem d_X1_init_27 : decode prog_3_method_1_code 27 = .ok (.putfield 23, 3) := by decide +kernel
theorem d_X1_init_30 : decode prog_3_method_1_code 30 = .ok (.aload_n 0, 1) := by decide +kernel
theorem d_X1_init_31 : decode prog_3_method_1_code 31 = .ok (.iconst 0, 1) := by decide +kernel
theorem d_X1_init_32 : decode prog_3_method_1_code 32 = .ok (.putfield 27, 3) := by decide +kernel
theorem d_X1_init_35 : decode prog_3_method_1_code 35 = .ok (.aload_n 0, 1) := by decide +kernel
theorem d_X1_init_36 : decode prog_3_method_1_code 36 = .ok (.iconst 0, 1) := by decide +kernel
theorem d_X1_init_37 : decode prog_3_method_1_code 37 = .ok (.putfield 31, 3) := by decide +kernel
theorem d_X1_init_40 : decode prog_3_method_1_code 40 = .ok (.iconst 0, 1) := by decide +kernel
theorem d_X1_init_41 : decode prog_3_method_1_code 41 = .ok (.istore_n 1, 1) := by decide +kernel
theorem d_X1_init_42 : decode prog_3_method_1_code 42 = .ok (.iload_n 1, 1) := by decide +kernel
theorem d_X1_init_43 : decode prog_3_method_1_code 43 = .ok (.iconst 4, 1) := by decide +kernel
theorem d_X1_init_44 : decode prog_3_method_1_code 44 = .ok (.if_icmp .ge 22, 3) := by decide +kernel
theorem d_X1_init_47 : decode prog_3_method_1_code 47 = .ok (.aload_n 0, 1) := by decide +kernel
theorem d_X1_init_48 : decode prog_3_method_1_code 48 = .ok (.getfield 11, 3) := by decide +kernel
theorem d_X1_init_51 : decode prog_3_method_1_code 51 = .ok (.iload_n 1, 1) := by decide +kernel
theorem d_X1_init_52 : decode prog_3_method_1_code 52 = .ok (.new 9, 3) := by decide +kernel
theorem d_X1_init_55 : decode prog_3_method_1_code 55 = .ok (.dup, 1) := by decide +kernel
theorem d_X1_init_56 : decode prog_3_method_1_code 56 = .ok (.invokespecial 34, 3) := by decide +kernel
theorem d_X1_init_59 : decode prog_3_method_1_code 59 = .ok (.aastore, 1) := by decide +kernel
theorem d_X1_init_60 : decode prog_3_method_1_code 60 = .ok (.iinc 1 1, 3) := by decide +kernel
theorem d_X1_init_63 : decode prog_3_method_1_code 63 = .ok (.goto (-21), 3) := by decide +kernel
theorem d_X1_init_66 : decode prog_3_method_1_code 66 = .ok (.iconst 0, 1) := by decide +kernel
theorem d_X1_init_67 : decode prog_3_method_1_code 67 = .ok (.istore_n 1, 1) := by decide +kernel
theorem d_X1_init_68 : decode prog_3_method_1_code 68 = .ok (.iload_n 1, 1) := by decide +kernel
theorem d_X1_init_69 : decode prog_3_method_1_code 69 = .ok (.bipush 12, 2) := by decide +kernel
theorem d_X1_init_71 : decode prog_3_method_1_code 71 = .ok (.if_icmp .ge 22, 3) := by decide +kernel
theorem d_X1_init_74 : decode prog_3_method_1_code 74 = .ok (.aload_n 0, 1) := by decide +kernel
theorem d_X1_init_75 : decode prog_3_method_1_code 75 = .ok (.getfield 19, 3) := by decide +kernel
theorem d_X1_init_78 : decode prog_3_method_1_code 78 = .ok (.iload_n 1, 1) := by decide +kernel
theorem d_X1_init_79 : decode prog_3_method_1_code 79 = .ok (.new 17, 3) := by decide +kernel
theorem d_X1_init_82 : decode prog_3_method_1_code 82 = .ok (.dup, 1) := by decide +kernel
theorem d_X1_init_83 : decode prog_3_method_1_code 83 = .ok (.invokespecial 35, 3) := by decide +kernel
theorem d_X1_init_86 : decode prog_3_method_1_code 86 = .ok (.aastore, 1) := by decide +kernel
theorem d_X1_init_87 : decode prog_3_method_1_code 87 = .ok (.iinc 1 1, 3) := by decide +kernel
theorem d_X1_init_90 : decode prog_3_method_1_code 90 = .ok (.goto (-22), 3) := by decide +kernel
theorem d_X1_init_93 : decode prog_3_method_1_code 93 = .ok (.return_, 1) := by decide +kernel
abbrev y_X2_init : MethodName := ⟨"VirtualRewrite$Table", "<init>", "()V"⟩
theorem d_X2_init_0 : decode prog_9_method_1_code 0 = .ok (.aload_n 0, 1) := by decide +kernel
theorem d_X2_init_1 : decode prog_9_method_1_code 1 = .ok (.invokespecial 3, 3) := by decide +kernel
theorem d_X2_init_4 : decode prog_9_method_1_code 4 = .ok (.aload_n 0, 1) := by decide +kernel
theorem d_X2_init_5 : decode prog_9_method_1_code 5 = .ok (.bipush 60, 2) := by decide +kernel
theorem d_X2_init_7 : decode prog_9_method_1_code 7 = .ok (.newarray .int, 2) := by decide +kernel
theorem d_X2_init_9 : decode prog_9_method_1_code 9 = .ok (.putfield 9, 3) := by decide +kernel
theorem d_X2_init_12 : decode prog_9_method_1_code 12 = .ok (.aload_n 0, 1) := by decide +kernel
theorem d_X2_init_13 : decode prog_9_method_1_code 13 = .ok (.iconst 3, 1) := by decide +kernel
theorem d_X2_init_14 : decode prog_9_method_1_code 14 = .ok (.newarray .boolean, 2) := by decide +kernel
theorem d_X2_init_16 : decode prog_9_method_1_code 16 = .ok (.putfield 15, 3) := by decide +kernel
theorem d_X2_init_19 : decode prog_9_method_1_code 19 = .ok (.aload_n 0, 1) := by decide +kernel
theorem d_X2_init_20 : decode prog_9_method_1_code 20 = .ok (.iconst 0, 1) := by decide +kernel
theorem d_X2_init_21 : decode prog_9_method_1_code 21 = .ok (.putfield 19, 3) := by decide +kernel
theorem d_X2_init_24 : decode prog_9_method_1_code 24 = .ok (.return_, 1) := by decide +kernel
abbrev y_X3_init : MethodName := ⟨"VirtualRewrite$Mapping", "<init>", "()V"⟩
theorem d_X3_init_0 : decode prog_5_method_1_code 0 = .ok (.aload_n 0, 1) := by decide +kernel
theorem d_X3_init_1 : decode prog_5_method_1_code 1 = .ok (.invokespecial 3, 3) := by decide +kernel
theorem d_X3_init_4 : decode prog_5_method_1_code 4 = .ok (.aload_n 0, 1) := by decide +kernel
theorem d_X3_init_5 : decode prog_5_method_1_code 5 = .ok (.iconst 2, 1) := by decide +kernel
theorem d_X3_init_6 : decode prog_5_method_1_code 6 = .ok (.newarray .int, 2) := by decide +kernel
theorem d_X3_init_8 : decode prog_5_method_1_code 8 = .ok (.putfield 9, 3) := by decide +kernel
theorem d_X3_init_11 : decode prog_5_method_1_code 11 = .ok (.aload_n 0, 1) := by decide +kernel
theorem d_X3_init_12 : decode prog_5_method_1_code 12 = .ok (.iconst 2, 1) := by decide +kernel
theorem d_X3_init_13 : decode prog_5_method_1_code 13 = .ok (.newarray .int, 2) := by decide +kernel
theorem d_X3_init_15 : decode prog_5_method_1_code 15 = .ok (.putfield 15, 3) := by decide +kernel
theorem d_X3_init_18 : decode prog_5_method_1_code 18 = .ok (.aload_n 0, 1) := by decide +kernel
theorem d_X3_init_19 : decode prog_5_method_1_code 19 = .ok (.iconst 0, 1) := by decide +kernel
theorem d_X3_init_20 : decode prog_5_method_1_code 20 = .ok (.putfield 18, 3) := by decide +kernel
theorem d_X3_init_23 : decode prog_5_method_1_code 23 = .ok (.aload_n 0, 1) := by decide +kernel
theorem d_X3_init_24 : decode prog_5_method_1_code 24 = .ok (.iconst 0, 1) := by decide +kernel
theorem d_X3_init_25 : decode prog_5_method_1_code 25 = .ok (.putfield 22, 3) := by decide +kernel
theorem d_X3_init_28 : decode prog_5_method_1_code 28 = .ok (.return_, 1) := by decide +kernel
abbrev y_X4_init : MethodName := ⟨"VirtualRewrite$Question", "<init>", "()V"⟩
theorem d_X4_init_0 : decode prog_6_method_1_code 0 = .ok (.aload_n 0, 1) := by decide +kernel
theorem d_X4_init_1 : decode prog_6_method_1_code 1 = .ok (.invokespecial 3, 3) := by decide +kernel
theorem d_X4_init_4 : decode prog_6_method_1_code 4 = .ok (.aload_n 0, 1) := by decide +kernel
theorem d_X4_init_5 : decode prog_6_method_1_code 5 = .ok (.iconst 4, 1) := by decide +kernel
theorem d_X4_init_6 : decode prog_6_method_1_code 6 = .ok (.newarray .int, 2) := by decide +kernel
theorem d_X4_init_8 : decode prog_6_method_1_code 8 = .ok (.putfield 9, 3) := by decide +kernel
theorem d_X4_init_11 : decode prog_6_method_1_code 11 = .ok (.aload_n 0, 1) := by decide +kernel
theorem d_X4_init_12 : decode prog_6_method_1_code 12 = .ok (.bipush 8, 2) := by decide +kernel
theorem d_X4_init_14 : decode prog_6_method_1_code 14 = .ok (.newarray .int, 2) := by decide +kernel
theorem d_X4_init_16 : decode prog_6_method_1_code 16 = .ok (.putfield 15, 3) := by decide +kernel
theorem d_X4_init_19 : decode prog_6_method_1_code 19 = .ok (.aload_n 0, 1) := by decide +kernel
theorem d_X4_init_20 : decode prog_6_method_1_code 20 = .ok (.bipush 6, 2) := by decide +kernel
theorem d_X4_init_22 : decode prog_6_method_1_code 22 = .ok (.newarray .int, 2) := by decide +kernel
theorem d_X4_init_24 : decode prog_6_method_1_code 24 = .ok (.putfield 18, 3) := by decide +kernel
theorem d_X4_init_27 : decode prog_6_method_1_code 27 = .ok (.aload_n 0, 1) := by decide +kernel
theorem d_X4_init_28 : decode prog_6_method_1_code 28 = .ok (.bipush 6, 2) := by decide +kernel
theorem d_X4_init_30 : decode prog_6_method_1_code 30 = .ok (.newarray .int, 2) := by decide +kernel
theorem d_X4_init_32 : decode prog_6_method_1_code 32 = .ok (.putfield 21, 3) := by decide +kernel
theorem d_X4_init_35 : decode prog_6_method_1_code 35 = .ok (.aload_n 0, 1) := by decide +kernel
theorem d_X4_init_36 : decode prog_6_method_1_code 36 = .ok (.iconst 0, 1) := by decide +kernel
theorem d_X4_init_37 : decode prog_6_method_1_code 37 = .ok (.putfield 24, 3) := by decide +kernel
theorem d_X4_init_40 : decode prog_6_method_1_code 40 = .ok (.aload_n 0, 1) := by decide +kernel
theorem d_X4_init_41 : decode prog_6_method_1_code 41 = .ok (.iconst 0, 1) := by decide +kernel
theorem d_X4_init_42 : decode prog_6_method_1_code 42 = .ok (.putfield 28, 3) := by decide +kernel
theorem d_X4_init_45 : decode prog_6_method_1_code 45 = .ok (.iconst 0, 1) := by decide +kernel
theorem d_X4_init_46 : decode prog_6_method_1_code 46 = .ok (.istore_n 1, 1) := by decide +kernel
theorem d_X4_init_47 : decode prog_6_method_1_code 47 = .ok (.iload_n 1, 1) := by decide +kernel
theorem d_X4_init_48 : decode prog_6_method_1_code 48 = .ok (.bipush 6, 2) := by decide +kernel
theorem d_X4_init_50 : decode prog_6_method_1_code 50 = .ok (.if_icmp .ge 18, 3) := by decide +kernel
theorem d_X4_init_53 : decode prog_6_method_1_code 53 = .ok (.aload_n 0, 1) := by decide +kernel
theorem d_X4_init_54 : decode prog_6_method_1_code 54 = .ok (.getfield 21, 3) := by decide +kernel
theorem d_X4_init_57 : decode prog_6_method_1_code 57 = .ok (.iload_n 1, 1) := by decide +kernel
theorem d_X4_init_58 : decode prog_6_method_1_code 58 = .ok (.sipush 9999, 3) := by decide +kernel
theorem d_X4_init_61 : decode prog_6_method_1_code 61 = .ok (.iastore, 1) := by decide +kernel
theorem d_X4_init_62 : decode prog_6_method_1_code 62 = .ok (.iinc 1 1, 3) := by decide +kernel
theorem d_X4_init_65 : decode prog_6_method_1_code 65 = .ok (.goto (-18), 3) := by decide +kernel
theorem d_X4_init_68 : decode prog_6_method_1_code 68 = .ok (.return_, 1) := by decide +kernel
abbrev y_X5_init : MethodName := ⟨"VirtualRewrite$Rewriting", "<init>", "(LVirtualRewrite$Catalog;LVirtualRewrite$Question;)V"⟩
theorem d_X5_init_0 : decode prog_7_method_1_code 0 = .ok (.aload_n 0, 1) := by decide +kernel
theorem d_X5_init_1 : decode prog_7_method_1_code 1 = .ok (.invokespecial 3, 3) := by decide +kernel
theorem d_X5_init_4 : decode prog_7_method_1_code 4 = .ok (.aload_n 0, 1) := by decide +kernel
theorem d_X5_init_5 : decode prog_7_method_1_code 5 = .ok (.sipush 600, 3) := by decide +kernel
theorem d_X5_init_8 : decode prog_7_method_1_code 8 = .ok (.newarray .int, 2) := by decide +kernel
theorem d_X5_init_10 : decode prog_7_method_1_code 10 = .ok (.putfield 9, 3) := by decide +kernel
theorem d_X5_init_13 : decode prog_7_method_1_code 13 = .ok (.aload_n 0, 1) := by decide +kernel
theorem d_X5_init_14 : decode prog_7_method_1_code 14 = .ok (.iconst 4, 1) := by decide +kernel
theorem d_X5_init_15 : decode prog_7_method_1_code 15 = .ok (.newarray .int, 2) := by decide +kernel
theorem d_X5_init_17 : decode prog_7_method_1_code 17 = .ok (.putfield 15, 3) := by decide +kernel
theorem d_X5_init_20 : decode prog_7_method_1_code 20 = .ok (.aload_n 0, 1) := by decide +kernel
theorem d_X5_init_21 : decode prog_7_method_1_code 21 = .ok (.bipush 6, 2) := by decide +kernel
theorem d_X5_init_23 : decode prog_7_method_1_code 23 = .ok (.newarray .int, 2) := by decide +kernel
theorem d_X5_init_25 : decode prog_7_method_1_code 25 = .ok (.putfield 18, 3) := by decide +kernel
theorem d_X5_init_28 : decode prog_7_method_1_code 28 = .ok (.aload_n 0, 1) := by decide +kernel
theorem d_X5_init_29 : decode prog_7_method_1_code 29 = .ok (.iconst 0, 1) := by decide +kernel
theorem d_X5_init_30 : decode prog_7_method_1_code 30 = .ok (.putfield 21, 3) := by decide +kernel
theorem d_X5_init_33 : decode prog_7_method_1_code 33 = .ok (.aload_n 0, 1) := by decide +kernel
theorem d_X5_init_34 : decode prog_7_method_1_code 34 = .ok (.iconst 0, 1) := by decide +kernel
theorem d_X5_init_35 : decode prog_7_method_1_code 35 = .ok (.putfield 25, 3) := by decide +kernel
theorem d_X5_init_38 : decode prog_7_method_1_code 38 = .ok (.aload_n 0, 1) := by decide +kernel
theorem d_X5_init_39 : decode prog_7_method_1_code 39 = .ok (.iconst 0, 1) := by decide +kernel
theorem d_X5_init_40 : decode prog_7_method_1_code 40 = .ok (.putfield 29, 3) := by decide +kernel
theorem d_X5_init_43 : decode prog_7_method_1_code 43 = .ok (.aload_n 0, 1) := by decide +kernel
theorem d_X5_init_44 : decode prog_7_method_1_code 44 = .ok (.aload_n 1, 1) := by decide +kernel
theorem d_X5_init_45 : decode prog_7_method_1_code 45 = .ok (.putfield 32, 3) := by decide +kernel
theorem d_X5_init_48 : decode prog_7_method_1_code 48 = .ok (.aload_n 0, 1) := by decide +kernel
theorem d_X5_init_49 : decode prog_7_method_1_code 49 = .ok (.aload_n 2, 1) := by decide +kernel
theorem d_X5_init_50 : decode prog_7_method_1_code 50 = .ok (.putfield 36, 3) := by decide +kernel
theorem d_X5_init_53 : decode prog_7_method_1_code 53 = .ok (.return_, 1) := by decide +kernel
abbrev y_X6_init : MethodName := ⟨"VirtualRewrite$Slots", "<init>", "(LVirtualRewrite$Catalog;LVirtualRewrite$Question;LVirtualRewrite$Rewriting;)V"⟩
theorem d_X6_init_0 : decode prog_8_method_1_code 0 = .ok (.aload_n 0, 1) := by decide +kernel
theorem d_X6_init_1 : decode prog_8_method_1_code 1 = .ok (.invokespecial 3, 3) := by decide +kernel
theorem d_X6_init_4 : decode prog_8_method_1_code 4 = .ok (.aload_n 0, 1) := by decide +kernel
theorem d_X6_init_5 : decode prog_8_method_1_code 5 = .ok (.iconst 4, 1) := by decide +kernel
theorem d_X6_init_6 : decode prog_8_method_1_code 6 = .ok (.newarray .int, 2) := by decide +kernel
theorem d_X6_init_8 : decode prog_8_method_1_code 8 = .ok (.putfield 9, 3) := by decide +kernel
theorem d_X6_init_11 : decode prog_8_method_1_code 11 = .ok (.aload_n 0, 1) := by decide +kernel
theorem d_X6_init_12 : decode prog_8_method_1_code 12 = .ok (.iconst 0, 1) := by decide +kernel
theorem d_X6_init_13 : decode prog_8_method_1_code 13 = .ok (.putfield 15, 3) := by decide +kernel
theorem d_X6_init_16 : decode prog_8_method_1_code 16 = .ok (.aload_n 0, 1) := by decide +kernel
theorem d_X6_init_17 : decode prog_8_method_1_code 17 = .ok (.aload_n 1, 1) := by decide +kernel
theorem d_X6_init_18 : decode prog_8_method_1_code 18 = .ok (.putfield 19, 3) := by decide +kernel
theorem d_X6_init_21 : decode prog_8_method_1_code 21 = .ok (.aload_n 0, 1) := by decide +kernel
theorem d_X6_init_22 : decode prog_8_method_1_code 22 = .ok (.aload_n 2, 1) := by decide +kernel
theorem d_X6_init_23 : decode prog_8_method_1_code 23 = .ok (.putfield 23, 3) := by decide +kernel
theorem d_X6_init_26 : decode prog_8_method_1_code 26 = .ok (.aload_n 0, 1) := by decide +kernel
theorem d_X6_init_27 : decode prog_8_method_1_code 27 = .ok (.aload_n 3, 1) := by decide +kernel
theorem d_X6_init_28 : decode prog_8_method_1_code 28 = .ok (.putfield 27, 3) := by decide +kernel
theorem d_X6_init_31 : decode prog_8_method_1_code 31 = .ok (.return_, 1) := by decide +kernel
abbrev y_X7_init : MethodName := ⟨"VirtualRewrite$Answers", "<init>", "()V"⟩
theorem d_X7_init_0 : decode prog_2_method_1_code 0 = .ok (.aload_n 0, 1) := by decide +kernel
theorem d_X7_init_1 : decode prog_2_method_1_code 1 = .ok (.invokespecial 3, 3) := by decide +kernel
theorem d_X7_init_4 : decode prog_2_method_1_code 4 = .ok (.aload_n 0, 1) := by decide +kernel
theorem d_X7_init_5 : decode prog_2_method_1_code 5 = .ok (.sipush 1800, 3) := by decide +kernel
theorem d_X7_init_8 : decode prog_2_method_1_code 8 = .ok (.newarray .int, 2) := by decide +kernel
theorem d_X7_init_10 : decode prog_2_method_1_code 10 = .ok (.putfield 9, 3) := by decide +kernel
theorem d_X7_init_13 : decode prog_2_method_1_code 13 = .ok (.aload_n 0, 1) := by decide +kernel
theorem d_X7_init_14 : decode prog_2_method_1_code 14 = .ok (.sipush 300, 3) := by decide +kernel
theorem d_X7_init_17 : decode prog_2_method_1_code 17 = .ok (.newarray .int, 2) := by decide +kernel
theorem d_X7_init_19 : decode prog_2_method_1_code 19 = .ok (.putfield 15, 3) := by decide +kernel
theorem d_X7_init_22 : decode prog_2_method_1_code 22 = .ok (.aload_n 0, 1) := by decide +kernel
theorem d_X7_init_23 : decode prog_2_method_1_code 23 = .ok (.sipush 300, 3) := by decide +kernel
theorem d_X7_init_26 : decode prog_2_method_1_code 26 = .ok (.newarray .int, 2) := by decide +kernel
theorem d_X7_init_28 : decode prog_2_method_1_code 28 = .ok (.putfield 18, 3) := by decide +kernel
theorem d_X7_init_31 : decode prog_2_method_1_code 31 = .ok (.aload_n 0, 1) := by decide +kernel
theorem d_X7_init_32 : decode prog_2_method_1_code 32 = .ok (.sipush 300, 3) := by decide +kernel
theorem d_X7_init_35 : decode prog_2_method_1_code 35 = .ok (.newarray .int, 2) := by decide +kernel
theorem d_X7_init_37 : decode prog_2_method_1_code 37 = .ok (.putfield 21, 3) := by decide +kernel
theorem d_X7_init_40 : decode prog_2_method_1_code 40 = .ok (.aload_n 0, 1) := by decide +kernel
theorem d_X7_init_41 : decode prog_2_method_1_code 41 = .ok (.iconst 0, 1) := by decide +kernel
theorem d_X7_init_42 : decode prog_2_method_1_code 42 = .ok (.putfield 24, 3) := by decide +kernel
theorem d_X7_init_45 : decode prog_2_method_1_code 45 = .ok (.aload_n 0, 1) := by decide +kernel
theorem d_X7_init_46 : decode prog_2_method_1_code 46 = .ok (.iconst 0, 1) := by decide +kernel
theorem d_X7_init_47 : decode prog_2_method_1_code 47 = .ok (.putfield 28, 3) := by decide +kernel
theorem d_X7_init_50 : decode prog_2_method_1_code 50 = .ok (.aload_n 0, 1) := by decide +kernel
theorem d_X7_init_51 : decode prog_2_method_1_code 51 = .ok (.iconst 0, 1) := by decide +kernel
theorem d_X7_init_52 : decode prog_2_method_1_code 52 = .ok (.putfield 31, 3) := by decide +kernel
theorem d_X7_init_55 : decode prog_2_method_1_code 55 = .ok (.return_, 1) := by decide +kernel
abbrev y_X8_init : MethodName := ⟨"VirtualRewrite$Finder", "<init>", "(LVirtualRewrite$Question;LVirtualRewrite$Rewriting;LVirtualRewrite$Slots;LVirtualRewrite$Answers;)V"⟩
theorem d_X8_init_0 : decode prog_4_method_1_code 0 = .ok (.aload_n 0, 1) := by decide +kernel
theorem d_X8_init_1 : decode prog_4_method_1_code 1 = .ok (.invokespecial 3, 3) := by decide +kernel
theorem d_X8_init_4 : decode prog_4_method_1_code 4 = .ok (.aload_n 0, 1) := by decide +kernel
theorem d_X8_init_5 : decode prog_4_method_1_code 5 = .ok (.iconst 4, 1) := by decide +kernel
theorem d_X8_init_6 : decode prog_4_method_1_code 6 = .ok (.newarray .int, 2) := by decide +kernel
theorem d_X8_init_8 : decode prog_4_method_1_code 8 = .ok (.putfield 9, 3) := by decide +kernel
theorem d_X8_init_11 : decode prog_4_method_1_code 11 = .ok (.aload_n 0, 1) := by decide +kernel
theorem d_X8_init_12 : decode prog_4_method_1_code 12 = .ok (.iconst 4, 1) := by decide +kernel
theorem d_X8_init_13 : decode prog_4_method_1_code 13 = .ok (.newarray .int, 2) := by decide +kernel
theorem d_X8_init_15 : decode prog_4_method_1_code 15 = .ok (.putfield 15, 3) := by decide +kernel
theorem d_X8_init_18 : decode prog_4_method_1_code 18 = .ok (.aload_n 0, 1) := by decide +kernel
theorem d_X8_init_19 : decode prog_4_method_1_code 19 = .ok (.bipush 24, 2) := by decide +kernel
theorem d_X8_init_21 : decode prog_4_method_1_code 21 = .ok (.newarray .int, 2) := by decide +kernel
theorem d_X8_init_23 : decode prog_4_method_1_code 23 = .ok (.putfield 18, 3) := by decide +kernel
theorem d_X8_init_26 : decode prog_4_method_1_code 26 = .ok (.aload_n 0, 1) := by decide +kernel
theorem d_X8_init_27 : decode prog_4_method_1_code 27 = .ok (.bipush 80, 2) := by decide +kernel
theorem d_X8_init_29 : decode prog_4_method_1_code 29 = .ok (.newarray .int, 2) := by decide +kernel
theorem d_X8_init_31 : decode prog_4_method_1_code 31 = .ok (.putfield 21, 3) := by decide +kernel
theorem d_X8_init_34 : decode prog_4_method_1_code 34 = .ok (.aload_n 0, 1) := by decide +kernel
theorem d_X8_init_35 : decode prog_4_method_1_code 35 = .ok (.iconst 4, 1) := by decide +kernel
theorem d_X8_init_36 : decode prog_4_method_1_code 36 = .ok (.newarray .int, 2) := by decide +kernel
theorem d_X8_init_38 : decode prog_4_method_1_code 38 = .ok (.putfield 24, 3) := by decide +kernel
theorem d_X8_init_41 : decode prog_4_method_1_code 41 = .ok (.aload_n 0, 1) := by decide +kernel
theorem d_X8_init_42 : decode prog_4_method_1_code 42 = .ok (.iconst 4, 1) := by decide +kernel
theorem d_X8_init_43 : decode prog_4_method_1_code 43 = .ok (.newarray .int, 2) := by decide +kernel
theorem d_X8_init_45 : decode prog_4_method_1_code 45 = .ok (.putfield 27, 3) := by decide +kernel
theorem d_X8_init_48 : decode prog_4_method_1_code 48 = .ok (.aload_n 0, 1) := by decide +kernel
theorem d_X8_init_49 : decode prog_4_method_1_code 49 = .ok (.bipush 6, 2) := by decide +kernel
theorem d_X8_init_51 : decode prog_4_method_1_code 51 = .ok (.newarray .int, 2) := by decide +kernel
theorem d_X8_init_53 : decode prog_4_method_1_code 53 = .ok (.putfield 30, 3) := by decide +kernel
theorem d_X8_init_56 : decode prog_4_method_1_code 56 = .ok (.aload_n 0, 1) := by decide +kernel
theorem d_X8_init_57 : decode prog_4_method_1_code 57 = .ok (.bipush 6, 2) := by decide +kernel
theorem d_X8_init_59 : decode prog_4_method_1_code 59 = .ok (.newarray .int, 2) := by decide +kernel
theorem d_X8_init_61 : decode prog_4_method_1_code 61 = .ok (.putfield 33, 3) := by decide +kernel
theorem d_X8_init_64 : decode prog_4_method_1_code 64 = .ok (.aload_n 0, 1) := by decide +kernel
theorem d_X8_init_65 : decode prog_4_method_1_code 65 = .ok (.iconst 0, 1) := by decide +kernel
theorem d_X8_init_66 : decode prog_4_method_1_code 66 = .ok (.putfield 36, 3) := by decide +kernel
theorem d_X8_init_69 : decode prog_4_method_1_code 69 = .ok (.aload_n 0, 1) := by decide +kernel
theorem d_X8_init_70 : decode prog_4_method_1_code 70 = .ok (.aload_n 1, 1) := by decide +kernel
theorem d_X8_init_71 : decode prog_4_method_1_code 71 = .ok (.putfield 40, 3) := by decide +kernel
theorem d_X8_init_74 : decode prog_4_method_1_code 74 = .ok (.aload_n 0, 1) := by decide +kernel
theorem d_X8_init_75 : decode prog_4_method_1_code 75 = .ok (.aload_n 2, 1) := by decide +kernel
theorem d_X8_init_76 : decode prog_4_method_1_code 76 = .ok (.putfield 44, 3) := by decide +kernel
theorem d_X8_init_79 : decode prog_4_method_1_code 79 = .ok (.aload_n 0, 1) := by decide +kernel
theorem d_X8_init_80 : decode prog_4_method_1_code 80 = .ok (.aload_n 3, 1) := by decide +kernel
theorem d_X8_init_81 : decode prog_4_method_1_code 81 = .ok (.putfield 48, 3) := by decide +kernel
theorem d_X8_init_84 : decode prog_4_method_1_code 84 = .ok (.aload_n 0, 1) := by decide +kernel
theorem d_X8_init_85 : decode prog_4_method_1_code 85 = .ok (.aload 4, 2) := by decide +kernel
theorem d_X8_init_87 : decode prog_4_method_1_code 87 = .ok (.putfield 52, 3) := by decide +kernel
theorem d_X8_init_90 : decode prog_4_method_1_code 90 = .ok (.return_, 1) := by decide +kernel
abbrev y_X0_key : MethodName := ⟨"VirtualRewrite", "key", "(IIZ)I"⟩
theorem d_X0_key_0 : decode prog_1_method_2_code 0 = .ok (.iload_n 1, 1) := by decide +kernel
theorem d_X0_key_1 : decode prog_1_method_2_code 1 = .ok (.iconst 4, 1) := by decide +kernel
theorem d_X0_key_2 : decode prog_1_method_2_code 2 = .ok (.invokestatic 57, 3) := by decide +kernel
theorem d_X0_key_5 : decode prog_1_method_2_code 5 = .ok (.ifCond .eq 11, 3) := by decide +kernel
theorem d_X0_key_8 : decode prog_1_method_2_code 8 = .ok (.iload_n 2, 1) := by decide +kernel
theorem d_X0_key_9 : decode prog_1_method_2_code 9 = .ok (.iconst 3, 1) := by decide +kernel
theorem d_X0_key_10 : decode prog_1_method_2_code 10 = .ok (.invokestatic 57, 3) := by decide +kernel
theorem d_X0_key_13 : decode prog_1_method_2_code 13 = .ok (.ifCond .ne 5, 3) := by decide +kernel
theorem d_X0_key_16 : decode prog_1_method_2_code 16 = .ok (.iconst (-1), 1) := by decide +kernel
theorem d_X0_key_17 : decode prog_1_method_2_code 17 = .ok (.ireturn, 1) := by decide +kernel
theorem d_X0_key_18 : decode prog_1_method_2_code 18 = .ok (.aload_n 0, 1) := by decide +kernel
theorem d_X0_key_19 : decode prog_1_method_2_code 19 = .ok (.getfield 12, 3) := by decide +kernel
theorem d_X0_key_22 : decode prog_1_method_2_code 22 = .ok (.getfield 61, 3) := by decide +kernel
theorem d_X0_key_25 : decode prog_1_method_2_code 25 = .ok (.iload_n 1, 1) := by decide +kernel
theorem d_X0_key_26 : decode prog_1_method_2_code 26 = .ok (.aaload, 1) := by decide +kernel
theorem d_X0_key_27 : decode prog_1_method_2_code 27 = .ok (.astore 4, 2) := by decide +kernel
theorem d_X0_key_29 : decode prog_1_method_2_code 29 = .ok (.aload 4, 2) := by decide +kernel
theorem d_X0_key_31 : decode prog_1_method_2_code 31 = .ok (.getfield 65, 3) := by decide +kernel
theorem d_X0_key_34 : decode prog_1_method_2_code 34 = .ok (.iload_n 2, 1) := by decide +kernel
theorem d_X0_key_35 : decode prog_1_method_2_code 35 = .ok (.baload, 1) := by decide +kernel
theorem d_X0_key_36 : decode prog_1_method_2_code 36 = .ok (.iload_n 3, 1) := by decide +kernel
theorem d_X0_key_37 : decode prog_1_method_2_code 37 = .ok (.if_icmp .ne 5, 3) := by decide +kernel
theorem d_X0_key_40 : decode prog_1_method_2_code 40 = .ok (.iconst 0, 1) := by decide +kernel
theorem d_X0_key_41 : decode prog_1_method_2_code 41 = .ok (.ireturn, 1) := by decide +kernel
theorem d_X0_key_42 : decode prog_1_method_2_code 42 = .ok (.iload_n 3, 1) := by decide +kernel
theorem d_X0_key_43 : decode prog_1_method_2_code 43 = .ok (.ifCond .eq 15, 3) := by decide +kernel
theorem d_X0_key_46 : decode prog_1_method_2_code 46 = .ok (.aload 4, 2) := by decide +kernel
theorem d_X0_key_48 : decode prog_1_method_2_code 48 = .ok (.iload_n 2, 1) := by decide +kernel
theorem d_X0_key_49 : decode prog_1_method_2_code 49 = .ok (.invokevirtual 71, 3) := by decide +kernel
theorem d_X0_key_52 : decode prog_1_method_2_code 52 = .ok (.ifCond .eq 6, 3) := by decide +kernel
theorem d_X0_key_55 : decode prog_1_method_2_code 55 = .ok (.bipush (-4), 2) := by decide +kernel
theorem d_X0_key_57 : decode prog_1_method_2_code 57 = .ok (.ireturn, 1) := by decide +kernel
theorem d_X0_key_58 : decode prog_1_method_2_code 58 = .ok (.aload 4, 2) := by decide +kernel
theorem d_X0_key_60 : decode prog_1_method_2_code 60 = .ok (.getfield 65, 3) := by decide +kernel
theorem d_X0_key_63 : decode prog_1_method_2_code 63 = .ok (.iload_n 2, 1) := by decide +kernel
theorem d_X0_key_64 : decode prog_1_method_2_code 64 = .ok (.iload_n 3, 1) := by decide +kernel
theorem d_X0_key_65 : decode prog_1_method_2_code 65 = .ok (.bastore, 1) := by decide +kernel
theorem d_X0_key_66 : decode prog_1_method_2_code 66 = .ok (.iconst 1, 1) := by decide +kernel
theorem d_X0_key_67 : decode prog_1_method_2_code 67 = .ok (.ireturn, 1) := by decide +kernel
abbrev y_X0_isBelow : MethodName := ⟨"VirtualRewrite", "isBelow", "(II)Z"⟩
theorem d_X0_isBelow_0 : decode prog_1_method_18_code 0 = .ok (.iload_n 0, 1) := by decide +kernel
theorem d_X0_isBelow_1 : decode prog_1_method_18_code 1 = .ok (.ifCond .lt 12, 3) := by decide +kernel
theorem d_X0_isBelow_4 : decode prog_1_method_18_code 4 = .ok (.iload_n 0, 1) := by decide +kernel
theorem d_X0_isBelow_5 : decode prog_1_method_18_code 5 = .ok (.iload_n 1, 1) := by decide +kernel
theorem d_X0_isBelow_6 : decode prog_1_method_18_code 6 = .ok (.if_icmp .ge 7, 3) := by decide +kernel
theorem d_X0_isBelow_9 : decode prog_1_method_18_code 9 = .ok (.iconst 1, 1) := by decide +kernel
theorem d_X0_isBelow_10 : decode prog_1_method_18_code 10 = .ok (.goto 4, 3) := by decide +kernel
theorem d_X0_isBelow_13 : decode prog_1_method_18_code 13 = .ok (.iconst 0, 1) := by decide +kernel
theorem d_X0_isBelow_14 : decode prog_1_method_18_code 14 = .ok (.ireturn, 1) := by decide +kernel
abbrev y_X2_repeats : MethodName := ⟨"VirtualRewrite$Table", "repeats", "(I)Z"⟩
theorem d_X2_repeats_0 : decode prog_9_method_4_code 0 = .ok (.iconst 1, 1) := by decide +kernel
theorem d_X2_repeats_1 : decode prog_9_method_4_code 1 = .ok (.istore_n 2, 1) := by decide +kernel
theorem d_X2_repeats_2 : decode prog_9_method_4_code 2 = .ok (.iload_n 2, 1) := by decide +kernel
theorem d_X2_repeats_3 : decode prog_9_method_4_code 3 = .ok (.aload_n 0, 1) := by decide +kernel
theorem d_X2_repeats_4 : decode prog_9_method_4_code 4 = .ok (.getfield 19, 3) := by decide +kernel
theorem d_X2_repeats_7 : decode prog_9_method_4_code 7 = .ok (.if_icmp .ge 26, 3) := by decide +kernel
theorem d_X2_repeats_10 : decode prog_9_method_4_code 10 = .ok (.aload_n 0, 1) := by decide +kernel
theorem d_X2_repeats_11 : decode prog_9_method_4_code 11 = .ok (.iload_n 1, 1) := by decide +kernel
theorem d_X2_repeats_12 : decode prog_9_method_4_code 12 = .ok (.aload_n 0, 1) := by decide +kernel
theorem d_X2_repeats_13 : decode prog_9_method_4_code 13 = .ok (.iload_n 2, 1) := by decide +kernel
theorem d_X2_repeats_14 : decode prog_9_method_4_code 14 = .ok (.iload_n 1, 1) := by decide +kernel
theorem d_X2_repeats_15 : decode prog_9_method_4_code 15 = .ok (.invokevirtual 23, 3) := by decide +kernel
theorem d_X2_repeats_18 : decode prog_9_method_4_code 18 = .ok (.iload_n 2, 1) := by decide +kernel
theorem d_X2_repeats_19 : decode prog_9_method_4_code 19 = .ok (.invokevirtual 27, 3) := by decide +kernel
theorem d_X2_repeats_22 : decode prog_9_method_4_code 22 = .ok (.ifCond .eq 5, 3) := by decide +kernel
theorem d_X2_repeats_25 : decode prog_9_method_4_code 25 = .ok (.iconst 1, 1) := by decide +kernel
theorem d_X2_repeats_26 : decode prog_9_method_4_code 26 = .ok (.ireturn, 1) := by decide +kernel
theorem d_X2_repeats_27 : decode prog_9_method_4_code 27 = .ok (.iinc 2 1, 3) := by decide +kernel
theorem d_X2_repeats_30 : decode prog_9_method_4_code 30 = .ok (.goto (-28), 3) := by decide +kernel
theorem d_X2_repeats_33 : decode prog_9_method_4_code 33 = .ok (.iconst 0, 1) := by decide +kernel
theorem d_X2_repeats_34 : decode prog_9_method_4_code 34 = .ok (.ireturn, 1) := by decide +kernel
abbrev y_X2_cell : MethodName := ⟨"VirtualRewrite$Table", "cell", "(II)I"⟩
theorem d_X2_cell_0 : decode prog_9_method_2_code 0 = .ok (.aload_n 0, 1) := by decide +kernel
theorem d_X2_cell_1 : decode prog_9_method_2_code 1 = .ok (.getfield 9, 3) := by decide +kernel
theorem d_X2_cell_4 : decode prog_9_method_2_code 4 = .ok (.iload_n 1, 1) := by decide +kernel
theorem d_X2_cell_5 : decode prog_9_method_2_code 5 = .ok (.iconst 3, 1) := by decide +kernel
theorem d_X2_cell_6 : decode prog_9_method_2_code 6 = .ok (.imul, 1) := by decide +kernel
theorem d_X2_cell_7 : decode prog_9_method_2_code 7 = .ok (.iload_n 2, 1) := by decide +kernel
theorem d_X2_cell_8 : decode prog_9_method_2_code 8 = .ok (.iadd, 1) := by decide +kernel
theorem d_X2_cell_9 : decode prog_9_method_2_code 9 = .ok (.iaload, 1) := by decide +kernel
theorem d_X2_cell_10 : decode prog_9_method_2_code 10 = .ok (.ireturn, 1) := by decide +kernel
abbrev y_X2_holds : MethodName := ⟨"VirtualRewrite$Table", "holds", "(III)Z"⟩
theorem d_X2_holds_0 : decode prog_9_method_3_code 0 = .ok (.iconst 0, 1) := by decide +kernel
theorem d_X2_holds_1 : decode prog_9_method_3_code 1 = .ok (.istore 4, 2) := by decide +kernel
theorem d_X2_holds_3 : decode prog_9_method_3_code 3 = .ok (.iload 4, 2) := by decide +kernel
theorem d_X2_holds_5 : decode prog_9_method_3_code 5 = .ok (.iload_n 3, 1) := by decide +kernel
theorem d_X2_holds_6 : decode prog_9_method_3_code 6 = .ok (.if_icmp .ge 22, 3) := by decide +kernel
theorem d_X2_holds_9 : decode prog_9_method_3_code 9 = .ok (.aload_n 0, 1) := by decide +kernel
theorem d_X2_holds_10 : decode prog_9_method_3_code 10 = .ok (.iload 4, 2) := by decide +kernel
theorem d_X2_holds_12 : decode prog_9_method_3_code 12 = .ok (.iload_n 1, 1) := by decide +kernel
theorem d_X2_holds_13 : decode prog_9_method_3_code 13 = .ok (.invokevirtual 23, 3) := by decide +kernel
theorem d_X2_holds_16 : decode prog_9_method_3_code 16 = .ok (.iload_n 2, 1) := by decide +kernel
theorem d_X2_holds_17 : decode prog_9_method_3_code 17 = .ok (.if_icmp .ne 5, 3) := by decide +kernel
theorem d_X2_holds_20 : decode prog_9_method_3_code 20 = .ok (.iconst 1, 1) := by decide +kernel
theorem d_X2_holds_21 : decode prog_9_method_3_code 21 = .ok (.ireturn, 1) := by decide +kernel
theorem d_X2_holds_22 : decode prog_9_method_3_code 22 = .ok (.iinc 4 1, 3) := by decide +kernel
theorem d_X2_holds_25 : decode prog_9_method_3_code 25 = .ok (.goto (-22), 3) := by decide +kernel
theorem d_X2_holds_28 : decode prog_9_method_3_code 28 = .ok (.iconst 0, 1) := by decide +kernel
theorem d_X2_holds_29 : decode prog_9_method_3_code 29 = .ok (.ireturn, 1) := by decide +kernel
abbrev y_X0_row : MethodName := ⟨"VirtualRewrite", "row", "(IIII)I"⟩
theorem d_X0_row_0 : decode prog_1_method_3_code 0 = .ok (.iload_n 1, 1) := by decide +kernel
theorem d_X0_row_1 : decode prog_1_method_3_code 1 = .ok (.iconst 4, 1) := by decide +kernel
theorem d_X0_row_2 : decode prog_1_method_3_code 2 = .ok (.invokestatic 57, 3) := by decide +kernel
theorem d_X0_row_5 : decode prog_1_method_3_code 5 = .ok (.ifCond .eq 34, 3) := by decide +kernel
theorem d_X0_row_8 : decode prog_1_method_3_code 8 = .ok (.iload_n 2, 1) := by decide +kernel
theorem d_X0_row_9 : decode prog_1_method_3_code 9 = .ok (.sipush 10000, 3) := by decide +kernel
theorem d_X0_row_12 : decode prog_1_method_3_code 12 = .ok (.invokestatic 57, 3) := by decide +kernel
theorem d_X0_row_15 : decode prog_1_method_3_code 15 = .ok (.ifCond .eq 24, 3) := by decide +kernel
theorem d_X0_row_18 : decode prog_1_method_3_code 18 = .ok (.iload_n 3, 1) := by decide +kernel
theorem d_X0_row_19 : decode prog_1_method_3_code 19 = .ok (.sipush 10000, 3) := by decide +kernel
theorem d_X0_row_22 : decode prog_1_method_3_code 22 = .ok (.invokestatic 57, 3) := by decide +kernel
theorem d_X0_row_25 : decode prog_1_method_3_code 25 = .ok (.ifCond .eq 14, 3) := by decide +kernel
theorem d_X0_row_28 : decode prog_1_method_3_code 28 = .ok (.iload 4, 2) := by decide +kernel
theorem d_X0_row_30 : decode prog_1_method_3_code 30 = .ok (.sipush 10000, 3) := by decide +kernel
theorem d_X0_row_33 : decode prog_1_method_3_code 33 = .ok (.invokestatic 57, 3) := by decide +kernel
theorem d_X0_row_36 : decode prog_1_method_3_code 36 = .ok (.ifCond .ne 5, 3) := by decide +kernel
theorem d_X0_row_39 : decode prog_1_method_3_code 39 = .ok (.iconst (-1), 1) := by decide +kernel
theorem d_X0_row_40 : decode prog_1_method_3_code 40 = .ok (.ireturn, 1) := by decide +kernel
theorem d_X0_row_41 : decode prog_1_method_3_code 41 = .ok (.aload_n 0, 1) := by decide +kernel
theorem d_X0_row_42 : decode prog_1_method_3_code 42 = .ok (.getfield 12, 3) := by decide +kernel
theorem d_X0_row_45 : decode prog_1_method_3_code 45 = .ok (.getfield 61, 3) := by decide +kernel
theorem d_X0_row_48 : decode prog_1_method_3_code 48 = .ok (.iload_n 1, 1) := by decide +kernel
theorem d_X0_row_49 : decode prog_1_method_3_code 49 = .ok (.aaload, 1) := by decide +kernel
theorem d_X0_row_50 : decode prog_1_method_3_code 50 = .ok (.astore 5, 2) := by decide +kernel
theorem d_X0_row_52 : decode prog_1_method_3_code 52 = .ok (.aload 5, 2) := by decide +kernel
theorem d_X0_row_54 : decode prog_1_method_3_code 54 = .ok (.iconst 0, 1) := by decide +kernel
theorem d_X0_row_55 : decode prog_1_method_3_code 55 = .ok (.iload_n 2, 1) := by decide +kernel
theorem d_X0_row_56 : decode prog_1_method_3_code 56 = .ok (.invokevirtual 75, 3) := by decide +kernel
theorem d_X0_row_59 : decode prog_1_method_3_code 59 = .ok (.ifCond .ne 24, 3) := by decide +kernel
theorem d_X0_row_62 : decode prog_1_method_3_code 62 = .ok (.aload 5, 2) := by decide +kernel
theorem d_X0_row_64 : decode prog_1_method_3_code 64 = .ok (.iconst 1, 1) := by decide +kernel
theorem d_X0_row_65 : decode prog_1_method_3_code 65 = .ok (.iload_n 3, 1) := by decide +kernel
theorem d_X0_row_66 : decode prog_1_method_3_code 66 = .ok (.invokevirtual 75, 3) := by decide +kernel
theorem d_X0_row_69 : decode prog_1_method_3_code 69 = .ok (.ifCond .ne 14, 3) := by decide +kernel
theorem d_X0_row_72 : decode prog_1_method_3_code 72 = .ok (.aload 5, 2) := by decide +kernel
theorem d_X0_row_74 : decode prog_1_method_3_code 74 = .ok (.iconst 2, 1) := by decide +kernel
theorem d_X0_row_75 : decode prog_1_method_3_code 75 = .ok (.iload 4, 2) := by decide +kernel
theorem d_X0_row_77 : decode prog_1_method_3_code 77 = .ok (.invokevirtual 75, 3) := by decide +kernel
theorem d_X0_row_80 : decode prog_1_method_3_code 80 = .ok (.ifCond .eq 6, 3) := by decide +kernel
theorem d_X0_row_83 : decode prog_1_method_3_code 83 = .ok (.bipush (-4), 2) := by decide +kernel
theorem d_X0_row_85 : decode prog_1_method_3_code 85 = .ok (.ireturn, 1) := by decide +kernel
theorem d_X0_row_86 : decode prog_1_method_3_code 86 = .ok (.aload 5, 2) := by decide +kernel
theorem d_X0_row_88 : decode prog_1_method_3_code 88 = .ok (.getfield 78, 3) := by decide +kernel
theorem d_X0_row_91 : decode prog_1_method_3_code 91 = .ok (.bipush 20, 2) := by decide +kernel
theorem d_X0_row_93 : decode prog_1_method_3_code 93 = .ok (.if_icmp .lt 6, 3) := by decide +kernel
theorem d_X0_row_96 : decode prog_1_method_3_code 96 = .ok (.bipush (-2), 2) := by decide +kernel
theorem d_X0_row_98 : decode prog_1_method_3_code 98 = .ok (.ireturn, 1) := by decide +kernel
theorem d_X0_row_99 : decode prog_1_method_3_code 99 = .ok (.aload 5, 2) := by decide +kernel
theorem d_X0_row_101 : decode prog_1_method_3_code 101 = .ok (.iload_n 2, 1) := by decide +kernel
theorem d_X0_row_102 : decode prog_1_method_3_code 102 = .ok (.iload_n 3, 1) := by decide +kernel
theorem d_X0_row_103 : decode prog_1_method_3_code 103 = .ok (.iload 4, 2) := by decide +kernel
theorem d_X0_row_105 : decode prog_1_method_3_code 105 = .ok (.invokevirtual 82, 3) := by decide +kernel
theorem d_X0_row_108 : decode prog_1_method_3_code 108 = .ok (.aload 5, 2) := by decide +kernel
theorem d_X0_row_110 : decode prog_1_method_3_code 110 = .ok (.getfield 78, 3) := by decide +kernel
theorem d_X0_row_113 : decode prog_1_method_3_code 113 = .ok (.ireturn, 1) := by decide +kernel
abbrev y_X2_refuses : MethodName := ⟨"VirtualRewrite$Table", "refuses", "(II)Z"⟩
theorem d_X2_refuses_0 : decode prog_9_method_5_code 0 = .ok (.aload_n 0, 1) := by decide +kernel
theorem d_X2_refuses_1 : decode prog_9_method_5_code 1 = .ok (.getfield 15, 3) := by decide +kernel
theorem d_X2_refuses_4 : decode prog_9_method_5_code 4 = .ok (.iload_n 1, 1) := by decide +kernel
theorem d_X2_refuses_5 : decode prog_9_method_5_code 5 = .ok (.baload, 1) := by decide +kernel
theorem d_X2_refuses_6 : decode prog_9_method_5_code 6 = .ok (.ifCond .eq 20, 3) := by decide +kernel
theorem d_X2_refuses_9 : decode prog_9_method_5_code 9 = .ok (.aload_n 0, 1) := by decide +kernel
theorem d_X2_refuses_10 : decode prog_9_method_5_code 10 = .ok (.iload_n 1, 1) := by decide +kernel
theorem d_X2_refuses_11 : decode prog_9_method_5_code 11 = .ok (.iload_n 2, 1) := by decide +kernel
theorem d_X2_refuses_12 : decode prog_9_method_5_code 12 = .ok (.aload_n 0, 1) := by decide +kernel
theorem d_X2_refuses_13 : decode prog_9_method_5_code 13 = .ok (.getfield 19, 3) := by decide +kernel
theorem d_X2_refuses_16 : decode prog_9_method_5_code 16 = .ok (.invokevirtual 27, 3) := by decide +kernel
theorem d_X2_refuses_19 : decode prog_9_method_5_code 19 = .ok (.ifCond .eq 7, 3) := by decide +kernel
theorem d_X2_refuses_22 : decode prog_9_method_5_code 22 = .ok (.iconst 1, 1) := by decide +kernel
theorem d_X2_refuses_23 : decode prog_9_method_5_code 23 = .ok (.goto 4, 3) := by decide +kernel
theorem d_X2_refuses_26 : decode prog_9_method_5_code 26 = .ok (.iconst 0, 1) := by decide +kernel
theorem d_X2_refuses_27 : decode prog_9_method_5_code 27 = .ok (.ireturn, 1) := by decide +kernel
