abbrev y_X2_append : MethodName := ⟨"VirtualRewrite$Table", "append", "(III)V"⟩
theorem d_X2_append_0 : decode prog_9_method_6_code 0 = .ok (.aload_n 0, 1) := by decide +kernel
theorem d_X2_append_1 : decode prog_9_method_6_code 1 = .ok (.getfield 19, 3) := by decide +kernel
theorem d_X2_append_4 : decode prog_9_method_6_code 4 = .ok (.iconst 3, 1) := by decide +kernel
theorem d_X2_append_5 : decode prog_9_method_6_code 5 = .ok (.imul, 1) := by decide +kernel
theorem d_X2_append_6 : decode prog_9_method_6_code 6 = .ok (.istore 4, 2) := by decide +kernel
theorem d_X2_append_8 : decode prog_9_method_6_code 8 = .ok (.aload_n 0, 1) := by decide +kernel
theorem d_X2_append_9 : decode prog_9_method_6_code 9 = .ok (.getfield 9, 3) := by decide +kernel
theorem d_X2_append_12 : decode prog_9_method_6_code 12 = .ok (.iload 4, 2) := by decide +kernel
theorem d_X2_append_14 : decode prog_9_method_6_code 14 = .ok (.iload_n 1, 1) := by decide +kernel
theorem d_X2_append_15 : decode prog_9_method_6_code 15 = .ok (.iastore, 1) := by decide +kernel
theorem d_X2_append_16 : decode prog_9_method_6_code 16 = .ok (.aload_n 0, 1) := by decide +kernel
theorem d_X2_append_17 : decode prog_9_method_6_code 17 = .ok (.getfield 9, 3) := by decide +kernel
theorem d_X2_append_20 : decode prog_9_method_6_code 20 = .ok (.iload 4, 2) := by decide +kernel
theorem d_X2_append_22 : decode prog_9_method_6_code 22 = .ok (.iconst 1, 1) := by decide +kernel
theorem d_X2_append_23 : decode prog_9_method_6_code 23 = .ok (.iadd, 1) := by decide +kernel
theorem d_X2_append_24 : decode prog_9_method_6_code 24 = .ok (.iload_n 2, 1) := by decide +kernel
theorem d_X2_append_25 : decode prog_9_method_6_code 25 = .ok (.iastore, 1) := by decide +kernel
theorem d_X2_append_26 : decode prog_9_method_6_code 26 = .ok (.aload_n 0, 1) := by decide +kernel
theorem d_X2_append_27 : decode prog_9_method_6_code 27 = .ok (.getfield 9, 3) := by decide +kernel
theorem d_X2_append_30 : decode prog_9_method_6_code 30 = .ok (.iload 4, 2) := by decide +kernel
theorem d_X2_append_32 : decode prog_9_method_6_code 32 = .ok (.iconst 2, 1) := by decide +kernel
theorem d_X2_append_33 : decode prog_9_method_6_code 33 = .ok (.iadd, 1) := by decide +kernel
theorem d_X2_append_34 : decode prog_9_method_6_code 34 = .ok (.iload_n 3, 1) := by decide +kernel
theorem d_X2_append_35 : decode prog_9_method_6_code 35 = .ok (.iastore, 1) := by decide +kernel
theorem d_X2_append_36 : decode prog_9_method_6_code 36 = .ok (.aload_n 0, 1) := by decide +kernel
theorem d_X2_append_37 : decode prog_9_method_6_code 37 = .ok (.dup, 1) := by decide +kernel
theorem d_X2_append_38 : decode prog_9_method_6_code 38 = .ok (.getfield 19, 3) := by decide +kernel
theorem d_X2_append_41 : decode prog_9_method_6_code 41 = .ok (.iconst 1, 1) := by decide +kernel
theorem d_X2_append_42 : decode prog_9_method_6_code 42 = .ok (.iadd, 1) := by decide +kernel
theorem d_X2_append_43 : decode prog_9_method_6_code 43 = .ok (.putfield 19, 3) := by decide +kernel
theorem d_X2_append_46 : decode prog_9_method_6_code 46 = .ok (.return_, 1) := by decide +kernel
abbrev y_X0_drop : MethodName := ⟨"VirtualRewrite", "drop", "(II)I"⟩
theorem d_X0_drop_0 : decode prog_1_method_4_code 0 = .ok (.iload_n 1, 1) := by decide +kernel
theorem d_X0_drop_1 : decode prog_1_method_4_code 1 = .ok (.iconst 4, 1) := by decide +kernel
theorem d_X0_drop_2 : decode prog_1_method_4_code 2 = .ok (.invokestatic 57, 3) := by decide +kernel
theorem d_X0_drop_5 : decode prog_1_method_4_code 5 = .ok (.ifCond .eq 22, 3) := by decide +kernel
theorem d_X0_drop_8 : decode prog_1_method_4_code 8 = .ok (.iload_n 2, 1) := by decide +kernel
theorem d_X0_drop_9 : decode prog_1_method_4_code 9 = .ok (.aload_n 0, 1) := by decide +kernel
theorem d_X0_drop_10 : decode prog_1_method_4_code 10 = .ok (.getfield 12, 3) := by decide +kernel
theorem d_X0_drop_13 : decode prog_1_method_4_code 13 = .ok (.getfield 61, 3) := by decide +kernel
theorem d_X0_drop_16 : decode prog_1_method_4_code 16 = .ok (.iload_n 1, 1) := by decide +kernel
theorem d_X0_drop_17 : decode prog_1_method_4_code 17 = .ok (.aaload, 1) := by decide +kernel
theorem d_X0_drop_18 : decode prog_1_method_4_code 18 = .ok (.getfield 78, 3) := by decide +kernel
theorem d_X0_drop_21 : decode prog_1_method_4_code 21 = .ok (.invokestatic 57, 3) := by decide +kernel
theorem d_X0_drop_24 : decode prog_1_method_4_code 24 = .ok (.ifCond .ne 5, 3) := by decide +kernel
theorem d_X0_drop_27 : decode prog_1_method_4_code 27 = .ok (.iconst (-1), 1) := by decide +kernel
theorem d_X0_drop_28 : decode prog_1_method_4_code 28 = .ok (.ireturn, 1) := by decide +kernel
theorem d_X0_drop_29 : decode prog_1_method_4_code 29 = .ok (.aload_n 0, 1) := by decide +kernel
theorem d_X0_drop_30 : decode prog_1_method_4_code 30 = .ok (.getfield 12, 3) := by decide +kernel
theorem d_X0_drop_33 : decode prog_1_method_4_code 33 = .ok (.getfield 61, 3) := by decide +kernel
theorem d_X0_drop_36 : decode prog_1_method_4_code 36 = .ok (.iload_n 1, 1) := by decide +kernel
theorem d_X0_drop_37 : decode prog_1_method_4_code 37 = .ok (.aaload, 1) := by decide +kernel
theorem d_X0_drop_38 : decode prog_1_method_4_code 38 = .ok (.iload_n 2, 1) := by decide +kernel
theorem d_X0_drop_39 : decode prog_1_method_4_code 39 = .ok (.invokevirtual 86, 3) := by decide +kernel
theorem d_X0_drop_42 : decode prog_1_method_4_code 42 = .ok (.aload_n 0, 1) := by decide +kernel
theorem d_X0_drop_43 : decode prog_1_method_4_code 43 = .ok (.getfield 12, 3) := by decide +kernel
theorem d_X0_drop_46 : decode prog_1_method_4_code 46 = .ok (.getfield 61, 3) := by decide +kernel
theorem d_X0_drop_49 : decode prog_1_method_4_code 49 = .ok (.iload_n 1, 1) := by decide +kernel
theorem d_X0_drop_50 : decode prog_1_method_4_code 50 = .ok (.aaload, 1) := by decide +kernel
theorem d_X0_drop_51 : decode prog_1_method_4_code 51 = .ok (.getfield 78, 3) := by decide +kernel
theorem d_X0_drop_54 : decode prog_1_method_4_code 54 = .ok (.ireturn, 1) := by decide +kernel
abbrev y_X2_remove : MethodName := ⟨"VirtualRewrite$Table", "remove", "(I)V"⟩
theorem d_X2_remove_0 : decode prog_9_method_7_code 0 = .ok (.aload_n 0, 1) := by decide +kernel
theorem d_X2_remove_1 : decode prog_9_method_7_code 1 = .ok (.getfield 19, 3) := by decide +kernel
theorem d_X2_remove_4 : decode prog_9_method_7_code 4 = .ok (.iload_n 1, 1) := by decide +kernel
theorem d_X2_remove_5 : decode prog_9_method_7_code 5 = .ok (.isub, 1) := by decide +kernel
theorem d_X2_remove_6 : decode prog_9_method_7_code 6 = .ok (.iconst 1, 1) := by decide +kernel
theorem d_X2_remove_7 : decode prog_9_method_7_code 7 = .ok (.isub, 1) := by decide +kernel
theorem d_X2_remove_8 : decode prog_9_method_7_code 8 = .ok (.istore_n 2, 1) := by decide +kernel
theorem d_X2_remove_9 : decode prog_9_method_7_code 9 = .ok (.aload_n 0, 1) := by decide +kernel
theorem d_X2_remove_10 : decode prog_9_method_7_code 10 = .ok (.getfield 9, 3) := by decide +kernel
theorem d_X2_remove_13 : decode prog_9_method_7_code 13 = .ok (.iload_n 1, 1) := by decide +kernel
theorem d_X2_remove_14 : decode prog_9_method_7_code 14 = .ok (.iconst 1, 1) := by decide +kernel
theorem d_X2_remove_15 : decode prog_9_method_7_code 15 = .ok (.iadd, 1) := by decide +kernel
theorem d_X2_remove_16 : decode prog_9_method_7_code 16 = .ok (.iconst 3, 1) := by decide +kernel
theorem d_X2_remove_17 : decode prog_9_method_7_code 17 = .ok (.imul, 1) := by decide +kernel
theorem d_X2_remove_18 : decode prog_9_method_7_code 18 = .ok (.aload_n 0, 1) := by decide +kernel
theorem d_X2_remove_19 : decode prog_9_method_7_code 19 = .ok (.getfield 9, 3) := by decide +kernel
theorem d_X2_remove_22 : decode prog_9_method_7_code 22 = .ok (.iload_n 1, 1) := by decide +kernel
theorem d_X2_remove_23 : decode prog_9_method_7_code 23 = .ok (.iconst 3, 1) := by decide +kernel
theorem d_X2_remove_24 : decode prog_9_method_7_code 24 = .ok (.imul, 1) := by decide +kernel
theorem d_X2_remove_25 : decode prog_9_method_7_code 25 = .ok (.iload_n 2, 1) := by decide +kernel
theorem d_X2_remove_26 : decode prog_9_method_7_code 26 = .ok (.iconst 3, 1) := by decide +kernel
theorem d_X2_remove_27 : decode prog_9_method_7_code 27 = .ok (.imul, 1) := by decide +kernel
theorem d_X2_remove_28 : decode prog_9_method_7_code 28 = .ok (.invokestatic 31, 3) := by decide +kernel
theorem d_X2_remove_31 : decode prog_9_method_7_code 31 = .ok (.aload_n 0, 1) := by decide +kernel
theorem d_X2_remove_32 : decode prog_9_method_7_code 32 = .ok (.dup, 1) := by decide +kernel
theorem d_X2_remove_33 : decode prog_9_method_7_code 33 = .ok (.getfield 19, 3) := by decide +kernel
theorem d_X2_remove_36 : decode prog_9_method_7_code 36 = .ok (.iconst 1, 1) := by decide +kernel
theorem d_X2_remove_37 : decode prog_9_method_7_code 37 = .ok (.isub, 1) := by decide +kernel
theorem d_X2_remove_38 : decode prog_9_method_7_code 38 = .ok (.putfield 19, 3) := by decide +kernel
theorem d_X2_remove_41 : decode prog_9_method_7_code 41 = .ok (.return_, 1) := by decide +kernel
abbrev y_X0_mapping : MethodName := ⟨"VirtualRewrite", "mapping", "(IIIIII)I"⟩
theorem d_X0_mapping_0 : decode prog_1_method_5_code 0 = .ok (.iload_n 1, 1) := by decide +kernel
theorem d_X0_mapping_1 : decode prog_1_method_5_code 1 = .ok (.iconst 4, 1) := by decide +kernel
theorem d_X0_mapping_2 : decode prog_1_method_5_code 2 = .ok (.invokestatic 57, 3) := by decide +kernel
theorem d_X0_mapping_5 : decode prog_1_method_5_code 5 = .ok (.ifCond .eq 12, 3) := by decide +kernel
theorem d_X0_mapping_8 : decode prog_1_method_5_code 8 = .ok (.iload_n 2, 1) := by decide +kernel
theorem d_X0_mapping_9 : decode prog_1_method_5_code 9 = .ok (.bipush 8, 2) := by decide +kernel
theorem d_X0_mapping_11 : decode prog_1_method_5_code 11 = .ok (.invokestatic 57, 3) := by decide +kernel
theorem d_X0_mapping_14 : decode prog_1_method_5_code 14 = .ok (.ifCond .ne 5, 3) := by decide +kernel
theorem d_X0_mapping_17 : decode prog_1_method_5_code 17 = .ok (.iconst (-1), 1) := by decide +kernel
theorem d_X0_mapping_18 : decode prog_1_method_5_code 18 = .ok (.ireturn, 1) := by decide +kernel
theorem d_X0_mapping_19 : decode prog_1_method_5_code 19 = .ok (.iload_n 3, 1) := by decide +kernel
theorem d_X0_mapping_20 : decode prog_1_method_5_code 20 = .ok (.bipush 6, 2) := by decide +kernel
theorem d_X0_mapping_22 : decode prog_1_method_5_code 22 = .ok (.invokestatic 57, 3) := by decide +kernel
theorem d_X0_mapping_25 : decode prog_1_method_5_code 25 = .ok (.ifCond .eq 12, 3) := by decide +kernel
theorem d_X0_mapping_28 : decode prog_1_method_5_code 28 = .ok (.iload 4, 2) := by decide +kernel
theorem d_X0_mapping_30 : decode prog_1_method_5_code 30 = .ok (.iconst 3, 1) := by decide +kernel
theorem d_X0_mapping_31 : decode prog_1_method_5_code 31 = .ok (.invokestatic 57, 3) := by decide +kernel
theorem d_X0_mapping_34 : decode prog_1_method_5_code 34 = .ok (.ifCond .ne 5, 3) := by decide +kernel
theorem d_X0_mapping_37 : decode prog_1_method_5_code 37 = .ok (.iconst (-1), 1) := by decide +kernel
theorem d_X0_mapping_38 : decode prog_1_method_5_code 38 = .ok (.ireturn, 1) := by decide +kernel
theorem d_X0_mapping_39 : decode prog_1_method_5_code 39 = .ok (.iload 5, 2) := by decide +kernel
theorem d_X0_mapping_41 : decode prog_1_method_5_code 41 = .ok (.bipush 6, 2) := by decide +kernel
theorem d_X0_mapping_43 : decode prog_1_method_5_code 43 = .ok (.invokestatic 57, 3) := by decide +kernel
theorem d_X0_mapping_46 : decode prog_1_method_5_code 46 = .ok (.ifCond .eq 12, 3) := by decide +kernel
theorem d_X0_mapping_49 : decode prog_1_method_5_code 49 = .ok (.iload 6, 2) := by decide +kernel
theorem d_X0_mapping_51 : decode prog_1_method_5_code 51 = .ok (.iconst 3, 1) := by decide +kernel
theorem d_X0_mapping_52 : decode prog_1_method_5_code 52 = .ok (.invokestatic 57, 3) := by decide +kernel
theorem d_X0_mapping_55 : decode prog_1_method_5_code 55 = .ok (.ifCond .ne 5, 3) := by decide +kernel
theorem d_X0_mapping_58 : decode prog_1_method_5_code 58 = .ok (.iconst (-1), 1) := by decide +kernel
theorem d_X0_mapping_59 : decode prog_1_method_5_code 59 = .ok (.ireturn, 1) := by decide +kernel
theorem d_X0_mapping_60 : decode prog_1_method_5_code 60 = .ok (.aload_n 0, 1) := by decide +kernel
theorem d_X0_mapping_61 : decode prog_1_method_5_code 61 = .ok (.getfield 12, 3) := by decide +kernel
theorem d_X0_mapping_64 : decode prog_1_method_5_code 64 = .ok (.getfield 90, 3) := by decide +kernel
theorem d_X0_mapping_67 : decode prog_1_method_5_code 67 = .ok (.bipush 12, 2) := by decide +kernel
theorem d_X0_mapping_69 : decode prog_1_method_5_code 69 = .ok (.if_icmp .lt 6, 3) := by decide +kernel
theorem d_X0_mapping_72 : decode prog_1_method_5_code 72 = .ok (.bipush (-2), 2) := by decide +kernel
theorem d_X0_mapping_74 : decode prog_1_method_5_code 74 = .ok (.ireturn, 1) := by decide +kernel
theorem d_X0_mapping_75 : decode prog_1_method_5_code 75 = .ok (.aload_n 0, 1) := by decide +kernel
theorem d_X0_mapping_76 : decode prog_1_method_5_code 76 = .ok (.getfield 12, 3) := by decide +kernel
theorem d_X0_mapping_79 : decode prog_1_method_5_code 79 = .ok (.getfield 91, 3) := by decide +kernel
theorem d_X0_mapping_82 : decode prog_1_method_5_code 82 = .ok (.aload_n 0, 1) := by decide +kernel
theorem d_X0_mapping_83 : decode prog_1_method_5_code 83 = .ok (.getfield 12, 3) := by decide +kernel
theorem d_X0_mapping_86 : decode prog_1_method_5_code 86 = .ok (.getfield 90, 3) := by decide +kernel
theorem d_X0_mapping_89 : decode prog_1_method_5_code 89 = .ok (.aaload, 1) := by decide +kernel
theorem d_X0_mapping_90 : decode prog_1_method_5_code 90 = .ok (.astore 7, 2) := by decide +kernel
theorem d_X0_mapping_92 : decode prog_1_method_5_code 92 = .ok (.aload 7, 2) := by decide +kernel
theorem d_X0_mapping_94 : decode prog_1_method_5_code 94 = .ok (.iload_n 1, 1) := by decide +kernel
theorem d_X0_mapping_95 : decode prog_1_method_5_code 95 = .ok (.putfield 95, 3) := by decide +kernel
theorem d_X0_mapping_98 : decode prog_1_method_5_code 98 = .ok (.aload 7, 2) := by decide +kernel
theorem d_X0_mapping_100 : decode prog_1_method_5_code 100 = .ok (.iload_n 2, 1) := by decide +kernel
theorem d_X0_mapping_101 : decode prog_1_method_5_code 101 = .ok (.putfield 100, 3) := by decide +kernel
theorem d_X0_mapping_104 : decode prog_1_method_5_code 104 = .ok (.aload 7, 2) := by decide +kernel
theorem d_X0_mapping_106 : decode prog_1_method_5_code 106 = .ok (.iconst 0, 1) := by decide +kernel
theorem d_X0_mapping_107 : decode prog_1_method_5_code 107 = .ok (.iload_n 3, 1) := by decide +kernel
theorem d_X0_mapping_108 : decode prog_1_method_5_code 108 = .ok (.iload 4, 2) := by decide +kernel
theorem d_X0_mapping_110 : decode prog_1_method_5_code 110 = .ok (.invokevirtual 103, 3) := by decide +kernel
theorem d_X0_mapping_113 : decode prog_1_method_5_code 113 = .ok (.aload 7, 2) := by decide +kernel
theorem d_X0_mapping_115 : decode prog_1_method_5_code 115 = .ok (.iconst 1, 1) := by decide +kernel
theorem d_X0_mapping_116 : decode prog_1_method_5_code 116 = .ok (.iload 5, 2) := by decide +kernel
theorem d_X0_mapping_118 : decode prog_1_method_5_code 118 = .ok (.iload 6, 2) := by decide +kernel
theorem d_X0_mapping_120 : decode prog_1_method_5_code 120 = .ok (.invokevirtual 103, 3) := by decide +kernel
theorem d_X0_mapping_123 : decode prog_1_method_5_code 123 = .ok (.aload_n 0, 1) := by decide +kernel
theorem d_X0_mapping_124 : decode prog_1_method_5_code 124 = .ok (.getfield 12, 3) := by decide +kernel
theorem d_X0_mapping_127 : decode prog_1_method_5_code 127 = .ok (.dup, 1) := by decide +kernel
theorem d_X0_mapping_128 : decode prog_1_method_5_code 128 = .ok (.getfield 90, 3) := by decide +kernel
theorem d_X0_mapping_131 : decode prog_1_method_5_code 131 = .ok (.iconst 1, 1) := by decide +kernel
theorem d_X0_mapping_132 : decode prog_1_method_5_code 132 = .ok (.iadd, 1) := by decide +kernel
theorem d_X0_mapping_133 : decode prog_1_method_5_code 133 = .ok (.putfield 90, 3) := by decide +kernel
theorem d_X0_mapping_136 : decode prog_1_method_5_code 136 = .ok (.aload_n 0, 1) := by decide +kernel
theorem d_X0_mapping_137 : decode prog_1_method_5_code 137 = .ok (.getfield 28, 3) := by decide +kernel
theorem d_X0_mapping_140 : decode prog_1_method_5_code 140 = .ok (.invokevirtual 106, 3) := by decide +kernel
theorem d_X0_mapping_143 : decode prog_1_method_5_code 143 = .ok (.aload_n 0, 1) := by decide +kernel
theorem d_X0_mapping_144 : decode prog_1_method_5_code 144 = .ok (.getfield 12, 3) := by decide +kernel
theorem d_X0_mapping_147 : decode prog_1_method_5_code 147 = .ok (.getfield 90, 3) := by decide +kernel
theorem d_X0_mapping_150 : decode prog_1_method_5_code 150 = .ok (.iconst 1, 1) := by decide +kernel
theorem d_X0_mapping_151 : decode prog_1_method_5_code 151 = .ok (.isub, 1) := by decide +kernel
theorem d_X0_mapping_152 : decode prog_1_method_5_code 152 = .ok (.ireturn, 1) := by decide +kernel
abbrev y_X3_describe : MethodName := ⟨"VirtualRewrite$Mapping", "describe", "(III)V"⟩
theorem d_X3_describe_0 : decode prog_5_method_2_code 0 = .ok (.aload_n 0, 1) := by decide +kernel
theorem d_X3_describe_1 : decode prog_5_method_2_code 1 = .ok (.getfield 9, 3) := by decide +kernel
theorem d_X3_describe_4 : decode prog_5_method_2_code 4 = .ok (.iload_n 1, 1) := by decide +kernel
theorem d_X3_describe_5 : decode prog_5_method_2_code 5 = .ok (.iload_n 2, 1) := by decide +kernel
theorem d_X3_describe_6 : decode prog_5_method_2_code 6 = .ok (.iastore, 1) := by decide +kernel
theorem d_X3_describe_7 : decode prog_5_method_2_code 7 = .ok (.aload_n 0, 1) := by decide +kernel
theorem d_X3_describe_8 : decode prog_5_method_2_code 8 = .ok (.getfield 15, 3) := by decide +kernel
theorem d_X3_describe_11 : decode prog_5_method_2_code 11 = .ok (.iload_n 1, 1) := by decide +kernel
theorem d_X3_describe_12 : decode prog_5_method_2_code 12 = .ok (.iload_n 3, 1) := by decide +kernel
theorem d_X3_describe_13 : decode prog_5_method_2_code 13 = .ok (.iastore, 1) := by decide +kernel
theorem d_X3_describe_14 : decode prog_5_method_2_code 14 = .ok (.return_, 1) := by decide +kernel
abbrev y_X5_forget : MethodName := ⟨"VirtualRewrite$Rewriting", "forget", "()V"⟩
theorem d_X5_forget_0 : decode prog_7_method_5_code 0 = .ok (.aload_n 0, 1) := by decide +kernel
theorem d_X5_forget_1 : decode prog_7_method_5_code 1 = .ok (.iconst 0, 1) := by decide +kernel
theorem d_X5_forget_2 : decode prog_7_method_5_code 2 = .ok (.putfield 29, 3) := by decide +kernel
theorem d_X5_forget_5 : decode prog_7_method_5_code 5 = .ok (.return_, 1) := by decide +kernel
abbrev y_X0_triples : MethodName := ⟨"VirtualRewrite", "triples", "()I"⟩
theorem d_X0_triples_0 : decode prog_1_method_6_code 0 = .ok (.aload_n 0, 1) := by decide +kernel
theorem d_X0_triples_1 : decode prog_1_method_6_code 1 = .ok (.getfield 12, 3) := by decide +kernel
theorem d_X0_triples_4 : decode prog_1_method_6_code 4 = .ok (.invokevirtual 109, 3) := by decide +kernel
theorem d_X0_triples_7 : decode prog_1_method_6_code 7 = .ok (.ireturn, 1) := by decide +kernel
abbrev y_X1_countTriples : MethodName := ⟨"VirtualRewrite$Catalog", "countTriples", "()I"⟩
theorem d_X1_countTriples_0 : decode prog_3_method_3_code 0 = .ok (.aload_n 0, 1) := by decide +kernel
theorem d_X1_countTriples_1 : decode prog_3_method_3_code 1 = .ok (.iconst 0, 1) := by decide +kernel
theorem d_X1_countTriples_2 : decode prog_3_method_3_code 2 = .ok (.putfield 31, 3) := by decide +kernel
theorem d_X1_countTriples_5 : decode prog_3_method_3_code 5 = .ok (.iconst 0, 1) := by decide +kernel
theorem d_X1_countTriples_6 : decode prog_3_method_3_code 6 = .ok (.istore_n 1, 1) := by decide +kernel
theorem d_X1_countTriples_7 : decode prog_3_method_3_code 7 = .ok (.iload_n 1, 1) := by decide +kernel
theorem d_X1_countTriples_8 : decode prog_3_method_3_code 8 = .ok (.aload_n 0, 1) := by decide +kernel
theorem d_X1_countTriples_9 : decode prog_3_method_3_code 9 = .ok (.getfield 27, 3) := by decide +kernel
theorem d_X1_countTriples_12 : decode prog_3_method_3_code 12 = .ok (.if_icmp .ge 51, 3) := by decide +kernel
theorem d_X1_countTriples_15 : decode prog_3_method_3_code 15 = .ok (.aload_n 0, 1) := by decide +kernel
theorem d_X1_countTriples_16 : decode prog_3_method_3_code 16 = .ok (.aload_n 0, 1) := by decide +kernel
theorem d_X1_countTriples_17 : decode prog_3_method_3_code 17 = .ok (.getfield 19, 3) := by decide +kernel
theorem d_X1_countTriples_20 : decode prog_3_method_3_code 20 = .ok (.iload_n 1, 1) := by decide +kernel
theorem d_X1_countTriples_21 : decode prog_3_method_3_code 21 = .ok (.aaload, 1) := by decide +kernel
theorem d_X1_countTriples_22 : decode prog_3_method_3_code 22 = .ok (.invokevirtual 39, 3) := by decide +kernel
theorem d_X1_countTriples_25 : decode prog_3_method_3_code 25 = .ok (.getfield 43, 3) := by decide +kernel
theorem d_X1_countTriples_28 : decode prog_3_method_3_code 28 = .ok (.istore_n 2, 1) := by decide +kernel
theorem d_X1_countTriples_29 : decode prog_3_method_3_code 29 = .ok (.iconst 0, 1) := by decide +kernel
theorem d_X1_countTriples_30 : decode prog_3_method_3_code 30 = .ok (.istore_n 3, 1) := by decide +kernel
theorem d_X1_countTriples_31 : decode prog_3_method_3_code 31 = .ok (.iload_n 3, 1) := by decide +kernel
theorem d_X1_countTriples_32 : decode prog_3_method_3_code 32 = .ok (.iload_n 2, 1) := by decide +kernel
theorem d_X1_countTriples_33 : decode prog_3_method_3_code 33 = .ok (.if_icmp .ge 24, 3) := by decide +kernel
theorem d_X1_countTriples_36 : decode prog_3_method_3_code 36 = .ok (.aload_n 0, 1) := by decide +kernel
theorem d_X1_countTriples_37 : decode prog_3_method_3_code 37 = .ok (.aload_n 0, 1) := by decide +kernel
theorem d_X1_countTriples_38 : decode prog_3_method_3_code 38 = .ok (.aload_n 0, 1) := by decide +kernel
theorem d_X1_countTriples_39 : decode prog_3_method_3_code 39 = .ok (.getfield 19, 3) := by decide +kernel
theorem d_X1_countTriples_42 : decode prog_3_method_3_code 42 = .ok (.iload_n 1, 1) := by decide +kernel
theorem d_X1_countTriples_43 : decode prog_3_method_3_code 43 = .ok (.aaload, 1) := by decide +kernel
theorem d_X1_countTriples_44 : decode prog_3_method_3_code 44 = .ok (.iload_n 3, 1) := by decide +kernel
theorem d_X1_countTriples_45 : decode prog_3_method_3_code 45 = .ok (.invokevirtual 44, 3) := by decide +kernel
theorem d_X1_countTriples_48 : decode prog_3_method_3_code 48 = .ok (.invokevirtual 48, 3) := by decide +kernel
theorem d_X1_countTriples_51 : decode prog_3_method_3_code 51 = .ok (.iinc 3 1, 3) := by decide +kernel
theorem d_X1_countTriples_54 : decode prog_3_method_3_code 54 = .ok (.goto (-23), 3) := by decide +kernel
theorem d_X1_countTriples_57 : decode prog_3_method_3_code 57 = .ok (.iinc 1 1, 3) := by decide +kernel
theorem d_X1_countTriples_60 : decode prog_3_method_3_code 60 = .ok (.goto (-53), 3) := by decide +kernel
theorem d_X1_countTriples_63 : decode prog_3_method_3_code 63 = .ok (.aload_n 0, 1) := by decide +kernel
theorem d_X1_countTriples_64 : decode prog_3_method_3_code 64 = .ok (.getfield 31, 3) := by decide +kernel
theorem d_X1_countTriples_67 : decode prog_3_method_3_code 67 = .ok (.ireturn, 1) := by decide +kernel
abbrev y_X1_tableOf : MethodName := ⟨"VirtualRewrite$Catalog", "tableOf", "(LVirtualRewrite$Mapping;)LVirtualRewrite$Table;"⟩
theorem d_X1_tableOf_0 : decode prog_3_method_2_code 0 = .ok (.aload_n 0, 1) := by decide +kernel
theorem d_X1_tableOf_1 : decode prog_3_method_2_code 1 = .ok (.getfield 11, 3) := by decide +kernel
theorem d_X1_tableOf_4 : decode prog_3_method_2_code 4 = .ok (.aload_n 1, 1) := by decide +kernel
theorem d_X1_tableOf_5 : decode prog_3_method_2_code 5 = .ok (.getfield 36, 3) := by decide +kernel
theorem d_X1_tableOf_8 : decode prog_3_method_2_code 8 = .ok (.aaload, 1) := by decide +kernel
theorem d_X1_tableOf_9 : decode prog_3_method_2_code 9 = .ok (.areturn, 1) := by decide +kernel
abbrev y_X1_packedTriple : MethodName := ⟨"VirtualRewrite$Catalog", "packedTriple", "(LVirtualRewrite$Mapping;I)J"⟩
theorem d_X1_packedTriple_0 : decode prog_3_method_4_code 0 = .ok (.aload_n 1, 1) := by decide +kernel
theorem d_X1_packedTriple_1 : decode prog_3_method_4_code 1 = .ok (.getfield 52, 3) := by decide +kernel
theorem d_X1_packedTriple_4 : decode prog_3_method_4_code 4 = .ok (.i2l, 1) := by decide +kernel
theorem d_X1_packedTriple_5 : decode prog_3_method_4_code 5 = .ok (.lstore_n 3, 1) := by decide +kernel
theorem d_X1_packedTriple_6 : decode prog_3_method_4_code 6 = .ok (.iconst 0, 1) := by decide +kernel
theorem d_X1_packedTriple_7 : decode prog_3_method_4_code 7 = .ok (.istore 5, 2) := by decide +kernel
theorem d_X1_packedTriple_9 : decode prog_3_method_4_code 9 = .ok (.iload 5, 2) := by decide +kernel
theorem d_X1_packedTriple_11 : decode prog_3_method_4_code 11 = .ok (.iconst 2, 1) := by decide +kernel
theorem d_X1_packedTriple_12 : decode prog_3_method_4_code 12 = .ok (.if_icmp .ge 50, 3) := by decide +kernel
theorem d_X1_packedTriple_15 : decode prog_3_method_4_code 15 = .ok (.aload_n 0, 1) := by decide +kernel
theorem d_X1_packedTriple_16 : decode prog_3_method_4_code 16 = .ok (.aload_n 1, 1) := by decide +kernel
theorem d_X1_packedTriple_17 : decode prog_3_method_4_code 17 = .ok (.invokevirtual 39, 3) := by decide +kernel
theorem d_X1_packedTriple_20 : decode prog_3_method_4_code 20 = .ok (.iload_n 2, 1) := by decide +kernel
theorem d_X1_packedTriple_21 : decode prog_3_method_4_code 21 = .ok (.aload_n 1, 1) := by decide +kernel
theorem d_X1_packedTriple_22 : decode prog_3_method_4_code 22 = .ok (.getfield 55, 3) := by decide +kernel
theorem d_X1_packedTriple_25 : decode prog_3_method_4_code 25 = .ok (.iload 5, 2) := by decide +kernel
theorem d_X1_packedTriple_27 : decode prog_3_method_4_code 27 = .ok (.iaload, 1) := by decide +kernel
theorem d_X1_packedTriple_28 : decode prog_3_method_4_code 28 = .ok (.invokevirtual 59, 3) := by decide +kernel
theorem d_X1_packedTriple_31 : decode prog_3_method_4_code 31 = .ok (.istore 6, 2) := by decide +kernel
theorem d_X1_packedTriple_33 : decode prog_3_method_4_code 33 = .ok (.lload_n 3, 1) := by decide +kernel
theorem d_X1_packedTriple_34 : decode prog_3_method_4_code 34 = .ok (.ldc2_w 63, 3) := by decide +kernel
theorem d_X1_packedTriple_37 : decode prog_3_method_4_code 37 = .ok (.lmul, 1) := by decide +kernel
theorem d_X1_packedTriple_38 : decode prog_3_method_4_code 38 = .ok (.aload_n 1, 1) := by decide +kernel
theorem d_X1_packedTriple_39 : decode prog_3_method_4_code 39 = .ok (.getfield 65, 3) := by decide +kernel
theorem d_X1_packedTriple_42 : decode prog_3_method_4_code 42 = .ok (.iload 5, 2) := by decide +kernel
theorem d_X1_packedTriple_44 : decode prog_3_method_4_code 44 = .ok (.iaload, 1) := by decide +kernel
theorem d_X1_packedTriple_45 : decode prog_3_method_4_code 45 = .ok (.sipush 10000, 3) := by decide +kernel
theorem d_X1_packedTriple_48 : decode prog_3_method_4_code 48 = .ok (.imul, 1) := by decide +kernel
theorem d_X1_packedTriple_49 : decode prog_3_method_4_code 49 = .ok (.i2l, 1) := by decide +kernel
theorem d_X1_packedTriple_50 : decode prog_3_method_4_code 50 = .ok (.ladd, 1) := by decide +kernel
theorem d_X1_packedTriple_51 : decode prog_3_method_4_code 51 = .ok (.iload 6, 2) := by decide +kernel
theorem d_X1_packedTriple_53 : decode prog_3_method_4_code 53 = .ok (.i2l, 1) := by decide +kernel
theorem d_X1_packedTriple_54 : decode prog_3_method_4_code 54 = .ok (.ladd, 1) := by decide +kernel
theorem d_X1_packedTriple_55 : decode prog_3_method_4_code 55 = .ok (.lstore_n 3, 1) := by decide +kernel
theorem d_X1_packedTriple_56 : decode prog_3_method_4_code 56 = .ok (.iinc 5 1, 3) := by decide +kernel
theorem d_X1_packedTriple_59 : decode prog_3_method_4_code 59 = .ok (.goto (-50), 3) := by decide +kernel
theorem d_X1_packedTriple_62 : decode prog_3_method_4_code 62 = .ok (.lload_n 3, 1) := by decide +kernel
theorem d_X1_packedTriple_63 : decode prog_3_method_4_code 63 = .ok (.lreturn, 1) := by decide +kernel
abbrev y_X1_keepTriple : MethodName := ⟨"VirtualRewrite$Catalog", "keepTriple", "(J)V"⟩
theorem d_X1_keepTriple_0 : decode prog_3_method_5_code 0 = .ok (.iconst 0, 1) := by decide +kernel
theorem d_X1_keepTriple_1 : decode prog_3_method_5_code 1 = .ok (.istore_n 3, 1) := by decide +kernel
theorem d_X1_keepTriple_2 : decode prog_3_method_5_code 2 = .ok (.aload_n 0, 1) := by decide +kernel
theorem d_X1_keepTriple_3 : decode prog_3_method_5_code 3 = .ok (.getfield 31, 3) := by decide +kernel
theorem d_X1_keepTriple_6 : decode prog_3_method_5_code 6 = .ok (.istore 4, 2) := by decide +kernel
theorem d_X1_keepTriple_8 : decode prog_3_method_5_code 8 = .ok (.iload_n 3, 1) := by decide +kernel
theorem d_X1_keepTriple_9 : decode prog_3_method_5_code 9 = .ok (.iload 4, 2) := by decide +kernel
theorem d_X1_keepTriple_11 : decode prog_3_method_5_code 11 = .ok (.if_icmp .ge 38, 3) := by decide +kernel
theorem d_X1_keepTriple_14 : decode prog_3_method_5_code 14 = .ok (.iload_n 3, 1) := by decide +kernel
theorem d_X1_keepTriple_15 : decode prog_3_method_5_code 15 = .ok (.iload 4, 2) := by decide +kernel
theorem d_X1_keepTriple_17 : decode prog_3_method_5_code 17 = .ok (.iadd, 1) := by decide +kernel
theorem d_X1_keepTriple_18 : decode prog_3_method_5_code 18 = .ok (.iconst 1, 1) := by decide +kernel
theorem d_X1_keepTriple_19 : decode prog_3_method_5_code 19 = .ok (.iushr, 1) := by decide +kernel
theorem d_X1_keepTriple_20 : decode prog_3_method_5_code 20 = .ok (.istore 5, 2) := by decide +kernel
theorem d_X1_keepTriple_22 : decode prog_3_method_5_code 22 = .ok (.aload_n 0, 1) := by decide +kernel
theorem d_X1_keepTriple_23 : decode prog_3_method_5_code 23 = .ok (.getfield 23, 3) := by decide +kernel
theorem d_X1_keepTriple_26 : decode prog_3_method_5_code 26 = .ok (.iload 5, 2) := by decide +kernel
theorem d_X1_keepTriple_28 : decode prog_3_method_5_code 28 = .ok (.laload, 1) := by decide +kernel
theorem d_X1_keepTriple_29 : decode prog_3_method_5_code 29 = .ok (.lload_n 1, 1) := by decide +kernel
theorem d_X1_keepTriple_30 : decode prog_3_method_5_code 30 = .ok (.lcmp, 1) := by decide +kernel
theorem d_X1_keepTriple_31 : decode prog_3_method_5_code 31 = .ok (.ifCond .ge 11, 3) := by decide +kernel
theorem d_X1_keepTriple_34 : decode prog_3_method_5_code 34 = .ok (.iload 5, 2) := by decide +kernel
theorem d_X1_keepTriple_36 : decode prog_3_method_5_code 36 = .ok (.iconst 1, 1) := by decide +kernel
theorem d_X1_keepTriple_37 : decode prog_3_method_5_code 37 = .ok (.iadd, 1) := by decide +kernel
theorem d_X1_keepTriple_38 : decode prog_3_method_5_code 38 = .ok (.istore_n 3, 1) := by decide +kernel
theorem d_X1_keepTriple_39 : decode prog_3_method_5_code 39 = .ok (.goto 7, 3) := by decide +kernel
theorem d_X1_keepTriple_42 : decode prog_3_method_5_code 42 = .ok (.iload 5, 2) := by decide +kernel
theorem d_X1_keepTriple_44 : decode prog_3_method_5_code 44 = .ok (.istore 4, 2) := by decide +kernel
theorem d_X1_keepTriple_46 : decode prog_3_method_5_code 46 = .ok (.goto (-38), 3) := by decide +kernel
theorem d_X1_keepTriple_49 : decode prog_3_method_5_code 49 = .ok (.iload_n 3, 1) := by decide +kernel
theorem d_X1_keepTriple_50 : decode prog_3_method_5_code 50 = .ok (.aload_n 0, 1) := by decide +kernel
theorem d_X1_keepTriple_51 : decode prog_3_method_5_code 51 = .ok (.getfield 31, 3) := by decide +kernel
theorem d_X1_keepTriple_54 : decode prog_3_method_5_code 54 = .ok (.if_icmp .ge 15, 3) := by decide +kernel
theorem d_X1_keepTriple_57 : decode prog_3_method_5_code 57 = .ok (.aload_n 0, 1) := by decide +kernel
theorem d_X1_keepTriple_58 : decode prog_3_method_5_code 58 = .ok (.getfield 23, 3) := by decide +kernel
theorem d_X1_keepTriple_61 : decode prog_3_method_5_code 61 = .ok (.iload_n 3, 1) := by decide +kernel
theorem d_X1_keepTriple_62 : decode prog_3_method_5_code 62 = .ok (.laload, 1) := by decide +kernel
theorem d_X1_keepTriple_63 : decode prog_3_method_5_code 63 = .ok (.lload_n 1, 1) := by decide +kernel
theorem d_X1_keepTriple_64 : decode prog_3_method_5_code 64 = .ok (.lcmp, 1) := by decide +kernel
theorem d_X1_keepTriple_65 : decode prog_3_method_5_code 65 = .ok (.ifCond .ne 4, 3) := by decide +kernel
theorem d_X1_keepTriple_68 : decode prog_3_method_5_code 68 = .ok (.return_, 1) := by decide +kernel
theorem d_X1_keepTriple_69 : decode prog_3_method_5_code 69 = .ok (.aload_n 0, 1) := by decide +kernel
theorem d_X1_keepTriple_70 : decode prog_3_method_5_code 70 = .ok (.getfield 23, 3) := by decide +kernel
theorem d_X1_keepTriple_73 : decode prog_3_method_5_code 73 = .ok (.iload_n 3, 1) := by decide +kernel
theorem d_X1_keepTriple_74 : decode prog_3_method_5_code 74 = .ok (.aload_n 0, 1) := by decide +kernel
theorem d_X1_keepTriple_75 : decode prog_3_method_5_code 75 = .ok (.getfield 23, 3) := by decide +kernel
theorem d_X1_keepTriple_78 : decode prog_3_method_5_code 78 = .ok (.iload_n 3, 1) := by decide +kernel
theorem d_X1_keepTriple_79 : decode prog_3_method_5_code 79 = .ok (.iconst 1, 1) := by decide +kernel
theorem d_X1_keepTriple_80 : decode prog_3_method_5_code 80 = .ok (.iadd, 1) := by decide +kernel
theorem d_X1_keepTriple_81 : decode prog_3_method_5_code 81 = .ok (.aload_n 0, 1) := by decide +kernel
theorem d_X1_keepTriple_82 : decode prog_3_method_5_code 82 = .ok (.getfield 31, 3) := by decide +kernel
theorem d_X1_keepTriple_85 : decode prog_3_method_5_code 85 = .ok (.iload_n 3, 1) := by decide +kernel
theorem d_X1_keepTriple_86 : decode prog_3_method_5_code 86 = .ok (.isub, 1) := by decide +kernel
theorem d_X1_keepTriple_87 : decode prog_3_method_5_code 87 = .ok (.invokestatic 68, 3) := by decide +kernel
theorem d_X1_keepTriple_90 : decode prog_3_method_5_code 90 = .ok (.aload_n 0, 1) := by decide +kernel
theorem d_X1_keepTriple_91 : decode prog_3_method_5_code 91 = .ok (.getfield 23, 3) := by decide +kernel
theorem d_X1_keepTriple_94 : decode prog_3_method_5_code 94 = .ok (.iload_n 3, 1) := by decide +kernel
theorem d_X1_keepTriple_95 : decode prog_3_method_5_code 95 = .ok (.lload_n 1, 1) := by decide +kernel
theorem d_X1_keepTriple_96 : decode prog_3_method_5_code 96 = .ok (.lastore, 1) := by decide +kernel
theorem d_X1_keepTriple_97 : decode prog_3_method_5_code 97 = .ok (.aload_n 0, 1) := by decide +kernel
theorem d_X1_keepTriple_98 : decode prog_3_method_5_code 98 = .ok (.dup, 1) := by decide +kernel
theorem d_X1_keepTriple_99 : decode prog_3_method_5_code 99 = .ok (.getfield 31, 3) := by decide +kernel
theorem d_X1_keepTriple_102 : decode prog_3_method_5_code 102 = .ok (.iconst 1, 1) := by decide +kernel
theorem d_X1_keepTriple_103 : decode prog_3_method_5_code 103 = .ok (.iadd, 1) := by decide +kernel
theorem d_X1_keepTriple_104 : decode prog_3_method_5_code 104 = .ok (.putfield 31, 3) := by decide +kernel
theorem d_X1_keepTriple_107 : decode prog_3_method_5_code 107 = .ok (.return_, 1) := by decide +kernel
abbrev y_X0_atom : MethodName := ⟨"VirtualRewrite", "atom", "(III)I"⟩
theorem d_X0_atom_0 : decode prog_1_method_7_code 0 = .ok (.iload_n 1, 1) := by decide +kernel
theorem d_X0_atom_1 : decode prog_1_method_7_code 1 = .ok (.bipush 8, 2) := by decide +kernel
theorem d_X0_atom_3 : decode prog_1_method_7_code 3 = .ok (.invokestatic 57, 3) := by decide +kernel
theorem d_X0_atom_6 : decode prog_1_method_7_code 6 = .ok (.ifCond .eq 17, 3) := by decide +kernel
theorem d_X0_atom_9 : decode prog_1_method_7_code 9 = .ok (.iload_n 2, 1) := by decide +kernel
theorem d_X0_atom_10 : decode prog_1_method_7_code 10 = .ok (.invokestatic 113, 3) := by decide +kernel
theorem d_X0_atom_13 : decode prog_1_method_7_code 13 = .ok (.ifCond .eq 10, 3) := by decide +kernel
theorem d_X0_atom_16 : decode prog_1_method_7_code 16 = .ok (.iload_n 3, 1) := by decide +kernel
theorem d_X0_atom_17 : decode prog_1_method_7_code 17 = .ok (.invokestatic 113, 3) := by decide +kernel
theorem d_X0_atom_20 : decode prog_1_method_7_code 20 = .ok (.ifCond .ne 5, 3) := by decide +kernel
theorem d_X0_atom_23 : decode prog_1_method_7_code 23 = .ok (.iconst (-1), 1) := by decide +kernel
theorem d_X0_atom_24 : decode prog_1_method_7_code 24 = .ok (.ireturn, 1) := by decide +kernel
theorem d_X0_atom_25 : decode prog_1_method_7_code 25 = .ok (.aload_n 0, 1) := by decide +kernel
theorem d_X0_atom_26 : decode prog_1_method_7_code 26 = .ok (.getfield 19, 3) := by decide +kernel
theorem d_X0_atom_29 : decode prog_1_method_7_code 29 = .ok (.getfield 116, 3) := by decide +kernel
theorem d_X0_atom_32 : decode prog_1_method_7_code 32 = .ok (.iconst 4, 1) := by decide +kernel
theorem d_X0_atom_33 : decode prog_1_method_7_code 33 = .ok (.if_icmp .lt 6, 3) := by decide +kernel
theorem d_X0_atom_36 : decode prog_1_method_7_code 36 = .ok (.bipush (-2), 2) := by decide +kernel
theorem d_X0_atom_38 : decode prog_1_method_7_code 38 = .ok (.ireturn, 1) := by decide +kernel
theorem d_X0_atom_39 : decode prog_1_method_7_code 39 = .ok (.aload_n 0, 1) := by decide +kernel
theorem d_X0_atom_40 : decode prog_1_method_7_code 40 = .ok (.getfield 19, 3) := by decide +kernel
theorem d_X0_atom_43 : decode prog_1_method_7_code 43 = .ok (.iload_n 1, 1) := by decide +kernel
theorem d_X0_atom_44 : decode prog_1_method_7_code 44 = .ok (.iload_n 2, 1) := by decide +kernel
theorem d_X0_atom_45 : decode prog_1_method_7_code 45 = .ok (.iload_n 3, 1) := by decide +kernel
theorem d_X0_atom_46 : decode prog_1_method_7_code 46 = .ok (.invokevirtual 119, 3) := by decide +kernel
theorem d_X0_atom_49 : decode prog_1_method_7_code 49 = .ok (.aload_n 0, 1) := by decide +kernel
theorem d_X0_atom_50 : decode prog_1_method_7_code 50 = .ok (.getfield 28, 3) := by decide +kernel
theorem d_X0_atom_53 : decode prog_1_method_7_code 53 = .ok (.invokevirtual 106, 3) := by decide +kernel
theorem d_X0_atom_56 : decode prog_1_method_7_code 56 = .ok (.aload_n 0, 1) := by decide +kernel
theorem d_X0_atom_57 : decode prog_1_method_7_code 57 = .ok (.getfield 19, 3) := by decide +kernel
theorem d_X0_atom_60 : decode prog_1_method_7_code 60 = .ok (.getfield 116, 3) := by decide +kernel
theorem d_X0_atom_63 : decode prog_1_method_7_code 63 = .ok (.ireturn, 1) := by decide +kernel
abbrev y_X0_isPlace : MethodName := ⟨"VirtualRewrite", "isPlace", "(I)Z"⟩
theorem d_X0_isPlace_0 : decode prog_1_method_19_code 0 = .ok (.iload_n 0, 1) := by decide +kernel
theorem d_X0_isPlace_1 : decode prog_1_method_19_code 1 = .ok (.bipush (-6), 2) := by decide +kernel
theorem d_X0_isPlace_3 : decode prog_1_method_19_code 3 = .ok (.if_icmp .lt 13, 3) := by decide +kernel
theorem d_X0_isPlace_6 : decode prog_1_method_19_code 6 = .ok (.iload_n 0, 1) := by decide +kernel
theorem d_X0_isPlace_7 : decode prog_1_method_19_code 7 = .ok (.ldc 193, 2) := by decide +kernel
theorem d_X0_isPlace_9 : decode prog_1_method_19_code 9 = .ok (.if_icmp .ge 7, 3) := by decide +kernel
theorem d_X0_isPlace_12 : decode prog_1_method_19_code 12 = .ok (.iconst 1, 1) := by decide +kernel
theorem d_X0_isPlace_13 : decode prog_1_method_19_code 13 = .ok (.goto 4, 3) := by decide +kernel
theorem d_X0_isPlace_16 : decode prog_1_method_19_code 16 = .ok (.iconst 0, 1) := by decide +kernel
theorem d_X0_isPlace_17 : decode prog_1_method_19_code 17 = .ok (.ireturn, 1) := by decide +kernel
abbrev y_X4_append : MethodName := ⟨"VirtualRewrite$Question", "append", "(III)V"⟩
theorem d_X4_append_0 : decode prog_6_method_2_code 0 = .ok (.aload_n 0, 1) := by decide +kernel
theorem d_X4_append_1 : decode prog_6_method_2_code 1 = .ok (.getfield 9, 3) := by decide +kernel
theorem d_X4_append_4 : decode prog_6_method_2_code 4 = .ok (.aload_n 0, 1) := by decide +kernel
theorem d_X4_append_5 : decode prog_6_method_2_code 5 = .ok (.getfield 24, 3) := by decide +kernel
theorem d_X4_append_8 : decode prog_6_method_2_code 8 = .ok (.iload_n 1, 1) := by decide +kernel
theorem d_X4_append_9 : decode prog_6_method_2_code 9 = .ok (.iastore, 1) := by decide +kernel
theorem d_X4_append_10 : decode prog_6_method_2_code 10 = .ok (.aload_n 0, 1) := by decide +kernel
theorem d_X4_append_11 : decode prog_6_method_2_code 11 = .ok (.getfield 15, 3) := by decide +kernel
theorem d_X4_append_14 : decode prog_6_method_2_code 14 = .ok (.aload_n 0, 1) := by decide +kernel
theorem d_X4_append_15 : decode prog_6_method_2_code 15 = .ok (.getfield 24, 3) := by decide +kernel
theorem d_X4_append_18 : decode prog_6_method_2_code 18 = .ok (.iconst 2, 1) := by decide +kernel
theorem d_X4_append_19 : decode prog_6_method_2_code 19 = .ok (.imul, 1) := by decide +kernel
theorem d_X4_append_20 : decode prog_6_method_2_code 20 = .ok (.iload_n 2, 1) := by decide +kernel
theorem d_X4_append_21 : decode prog_6_method_2_code 21 = .ok (.iastore, 1) := by decide +kernel
theorem d_X4_append_22 : decode prog_6_method_2_code 22 = .ok (.aload_n 0, 1) := by decide +kernel
theorem d_X4_append_23 : decode prog_6_method_2_code 23 = .ok (.getfield 15, 3) := by decide +kernel
theorem d_X4_append_26 : decode prog_6_method_2_code 26 = .ok (.aload_n 0, 1) := by decide +kernel
theorem d_X4_append_27 : decode prog_6_method_2_code 27 = .ok (.getfield 24, 3) := by decide +kernel
theorem d_X4_append_30 : decode prog_6_method_2_code 30 = .ok (.iconst 2, 1) := by decide +kernel
theorem d_X4_append_31 : decode prog_6_method_2_code 31 = .ok (.imul, 1) := by decide +kernel
theorem d_X4_append_32 : decode prog_6_method_2_code 32 = .ok (.iconst 1, 1) := by decide +kernel
theorem d_X4_append_33 : decode prog_6_method_2_code 33 = .ok (.iadd, 1) := by decide +kernel
theorem d_X4_append_34 : decode prog_6_method_2_code 34 = .ok (.iload_n 3, 1) := by decide +kernel
theorem d_X4_append_35 : decode prog_6_method_2_code 35 = .ok (.iastore, 1) := by decide +kernel
theorem d_X4_append_36 : decode prog_6_method_2_code 36 = .ok (.aload_n 0, 1) := by decide +kernel
theorem d_X4_append_37 : decode prog_6_method_2_code 37 = .ok (.dup, 1) := by decide +kernel
theorem d_X4_append_38 : decode prog_6_method_2_code 38 = .ok (.getfield 24, 3) := by decide +kernel
theorem d_X4_append_41 : decode prog_6_method_2_code 41 = .ok (.iconst 1, 1) := by decide +kernel
theorem d_X4_append_42 : decode prog_6_method_2_code 42 = .ok (.iadd, 1) := by decide +kernel
theorem d_X4_append_43 : decode prog_6_method_2_code 43 = .ok (.putfield 24, 3) := by decide +kernel
theorem d_X4_append_46 : decode prog_6_method_2_code 46 = .ok (.return_, 1) := by decide +kernel
abbrev y_X0_span : MethodName := ⟨"VirtualRewrite", "span", "(III)I"⟩
theorem d_X0_span_0 : decode prog_1_method_8_code 0 = .ok (.iload_n 1, 1) := by decide +kernel
theorem d_X0_span_1 : decode prog_1_method_8_code 1 = .ok (.bipush 6, 2) := by decide +kernel
theorem d_X0_span_3 : decode prog_1_method_8_code 3 = .ok (.invokestatic 57, 3) := by decide +kernel
theorem d_X0_span_6 : decode prog_1_method_8_code 6 = .ok (.ifCond .ne 5, 3) := by decide +kernel
theorem d_X0_span_9 : decode prog_1_method_8_code 9 = .ok (.iconst (-1), 1) := by decide +kernel
theorem d_X0_span_10 : decode prog_1_method_8_code 10 = .ok (.ireturn, 1) := by decide +kernel
theorem d_X0_span_11 : decode prog_1_method_8_code 11 = .ok (.aload_n 0, 1) := by decide +kernel
theorem d_X0_span_12 : decode prog_1_method_8_code 12 = .ok (.getfield 19, 3) := by decide +kernel
theorem d_X0_span_15 : decode prog_1_method_8_code 15 = .ok (.getfield 120, 3) := by decide +kernel
theorem d_X0_span_18 : decode prog_1_method_8_code 18 = .ok (.iconst 4, 1) := by decide +kernel
theorem d_X0_span_19 : decode prog_1_method_8_code 19 = .ok (.if_icmp .lt 6, 3) := by decide +kernel
theorem d_X0_span_22 : decode prog_1_method_8_code 22 = .ok (.bipush (-2), 2) := by decide +kernel
theorem d_X0_span_24 : decode prog_1_method_8_code 24 = .ok (.ireturn, 1) := by decide +kernel
theorem d_X0_span_25 : decode prog_1_method_8_code 25 = .ok (.aload_n 0, 1) := by decide +kernel
theorem d_X0_span_26 : decode prog_1_method_8_code 26 = .ok (.getfield 19, 3) := by decide +kernel
theorem d_X0_span_29 : decode prog_1_method_8_code 29 = .ok (.iload_n 1, 1) := by decide +kernel
theorem d_X0_span_30 : decode prog_1_method_8_code 30 = .ok (.iload_n 2, 1) := by decide +kernel
theorem d_X0_span_31 : decode prog_1_method_8_code 31 = .ok (.iload_n 3, 1) := by decide +kernel
theorem d_X0_span_32 : decode prog_1_method_8_code 32 = .ok (.invokevirtual 123, 3) := by decide +kernel
theorem d_X0_span_35 : decode prog_1_method_8_code 35 = .ok (.aload_n 0, 1) := by decide +kernel
theorem d_X0_span_36 : decode prog_1_method_8_code 36 = .ok (.getfield 19, 3) := by decide +kernel
theorem d_X0_span_39 : decode prog_1_method_8_code 39 = .ok (.getfield 120, 3) := by decide +kernel
theorem d_X0_span_42 : decode prog_1_method_8_code 42 = .ok (.ireturn, 1) := by decide +kernel
abbrev y_X4_narrow : MethodName := ⟨"VirtualRewrite$Question", "narrow", "(III)V"⟩
theorem d_X4_narrow_0 : decode prog_6_method_3_code 0 = .ok (.aload_n 0, 1) := by decide +kernel
theorem d_X4_narrow_1 : decode prog_6_method_3_code 1 = .ok (.getfield 18, 3) := by decide +kernel
theorem d_X4_narrow_4 : decode prog_6_method_3_code 4 = .ok (.iload_n 1, 1) := by decide +kernel
theorem d_X4_narrow_5 : decode prog_6_method_3_code 5 = .ok (.aload_n 0, 1) := by decide +kernel
theorem d_X4_narrow_6 : decode prog_6_method_3_code 6 = .ok (.getfield 18, 3) := by decide +kernel
theorem d_X4_narrow_9 : decode prog_6_method_3_code 9 = .ok (.iload_n 1, 1) := by decide +kernel
theorem d_X4_narrow_10 : decode prog_6_method_3_code 10 = .ok (.iaload, 1) := by decide +kernel
theorem d_X4_narrow_11 : decode prog_6_method_3_code 11 = .ok (.iload_n 2, 1) := by decide +kernel
theorem d_X4_narrow_12 : decode prog_6_method_3_code 12 = .ok (.invokestatic 31, 3) := by decide +kernel
theorem d_X4_narrow_15 : decode prog_6_method_3_code 15 = .ok (.iastore, 1) := by decide +kernel
theorem d_X4_narrow_16 : decode prog_6_method_3_code 16 = .ok (.aload_n 0, 1) := by decide +kernel
theorem d_X4_narrow_17 : decode prog_6_method_3_code 17 = .ok (.getfield 21, 3) := by decide +kernel
theorem d_X4_narrow_20 : decode prog_6_method_3_code 20 = .ok (.iload_n 1, 1) := by decide +kernel
theorem d_X4_narrow_21 : decode prog_6_method_3_code 21 = .ok (.aload_n 0, 1) := by decide +kernel
theorem d_X4_narrow_22 : decode prog_6_method_3_code 22 = .ok (.getfield 21, 3) := by decide +kernel
theorem d_X4_narrow_25 : decode prog_6_method_3_code 25 = .ok (.iload_n 1, 1) := by decide +kernel
theorem d_X4_narrow_26 : decode prog_6_method_3_code 26 = .ok (.iaload, 1) := by decide +kernel
theorem d_X4_narrow_27 : decode prog_6_method_3_code 27 = .ok (.iload_n 3, 1) := by decide +kernel
theorem d_X4_narrow_28 : decode prog_6_method_3_code 28 = .ok (.invokestatic 37, 3) := by decide +kernel
theorem d_X4_narrow_31 : decode prog_6_method_3_code 31 = .ok (.iastore, 1) := by decide +kernel
theorem d_X4_narrow_32 : decode prog_6_method_3_code 32 = .ok (.aload_n 0, 1) := by decide +kernel
theorem d_X4_narrow_33 : decode prog_6_method_3_code 33 = .ok (.dup, 1) := by decide +kernel
theorem d_X4_narrow_34 : decode prog_6_method_3_code 34 = .ok (.getfield 28, 3) := by decide +kernel
theorem d_X4_narrow_37 : decode prog_6_method_3_code 37 = .ok (.iconst 1, 1) := by decide +kernel
theorem d_X4_narrow_38 : decode prog_6_method_3_code 38 = .ok (.iadd, 1) := by decide +kernel
theorem d_X4_narrow_39 : decode prog_6_method_3_code 39 = .ok (.putfield 28, 3) := by decide +kernel
theorem d_X4_narrow_42 : decode prog_6_method_3_code 42 = .ok (.return_, 1) := by decide +kernel
