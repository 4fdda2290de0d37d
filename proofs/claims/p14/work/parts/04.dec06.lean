abbrev y_X9_drop : MethodName := ⟨"VirtualRewriteModel", "drop", "(II)I"⟩
theorem d_X9_drop_0 : decode prog_11_method_7_code 0 = .ok (.aload_n 0, 1) := by decide +kernel
theorem d_X9_drop_1 : decode prog_11_method_7_code 1 = .ok (.iconst 0, 1) := by decide +kernel
theorem d_X9_drop_2 : decode prog_11_method_7_code 2 = .ok (.putfield 80, 3) := by decide +kernel
theorem d_X9_drop_5 : decode prog_11_method_7_code 5 = .ok (.iload_n 1, 1) := by decide +kernel
theorem d_X9_drop_6 : decode prog_11_method_7_code 6 = .ok (.iconst 0, 1) := by decide +kernel
theorem d_X9_drop_7 : decode prog_11_method_7_code 7 = .ok (.iconst 3, 1) := by decide +kernel
theorem d_X9_drop_8 : decode prog_11_method_7_code 8 = .ok (.invokestatic 84, 3) := by decide +kernel
theorem d_X9_drop_11 : decode prog_11_method_7_code 11 = .ok (.ifCond .eq 19, 3) := by decide +kernel
theorem d_X9_drop_14 : decode prog_11_method_7_code 14 = .ok (.iload_n 2, 1) := by decide +kernel
theorem d_X9_drop_15 : decode prog_11_method_7_code 15 = .ok (.iconst 0, 1) := by decide +kernel
theorem d_X9_drop_16 : decode prog_11_method_7_code 16 = .ok (.aload_n 0, 1) := by decide +kernel
theorem d_X9_drop_17 : decode prog_11_method_7_code 17 = .ok (.getfield 13, 3) := by decide +kernel
theorem d_X9_drop_20 : decode prog_11_method_7_code 20 = .ok (.iload_n 1, 1) := by decide +kernel
theorem d_X9_drop_21 : decode prog_11_method_7_code 21 = .ok (.iaload, 1) := by decide +kernel
theorem d_X9_drop_22 : decode prog_11_method_7_code 22 = .ok (.iconst 1, 1) := by decide +kernel
theorem d_X9_drop_23 : decode prog_11_method_7_code 23 = .ok (.isub, 1) := by decide +kernel
theorem d_X9_drop_24 : decode prog_11_method_7_code 24 = .ok (.invokestatic 84, 3) := by decide +kernel
theorem d_X9_drop_27 : decode prog_11_method_7_code 27 = .ok (.ifCond .ne 5, 3) := by decide +kernel
theorem d_X9_drop_30 : decode prog_11_method_7_code 30 = .ok (.iconst (-1), 1) := by decide +kernel
theorem d_X9_drop_31 : decode prog_11_method_7_code 31 = .ok (.ireturn, 1) := by decide +kernel
theorem d_X9_drop_32 : decode prog_11_method_7_code 32 = .ok (.aload_n 0, 1) := by decide +kernel
theorem d_X9_drop_33 : decode prog_11_method_7_code 33 = .ok (.getfield 13, 3) := by decide +kernel
theorem d_X9_drop_36 : decode prog_11_method_7_code 36 = .ok (.iload_n 1, 1) := by decide +kernel
theorem d_X9_drop_37 : decode prog_11_method_7_code 37 = .ok (.dup2, 1) := by decide +kernel
theorem d_X9_drop_38 : decode prog_11_method_7_code 38 = .ok (.iaload, 1) := by decide +kernel
theorem d_X9_drop_39 : decode prog_11_method_7_code 39 = .ok (.iconst 1, 1) := by decide +kernel
theorem d_X9_drop_40 : decode prog_11_method_7_code 40 = .ok (.isub, 1) := by decide +kernel
theorem d_X9_drop_41 : decode prog_11_method_7_code 41 = .ok (.iastore, 1) := by decide +kernel
theorem d_X9_drop_42 : decode prog_11_method_7_code 42 = .ok (.bipush 60, 2) := by decide +kernel
theorem d_X9_drop_44 : decode prog_11_method_7_code 44 = .ok (.iload_n 1, 1) := by decide +kernel
theorem d_X9_drop_45 : decode prog_11_method_7_code 45 = .ok (.imul, 1) := by decide +kernel
theorem d_X9_drop_46 : decode prog_11_method_7_code 46 = .ok (.iconst 3, 1) := by decide +kernel
theorem d_X9_drop_47 : decode prog_11_method_7_code 47 = .ok (.iload_n 2, 1) := by decide +kernel
theorem d_X9_drop_48 : decode prog_11_method_7_code 48 = .ok (.imul, 1) := by decide +kernel
theorem d_X9_drop_49 : decode prog_11_method_7_code 49 = .ok (.iadd, 1) := by decide +kernel
theorem d_X9_drop_50 : decode prog_11_method_7_code 50 = .ok (.istore_n 3, 1) := by decide +kernel
theorem d_X9_drop_51 : decode prog_11_method_7_code 51 = .ok (.iload_n 3, 1) := by decide +kernel
theorem d_X9_drop_52 : decode prog_11_method_7_code 52 = .ok (.bipush 60, 2) := by decide +kernel
theorem d_X9_drop_54 : decode prog_11_method_7_code 54 = .ok (.iload_n 1, 1) := by decide +kernel
theorem d_X9_drop_55 : decode prog_11_method_7_code 55 = .ok (.imul, 1) := by decide +kernel
theorem d_X9_drop_56 : decode prog_11_method_7_code 56 = .ok (.iconst 3, 1) := by decide +kernel
theorem d_X9_drop_57 : decode prog_11_method_7_code 57 = .ok (.aload_n 0, 1) := by decide +kernel
theorem d_X9_drop_58 : decode prog_11_method_7_code 58 = .ok (.getfield 13, 3) := by decide +kernel
theorem d_X9_drop_61 : decode prog_11_method_7_code 61 = .ok (.iload_n 1, 1) := by decide +kernel
theorem d_X9_drop_62 : decode prog_11_method_7_code 62 = .ok (.iaload, 1) := by decide +kernel
theorem d_X9_drop_63 : decode prog_11_method_7_code 63 = .ok (.imul, 1) := by decide +kernel
theorem d_X9_drop_64 : decode prog_11_method_7_code 64 = .ok (.iadd, 1) := by decide +kernel
theorem d_X9_drop_65 : decode prog_11_method_7_code 65 = .ok (.if_icmp .ge 23, 3) := by decide +kernel
theorem d_X9_drop_68 : decode prog_11_method_7_code 68 = .ok (.aload_n 0, 1) := by decide +kernel
theorem d_X9_drop_69 : decode prog_11_method_7_code 69 = .ok (.getfield 7, 3) := by decide +kernel
theorem d_X9_drop_72 : decode prog_11_method_7_code 72 = .ok (.iload_n 3, 1) := by decide +kernel
theorem d_X9_drop_73 : decode prog_11_method_7_code 73 = .ok (.aload_n 0, 1) := by decide +kernel
theorem d_X9_drop_74 : decode prog_11_method_7_code 74 = .ok (.getfield 7, 3) := by decide +kernel
theorem d_X9_drop_77 : decode prog_11_method_7_code 77 = .ok (.iload_n 3, 1) := by decide +kernel
theorem d_X9_drop_78 : decode prog_11_method_7_code 78 = .ok (.iconst 3, 1) := by decide +kernel
theorem d_X9_drop_79 : decode prog_11_method_7_code 79 = .ok (.iadd, 1) := by decide +kernel
theorem d_X9_drop_80 : decode prog_11_method_7_code 80 = .ok (.iaload, 1) := by decide +kernel
theorem d_X9_drop_81 : decode prog_11_method_7_code 81 = .ok (.iastore, 1) := by decide +kernel
theorem d_X9_drop_82 : decode prog_11_method_7_code 82 = .ok (.iinc 3 1, 3) := by decide +kernel
theorem d_X9_drop_85 : decode prog_11_method_7_code 85 = .ok (.goto (-34), 3) := by decide +kernel
theorem d_X9_drop_88 : decode prog_11_method_7_code 88 = .ok (.aload_n 0, 1) := by decide +kernel
theorem d_X9_drop_89 : decode prog_11_method_7_code 89 = .ok (.getfield 13, 3) := by decide +kernel
theorem d_X9_drop_92 : decode prog_11_method_7_code 92 = .ok (.iload_n 1, 1) := by decide +kernel
theorem d_X9_drop_93 : decode prog_11_method_7_code 93 = .ok (.iaload, 1) := by decide +kernel
theorem d_X9_drop_94 : decode prog_11_method_7_code 94 = .ok (.ireturn, 1) := by decide +kernel
abbrev y_X9_mapping : MethodName := ⟨"VirtualRewriteModel", "mapping", "(IIIIII)I"⟩
theorem d_X9_mapping_0 : decode prog_11_method_8_code 0 = .ok (.aload_n 0, 1) := by decide +kernel
theorem d_X9_mapping_1 : decode prog_11_method_8_code 1 = .ok (.iconst 0, 1) := by decide +kernel
theorem d_X9_mapping_2 : decode prog_11_method_8_code 2 = .ok (.putfield 80, 3) := by decide +kernel
theorem d_X9_mapping_5 : decode prog_11_method_8_code 5 = .ok (.iload_n 1, 1) := by decide +kernel
theorem d_X9_mapping_6 : decode prog_11_method_8_code 6 = .ok (.iconst 0, 1) := by decide +kernel
theorem d_X9_mapping_7 : decode prog_11_method_8_code 7 = .ok (.iconst 3, 1) := by decide +kernel
theorem d_X9_mapping_8 : decode prog_11_method_8_code 8 = .ok (.invokestatic 84, 3) := by decide +kernel
theorem d_X9_mapping_11 : decode prog_11_method_8_code 11 = .ok (.ifCond .eq 56, 3) := by decide +kernel
theorem d_X9_mapping_14 : decode prog_11_method_8_code 14 = .ok (.iload_n 2, 1) := by decide +kernel
theorem d_X9_mapping_15 : decode prog_11_method_8_code 15 = .ok (.iconst 0, 1) := by decide +kernel
theorem d_X9_mapping_16 : decode prog_11_method_8_code 16 = .ok (.bipush 7, 2) := by decide +kernel
theorem d_X9_mapping_18 : decode prog_11_method_8_code 18 = .ok (.invokestatic 84, 3) := by decide +kernel
theorem d_X9_mapping_21 : decode prog_11_method_8_code 21 = .ok (.ifCond .eq 46, 3) := by decide +kernel
theorem d_X9_mapping_24 : decode prog_11_method_8_code 24 = .ok (.iload_n 3, 1) := by decide +kernel
theorem d_X9_mapping_25 : decode prog_11_method_8_code 25 = .ok (.iconst 0, 1) := by decide +kernel
theorem d_X9_mapping_26 : decode prog_11_method_8_code 26 = .ok (.iconst 5, 1) := by decide +kernel
theorem d_X9_mapping_27 : decode prog_11_method_8_code 27 = .ok (.invokestatic 84, 3) := by decide +kernel
theorem d_X9_mapping_30 : decode prog_11_method_8_code 30 = .ok (.ifCond .eq 37, 3) := by decide +kernel
theorem d_X9_mapping_33 : decode prog_11_method_8_code 33 = .ok (.iload 4, 2) := by decide +kernel
theorem d_X9_mapping_35 : decode prog_11_method_8_code 35 = .ok (.iconst 0, 1) := by decide +kernel
theorem d_X9_mapping_36 : decode prog_11_method_8_code 36 = .ok (.iconst 2, 1) := by decide +kernel
theorem d_X9_mapping_37 : decode prog_11_method_8_code 37 = .ok (.invokestatic 84, 3) := by decide +kernel
theorem d_X9_mapping_40 : decode prog_11_method_8_code 40 = .ok (.ifCond .eq 27, 3) := by decide +kernel
theorem d_X9_mapping_43 : decode prog_11_method_8_code 43 = .ok (.iload 5, 2) := by decide +kernel
theorem d_X9_mapping_45 : decode prog_11_method_8_code 45 = .ok (.iconst 0, 1) := by decide +kernel
theorem d_X9_mapping_46 : decode prog_11_method_8_code 46 = .ok (.iconst 5, 1) := by decide +kernel
theorem d_X9_mapping_47 : decode prog_11_method_8_code 47 = .ok (.invokestatic 84, 3) := by decide +kernel
theorem d_X9_mapping_50 : decode prog_11_method_8_code 50 = .ok (.ifCond .eq 17, 3) := by decide +kernel
theorem d_X9_mapping_53 : decode prog_11_method_8_code 53 = .ok (.iload 6, 2) := by decide +kernel
theorem d_X9_mapping_55 : decode prog_11_method_8_code 55 = .ok (.iconst 0, 1) := by decide +kernel
theorem d_X9_mapping_56 : decode prog_11_method_8_code 56 = .ok (.iconst 2, 1) := by decide +kernel
theorem d_X9_mapping_57 : decode prog_11_method_8_code 57 = .ok (.invokestatic 84, 3) := by decide +kernel
theorem d_X9_mapping_60 : decode prog_11_method_8_code 60 = .ok (.ifCond .eq 7, 3) := by decide +kernel
theorem d_X9_mapping_63 : decode prog_11_method_8_code 63 = .ok (.iconst 1, 1) := by decide +kernel
theorem d_X9_mapping_64 : decode prog_11_method_8_code 64 = .ok (.goto 4, 3) := by decide +kernel
theorem d_X9_mapping_67 : decode prog_11_method_8_code 67 = .ok (.iconst 0, 1) := by decide +kernel
theorem d_X9_mapping_68 : decode prog_11_method_8_code 68 = .ok (.istore 7, 2) := by decide +kernel
theorem d_X9_mapping_70 : decode prog_11_method_8_code 70 = .ok (.iload 7, 2) := by decide +kernel
theorem d_X9_mapping_72 : decode prog_11_method_8_code 72 = .ok (.ifCond .ne 5, 3) := by decide +kernel
theorem d_X9_mapping_75 : decode prog_11_method_8_code 75 = .ok (.iconst (-1), 1) := by decide +kernel
theorem d_X9_mapping_76 : decode prog_11_method_8_code 76 = .ok (.ireturn, 1) := by decide +kernel
theorem d_X9_mapping_77 : decode prog_11_method_8_code 77 = .ok (.aload_n 0, 1) := by decide +kernel
theorem d_X9_mapping_78 : decode prog_11_method_8_code 78 = .ok (.getfield 92, 3) := by decide +kernel
theorem d_X9_mapping_81 : decode prog_11_method_8_code 81 = .ok (.bipush 12, 2) := by decide +kernel
theorem d_X9_mapping_83 : decode prog_11_method_8_code 83 = .ok (.if_icmp .ne 6, 3) := by decide +kernel
theorem d_X9_mapping_86 : decode prog_11_method_8_code 86 = .ok (.bipush (-2), 2) := by decide +kernel
theorem d_X9_mapping_88 : decode prog_11_method_8_code 88 = .ok (.ireturn, 1) := by decide +kernel
theorem d_X9_mapping_89 : decode prog_11_method_8_code 89 = .ok (.aload_n 0, 1) := by decide +kernel
theorem d_X9_mapping_90 : decode prog_11_method_8_code 90 = .ok (.getfield 20, 3) := by decide +kernel
theorem d_X9_mapping_93 : decode prog_11_method_8_code 93 = .ok (.aload_n 0, 1) := by decide +kernel
theorem d_X9_mapping_94 : decode prog_11_method_8_code 94 = .ok (.getfield 92, 3) := by decide +kernel
theorem d_X9_mapping_97 : decode prog_11_method_8_code 97 = .ok (.iload_n 1, 1) := by decide +kernel
theorem d_X9_mapping_98 : decode prog_11_method_8_code 98 = .ok (.iastore, 1) := by decide +kernel
theorem d_X9_mapping_99 : decode prog_11_method_8_code 99 = .ok (.aload_n 0, 1) := by decide +kernel
theorem d_X9_mapping_100 : decode prog_11_method_8_code 100 = .ok (.getfield 23, 3) := by decide +kernel
theorem d_X9_mapping_103 : decode prog_11_method_8_code 103 = .ok (.aload_n 0, 1) := by decide +kernel
theorem d_X9_mapping_104 : decode prog_11_method_8_code 104 = .ok (.getfield 92, 3) := by decide +kernel
theorem d_X9_mapping_107 : decode prog_11_method_8_code 107 = .ok (.iload_n 2, 1) := by decide +kernel
theorem d_X9_mapping_108 : decode prog_11_method_8_code 108 = .ok (.iastore, 1) := by decide +kernel
theorem d_X9_mapping_109 : decode prog_11_method_8_code 109 = .ok (.aload_n 0, 1) := by decide +kernel
theorem d_X9_mapping_110 : decode prog_11_method_8_code 110 = .ok (.getfield 26, 3) := by decide +kernel
theorem d_X9_mapping_113 : decode prog_11_method_8_code 113 = .ok (.iconst 2, 1) := by decide +kernel
theorem d_X9_mapping_114 : decode prog_11_method_8_code 114 = .ok (.aload_n 0, 1) := by decide +kernel
theorem d_X9_mapping_115 : decode prog_11_method_8_code 115 = .ok (.getfield 92, 3) := by decide +kernel
theorem d_X9_mapping_118 : decode prog_11_method_8_code 118 = .ok (.imul, 1) := by decide +kernel
theorem d_X9_mapping_119 : decode prog_11_method_8_code 119 = .ok (.iload_n 3, 1) := by decide +kernel
theorem d_X9_mapping_120 : decode prog_11_method_8_code 120 = .ok (.iastore, 1) := by decide +kernel
theorem d_X9_mapping_121 : decode prog_11_method_8_code 121 = .ok (.aload_n 0, 1) := by decide +kernel
theorem d_X9_mapping_122 : decode prog_11_method_8_code 122 = .ok (.getfield 26, 3) := by decide +kernel
theorem d_X9_mapping_125 : decode prog_11_method_8_code 125 = .ok (.iconst 2, 1) := by decide +kernel
theorem d_X9_mapping_126 : decode prog_11_method_8_code 126 = .ok (.aload_n 0, 1) := by decide +kernel
theorem d_X9_mapping_127 : decode prog_11_method_8_code 127 = .ok (.getfield 92, 3) := by decide +kernel
theorem d_X9_mapping_130 : decode prog_11_method_8_code 130 = .ok (.imul, 1) := by decide +kernel
theorem d_X9_mapping_131 : decode prog_11_method_8_code 131 = .ok (.iconst 1, 1) := by decide +kernel
theorem d_X9_mapping_132 : decode prog_11_method_8_code 132 = .ok (.iadd, 1) := by decide +kernel
theorem d_X9_mapping_133 : decode prog_11_method_8_code 133 = .ok (.iload 5, 2) := by decide +kernel
theorem d_X9_mapping_135 : decode prog_11_method_8_code 135 = .ok (.iastore, 1) := by decide +kernel
theorem d_X9_mapping_136 : decode prog_11_method_8_code 136 = .ok (.aload_n 0, 1) := by decide +kernel
theorem d_X9_mapping_137 : decode prog_11_method_8_code 137 = .ok (.getfield 29, 3) := by decide +kernel
theorem d_X9_mapping_140 : decode prog_11_method_8_code 140 = .ok (.iconst 2, 1) := by decide +kernel
theorem d_X9_mapping_141 : decode prog_11_method_8_code 141 = .ok (.aload_n 0, 1) := by decide +kernel
theorem d_X9_mapping_142 : decode prog_11_method_8_code 142 = .ok (.getfield 92, 3) := by decide +kernel
theorem d_X9_mapping_145 : decode prog_11_method_8_code 145 = .ok (.imul, 1) := by decide +kernel
theorem d_X9_mapping_146 : decode prog_11_method_8_code 146 = .ok (.iload 4, 2) := by decide +kernel
theorem d_X9_mapping_148 : decode prog_11_method_8_code 148 = .ok (.iastore, 1) := by decide +kernel
theorem d_X9_mapping_149 : decode prog_11_method_8_code 149 = .ok (.aload_n 0, 1) := by decide +kernel
theorem d_X9_mapping_150 : decode prog_11_method_8_code 150 = .ok (.getfield 29, 3) := by decide +kernel
theorem d_X9_mapping_153 : decode prog_11_method_8_code 153 = .ok (.iconst 2, 1) := by decide +kernel
theorem d_X9_mapping_154 : decode prog_11_method_8_code 154 = .ok (.aload_n 0, 1) := by decide +kernel
theorem d_X9_mapping_155 : decode prog_11_method_8_code 155 = .ok (.getfield 92, 3) := by decide +kernel
theorem d_X9_mapping_158 : decode prog_11_method_8_code 158 = .ok (.imul, 1) := by decide +kernel
theorem d_X9_mapping_159 : decode prog_11_method_8_code 159 = .ok (.iconst 1, 1) := by decide +kernel
theorem d_X9_mapping_160 : decode prog_11_method_8_code 160 = .ok (.iadd, 1) := by decide +kernel
theorem d_X9_mapping_161 : decode prog_11_method_8_code 161 = .ok (.iload 6, 2) := by decide +kernel
theorem d_X9_mapping_163 : decode prog_11_method_8_code 163 = .ok (.iastore, 1) := by decide +kernel
theorem d_X9_mapping_164 : decode prog_11_method_8_code 164 = .ok (.aload_n 0, 1) := by decide +kernel
theorem d_X9_mapping_165 : decode prog_11_method_8_code 165 = .ok (.dup, 1) := by decide +kernel
theorem d_X9_mapping_166 : decode prog_11_method_8_code 166 = .ok (.getfield 92, 3) := by decide +kernel
theorem d_X9_mapping_169 : decode prog_11_method_8_code 169 = .ok (.iconst 1, 1) := by decide +kernel
theorem d_X9_mapping_170 : decode prog_11_method_8_code 170 = .ok (.iadd, 1) := by decide +kernel
theorem d_X9_mapping_171 : decode prog_11_method_8_code 171 = .ok (.putfield 92, 3) := by decide +kernel
theorem d_X9_mapping_174 : decode prog_11_method_8_code 174 = .ok (.aload_n 0, 1) := by decide +kernel
theorem d_X9_mapping_175 : decode prog_11_method_8_code 175 = .ok (.getfield 92, 3) := by decide +kernel
theorem d_X9_mapping_178 : decode prog_11_method_8_code 178 = .ok (.iconst 1, 1) := by decide +kernel
theorem d_X9_mapping_179 : decode prog_11_method_8_code 179 = .ok (.isub, 1) := by decide +kernel
theorem d_X9_mapping_180 : decode prog_11_method_8_code 180 = .ok (.ireturn, 1) := by decide +kernel
abbrev y_X9_triples : MethodName := ⟨"VirtualRewriteModel", "triples", "()I"⟩
theorem d_X9_triples_0 : decode prog_11_method_10_code 0 = .ok (.aload_n 0, 1) := by decide +kernel
theorem d_X9_triples_1 : decode prog_11_method_10_code 1 = .ok (.iconst 0, 1) := by decide +kernel
theorem d_X9_triples_2 : decode prog_11_method_10_code 2 = .ok (.putfield 80, 3) := by decide +kernel
theorem d_X9_triples_5 : decode prog_11_method_10_code 5 = .ok (.iconst 0, 1) := by decide +kernel
theorem d_X9_triples_6 : decode prog_11_method_10_code 6 = .ok (.istore_n 1, 1) := by decide +kernel
theorem d_X9_triples_7 : decode prog_11_method_10_code 7 = .ok (.iconst 0, 1) := by decide +kernel
theorem d_X9_triples_8 : decode prog_11_method_10_code 8 = .ok (.istore_n 2, 1) := by decide +kernel
theorem d_X9_triples_9 : decode prog_11_method_10_code 9 = .ok (.iload_n 2, 1) := by decide +kernel
theorem d_X9_triples_10 : decode prog_11_method_10_code 10 = .ok (.aload_n 0, 1) := by decide +kernel
theorem d_X9_triples_11 : decode prog_11_method_10_code 11 = .ok (.getfield 92, 3) := by decide +kernel
theorem d_X9_triples_14 : decode prog_11_method_10_code 14 = .ok (.if_icmp .ge 165, 3) := by decide +kernel
theorem d_X9_triples_17 : decode prog_11_method_10_code 17 = .ok (.iconst 0, 1) := by decide +kernel
theorem d_X9_triples_18 : decode prog_11_method_10_code 18 = .ok (.istore_n 3, 1) := by decide +kernel
theorem d_X9_triples_19 : decode prog_11_method_10_code 19 = .ok (.iload_n 3, 1) := by decide +kernel
theorem d_X9_triples_20 : decode prog_11_method_10_code 20 = .ok (.aload_n 0, 1) := by decide +kernel
theorem d_X9_triples_21 : decode prog_11_method_10_code 21 = .ok (.getfield 13, 3) := by decide +kernel
theorem d_X9_triples_24 : decode prog_11_method_10_code 24 = .ok (.aload_n 0, 1) := by decide +kernel
theorem d_X9_triples_25 : decode prog_11_method_10_code 25 = .ok (.getfield 20, 3) := by decide +kernel
theorem d_X9_triples_28 : decode prog_11_method_10_code 28 = .ok (.iload_n 2, 1) := by decide +kernel
theorem d_X9_triples_29 : decode prog_11_method_10_code 29 = .ok (.iaload, 1) := by decide +kernel
theorem d_X9_triples_30 : decode prog_11_method_10_code 30 = .ok (.iaload, 1) := by decide +kernel
theorem d_X9_triples_31 : decode prog_11_method_10_code 31 = .ok (.if_icmp .ge 142, 3) := by decide +kernel
theorem d_X9_triples_34 : decode prog_11_method_10_code 34 = .ok (.iconst 1, 1) := by decide +kernel
theorem d_X9_triples_35 : decode prog_11_method_10_code 35 = .ok (.istore 4, 2) := by decide +kernel
theorem d_X9_triples_37 : decode prog_11_method_10_code 37 = .ok (.iconst 0, 1) := by decide +kernel
theorem d_X9_triples_38 : decode prog_11_method_10_code 38 = .ok (.istore 5, 2) := by decide +kernel
theorem d_X9_triples_40 : decode prog_11_method_10_code 40 = .ok (.iload 5, 2) := by decide +kernel
theorem d_X9_triples_42 : decode prog_11_method_10_code 42 = .ok (.iload_n 2, 1) := by decide +kernel
theorem d_X9_triples_43 : decode prog_11_method_10_code 43 = .ok (.if_icmp .gt 111, 3) := by decide +kernel
theorem d_X9_triples_46 : decode prog_11_method_10_code 46 = .ok (.iconst 0, 1) := by decide +kernel
theorem d_X9_triples_47 : decode prog_11_method_10_code 47 = .ok (.istore 6, 2) := by decide +kernel
theorem d_X9_triples_49 : decode prog_11_method_10_code 49 = .ok (.iload 6, 2) := by decide +kernel
theorem d_X9_triples_51 : decode prog_11_method_10_code 51 = .ok (.iload 5, 2) := by decide +kernel
theorem d_X9_triples_53 : decode prog_11_method_10_code 53 = .ok (.iload_n 2, 1) := by decide +kernel
theorem d_X9_triples_54 : decode prog_11_method_10_code 54 = .ok (.if_icmp .ne 7, 3) := by decide +kernel
theorem d_X9_triples_57 : decode prog_11_method_10_code 57 = .ok (.iload_n 3, 1) := by decide +kernel
theorem d_X9_triples_58 : decode prog_11_method_10_code 58 = .ok (.goto 15, 3) := by decide +kernel
theorem d_X9_triples_61 : decode prog_11_method_10_code 61 = .ok (.aload_n 0, 1) := by decide +kernel
theorem d_X9_triples_62 : decode prog_11_method_10_code 62 = .ok (.getfield 13, 3) := by decide +kernel
theorem d_X9_triples_65 : decode prog_11_method_10_code 65 = .ok (.aload_n 0, 1) := by decide +kernel
theorem d_X9_triples_66 : decode prog_11_method_10_code 66 = .ok (.getfield 20, 3) := by decide +kernel
theorem d_X9_triples_69 : decode prog_11_method_10_code 69 = .ok (.iload 5, 2) := by decide +kernel
theorem d_X9_triples_71 : decode prog_11_method_10_code 71 = .ok (.iaload, 1) := by decide +kernel
theorem d_X9_triples_72 : decode prog_11_method_10_code 72 = .ok (.iaload, 1) := by decide +kernel
theorem d_X9_triples_73 : decode prog_11_method_10_code 73 = .ok (.if_icmp .ge 75, 3) := by decide +kernel
theorem d_X9_triples_76 : decode prog_11_method_10_code 76 = .ok (.iload 4, 2) := by decide +kernel
theorem d_X9_triples_78 : decode prog_11_method_10_code 78 = .ok (.ifCond .eq 61, 3) := by decide +kernel
theorem d_X9_triples_81 : decode prog_11_method_10_code 81 = .ok (.aload_n 0, 1) := by decide +kernel
theorem d_X9_triples_82 : decode prog_11_method_10_code 82 = .ok (.getfield 23, 3) := by decide +kernel
theorem d_X9_triples_85 : decode prog_11_method_10_code 85 = .ok (.iload 5, 2) := by decide +kernel
theorem d_X9_triples_87 : decode prog_11_method_10_code 87 = .ok (.iaload, 1) := by decide +kernel
theorem d_X9_triples_88 : decode prog_11_method_10_code 88 = .ok (.aload_n 0, 1) := by decide +kernel
theorem d_X9_triples_89 : decode prog_11_method_10_code 89 = .ok (.getfield 23, 3) := by decide +kernel
theorem d_X9_triples_92 : decode prog_11_method_10_code 92 = .ok (.iload_n 2, 1) := by decide +kernel
theorem d_X9_triples_93 : decode prog_11_method_10_code 93 = .ok (.iaload, 1) := by decide +kernel
theorem d_X9_triples_94 : decode prog_11_method_10_code 94 = .ok (.if_icmp .ne 41, 3) := by decide +kernel
theorem d_X9_triples_97 : decode prog_11_method_10_code 97 = .ok (.aload_n 0, 1) := by decide +kernel
theorem d_X9_triples_98 : decode prog_11_method_10_code 98 = .ok (.iload 5, 2) := by decide +kernel
theorem d_X9_triples_100 : decode prog_11_method_10_code 100 = .ok (.iconst 0, 1) := by decide +kernel
theorem d_X9_triples_101 : decode prog_11_method_10_code 101 = .ok (.iload 6, 2) := by decide +kernel
theorem d_X9_triples_103 : decode prog_11_method_10_code 103 = .ok (.invokevirtual 95, 3) := by decide +kernel
theorem d_X9_triples_106 : decode prog_11_method_10_code 106 = .ok (.aload_n 0, 1) := by decide +kernel
theorem d_X9_triples_107 : decode prog_11_method_10_code 107 = .ok (.iload_n 2, 1) := by decide +kernel
theorem d_X9_triples_108 : decode prog_11_method_10_code 108 = .ok (.iconst 0, 1) := by decide +kernel
theorem d_X9_triples_109 : decode prog_11_method_10_code 109 = .ok (.iload_n 3, 1) := by decide +kernel
theorem d_X9_triples_110 : decode prog_11_method_10_code 110 = .ok (.invokevirtual 95, 3) := by decide +kernel
theorem d_X9_triples_113 : decode prog_11_method_10_code 113 = .ok (.if_icmp .ne 22, 3) := by decide +kernel
theorem d_X9_triples_116 : decode prog_11_method_10_code 116 = .ok (.aload_n 0, 1) := by decide +kernel
theorem d_X9_triples_117 : decode prog_11_method_10_code 117 = .ok (.iload 5, 2) := by decide +kernel
theorem d_X9_triples_119 : decode prog_11_method_10_code 119 = .ok (.iconst 1, 1) := by decide +kernel
theorem d_X9_triples_120 : decode prog_11_method_10_code 120 = .ok (.iload 6, 2) := by decide +kernel
theorem d_X9_triples_122 : decode prog_11_method_10_code 122 = .ok (.invokevirtual 95, 3) := by decide +kernel
theorem d_X9_triples_125 : decode prog_11_method_10_code 125 = .ok (.aload_n 0, 1) := by decide +kernel
theorem d_X9_triples_126 : decode prog_11_method_10_code 126 = .ok (.iload_n 2, 1) := by decide +kernel
theorem d_X9_triples_127 : decode prog_11_method_10_code 127 = .ok (.iconst 1, 1) := by decide +kernel
theorem d_X9_triples_128 : decode prog_11_method_10_code 128 = .ok (.iload_n 3, 1) := by decide +kernel
theorem d_X9_triples_129 : decode prog_11_method_10_code 129 = .ok (.invokevirtual 95, 3) := by decide +kernel
theorem d_X9_triples_132 : decode prog_11_method_10_code 132 = .ok (.if_icmp .eq 7, 3) := by decide +kernel
theorem d_X9_triples_135 : decode prog_11_method_10_code 135 = .ok (.iconst 1, 1) := by decide +kernel
theorem d_X9_triples_136 : decode prog_11_method_10_code 136 = .ok (.goto 4, 3) := by decide +kernel
theorem d_X9_triples_139 : decode prog_11_method_10_code 139 = .ok (.iconst 0, 1) := by decide +kernel
theorem d_X9_triples_140 : decode prog_11_method_10_code 140 = .ok (.istore 4, 2) := by decide +kernel
theorem d_X9_triples_142 : decode prog_11_method_10_code 142 = .ok (.iinc 6 1, 3) := by decide +kernel
theorem d_X9_triples_145 : decode prog_11_method_10_code 145 = .ok (.goto (-96), 3) := by decide +kernel
theorem d_X9_triples_148 : decode prog_11_method_10_code 148 = .ok (.iinc 5 1, 3) := by decide +kernel
theorem d_X9_triples_151 : decode prog_11_method_10_code 151 = .ok (.goto (-111), 3) := by decide +kernel
theorem d_X9_triples_154 : decode prog_11_method_10_code 154 = .ok (.iload_n 1, 1) := by decide +kernel
theorem d_X9_triples_155 : decode prog_11_method_10_code 155 = .ok (.iload 4, 2) := by decide +kernel
theorem d_X9_triples_157 : decode prog_11_method_10_code 157 = .ok (.ifCond .eq 7, 3) := by decide +kernel
theorem d_X9_triples_160 : decode prog_11_method_10_code 160 = .ok (.iconst 1, 1) := by decide +kernel
theorem d_X9_triples_161 : decode prog_11_method_10_code 161 = .ok (.goto 4, 3) := by decide +kernel
theorem d_X9_triples_164 : decode prog_11_method_10_code 164 = .ok (.iconst 0, 1) := by decide +kernel
theorem d_X9_triples_165 : decode prog_11_method_10_code 165 = .ok (.iadd, 1) := by decide +kernel
theorem d_X9_triples_166 : decode prog_11_method_10_code 166 = .ok (.istore_n 1, 1) := by decide +kernel
theorem d_X9_triples_167 : decode prog_11_method_10_code 167 = .ok (.iinc 3 1, 3) := by decide +kernel
theorem d_X9_triples_170 : decode prog_11_method_10_code 170 = .ok (.goto (-151), 3) := by decide +kernel
theorem d_X9_triples_173 : decode prog_11_method_10_code 173 = .ok (.iinc 2 1, 3) := by decide +kernel
theorem d_X9_triples_176 : decode prog_11_method_10_code 176 = .ok (.goto (-167), 3) := by decide +kernel
theorem d_X9_triples_179 : decode prog_11_method_10_code 179 = .ok (.iload_n 1, 1) := by decide +kernel
theorem d_X9_triples_180 : decode prog_11_method_10_code 180 = .ok (.ireturn, 1) := by decide +kernel
abbrev y_X9_code : MethodName := ⟨"VirtualRewriteModel", "code", "(III)I"⟩
theorem d_X9_code_0 : decode prog_11_method_9_code 0 = .ok (.sipush 10000, 3) := by decide +kernel
theorem d_X9_code_3 : decode prog_11_method_9_code 3 = .ok (.aload_n 0, 1) := by decide +kernel
theorem d_X9_code_4 : decode prog_11_method_9_code 4 = .ok (.getfield 26, 3) := by decide +kernel
theorem d_X9_code_7 : decode prog_11_method_9_code 7 = .ok (.iconst 2, 1) := by decide +kernel
theorem d_X9_code_8 : decode prog_11_method_9_code 8 = .ok (.iload_n 1, 1) := by decide +kernel
theorem d_X9_code_9 : decode prog_11_method_9_code 9 = .ok (.imul, 1) := by decide +kernel
theorem d_X9_code_10 : decode prog_11_method_9_code 10 = .ok (.iload_n 2, 1) := by decide +kernel
theorem d_X9_code_11 : decode prog_11_method_9_code 11 = .ok (.iadd, 1) := by decide +kernel
theorem d_X9_code_12 : decode prog_11_method_9_code 12 = .ok (.iaload, 1) := by decide +kernel
theorem d_X9_code_13 : decode prog_11_method_9_code 13 = .ok (.imul, 1) := by decide +kernel
theorem d_X9_code_14 : decode prog_11_method_9_code 14 = .ok (.aload_n 0, 1) := by decide +kernel
theorem d_X9_code_15 : decode prog_11_method_9_code 15 = .ok (.getfield 7, 3) := by decide +kernel
theorem d_X9_code_18 : decode prog_11_method_9_code 18 = .ok (.bipush 60, 2) := by decide +kernel
theorem d_X9_code_20 : decode prog_11_method_9_code 20 = .ok (.aload_n 0, 1) := by decide +kernel
theorem d_X9_code_21 : decode prog_11_method_9_code 21 = .ok (.getfield 20, 3) := by decide +kernel
theorem d_X9_code_24 : decode prog_11_method_9_code 24 = .ok (.iload_n 1, 1) := by decide +kernel
theorem d_X9_code_25 : decode prog_11_method_9_code 25 = .ok (.iaload, 1) := by decide +kernel
theorem d_X9_code_26 : decode prog_11_method_9_code 26 = .ok (.imul, 1) := by decide +kernel
theorem d_X9_code_27 : decode prog_11_method_9_code 27 = .ok (.iconst 3, 1) := by decide +kernel
theorem d_X9_code_28 : decode prog_11_method_9_code 28 = .ok (.iload_n 3, 1) := by decide +kernel
theorem d_X9_code_29 : decode prog_11_method_9_code 29 = .ok (.imul, 1) := by decide +kernel
theorem d_X9_code_30 : decode prog_11_method_9_code 30 = .ok (.iadd, 1) := by decide +kernel
theorem d_X9_code_31 : decode prog_11_method_9_code 31 = .ok (.aload_n 0, 1) := by decide +kernel
theorem d_X9_code_32 : decode prog_11_method_9_code 32 = .ok (.getfield 29, 3) := by decide +kernel
theorem d_X9_code_35 : decode prog_11_method_9_code 35 = .ok (.iconst 2, 1) := by decide +kernel
theorem d_X9_code_36 : decode prog_11_method_9_code 36 = .ok (.iload_n 1, 1) := by decide +kernel
theorem d_X9_code_37 : decode prog_11_method_9_code 37 = .ok (.imul, 1) := by decide +kernel
theorem d_X9_code_38 : decode prog_11_method_9_code 38 = .ok (.iload_n 2, 1) := by decide +kernel
theorem d_X9_code_39 : decode prog_11_method_9_code 39 = .ok (.iadd, 1) := by decide +kernel
theorem d_X9_code_40 : decode prog_11_method_9_code 40 = .ok (.iaload, 1) := by decide +kernel
theorem d_X9_code_41 : decode prog_11_method_9_code 41 = .ok (.iadd, 1) := by decide +kernel
theorem d_X9_code_42 : decode prog_11_method_9_code 42 = .ok (.iaload, 1) := by decide +kernel
theorem d_X9_code_43 : decode prog_11_method_9_code 43 = .ok (.iadd, 1) := by decide +kernel
theorem d_X9_code_44 : decode prog_11_method_9_code 44 = .ok (.ireturn, 1) := by decide +kernel
abbrev y_X9_atom : MethodName := ⟨"VirtualRewriteModel", "atom", "(III)I"⟩
theorem d_X9_atom_0 : decode prog_11_method_12_code 0 = .ok (.aload_n 0, 1) := by decide +kernel
theorem d_X9_atom_1 : decode prog_11_method_12_code 1 = .ok (.iconst 0, 1) := by decide +kernel
theorem d_X9_atom_2 : decode prog_11_method_12_code 2 = .ok (.putfield 80, 3) := by decide +kernel
theorem d_X9_atom_5 : decode prog_11_method_12_code 5 = .ok (.iload_n 1, 1) := by decide +kernel
theorem d_X9_atom_6 : decode prog_11_method_12_code 6 = .ok (.iconst 0, 1) := by decide +kernel
theorem d_X9_atom_7 : decode prog_11_method_12_code 7 = .ok (.bipush 7, 2) := by decide +kernel
theorem d_X9_atom_9 : decode prog_11_method_12_code 9 = .ok (.invokestatic 84, 3) := by decide +kernel
theorem d_X9_atom_12 : decode prog_11_method_12_code 12 = .ok (.ifCond .eq 17, 3) := by decide +kernel
theorem d_X9_atom_15 : decode prog_11_method_12_code 15 = .ok (.iload_n 2, 1) := by decide +kernel
theorem d_X9_atom_16 : decode prog_11_method_12_code 16 = .ok (.invokestatic 99, 3) := by decide +kernel
theorem d_X9_atom_19 : decode prog_11_method_12_code 19 = .ok (.ifCond .eq 10, 3) := by decide +kernel
theorem d_X9_atom_22 : decode prog_11_method_12_code 22 = .ok (.iload_n 3, 1) := by decide +kernel
theorem d_X9_atom_23 : decode prog_11_method_12_code 23 = .ok (.invokestatic 99, 3) := by decide +kernel
theorem d_X9_atom_26 : decode prog_11_method_12_code 26 = .ok (.ifCond .ne 5, 3) := by decide +kernel
theorem d_X9_atom_29 : decode prog_11_method_12_code 29 = .ok (.iconst (-1), 1) := by decide +kernel
theorem d_X9_atom_30 : decode prog_11_method_12_code 30 = .ok (.ireturn, 1) := by decide +kernel
theorem d_X9_atom_31 : decode prog_11_method_12_code 31 = .ok (.aload_n 0, 1) := by decide +kernel
theorem d_X9_atom_32 : decode prog_11_method_12_code 32 = .ok (.getfield 103, 3) := by decide +kernel
theorem d_X9_atom_35 : decode prog_11_method_12_code 35 = .ok (.iconst 4, 1) := by decide +kernel
theorem d_X9_atom_36 : decode prog_11_method_12_code 36 = .ok (.if_icmp .ne 6, 3) := by decide +kernel
theorem d_X9_atom_39 : decode prog_11_method_12_code 39 = .ok (.bipush (-2), 2) := by decide +kernel
theorem d_X9_atom_41 : decode prog_11_method_12_code 41 = .ok (.ireturn, 1) := by decide +kernel
theorem d_X9_atom_42 : decode prog_11_method_12_code 42 = .ok (.aload_n 0, 1) := by decide +kernel
theorem d_X9_atom_43 : decode prog_11_method_12_code 43 = .ok (.getfield 32, 3) := by decide +kernel
theorem d_X9_atom_46 : decode prog_11_method_12_code 46 = .ok (.aload_n 0, 1) := by decide +kernel
theorem d_X9_atom_47 : decode prog_11_method_12_code 47 = .ok (.getfield 103, 3) := by decide +kernel
theorem d_X9_atom_50 : decode prog_11_method_12_code 50 = .ok (.iload_n 1, 1) := by decide +kernel
theorem d_X9_atom_51 : decode prog_11_method_12_code 51 = .ok (.iastore, 1) := by decide +kernel
theorem d_X9_atom_52 : decode prog_11_method_12_code 52 = .ok (.aload_n 0, 1) := by decide +kernel
theorem d_X9_atom_53 : decode prog_11_method_12_code 53 = .ok (.getfield 35, 3) := by decide +kernel
theorem d_X9_atom_56 : decode prog_11_method_12_code 56 = .ok (.iconst 2, 1) := by decide +kernel
theorem d_X9_atom_57 : decode prog_11_method_12_code 57 = .ok (.aload_n 0, 1) := by decide +kernel
theorem d_X9_atom_58 : decode prog_11_method_12_code 58 = .ok (.getfield 103, 3) := by decide +kernel
theorem d_X9_atom_61 : decode prog_11_method_12_code 61 = .ok (.imul, 1) := by decide +kernel
theorem d_X9_atom_62 : decode prog_11_method_12_code 62 = .ok (.iload_n 2, 1) := by decide +kernel
theorem d_X9_atom_63 : decode prog_11_method_12_code 63 = .ok (.iastore, 1) := by decide +kernel
theorem d_X9_atom_64 : decode prog_11_method_12_code 64 = .ok (.aload_n 0, 1) := by decide +kernel
theorem d_X9_atom_65 : decode prog_11_method_12_code 65 = .ok (.getfield 35, 3) := by decide +kernel
theorem d_X9_atom_68 : decode prog_11_method_12_code 68 = .ok (.iconst 2, 1) := by decide +kernel
theorem d_X9_atom_69 : decode prog_11_method_12_code 69 = .ok (.aload_n 0, 1) := by decide +kernel
theorem d_X9_atom_70 : decode prog_11_method_12_code 70 = .ok (.getfield 103, 3) := by decide +kernel
theorem d_X9_atom_73 : decode prog_11_method_12_code 73 = .ok (.imul, 1) := by decide +kernel
theorem d_X9_atom_74 : decode prog_11_method_12_code 74 = .ok (.iconst 1, 1) := by decide +kernel
theorem d_X9_atom_75 : decode prog_11_method_12_code 75 = .ok (.iadd, 1) := by decide +kernel
theorem d_X9_atom_76 : decode prog_11_method_12_code 76 = .ok (.iload_n 3, 1) := by decide +kernel
theorem d_X9_atom_77 : decode prog_11_method_12_code 77 = .ok (.iastore, 1) := by decide +kernel
theorem d_X9_atom_78 : decode prog_11_method_12_code 78 = .ok (.aload_n 0, 1) := by decide +kernel
theorem d_X9_atom_79 : decode prog_11_method_12_code 79 = .ok (.dup, 1) := by decide +kernel
theorem d_X9_atom_80 : decode prog_11_method_12_code 80 = .ok (.getfield 103, 3) := by decide +kernel
theorem d_X9_atom_83 : decode prog_11_method_12_code 83 = .ok (.iconst 1, 1) := by decide +kernel
theorem d_X9_atom_84 : decode prog_11_method_12_code 84 = .ok (.iadd, 1) := by decide +kernel
theorem d_X9_atom_85 : decode prog_11_method_12_code 85 = .ok (.putfield 103, 3) := by decide +kernel
theorem d_X9_atom_88 : decode prog_11_method_12_code 88 = .ok (.aload_n 0, 1) := by decide +kernel
theorem d_X9_atom_89 : decode prog_11_method_12_code 89 = .ok (.getfield 103, 3) := by decide +kernel
theorem d_X9_atom_92 : decode prog_11_method_12_code 92 = .ok (.ireturn, 1) := by decide +kernel
abbrev y_X9_isPlace : MethodName := ⟨"VirtualRewriteModel", "isPlace", "(I)Z"⟩
theorem d_X9_isPlace_0 : decode prog_11_method_11_code 0 = .ok (.iload_n 0, 1) := by decide +kernel
theorem d_X9_isPlace_1 : decode prog_11_method_11_code 1 = .ok (.bipush (-6), 2) := by decide +kernel
theorem d_X9_isPlace_3 : decode prog_11_method_11_code 3 = .ok (.ldc 98, 2) := by decide +kernel
theorem d_X9_isPlace_5 : decode prog_11_method_11_code 5 = .ok (.invokestatic 84, 3) := by decide +kernel
theorem d_X9_isPlace_8 : decode prog_11_method_11_code 8 = .ok (.ireturn, 1) := by decide +kernel
abbrev y_X9_span : MethodName := ⟨"VirtualRewriteModel", "span", "(III)I"⟩
theorem d_X9_span_0 : decode prog_11_method_13_code 0 = .ok (.aload_n 0, 1) := by decide +kernel
theorem d_X9_span_1 : decode prog_11_method_13_code 1 = .ok (.iconst 0, 1) := by decide +kernel
theorem d_X9_span_2 : decode prog_11_method_13_code 2 = .ok (.putfield 80, 3) := by decide +kernel
theorem d_X9_span_5 : decode prog_11_method_13_code 5 = .ok (.iload_n 1, 1) := by decide +kernel
theorem d_X9_span_6 : decode prog_11_method_13_code 6 = .ok (.iconst 0, 1) := by decide +kernel
theorem d_X9_span_7 : decode prog_11_method_13_code 7 = .ok (.iconst 5, 1) := by decide +kernel
theorem d_X9_span_8 : decode prog_11_method_13_code 8 = .ok (.invokestatic 84, 3) := by decide +kernel
theorem d_X9_span_11 : decode prog_11_method_13_code 11 = .ok (.ifCond .ne 5, 3) := by decide +kernel
theorem d_X9_span_14 : decode prog_11_method_13_code 14 = .ok (.iconst (-1), 1) := by decide +kernel
theorem d_X9_span_15 : decode prog_11_method_13_code 15 = .ok (.ireturn, 1) := by decide +kernel
theorem d_X9_span_16 : decode prog_11_method_13_code 16 = .ok (.aload_n 0, 1) := by decide +kernel
theorem d_X9_span_17 : decode prog_11_method_13_code 17 = .ok (.getfield 106, 3) := by decide +kernel
theorem d_X9_span_20 : decode prog_11_method_13_code 20 = .ok (.iconst 4, 1) := by decide +kernel
theorem d_X9_span_21 : decode prog_11_method_13_code 21 = .ok (.if_icmp .ne 6, 3) := by decide +kernel
theorem d_X9_span_24 : decode prog_11_method_13_code 24 = .ok (.bipush (-2), 2) := by decide +kernel
theorem d_X9_span_26 : decode prog_11_method_13_code 26 = .ok (.ireturn, 1) := by decide +kernel
theorem d_X9_span_27 : decode prog_11_method_13_code 27 = .ok (.aload_n 0, 1) := by decide +kernel
theorem d_X9_span_28 : decode prog_11_method_13_code 28 = .ok (.getfield 38, 3) := by decide +kernel
theorem d_X9_span_31 : decode prog_11_method_13_code 31 = .ok (.aload_n 0, 1) := by decide +kernel
theorem d_X9_span_32 : decode prog_11_method_13_code 32 = .ok (.getfield 106, 3) := by decide +kernel
theorem d_X9_span_35 : decode prog_11_method_13_code 35 = .ok (.iload_n 1, 1) := by decide +kernel
theorem d_X9_span_36 : decode prog_11_method_13_code 36 = .ok (.iastore, 1) := by decide +kernel
theorem d_X9_span_37 : decode prog_11_method_13_code 37 = .ok (.aload_n 0, 1) := by decide +kernel
theorem d_X9_span_38 : decode prog_11_method_13_code 38 = .ok (.getfield 41, 3) := by decide +kernel
theorem d_X9_span_41 : decode prog_11_method_13_code 41 = .ok (.aload_n 0, 1) := by decide +kernel
theorem d_X9_span_42 : decode prog_11_method_13_code 42 = .ok (.getfield 106, 3) := by decide +kernel
theorem d_X9_span_45 : decode prog_11_method_13_code 45 = .ok (.iload_n 2, 1) := by decide +kernel
theorem d_X9_span_46 : decode prog_11_method_13_code 46 = .ok (.iastore, 1) := by decide +kernel
theorem d_X9_span_47 : decode prog_11_method_13_code 47 = .ok (.aload_n 0, 1) := by decide +kernel
theorem d_X9_span_48 : decode prog_11_method_13_code 48 = .ok (.getfield 44, 3) := by decide +kernel
theorem d_X9_span_51 : decode prog_11_method_13_code 51 = .ok (.aload_n 0, 1) := by decide +kernel
theorem d_X9_span_52 : decode prog_11_method_13_code 52 = .ok (.getfield 106, 3) := by decide +kernel
theorem d_X9_span_55 : decode prog_11_method_13_code 55 = .ok (.iload_n 3, 1) := by decide +kernel
theorem d_X9_span_56 : decode prog_11_method_13_code 56 = .ok (.iastore, 1) := by decide +kernel
theorem d_X9_span_57 : decode prog_11_method_13_code 57 = .ok (.aload_n 0, 1) := by decide +kernel
theorem d_X9_span_58 : decode prog_11_method_13_code 58 = .ok (.dup, 1) := by decide +kernel
theorem d_X9_span_59 : decode prog_11_method_13_code 59 = .ok (.getfield 106, 3) := by decide +kernel
theorem d_X9_span_62 : decode prog_11_method_13_code 62 = .ok (.iconst 1, 1) := by decide +kernel
theorem d_X9_span_63 : decode prog_11_method_13_code 63 = .ok (.iadd, 1) := by decide +kernel
theorem d_X9_span_64 : decode prog_11_method_13_code 64 = .ok (.putfield 106, 3) := by decide +kernel
theorem d_X9_span_67 : decode prog_11_method_13_code 67 = .ok (.aload_n 0, 1) := by decide +kernel
theorem d_X9_span_68 : decode prog_11_method_13_code 68 = .ok (.getfield 106, 3) := by decide +kernel
theorem d_X9_span_71 : decode prog_11_method_13_code 71 = .ok (.ireturn, 1) := by decide +kernel
abbrev y_X9_clear : MethodName := ⟨"VirtualRewriteModel", "clear", "()I"⟩
theorem d_X9_clear_0 : decode prog_11_method_14_code 0 = .ok (.aload_n 0, 1) := by decide +kernel
theorem d_X9_clear_1 : decode prog_11_method_14_code 1 = .ok (.iconst 0, 1) := by decide +kernel
theorem d_X9_clear_2 : decode prog_11_method_14_code 2 = .ok (.putfield 80, 3) := by decide +kernel
theorem d_X9_clear_5 : decode prog_11_method_14_code 5 = .ok (.aload_n 0, 1) := by decide +kernel
theorem d_X9_clear_6 : decode prog_11_method_14_code 6 = .ok (.getfield 103, 3) := by decide +kernel
theorem d_X9_clear_9 : decode prog_11_method_14_code 9 = .ok (.istore_n 1, 1) := by decide +kernel
theorem d_X9_clear_10 : decode prog_11_method_14_code 10 = .ok (.aload_n 0, 1) := by decide +kernel
theorem d_X9_clear_11 : decode prog_11_method_14_code 11 = .ok (.iconst 0, 1) := by decide +kernel
theorem d_X9_clear_12 : decode prog_11_method_14_code 12 = .ok (.putfield 103, 3) := by decide +kernel
theorem d_X9_clear_15 : decode prog_11_method_14_code 15 = .ok (.aload_n 0, 1) := by decide +kernel
theorem d_X9_clear_16 : decode prog_11_method_14_code 16 = .ok (.iconst 0, 1) := by decide +kernel
theorem d_X9_clear_17 : decode prog_11_method_14_code 17 = .ok (.putfield 106, 3) := by decide +kernel
theorem d_X9_clear_20 : decode prog_11_method_14_code 20 = .ok (.iload_n 1, 1) := by decide +kernel
theorem d_X9_clear_21 : decode prog_11_method_14_code 21 = .ok (.ireturn, 1) := by decide +kernel
abbrev y_X9_unions : MethodName := ⟨"VirtualRewriteModel", "unions", "()I"⟩
theorem d_X9_unions_0 : decode prog_11_method_19_code 0 = .ok (.aload_n 0, 1) := by decide +kernel
theorem d_X9_unions_1 : decode prog_11_method_19_code 1 = .ok (.iconst 0, 1) := by decide +kernel
theorem d_X9_unions_2 : decode prog_11_method_19_code 2 = .ok (.putfield 80, 3) := by decide +kernel
theorem d_X9_unions_5 : decode prog_11_method_19_code 5 = .ok (.aload_n 0, 1) := by decide +kernel
theorem d_X9_unions_6 : decode prog_11_method_19_code 6 = .ok (.getfield 103, 3) := by decide +kernel
theorem d_X9_unions_9 : decode prog_11_method_19_code 9 = .ok (.ifCond .ne 5, 3) := by decide +kernel
theorem d_X9_unions_12 : decode prog_11_method_19_code 12 = .ok (.iconst (-1), 1) := by decide +kernel
theorem d_X9_unions_13 : decode prog_11_method_19_code 13 = .ok (.ireturn, 1) := by decide +kernel
theorem d_X9_unions_14 : decode prog_11_method_19_code 14 = .ok (.aload_n 0, 1) := by decide +kernel
theorem d_X9_unions_15 : decode prog_11_method_19_code 15 = .ok (.invokevirtual 122, 3) := by decide +kernel
theorem d_X9_unions_18 : decode prog_11_method_19_code 18 = .ok (.ifCond .eq 10, 3) := by decide +kernel
theorem d_X9_unions_21 : decode prog_11_method_19_code 21 = .ok (.aload_n 0, 1) := by decide +kernel
theorem d_X9_unions_22 : decode prog_11_method_19_code 22 = .ok (.getfield 112, 3) := by decide +kernel
theorem d_X9_unions_25 : decode prog_11_method_19_code 25 = .ok (.goto 5, 3) := by decide +kernel
theorem d_X9_unions_28 : decode prog_11_method_19_code 28 = .ok (.bipush (-3), 2) := by decide +kernel
theorem d_X9_unions_30 : decode prog_11_method_19_code 30 = .ok (.ireturn, 1) := by decide +kernel
abbrev y_X9_makeUnions : MethodName := ⟨"VirtualRewriteModel", "makeUnions", "()Z"⟩
theorem d_X9_makeUnions_0 : decode prog_11_method_18_code 0 = .ok (.aload_n 0, 1) := by decide +kernel
theorem d_X9_makeUnions_1 : decode prog_11_method_18_code 1 = .ok (.iconst 0, 1) := by decide +kernel
theorem d_X9_makeUnions_2 : decode prog_11_method_18_code 2 = .ok (.putfield 112, 3) := by decide +kernel
theorem d_X9_makeUnions_5 : decode prog_11_method_18_code 5 = .ok (.iconst 1, 1) := by decide +kernel
theorem d_X9_makeUnions_6 : decode prog_11_method_18_code 6 = .ok (.istore_n 1, 1) := by decide +kernel
theorem d_X9_makeUnions_7 : decode prog_11_method_18_code 7 = .ok (.iconst 0, 1) := by decide +kernel
theorem d_X9_makeUnions_8 : decode prog_11_method_18_code 8 = .ok (.istore_n 2, 1) := by decide +kernel
theorem d_X9_makeUnions_9 : decode prog_11_method_18_code 9 = .ok (.iload_n 2, 1) := by decide +kernel
theorem d_X9_makeUnions_10 : decode prog_11_method_18_code 10 = .ok (.aload_n 0, 1) := by decide +kernel
theorem d_X9_makeUnions_11 : decode prog_11_method_18_code 11 = .ok (.getfield 103, 3) := by decide +kernel
theorem d_X9_makeUnions_14 : decode prog_11_method_18_code 14 = .ok (.if_icmp .ge 16, 3) := by decide +kernel
theorem d_X9_makeUnions_17 : decode prog_11_method_18_code 17 = .ok (.iload_n 1, 1) := by decide +kernel
theorem d_X9_makeUnions_18 : decode prog_11_method_18_code 18 = .ok (.aload_n 0, 1) := by decide +kernel
theorem d_X9_makeUnions_19 : decode prog_11_method_18_code 19 = .ok (.getfield 92, 3) := by decide +kernel
theorem d_X9_makeUnions_22 : decode prog_11_method_18_code 22 = .ok (.imul, 1) := by decide +kernel
theorem d_X9_makeUnions_23 : decode prog_11_method_18_code 23 = .ok (.istore_n 1, 1) := by decide +kernel
theorem d_X9_makeUnions_24 : decode prog_11_method_18_code 24 = .ok (.iinc 2 1, 3) := by decide +kernel
theorem d_X9_makeUnions_27 : decode prog_11_method_18_code 27 = .ok (.goto (-18), 3) := by decide +kernel
theorem d_X9_makeUnions_30 : decode prog_11_method_18_code 30 = .ok (.iconst 0, 1) := by decide +kernel
theorem d_X9_makeUnions_31 : decode prog_11_method_18_code 31 = .ok (.istore_n 2, 1) := by decide +kernel
theorem d_X9_makeUnions_32 : decode prog_11_method_18_code 32 = .ok (.iload_n 2, 1) := by decide +kernel
theorem d_X9_makeUnions_33 : decode prog_11_method_18_code 33 = .ok (.iload_n 1, 1) := by decide +kernel
theorem d_X9_makeUnions_34 : decode prog_11_method_18_code 34 = .ok (.if_icmp .ge 98, 3) := by decide +kernel
theorem d_X9_makeUnions_37 : decode prog_11_method_18_code 37 = .ok (.aload_n 0, 1) := by decide +kernel
theorem d_X9_makeUnions_38 : decode prog_11_method_18_code 38 = .ok (.getfield 112, 3) := by decide +kernel
theorem d_X9_makeUnions_41 : decode prog_11_method_18_code 41 = .ok (.sipush 150, 3) := by decide +kernel
theorem d_X9_makeUnions_44 : decode prog_11_method_18_code 44 = .ok (.if_icmp .gt 88, 3) := by decide +kernel
theorem d_X9_makeUnions_47 : decode prog_11_method_18_code 47 = .ok (.iload_n 2, 1) := by decide +kernel
theorem d_X9_makeUnions_48 : decode prog_11_method_18_code 48 = .ok (.istore_n 3, 1) := by decide +kernel
theorem d_X9_makeUnions_49 : decode prog_11_method_18_code 49 = .ok (.aload_n 0, 1) := by decide +kernel
theorem d_X9_makeUnions_50 : decode prog_11_method_18_code 50 = .ok (.getfield 103, 3) := by decide +kernel
theorem d_X9_makeUnions_53 : decode prog_11_method_18_code 53 = .ok (.iconst 1, 1) := by decide +kernel
theorem d_X9_makeUnions_54 : decode prog_11_method_18_code 54 = .ok (.isub, 1) := by decide +kernel
theorem d_X9_makeUnions_55 : decode prog_11_method_18_code 55 = .ok (.istore 4, 2) := by decide +kernel
theorem d_X9_makeUnions_57 : decode prog_11_method_18_code 57 = .ok (.iload 4, 2) := by decide +kernel
theorem d_X9_makeUnions_59 : decode prog_11_method_18_code 59 = .ok (.ifCond .lt 36, 3) := by decide +kernel
theorem d_X9_makeUnions_62 : decode prog_11_method_18_code 62 = .ok (.aload_n 0, 1) := by decide +kernel
theorem d_X9_makeUnions_63 : decode prog_11_method_18_code 63 = .ok (.getfield 47, 3) := by decide +kernel
theorem d_X9_makeUnions_66 : decode prog_11_method_18_code 66 = .ok (.iconst 4, 1) := by decide +kernel
theorem d_X9_makeUnions_67 : decode prog_11_method_18_code 67 = .ok (.aload_n 0, 1) := by decide +kernel
theorem d_X9_makeUnions_68 : decode prog_11_method_18_code 68 = .ok (.getfield 112, 3) := by decide +kernel
theorem d_X9_makeUnions_71 : decode prog_11_method_18_code 71 = .ok (.imul, 1) := by decide +kernel
theorem d_X9_makeUnions_72 : decode prog_11_method_18_code 72 = .ok (.iload 4, 2) := by decide +kernel
theorem d_X9_makeUnions_74 : decode prog_11_method_18_code 74 = .ok (.iadd, 1) := by decide +kernel
theorem d_X9_makeUnions_75 : decode prog_11_method_18_code 75 = .ok (.iload_n 3, 1) := by decide +kernel
theorem d_X9_makeUnions_76 : decode prog_11_method_18_code 76 = .ok (.aload_n 0, 1) := by decide +kernel
theorem d_X9_makeUnions_77 : decode prog_11_method_18_code 77 = .ok (.getfield 92, 3) := by decide +kernel
theorem d_X9_makeUnions_80 : decode prog_11_method_18_code 80 = .ok (.irem, 1) := by decide +kernel
theorem d_X9_makeUnions_81 : decode prog_11_method_18_code 81 = .ok (.iastore, 1) := by decide +kernel
theorem d_X9_makeUnions_82 : decode prog_11_method_18_code 82 = .ok (.iload_n 3, 1) := by decide +kernel
theorem d_X9_makeUnions_83 : decode prog_11_method_18_code 83 = .ok (.aload_n 0, 1) := by decide +kernel
theorem d_X9_makeUnions_84 : decode prog_11_method_18_code 84 = .ok (.getfield 92, 3) := by decide +kernel
theorem d_X9_makeUnions_87 : decode prog_11_method_18_code 87 = .ok (.idiv, 1) := by decide +kernel
theorem d_X9_makeUnions_88 : decode prog_11_method_18_code 88 = .ok (.istore_n 3, 1) := by decide +kernel
theorem d_X9_makeUnions_89 : decode prog_11_method_18_code 89 = .ok (.iinc 4 (-1), 3) := by decide +kernel
theorem d_X9_makeUnions_92 : decode prog_11_method_18_code 92 = .ok (.goto (-35), 3) := by decide +kernel
theorem d_X9_makeUnions_95 : decode prog_11_method_18_code 95 = .ok (.aload_n 0, 1) := by decide +kernel
theorem d_X9_makeUnions_96 : decode prog_11_method_18_code 96 = .ok (.iconst 4, 1) := by decide +kernel
theorem d_X9_makeUnions_97 : decode prog_11_method_18_code 97 = .ok (.aload_n 0, 1) := by decide +kernel
theorem d_X9_makeUnions_98 : decode prog_11_method_18_code 98 = .ok (.getfield 112, 3) := by decide +kernel
theorem d_X9_makeUnions_101 : decode prog_11_method_18_code 101 = .ok (.imul, 1) := by decide +kernel
theorem d_X9_makeUnions_102 : decode prog_11_method_18_code 102 = .ok (.invokevirtual 115, 3) := by decide +kernel
theorem d_X9_makeUnions_105 : decode prog_11_method_18_code 105 = .ok (.ifCond .eq 21, 3) := by decide +kernel
theorem d_X9_makeUnions_108 : decode prog_11_method_18_code 108 = .ok (.aload_n 0, 1) := by decide +kernel
theorem d_X9_makeUnions_109 : decode prog_11_method_18_code 109 = .ok (.aload_n 0, 1) := by decide +kernel
theorem d_X9_makeUnions_110 : decode prog_11_method_18_code 110 = .ok (.getfield 112, 3) := by decide +kernel
theorem d_X9_makeUnions_113 : decode prog_11_method_18_code 113 = .ok (.invokevirtual 118, 3) := by decide +kernel
theorem d_X9_makeUnions_116 : decode prog_11_method_18_code 116 = .ok (.aload_n 0, 1) := by decide +kernel
theorem d_X9_makeUnions_117 : decode prog_11_method_18_code 117 = .ok (.dup, 1) := by decide +kernel
theorem d_X9_makeUnions_118 : decode prog_11_method_18_code 118 = .ok (.getfield 112, 3) := by decide +kernel
theorem d_X9_makeUnions_121 : decode prog_11_method_18_code 121 = .ok (.iconst 1, 1) := by decide +kernel
theorem d_X9_makeUnions_122 : decode prog_11_method_18_code 122 = .ok (.iadd, 1) := by decide +kernel
theorem d_X9_makeUnions_123 : decode prog_11_method_18_code 123 = .ok (.putfield 112, 3) := by decide +kernel
theorem d_X9_makeUnions_126 : decode prog_11_method_18_code 126 = .ok (.iinc 2 1, 3) := by decide +kernel
theorem d_X9_makeUnions_129 : decode prog_11_method_18_code 129 = .ok (.goto (-97), 3) := by decide +kernel
theorem d_X9_makeUnions_132 : decode prog_11_method_18_code 132 = .ok (.aload_n 0, 1) := by decide +kernel
theorem d_X9_makeUnions_133 : decode prog_11_method_18_code 133 = .ok (.getfield 112, 3) := by decide +kernel
theorem d_X9_makeUnions_136 : decode prog_11_method_18_code 136 = .ok (.sipush 150, 3) := by decide +kernel
theorem d_X9_makeUnions_139 : decode prog_11_method_18_code 139 = .ok (.if_icmp .gt 7, 3) := by decide +kernel
theorem d_X9_makeUnions_142 : decode prog_11_method_18_code 142 = .ok (.iconst 1, 1) := by decide +kernel
theorem d_X9_makeUnions_143 : decode prog_11_method_18_code 143 = .ok (.goto 4, 3) := by decide +kernel
theorem d_X9_makeUnions_146 : decode prog_11_method_18_code 146 = .ok (.iconst 0, 1) := by decide +kernel
theorem d_X9_makeUnions_147 : decode prog_11_method_18_code 147 = .ok (.ireturn, 1) := by decide +kernel
