abbrev y_X9_find : MethodName := ⟨"VirtualRewriteModel", "find", "(I)V"⟩
theorem d_X9_find_0 : decode prog_11_method_26_code 0 = .ok (.aload_n 0, 1) := by decide +kernel
theorem d_X9_find_1 : decode prog_11_method_26_code 1 = .ok (.iconst 4, 1) := by decide +kernel
theorem d_X9_find_2 : decode prog_11_method_26_code 2 = .ok (.iload_n 1, 1) := by decide +kernel
theorem d_X9_find_3 : decode prog_11_method_26_code 3 = .ok (.imul, 1) := by decide +kernel
theorem d_X9_find_4 : decode prog_11_method_26_code 4 = .ok (.invokevirtual 115, 3) := by decide +kernel
theorem d_X9_find_7 : decode prog_11_method_26_code 7 = .ok (.istore_n 2, 1) := by decide +kernel
theorem d_X9_find_8 : decode prog_11_method_26_code 8 = .ok (.iconst 0, 1) := by decide +kernel
theorem d_X9_find_9 : decode prog_11_method_26_code 9 = .ok (.istore_n 3, 1) := by decide +kernel
theorem d_X9_find_10 : decode prog_11_method_26_code 10 = .ok (.aload_n 0, 1) := by decide +kernel
theorem d_X9_find_11 : decode prog_11_method_26_code 11 = .ok (.getfield 56, 3) := by decide +kernel
theorem d_X9_find_14 : decode prog_11_method_26_code 14 = .ok (.iconst 0, 1) := by decide +kernel
theorem d_X9_find_15 : decode prog_11_method_26_code 15 = .ok (.iconst (-1), 1) := by decide +kernel
theorem d_X9_find_16 : decode prog_11_method_26_code 16 = .ok (.iastore, 1) := by decide +kernel
theorem d_X9_find_17 : decode prog_11_method_26_code 17 = .ok (.iload_n 3, 1) := by decide +kernel
theorem d_X9_find_18 : decode prog_11_method_26_code 18 = .ok (.ifCond .lt 91, 3) := by decide +kernel
theorem d_X9_find_21 : decode prog_11_method_26_code 21 = .ok (.aload_n 0, 1) := by decide +kernel
theorem d_X9_find_22 : decode prog_11_method_26_code 22 = .ok (.getfield 130, 3) := by decide +kernel
theorem d_X9_find_25 : decode prog_11_method_26_code 25 = .ok (.sipush 300, 3) := by decide +kernel
theorem d_X9_find_28 : decode prog_11_method_26_code 28 = .ok (.if_icmp .gt 81, 3) := by decide +kernel
theorem d_X9_find_31 : decode prog_11_method_26_code 31 = .ok (.aload_n 0, 1) := by decide +kernel
theorem d_X9_find_32 : decode prog_11_method_26_code 32 = .ok (.getfield 56, 3) := by decide +kernel
theorem d_X9_find_35 : decode prog_11_method_26_code 35 = .ok (.iload_n 3, 1) := by decide +kernel
theorem d_X9_find_36 : decode prog_11_method_26_code 36 = .ok (.dup2, 1) := by decide +kernel
theorem d_X9_find_37 : decode prog_11_method_26_code 37 = .ok (.iaload, 1) := by decide +kernel
theorem d_X9_find_38 : decode prog_11_method_26_code 38 = .ok (.iconst 1, 1) := by decide +kernel
theorem d_X9_find_39 : decode prog_11_method_26_code 39 = .ok (.iadd, 1) := by decide +kernel
theorem d_X9_find_40 : decode prog_11_method_26_code 40 = .ok (.iastore, 1) := by decide +kernel
theorem d_X9_find_41 : decode prog_11_method_26_code 41 = .ok (.aload_n 0, 1) := by decide +kernel
theorem d_X9_find_42 : decode prog_11_method_26_code 42 = .ok (.getfield 56, 3) := by decide +kernel
theorem d_X9_find_45 : decode prog_11_method_26_code 45 = .ok (.iload_n 3, 1) := by decide +kernel
theorem d_X9_find_46 : decode prog_11_method_26_code 46 = .ok (.iaload, 1) := by decide +kernel
theorem d_X9_find_47 : decode prog_11_method_26_code 47 = .ok (.aload_n 0, 1) := by decide +kernel
theorem d_X9_find_48 : decode prog_11_method_26_code 48 = .ok (.getfield 13, 3) := by decide +kernel
theorem d_X9_find_51 : decode prog_11_method_26_code 51 = .ok (.aload_n 0, 1) := by decide +kernel
theorem d_X9_find_52 : decode prog_11_method_26_code 52 = .ok (.iload_n 1, 1) := by decide +kernel
theorem d_X9_find_53 : decode prog_11_method_26_code 53 = .ok (.iload_n 3, 1) := by decide +kernel
theorem d_X9_find_54 : decode prog_11_method_26_code 54 = .ok (.invokevirtual 126, 3) := by decide +kernel
theorem d_X9_find_57 : decode prog_11_method_26_code 57 = .ok (.iaload, 1) := by decide +kernel
theorem d_X9_find_58 : decode prog_11_method_26_code 58 = .ok (.if_icmp .lt 9, 3) := by decide +kernel
theorem d_X9_find_61 : decode prog_11_method_26_code 61 = .ok (.iinc 3 (-1), 3) := by decide +kernel
theorem d_X9_find_64 : decode prog_11_method_26_code 64 = .ok (.goto (-47), 3) := by decide +kernel
theorem d_X9_find_67 : decode prog_11_method_26_code 67 = .ok (.aload_n 0, 1) := by decide +kernel
theorem d_X9_find_68 : decode prog_11_method_26_code 68 = .ok (.iload_n 1, 1) := by decide +kernel
theorem d_X9_find_69 : decode prog_11_method_26_code 69 = .ok (.iload_n 3, 1) := by decide +kernel
theorem d_X9_find_70 : decode prog_11_method_26_code 70 = .ok (.invokevirtual 137, 3) := by decide +kernel
theorem d_X9_find_73 : decode prog_11_method_26_code 73 = .ok (.ifCond .eq (-56), 3) := by decide +kernel
theorem d_X9_find_76 : decode prog_11_method_26_code 76 = .ok (.iload_n 3, 1) := by decide +kernel
theorem d_X9_find_77 : decode prog_11_method_26_code 77 = .ok (.iconst 1, 1) := by decide +kernel
theorem d_X9_find_78 : decode prog_11_method_26_code 78 = .ok (.iadd, 1) := by decide +kernel
theorem d_X9_find_79 : decode prog_11_method_26_code 79 = .ok (.aload_n 0, 1) := by decide +kernel
theorem d_X9_find_80 : decode prog_11_method_26_code 80 = .ok (.getfield 53, 3) := by decide +kernel
theorem d_X9_find_83 : decode prog_11_method_26_code 83 = .ok (.iload_n 1, 1) := by decide +kernel
theorem d_X9_find_84 : decode prog_11_method_26_code 84 = .ok (.iaload, 1) := by decide +kernel
theorem d_X9_find_85 : decode prog_11_method_26_code 85 = .ok (.if_icmp .ne 11, 3) := by decide +kernel
theorem d_X9_find_88 : decode prog_11_method_26_code 88 = .ok (.aload_n 0, 1) := by decide +kernel
theorem d_X9_find_89 : decode prog_11_method_26_code 89 = .ok (.iload_n 1, 1) := by decide +kernel
theorem d_X9_find_90 : decode prog_11_method_26_code 90 = .ok (.invokevirtual 141, 3) := by decide +kernel
theorem d_X9_find_93 : decode prog_11_method_26_code 93 = .ok (.goto (-76), 3) := by decide +kernel
theorem d_X9_find_96 : decode prog_11_method_26_code 96 = .ok (.iinc 3 1, 3) := by decide +kernel
theorem d_X9_find_99 : decode prog_11_method_26_code 99 = .ok (.aload_n 0, 1) := by decide +kernel
theorem d_X9_find_100 : decode prog_11_method_26_code 100 = .ok (.getfield 56, 3) := by decide +kernel
theorem d_X9_find_103 : decode prog_11_method_26_code 103 = .ok (.iload_n 3, 1) := by decide +kernel
theorem d_X9_find_104 : decode prog_11_method_26_code 104 = .ok (.iconst (-1), 1) := by decide +kernel
theorem d_X9_find_105 : decode prog_11_method_26_code 105 = .ok (.iastore, 1) := by decide +kernel
theorem d_X9_find_106 : decode prog_11_method_26_code 106 = .ok (.goto (-89), 3) := by decide +kernel
theorem d_X9_find_109 : decode prog_11_method_26_code 109 = .ok (.return_, 1) := by decide +kernel
abbrev y_X9_agree : MethodName := ⟨"VirtualRewriteModel", "agree", "(II)Z"⟩
theorem d_X9_agree_0 : decode prog_11_method_23_code 0 = .ok (.iconst 0, 1) := by decide +kernel
theorem d_X9_agree_1 : decode prog_11_method_23_code 1 = .ok (.istore_n 3, 1) := by decide +kernel
theorem d_X9_agree_2 : decode prog_11_method_23_code 2 = .ok (.iload_n 3, 1) := by decide +kernel
theorem d_X9_agree_3 : decode prog_11_method_23_code 3 = .ok (.bipush 6, 2) := by decide +kernel
theorem d_X9_agree_5 : decode prog_11_method_23_code 5 = .ok (.if_icmp .ge 16, 3) := by decide +kernel
theorem d_X9_agree_8 : decode prog_11_method_23_code 8 = .ok (.aload_n 0, 1) := by decide +kernel
theorem d_X9_agree_9 : decode prog_11_method_23_code 9 = .ok (.getfield 59, 3) := by decide +kernel
theorem d_X9_agree_12 : decode prog_11_method_23_code 12 = .ok (.iload_n 3, 1) := by decide +kernel
theorem d_X9_agree_13 : decode prog_11_method_23_code 13 = .ok (.iconst (-1), 1) := by decide +kernel
theorem d_X9_agree_14 : decode prog_11_method_23_code 14 = .ok (.iastore, 1) := by decide +kernel
theorem d_X9_agree_15 : decode prog_11_method_23_code 15 = .ok (.iinc 3 1, 3) := by decide +kernel
theorem d_X9_agree_18 : decode prog_11_method_23_code 18 = .ok (.goto (-16), 3) := by decide +kernel
theorem d_X9_agree_21 : decode prog_11_method_23_code 21 = .ok (.iconst 1, 1) := by decide +kernel
theorem d_X9_agree_22 : decode prog_11_method_23_code 22 = .ok (.istore_n 3, 1) := by decide +kernel
theorem d_X9_agree_23 : decode prog_11_method_23_code 23 = .ok (.iconst 0, 1) := by decide +kernel
theorem d_X9_agree_24 : decode prog_11_method_23_code 24 = .ok (.istore 4, 2) := by decide +kernel
theorem d_X9_agree_26 : decode prog_11_method_23_code 26 = .ok (.iload 4, 2) := by decide +kernel
theorem d_X9_agree_28 : decode prog_11_method_23_code 28 = .ok (.aload_n 0, 1) := by decide +kernel
theorem d_X9_agree_29 : decode prog_11_method_23_code 29 = .ok (.getfield 103, 3) := by decide +kernel
theorem d_X9_agree_32 : decode prog_11_method_23_code 32 = .ok (.if_icmp .ge 190, 3) := by decide +kernel
theorem d_X9_agree_35 : decode prog_11_method_23_code 35 = .ok (.iload_n 3, 1) := by decide +kernel
theorem d_X9_agree_36 : decode prog_11_method_23_code 36 = .ok (.ifCond .eq 186, 3) := by decide +kernel
theorem d_X9_agree_39 : decode prog_11_method_23_code 39 = .ok (.aload_n 0, 1) := by decide +kernel
theorem d_X9_agree_40 : decode prog_11_method_23_code 40 = .ok (.getfield 50, 3) := by decide +kernel
theorem d_X9_agree_43 : decode prog_11_method_23_code 43 = .ok (.iconst 4, 1) := by decide +kernel
theorem d_X9_agree_44 : decode prog_11_method_23_code 44 = .ok (.iload_n 1, 1) := by decide +kernel
theorem d_X9_agree_45 : decode prog_11_method_23_code 45 = .ok (.imul, 1) := by decide +kernel
theorem d_X9_agree_46 : decode prog_11_method_23_code 46 = .ok (.iload 4, 2) := by decide +kernel
theorem d_X9_agree_48 : decode prog_11_method_23_code 48 = .ok (.iadd, 1) := by decide +kernel
theorem d_X9_agree_49 : decode prog_11_method_23_code 49 = .ok (.iaload, 1) := by decide +kernel
theorem d_X9_agree_50 : decode prog_11_method_23_code 50 = .ok (.istore 5, 2) := by decide +kernel
theorem d_X9_agree_52 : decode prog_11_method_23_code 52 = .ok (.iconst 0, 1) := by decide +kernel
theorem d_X9_agree_53 : decode prog_11_method_23_code 53 = .ok (.istore 6, 2) := by decide +kernel
theorem d_X9_agree_55 : decode prog_11_method_23_code 55 = .ok (.iload 6, 2) := by decide +kernel
theorem d_X9_agree_57 : decode prog_11_method_23_code 57 = .ok (.iconst 2, 1) := by decide +kernel
theorem d_X9_agree_58 : decode prog_11_method_23_code 58 = .ok (.if_icmp .ge 158, 3) := by decide +kernel
theorem d_X9_agree_61 : decode prog_11_method_23_code 61 = .ok (.iload 5, 2) := by decide +kernel
theorem d_X9_agree_63 : decode prog_11_method_23_code 63 = .ok (.iload_n 2, 1) := by decide +kernel
theorem d_X9_agree_64 : decode prog_11_method_23_code 64 = .ok (.if_icmp .gt 152, 3) := by decide +kernel
theorem d_X9_agree_67 : decode prog_11_method_23_code 67 = .ok (.aload_n 0, 1) := by decide +kernel
theorem d_X9_agree_68 : decode prog_11_method_23_code 68 = .ok (.getfield 47, 3) := by decide +kernel
theorem d_X9_agree_71 : decode prog_11_method_23_code 71 = .ok (.iconst 4, 1) := by decide +kernel
theorem d_X9_agree_72 : decode prog_11_method_23_code 72 = .ok (.iload_n 1, 1) := by decide +kernel
theorem d_X9_agree_73 : decode prog_11_method_23_code 73 = .ok (.imul, 1) := by decide +kernel
theorem d_X9_agree_74 : decode prog_11_method_23_code 74 = .ok (.iload 4, 2) := by decide +kernel
theorem d_X9_agree_76 : decode prog_11_method_23_code 76 = .ok (.iadd, 1) := by decide +kernel
theorem d_X9_agree_77 : decode prog_11_method_23_code 77 = .ok (.iaload, 1) := by decide +kernel
theorem d_X9_agree_78 : decode prog_11_method_23_code 78 = .ok (.istore 7, 2) := by decide +kernel
theorem d_X9_agree_80 : decode prog_11_method_23_code 80 = .ok (.aload_n 0, 1) := by decide +kernel
theorem d_X9_agree_81 : decode prog_11_method_23_code 81 = .ok (.getfield 7, 3) := by decide +kernel
theorem d_X9_agree_84 : decode prog_11_method_23_code 84 = .ok (.bipush 60, 2) := by decide +kernel
theorem d_X9_agree_86 : decode prog_11_method_23_code 86 = .ok (.aload_n 0, 1) := by decide +kernel
theorem d_X9_agree_87 : decode prog_11_method_23_code 87 = .ok (.getfield 20, 3) := by decide +kernel
theorem d_X9_agree_90 : decode prog_11_method_23_code 90 = .ok (.iload 7, 2) := by decide +kernel
theorem d_X9_agree_92 : decode prog_11_method_23_code 92 = .ok (.iaload, 1) := by decide +kernel
theorem d_X9_agree_93 : decode prog_11_method_23_code 93 = .ok (.imul, 1) := by decide +kernel
theorem d_X9_agree_94 : decode prog_11_method_23_code 94 = .ok (.iconst 3, 1) := by decide +kernel
theorem d_X9_agree_95 : decode prog_11_method_23_code 95 = .ok (.aload_n 0, 1) := by decide +kernel
theorem d_X9_agree_96 : decode prog_11_method_23_code 96 = .ok (.getfield 56, 3) := by decide +kernel
theorem d_X9_agree_99 : decode prog_11_method_23_code 99 = .ok (.iload 5, 2) := by decide +kernel
theorem d_X9_agree_101 : decode prog_11_method_23_code 101 = .ok (.iaload, 1) := by decide +kernel
theorem d_X9_agree_102 : decode prog_11_method_23_code 102 = .ok (.imul, 1) := by decide +kernel
theorem d_X9_agree_103 : decode prog_11_method_23_code 103 = .ok (.iadd, 1) := by decide +kernel
theorem d_X9_agree_104 : decode prog_11_method_23_code 104 = .ok (.aload_n 0, 1) := by decide +kernel
theorem d_X9_agree_105 : decode prog_11_method_23_code 105 = .ok (.getfield 29, 3) := by decide +kernel
theorem d_X9_agree_108 : decode prog_11_method_23_code 108 = .ok (.iconst 2, 1) := by decide +kernel
theorem d_X9_agree_109 : decode prog_11_method_23_code 109 = .ok (.iload 7, 2) := by decide +kernel
theorem d_X9_agree_111 : decode prog_11_method_23_code 111 = .ok (.imul, 1) := by decide +kernel
theorem d_X9_agree_112 : decode prog_11_method_23_code 112 = .ok (.iload 6, 2) := by decide +kernel
theorem d_X9_agree_114 : decode prog_11_method_23_code 114 = .ok (.iadd, 1) := by decide +kernel
theorem d_X9_agree_115 : decode prog_11_method_23_code 115 = .ok (.iaload, 1) := by decide +kernel
theorem d_X9_agree_116 : decode prog_11_method_23_code 116 = .ok (.iadd, 1) := by decide +kernel
theorem d_X9_agree_117 : decode prog_11_method_23_code 117 = .ok (.iaload, 1) := by decide +kernel
theorem d_X9_agree_118 : decode prog_11_method_23_code 118 = .ok (.istore 8, 2) := by decide +kernel
theorem d_X9_agree_120 : decode prog_11_method_23_code 120 = .ok (.aload_n 0, 1) := by decide +kernel
theorem d_X9_agree_121 : decode prog_11_method_23_code 121 = .ok (.getfield 35, 3) := by decide +kernel
theorem d_X9_agree_124 : decode prog_11_method_23_code 124 = .ok (.iconst 2, 1) := by decide +kernel
theorem d_X9_agree_125 : decode prog_11_method_23_code 125 = .ok (.iload 4, 2) := by decide +kernel
theorem d_X9_agree_127 : decode prog_11_method_23_code 127 = .ok (.imul, 1) := by decide +kernel
theorem d_X9_agree_128 : decode prog_11_method_23_code 128 = .ok (.iload 6, 2) := by decide +kernel
theorem d_X9_agree_130 : decode prog_11_method_23_code 130 = .ok (.iadd, 1) := by decide +kernel
theorem d_X9_agree_131 : decode prog_11_method_23_code 131 = .ok (.iaload, 1) := by decide +kernel
theorem d_X9_agree_132 : decode prog_11_method_23_code 132 = .ok (.istore 9, 2) := by decide +kernel
theorem d_X9_agree_134 : decode prog_11_method_23_code 134 = .ok (.iload 9, 2) := by decide +kernel
theorem d_X9_agree_136 : decode prog_11_method_23_code 136 = .ok (.ifCond .lt 27, 3) := by decide +kernel
theorem d_X9_agree_139 : decode prog_11_method_23_code 139 = .ok (.iload_n 3, 1) := by decide +kernel
theorem d_X9_agree_140 : decode prog_11_method_23_code 140 = .ok (.ifCond .eq 18, 3) := by decide +kernel
theorem d_X9_agree_143 : decode prog_11_method_23_code 143 = .ok (.iload 9, 2) := by decide +kernel
theorem d_X9_agree_145 : decode prog_11_method_23_code 145 = .ok (.sipush 10000, 3) := by decide +kernel
theorem d_X9_agree_148 : decode prog_11_method_23_code 148 = .ok (.irem, 1) := by decide +kernel
theorem d_X9_agree_149 : decode prog_11_method_23_code 149 = .ok (.iload 8, 2) := by decide +kernel
theorem d_X9_agree_151 : decode prog_11_method_23_code 151 = .ok (.if_icmp .ne 7, 3) := by decide +kernel
theorem d_X9_agree_154 : decode prog_11_method_23_code 154 = .ok (.iconst 1, 1) := by decide +kernel
theorem d_X9_agree_155 : decode prog_11_method_23_code 155 = .ok (.goto 4, 3) := by decide +kernel
theorem d_X9_agree_158 : decode prog_11_method_23_code 158 = .ok (.iconst 0, 1) := by decide +kernel
theorem d_X9_agree_159 : decode prog_11_method_23_code 159 = .ok (.istore_n 3, 1) := by decide +kernel
theorem d_X9_agree_160 : decode prog_11_method_23_code 160 = .ok (.goto 50, 3) := by decide +kernel
theorem d_X9_agree_163 : decode prog_11_method_23_code 163 = .ok (.iconst (-1), 1) := by decide +kernel
theorem d_X9_agree_164 : decode prog_11_method_23_code 164 = .ok (.iload 9, 2) := by decide +kernel
theorem d_X9_agree_166 : decode prog_11_method_23_code 166 = .ok (.isub, 1) := by decide +kernel
theorem d_X9_agree_167 : decode prog_11_method_23_code 167 = .ok (.istore 10, 2) := by decide +kernel
theorem d_X9_agree_169 : decode prog_11_method_23_code 169 = .ok (.iload_n 3, 1) := by decide +kernel
theorem d_X9_agree_170 : decode prog_11_method_23_code 170 = .ok (.ifCond .eq 29, 3) := by decide +kernel
theorem d_X9_agree_173 : decode prog_11_method_23_code 173 = .ok (.aload_n 0, 1) := by decide +kernel
theorem d_X9_agree_174 : decode prog_11_method_23_code 174 = .ok (.getfield 59, 3) := by decide +kernel
theorem d_X9_agree_177 : decode prog_11_method_23_code 177 = .ok (.iload 10, 2) := by decide +kernel
theorem d_X9_agree_179 : decode prog_11_method_23_code 179 = .ok (.iaload, 1) := by decide +kernel
theorem d_X9_agree_180 : decode prog_11_method_23_code 180 = .ok (.ifCond .lt 15, 3) := by decide +kernel
theorem d_X9_agree_183 : decode prog_11_method_23_code 183 = .ok (.aload_n 0, 1) := by decide +kernel
theorem d_X9_agree_184 : decode prog_11_method_23_code 184 = .ok (.getfield 59, 3) := by decide +kernel
theorem d_X9_agree_187 : decode prog_11_method_23_code 187 = .ok (.iload 10, 2) := by decide +kernel
theorem d_X9_agree_189 : decode prog_11_method_23_code 189 = .ok (.iaload, 1) := by decide +kernel
theorem d_X9_agree_190 : decode prog_11_method_23_code 190 = .ok (.iload 8, 2) := by decide +kernel
theorem d_X9_agree_192 : decode prog_11_method_23_code 192 = .ok (.if_icmp .ne 7, 3) := by decide +kernel
theorem d_X9_agree_195 : decode prog_11_method_23_code 195 = .ok (.iconst 1, 1) := by decide +kernel
theorem d_X9_agree_196 : decode prog_11_method_23_code 196 = .ok (.goto 4, 3) := by decide +kernel
theorem d_X9_agree_199 : decode prog_11_method_23_code 199 = .ok (.iconst 0, 1) := by decide +kernel
theorem d_X9_agree_200 : decode prog_11_method_23_code 200 = .ok (.istore_n 3, 1) := by decide +kernel
theorem d_X9_agree_201 : decode prog_11_method_23_code 201 = .ok (.aload_n 0, 1) := by decide +kernel
theorem d_X9_agree_202 : decode prog_11_method_23_code 202 = .ok (.getfield 59, 3) := by decide +kernel
theorem d_X9_agree_205 : decode prog_11_method_23_code 205 = .ok (.iload 10, 2) := by decide +kernel
theorem d_X9_agree_207 : decode prog_11_method_23_code 207 = .ok (.iload 8, 2) := by decide +kernel
theorem d_X9_agree_209 : decode prog_11_method_23_code 209 = .ok (.iastore, 1) := by decide +kernel
theorem d_X9_agree_210 : decode prog_11_method_23_code 210 = .ok (.iinc 6 1, 3) := by decide +kernel
theorem d_X9_agree_213 : decode prog_11_method_23_code 213 = .ok (.goto (-158), 3) := by decide +kernel
theorem d_X9_agree_216 : decode prog_11_method_23_code 216 = .ok (.iinc 4 1, 3) := by decide +kernel
theorem d_X9_agree_219 : decode prog_11_method_23_code 219 = .ok (.goto (-193), 3) := by decide +kernel
theorem d_X9_agree_222 : decode prog_11_method_23_code 222 = .ok (.iconst 0, 1) := by decide +kernel
theorem d_X9_agree_223 : decode prog_11_method_23_code 223 = .ok (.istore 4, 2) := by decide +kernel
theorem d_X9_agree_225 : decode prog_11_method_23_code 225 = .ok (.iload 4, 2) := by decide +kernel
theorem d_X9_agree_227 : decode prog_11_method_23_code 227 = .ok (.aload_n 0, 1) := by decide +kernel
theorem d_X9_agree_228 : decode prog_11_method_23_code 228 = .ok (.getfield 106, 3) := by decide +kernel
theorem d_X9_agree_231 : decode prog_11_method_23_code 231 = .ok (.if_icmp .ge 62, 3) := by decide +kernel
theorem d_X9_agree_234 : decode prog_11_method_23_code 234 = .ok (.aload_n 0, 1) := by decide +kernel
theorem d_X9_agree_235 : decode prog_11_method_23_code 235 = .ok (.getfield 59, 3) := by decide +kernel
theorem d_X9_agree_238 : decode prog_11_method_23_code 238 = .ok (.aload_n 0, 1) := by decide +kernel
theorem d_X9_agree_239 : decode prog_11_method_23_code 239 = .ok (.getfield 38, 3) := by decide +kernel
theorem d_X9_agree_242 : decode prog_11_method_23_code 242 = .ok (.iload 4, 2) := by decide +kernel
theorem d_X9_agree_244 : decode prog_11_method_23_code 244 = .ok (.iaload, 1) := by decide +kernel
theorem d_X9_agree_245 : decode prog_11_method_23_code 245 = .ok (.iaload, 1) := by decide +kernel
theorem d_X9_agree_246 : decode prog_11_method_23_code 246 = .ok (.istore 5, 2) := by decide +kernel
theorem d_X9_agree_248 : decode prog_11_method_23_code 248 = .ok (.iload_n 3, 1) := by decide +kernel
theorem d_X9_agree_249 : decode prog_11_method_23_code 249 = .ok (.ifCond .eq 36, 3) := by decide +kernel
theorem d_X9_agree_252 : decode prog_11_method_23_code 252 = .ok (.iload 5, 2) := by decide +kernel
theorem d_X9_agree_254 : decode prog_11_method_23_code 254 = .ok (.ifCond .lt 27, 3) := by decide +kernel
theorem d_X9_agree_257 : decode prog_11_method_23_code 257 = .ok (.iload 5, 2) := by decide +kernel
theorem d_X9_agree_259 : decode prog_11_method_23_code 259 = .ok (.aload_n 0, 1) := by decide +kernel
theorem d_X9_agree_260 : decode prog_11_method_23_code 260 = .ok (.getfield 41, 3) := by decide +kernel
theorem d_X9_agree_263 : decode prog_11_method_23_code 263 = .ok (.iload 4, 2) := by decide +kernel
theorem d_X9_agree_265 : decode prog_11_method_23_code 265 = .ok (.iaload, 1) := by decide +kernel
theorem d_X9_agree_266 : decode prog_11_method_23_code 266 = .ok (.if_icmp .lt 19, 3) := by decide +kernel
theorem d_X9_agree_269 : decode prog_11_method_23_code 269 = .ok (.iload 5, 2) := by decide +kernel
theorem d_X9_agree_271 : decode prog_11_method_23_code 271 = .ok (.aload_n 0, 1) := by decide +kernel
theorem d_X9_agree_272 : decode prog_11_method_23_code 272 = .ok (.getfield 44, 3) := by decide +kernel
theorem d_X9_agree_275 : decode prog_11_method_23_code 275 = .ok (.iload 4, 2) := by decide +kernel
theorem d_X9_agree_277 : decode prog_11_method_23_code 277 = .ok (.iaload, 1) := by decide +kernel
theorem d_X9_agree_278 : decode prog_11_method_23_code 278 = .ok (.if_icmp .gt 7, 3) := by decide +kernel
theorem d_X9_agree_281 : decode prog_11_method_23_code 281 = .ok (.iconst 1, 1) := by decide +kernel
theorem d_X9_agree_282 : decode prog_11_method_23_code 282 = .ok (.goto 4, 3) := by decide +kernel
theorem d_X9_agree_285 : decode prog_11_method_23_code 285 = .ok (.iconst 0, 1) := by decide +kernel
theorem d_X9_agree_286 : decode prog_11_method_23_code 286 = .ok (.istore_n 3, 1) := by decide +kernel
theorem d_X9_agree_287 : decode prog_11_method_23_code 287 = .ok (.iinc 4 1, 3) := by decide +kernel
theorem d_X9_agree_290 : decode prog_11_method_23_code 290 = .ok (.goto (-65), 3) := by decide +kernel
theorem d_X9_agree_293 : decode prog_11_method_23_code 293 = .ok (.iload_n 3, 1) := by decide +kernel
theorem d_X9_agree_294 : decode prog_11_method_23_code 294 = .ok (.ireturn, 1) := by decide +kernel
abbrev y_X9_keep : MethodName := ⟨"VirtualRewriteModel", "keep", "(I)V"⟩
theorem d_X9_keep_0 : decode prog_11_method_25_code 0 = .ok (.iconst 0, 1) := by decide +kernel
theorem d_X9_keep_1 : decode prog_11_method_25_code 1 = .ok (.istore_n 2, 1) := by decide +kernel
theorem d_X9_keep_2 : decode prog_11_method_25_code 2 = .ok (.iload_n 2, 1) := by decide +kernel
theorem d_X9_keep_3 : decode prog_11_method_25_code 3 = .ok (.aload_n 0, 1) := by decide +kernel
theorem d_X9_keep_4 : decode prog_11_method_25_code 4 = .ok (.getfield 130, 3) := by decide +kernel
theorem d_X9_keep_7 : decode prog_11_method_25_code 7 = .ok (.if_icmp .ge 17, 3) := by decide +kernel
theorem d_X9_keep_10 : decode prog_11_method_25_code 10 = .ok (.aload_n 0, 1) := by decide +kernel
theorem d_X9_keep_11 : decode prog_11_method_25_code 11 = .ok (.iload_n 2, 1) := by decide +kernel
theorem d_X9_keep_12 : decode prog_11_method_25_code 12 = .ok (.invokevirtual 133, 3) := by decide +kernel
theorem d_X9_keep_15 : decode prog_11_method_25_code 15 = .ok (.ifCond .le 9, 3) := by decide +kernel
theorem d_X9_keep_18 : decode prog_11_method_25_code 18 = .ok (.iinc 2 1, 3) := by decide +kernel
theorem d_X9_keep_21 : decode prog_11_method_25_code 21 = .ok (.goto (-19), 3) := by decide +kernel
theorem d_X9_keep_24 : decode prog_11_method_25_code 24 = .ok (.iload_n 2, 1) := by decide +kernel
theorem d_X9_keep_25 : decode prog_11_method_25_code 25 = .ok (.aload_n 0, 1) := by decide +kernel
theorem d_X9_keep_26 : decode prog_11_method_25_code 26 = .ok (.getfield 130, 3) := by decide +kernel
theorem d_X9_keep_29 : decode prog_11_method_25_code 29 = .ok (.if_icmp .ge 43, 3) := by decide +kernel
theorem d_X9_keep_32 : decode prog_11_method_25_code 32 = .ok (.aload_n 0, 1) := by decide +kernel
theorem d_X9_keep_33 : decode prog_11_method_25_code 33 = .ok (.iload_n 2, 1) := by decide +kernel
theorem d_X9_keep_34 : decode prog_11_method_25_code 34 = .ok (.invokevirtual 133, 3) := by decide +kernel
theorem d_X9_keep_37 : decode prog_11_method_25_code 37 = .ok (.ifCond .ne 35, 3) := by decide +kernel
theorem d_X9_keep_40 : decode prog_11_method_25_code 40 = .ok (.aload_n 0, 1) := by decide +kernel
theorem d_X9_keep_41 : decode prog_11_method_25_code 41 = .ok (.getfield 71, 3) := by decide +kernel
theorem d_X9_keep_44 : decode prog_11_method_25_code 44 = .ok (.iload_n 2, 1) := by decide +kernel
theorem d_X9_keep_45 : decode prog_11_method_25_code 45 = .ok (.dup2, 1) := by decide +kernel
theorem d_X9_keep_46 : decode prog_11_method_25_code 46 = .ok (.iaload, 1) := by decide +kernel
theorem d_X9_keep_47 : decode prog_11_method_25_code 47 = .ok (.aload_n 0, 1) := by decide +kernel
theorem d_X9_keep_48 : decode prog_11_method_25_code 48 = .ok (.getfield 77, 3) := by decide +kernel
theorem d_X9_keep_51 : decode prog_11_method_25_code 51 = .ok (.iload_n 2, 1) := by decide +kernel
theorem d_X9_keep_52 : decode prog_11_method_25_code 52 = .ok (.iaload, 1) := by decide +kernel
theorem d_X9_keep_53 : decode prog_11_method_25_code 53 = .ok (.iload_n 1, 1) := by decide +kernel
theorem d_X9_keep_54 : decode prog_11_method_25_code 54 = .ok (.if_icmp .ne 7, 3) := by decide +kernel
theorem d_X9_keep_57 : decode prog_11_method_25_code 57 = .ok (.iconst 0, 1) := by decide +kernel
theorem d_X9_keep_58 : decode prog_11_method_25_code 58 = .ok (.goto 4, 3) := by decide +kernel
theorem d_X9_keep_61 : decode prog_11_method_25_code 61 = .ok (.iconst 1, 1) := by decide +kernel
theorem d_X9_keep_62 : decode prog_11_method_25_code 62 = .ok (.iadd, 1) := by decide +kernel
theorem d_X9_keep_63 : decode prog_11_method_25_code 63 = .ok (.iastore, 1) := by decide +kernel
theorem d_X9_keep_64 : decode prog_11_method_25_code 64 = .ok (.aload_n 0, 1) := by decide +kernel
theorem d_X9_keep_65 : decode prog_11_method_25_code 65 = .ok (.getfield 77, 3) := by decide +kernel
theorem d_X9_keep_68 : decode prog_11_method_25_code 68 = .ok (.iload_n 2, 1) := by decide +kernel
theorem d_X9_keep_69 : decode prog_11_method_25_code 69 = .ok (.iload_n 1, 1) := by decide +kernel
theorem d_X9_keep_70 : decode prog_11_method_25_code 70 = .ok (.iastore, 1) := by decide +kernel
theorem d_X9_keep_71 : decode prog_11_method_25_code 71 = .ok (.return_, 1) := by decide +kernel
theorem d_X9_keep_72 : decode prog_11_method_25_code 72 = .ok (.aload_n 0, 1) := by decide +kernel
theorem d_X9_keep_73 : decode prog_11_method_25_code 73 = .ok (.getfield 130, 3) := by decide +kernel
theorem d_X9_keep_76 : decode prog_11_method_25_code 76 = .ok (.istore_n 3, 1) := by decide +kernel
theorem d_X9_keep_77 : decode prog_11_method_25_code 77 = .ok (.iload_n 3, 1) := by decide +kernel
theorem d_X9_keep_78 : decode prog_11_method_25_code 78 = .ok (.iload_n 2, 1) := by decide +kernel
theorem d_X9_keep_79 : decode prog_11_method_25_code 79 = .ok (.if_icmp .le 94, 3) := by decide +kernel
theorem d_X9_keep_82 : decode prog_11_method_25_code 82 = .ok (.iconst 0, 1) := by decide +kernel
theorem d_X9_keep_83 : decode prog_11_method_25_code 83 = .ok (.istore 4, 2) := by decide +kernel
theorem d_X9_keep_85 : decode prog_11_method_25_code 85 = .ok (.iload 4, 2) := by decide +kernel
theorem d_X9_keep_87 : decode prog_11_method_25_code 87 = .ok (.bipush 6, 2) := by decide +kernel
theorem d_X9_keep_89 : decode prog_11_method_25_code 89 = .ok (.if_icmp .ge 36, 3) := by decide +kernel
theorem d_X9_keep_92 : decode prog_11_method_25_code 92 = .ok (.aload_n 0, 1) := by decide +kernel
theorem d_X9_keep_93 : decode prog_11_method_25_code 93 = .ok (.getfield 68, 3) := by decide +kernel
theorem d_X9_keep_96 : decode prog_11_method_25_code 96 = .ok (.bipush 6, 2) := by decide +kernel
theorem d_X9_keep_98 : decode prog_11_method_25_code 98 = .ok (.iload_n 3, 1) := by decide +kernel
theorem d_X9_keep_99 : decode prog_11_method_25_code 99 = .ok (.imul, 1) := by decide +kernel
theorem d_X9_keep_100 : decode prog_11_method_25_code 100 = .ok (.iload 4, 2) := by decide +kernel
theorem d_X9_keep_102 : decode prog_11_method_25_code 102 = .ok (.iadd, 1) := by decide +kernel
theorem d_X9_keep_103 : decode prog_11_method_25_code 103 = .ok (.aload_n 0, 1) := by decide +kernel
theorem d_X9_keep_104 : decode prog_11_method_25_code 104 = .ok (.getfield 68, 3) := by decide +kernel
theorem d_X9_keep_107 : decode prog_11_method_25_code 107 = .ok (.bipush 6, 2) := by decide +kernel
theorem d_X9_keep_109 : decode prog_11_method_25_code 109 = .ok (.iload_n 3, 1) := by decide +kernel
theorem d_X9_keep_110 : decode prog_11_method_25_code 110 = .ok (.imul, 1) := by decide +kernel
theorem d_X9_keep_111 : decode prog_11_method_25_code 111 = .ok (.bipush 6, 2) := by decide +kernel
theorem d_X9_keep_113 : decode prog_11_method_25_code 113 = .ok (.isub, 1) := by decide +kernel
theorem d_X9_keep_114 : decode prog_11_method_25_code 114 = .ok (.iload 4, 2) := by decide +kernel
theorem d_X9_keep_116 : decode prog_11_method_25_code 116 = .ok (.iadd, 1) := by decide +kernel
theorem d_X9_keep_117 : decode prog_11_method_25_code 117 = .ok (.iaload, 1) := by decide +kernel
theorem d_X9_keep_118 : decode prog_11_method_25_code 118 = .ok (.iastore, 1) := by decide +kernel
theorem d_X9_keep_119 : decode prog_11_method_25_code 119 = .ok (.iinc 4 1, 3) := by decide +kernel
theorem d_X9_keep_122 : decode prog_11_method_25_code 122 = .ok (.goto (-37), 3) := by decide +kernel
theorem d_X9_keep_125 : decode prog_11_method_25_code 125 = .ok (.aload_n 0, 1) := by decide +kernel
theorem d_X9_keep_126 : decode prog_11_method_25_code 126 = .ok (.getfield 71, 3) := by decide +kernel
theorem d_X9_keep_129 : decode prog_11_method_25_code 129 = .ok (.iload_n 3, 1) := by decide +kernel
theorem d_X9_keep_130 : decode prog_11_method_25_code 130 = .ok (.aload_n 0, 1) := by decide +kernel
theorem d_X9_keep_131 : decode prog_11_method_25_code 131 = .ok (.getfield 71, 3) := by decide +kernel
theorem d_X9_keep_134 : decode prog_11_method_25_code 134 = .ok (.iload_n 3, 1) := by decide +kernel
theorem d_X9_keep_135 : decode prog_11_method_25_code 135 = .ok (.iconst 1, 1) := by decide +kernel
theorem d_X9_keep_136 : decode prog_11_method_25_code 136 = .ok (.isub, 1) := by decide +kernel
theorem d_X9_keep_137 : decode prog_11_method_25_code 137 = .ok (.iaload, 1) := by decide +kernel
theorem d_X9_keep_138 : decode prog_11_method_25_code 138 = .ok (.iastore, 1) := by decide +kernel
theorem d_X9_keep_139 : decode prog_11_method_25_code 139 = .ok (.aload_n 0, 1) := by decide +kernel
theorem d_X9_keep_140 : decode prog_11_method_25_code 140 = .ok (.getfield 74, 3) := by decide +kernel
theorem d_X9_keep_143 : decode prog_11_method_25_code 143 = .ok (.iload_n 3, 1) := by decide +kernel
theorem d_X9_keep_144 : decode prog_11_method_25_code 144 = .ok (.aload_n 0, 1) := by decide +kernel
theorem d_X9_keep_145 : decode prog_11_method_25_code 145 = .ok (.getfield 74, 3) := by decide +kernel
theorem d_X9_keep_148 : decode prog_11_method_25_code 148 = .ok (.iload_n 3, 1) := by decide +kernel
theorem d_X9_keep_149 : decode prog_11_method_25_code 149 = .ok (.iconst 1, 1) := by decide +kernel
theorem d_X9_keep_150 : decode prog_11_method_25_code 150 = .ok (.isub, 1) := by decide +kernel
theorem d_X9_keep_151 : decode prog_11_method_25_code 151 = .ok (.iaload, 1) := by decide +kernel
theorem d_X9_keep_152 : decode prog_11_method_25_code 152 = .ok (.iastore, 1) := by decide +kernel
theorem d_X9_keep_153 : decode prog_11_method_25_code 153 = .ok (.aload_n 0, 1) := by decide +kernel
theorem d_X9_keep_154 : decode prog_11_method_25_code 154 = .ok (.getfield 77, 3) := by decide +kernel
theorem d_X9_keep_157 : decode prog_11_method_25_code 157 = .ok (.iload_n 3, 1) := by decide +kernel
theorem d_X9_keep_158 : decode prog_11_method_25_code 158 = .ok (.aload_n 0, 1) := by decide +kernel
theorem d_X9_keep_159 : decode prog_11_method_25_code 159 = .ok (.getfield 77, 3) := by decide +kernel
theorem d_X9_keep_162 : decode prog_11_method_25_code 162 = .ok (.iload_n 3, 1) := by decide +kernel
theorem d_X9_keep_163 : decode prog_11_method_25_code 163 = .ok (.iconst 1, 1) := by decide +kernel
theorem d_X9_keep_164 : decode prog_11_method_25_code 164 = .ok (.isub, 1) := by decide +kernel
theorem d_X9_keep_165 : decode prog_11_method_25_code 165 = .ok (.iaload, 1) := by decide +kernel
theorem d_X9_keep_166 : decode prog_11_method_25_code 166 = .ok (.iastore, 1) := by decide +kernel
theorem d_X9_keep_167 : decode prog_11_method_25_code 167 = .ok (.iinc 3 (-1), 3) := by decide +kernel
theorem d_X9_keep_170 : decode prog_11_method_25_code 170 = .ok (.goto (-93), 3) := by decide +kernel
theorem d_X9_keep_173 : decode prog_11_method_25_code 173 = .ok (.iconst 0, 1) := by decide +kernel
theorem d_X9_keep_174 : decode prog_11_method_25_code 174 = .ok (.istore_n 3, 1) := by decide +kernel
theorem d_X9_keep_175 : decode prog_11_method_25_code 175 = .ok (.iload_n 3, 1) := by decide +kernel
theorem d_X9_keep_176 : decode prog_11_method_25_code 176 = .ok (.bipush 6, 2) := by decide +kernel
theorem d_X9_keep_178 : decode prog_11_method_25_code 178 = .ok (.if_icmp .ge 50, 3) := by decide +kernel
theorem d_X9_keep_181 : decode prog_11_method_25_code 181 = .ok (.aload_n 0, 1) := by decide +kernel
theorem d_X9_keep_182 : decode prog_11_method_25_code 182 = .ok (.getfield 68, 3) := by decide +kernel
theorem d_X9_keep_185 : decode prog_11_method_25_code 185 = .ok (.bipush 6, 2) := by decide +kernel
theorem d_X9_keep_187 : decode prog_11_method_25_code 187 = .ok (.iload_n 2, 1) := by decide +kernel
theorem d_X9_keep_188 : decode prog_11_method_25_code 188 = .ok (.imul, 1) := by decide +kernel
theorem d_X9_keep_189 : decode prog_11_method_25_code 189 = .ok (.iload_n 3, 1) := by decide +kernel
theorem d_X9_keep_190 : decode prog_11_method_25_code 190 = .ok (.iadd, 1) := by decide +kernel
theorem d_X9_keep_191 : decode prog_11_method_25_code 191 = .ok (.aload_n 0, 1) := by decide +kernel
theorem d_X9_keep_192 : decode prog_11_method_25_code 192 = .ok (.getfield 59, 3) := by decide +kernel
theorem d_X9_keep_195 : decode prog_11_method_25_code 195 = .ok (.iload_n 3, 1) := by decide +kernel
theorem d_X9_keep_196 : decode prog_11_method_25_code 196 = .ok (.iaload, 1) := by decide +kernel
theorem d_X9_keep_197 : decode prog_11_method_25_code 197 = .ok (.ifCond .ge 7, 3) := by decide +kernel
theorem d_X9_keep_200 : decode prog_11_method_25_code 200 = .ok (.iconst (-1), 1) := by decide +kernel
theorem d_X9_keep_201 : decode prog_11_method_25_code 201 = .ok (.goto 20, 3) := by decide +kernel
theorem d_X9_keep_204 : decode prog_11_method_25_code 204 = .ok (.sipush 10000, 3) := by decide +kernel
theorem d_X9_keep_207 : decode prog_11_method_25_code 207 = .ok (.aload_n 0, 1) := by decide +kernel
theorem d_X9_keep_208 : decode prog_11_method_25_code 208 = .ok (.getfield 62, 3) := by decide +kernel
theorem d_X9_keep_211 : decode prog_11_method_25_code 211 = .ok (.iload_n 3, 1) := by decide +kernel
theorem d_X9_keep_212 : decode prog_11_method_25_code 212 = .ok (.iaload, 1) := by decide +kernel
theorem d_X9_keep_213 : decode prog_11_method_25_code 213 = .ok (.imul, 1) := by decide +kernel
theorem d_X9_keep_214 : decode prog_11_method_25_code 214 = .ok (.aload_n 0, 1) := by decide +kernel
theorem d_X9_keep_215 : decode prog_11_method_25_code 215 = .ok (.getfield 59, 3) := by decide +kernel
theorem d_X9_keep_218 : decode prog_11_method_25_code 218 = .ok (.iload_n 3, 1) := by decide +kernel
theorem d_X9_keep_219 : decode prog_11_method_25_code 219 = .ok (.iaload, 1) := by decide +kernel
theorem d_X9_keep_220 : decode prog_11_method_25_code 220 = .ok (.iadd, 1) := by decide +kernel
theorem d_X9_keep_221 : decode prog_11_method_25_code 221 = .ok (.iastore, 1) := by decide +kernel
theorem d_X9_keep_222 : decode prog_11_method_25_code 222 = .ok (.iinc 3 1, 3) := by decide +kernel
theorem d_X9_keep_225 : decode prog_11_method_25_code 225 = .ok (.goto (-50), 3) := by decide +kernel
theorem d_X9_keep_228 : decode prog_11_method_25_code 228 = .ok (.aload_n 0, 1) := by decide +kernel
theorem d_X9_keep_229 : decode prog_11_method_25_code 229 = .ok (.getfield 71, 3) := by decide +kernel
theorem d_X9_keep_232 : decode prog_11_method_25_code 232 = .ok (.iload_n 2, 1) := by decide +kernel
theorem d_X9_keep_233 : decode prog_11_method_25_code 233 = .ok (.iconst 1, 1) := by decide +kernel
theorem d_X9_keep_234 : decode prog_11_method_25_code 234 = .ok (.iastore, 1) := by decide +kernel
theorem d_X9_keep_235 : decode prog_11_method_25_code 235 = .ok (.aload_n 0, 1) := by decide +kernel
theorem d_X9_keep_236 : decode prog_11_method_25_code 236 = .ok (.getfield 74, 3) := by decide +kernel
theorem d_X9_keep_239 : decode prog_11_method_25_code 239 = .ok (.iload_n 2, 1) := by decide +kernel
theorem d_X9_keep_240 : decode prog_11_method_25_code 240 = .ok (.iload_n 1, 1) := by decide +kernel
theorem d_X9_keep_241 : decode prog_11_method_25_code 241 = .ok (.iastore, 1) := by decide +kernel
theorem d_X9_keep_242 : decode prog_11_method_25_code 242 = .ok (.aload_n 0, 1) := by decide +kernel
theorem d_X9_keep_243 : decode prog_11_method_25_code 243 = .ok (.getfield 77, 3) := by decide +kernel
theorem d_X9_keep_246 : decode prog_11_method_25_code 246 = .ok (.iload_n 2, 1) := by decide +kernel
theorem d_X9_keep_247 : decode prog_11_method_25_code 247 = .ok (.iload_n 1, 1) := by decide +kernel
theorem d_X9_keep_248 : decode prog_11_method_25_code 248 = .ok (.iastore, 1) := by decide +kernel
theorem d_X9_keep_249 : decode prog_11_method_25_code 249 = .ok (.aload_n 0, 1) := by decide +kernel
theorem d_X9_keep_250 : decode prog_11_method_25_code 250 = .ok (.dup, 1) := by decide +kernel
theorem d_X9_keep_251 : decode prog_11_method_25_code 251 = .ok (.getfield 130, 3) := by decide +kernel
theorem d_X9_keep_254 : decode prog_11_method_25_code 254 = .ok (.iconst 1, 1) := by decide +kernel
theorem d_X9_keep_255 : decode prog_11_method_25_code 255 = .ok (.iadd, 1) := by decide +kernel
theorem d_X9_keep_256 : decode prog_11_method_25_code 256 = .ok (.putfield 130, 3) := by decide +kernel
theorem d_X9_keep_259 : decode prog_11_method_25_code 259 = .ok (.return_, 1) := by decide +kernel
abbrev y_X9_compare : MethodName := ⟨"VirtualRewriteModel", "compare", "(I)I"⟩
theorem d_X9_compare_0 : decode prog_11_method_24_code 0 = .ok (.iconst 0, 1) := by decide +kernel
theorem d_X9_compare_1 : decode prog_11_method_24_code 1 = .ok (.istore_n 2, 1) := by decide +kernel
theorem d_X9_compare_2 : decode prog_11_method_24_code 2 = .ok (.iload_n 2, 1) := by decide +kernel
theorem d_X9_compare_3 : decode prog_11_method_24_code 3 = .ok (.bipush 6, 2) := by decide +kernel
theorem d_X9_compare_5 : decode prog_11_method_24_code 5 = .ok (.if_icmp .ge 76, 3) := by decide +kernel
theorem d_X9_compare_8 : decode prog_11_method_24_code 8 = .ok (.aload_n 0, 1) := by decide +kernel
theorem d_X9_compare_9 : decode prog_11_method_24_code 9 = .ok (.getfield 59, 3) := by decide +kernel
theorem d_X9_compare_12 : decode prog_11_method_24_code 12 = .ok (.iload_n 2, 1) := by decide +kernel
theorem d_X9_compare_13 : decode prog_11_method_24_code 13 = .ok (.iaload, 1) := by decide +kernel
theorem d_X9_compare_14 : decode prog_11_method_24_code 14 = .ok (.ifCond .ge 7, 3) := by decide +kernel
theorem d_X9_compare_17 : decode prog_11_method_24_code 17 = .ok (.iconst (-1), 1) := by decide +kernel
theorem d_X9_compare_18 : decode prog_11_method_24_code 18 = .ok (.goto 20, 3) := by decide +kernel
theorem d_X9_compare_21 : decode prog_11_method_24_code 21 = .ok (.sipush 10000, 3) := by decide +kernel
theorem d_X9_compare_24 : decode prog_11_method_24_code 24 = .ok (.aload_n 0, 1) := by decide +kernel
theorem d_X9_compare_25 : decode prog_11_method_24_code 25 = .ok (.getfield 62, 3) := by decide +kernel
theorem d_X9_compare_28 : decode prog_11_method_24_code 28 = .ok (.iload_n 2, 1) := by decide +kernel
theorem d_X9_compare_29 : decode prog_11_method_24_code 29 = .ok (.iaload, 1) := by decide +kernel
theorem d_X9_compare_30 : decode prog_11_method_24_code 30 = .ok (.imul, 1) := by decide +kernel
theorem d_X9_compare_31 : decode prog_11_method_24_code 31 = .ok (.aload_n 0, 1) := by decide +kernel
theorem d_X9_compare_32 : decode prog_11_method_24_code 32 = .ok (.getfield 59, 3) := by decide +kernel
theorem d_X9_compare_35 : decode prog_11_method_24_code 35 = .ok (.iload_n 2, 1) := by decide +kernel
theorem d_X9_compare_36 : decode prog_11_method_24_code 36 = .ok (.iaload, 1) := by decide +kernel
theorem d_X9_compare_37 : decode prog_11_method_24_code 37 = .ok (.iadd, 1) := by decide +kernel
theorem d_X9_compare_38 : decode prog_11_method_24_code 38 = .ok (.istore_n 3, 1) := by decide +kernel
theorem d_X9_compare_39 : decode prog_11_method_24_code 39 = .ok (.iload_n 3, 1) := by decide +kernel
theorem d_X9_compare_40 : decode prog_11_method_24_code 40 = .ok (.aload_n 0, 1) := by decide +kernel
theorem d_X9_compare_41 : decode prog_11_method_24_code 41 = .ok (.getfield 68, 3) := by decide +kernel
theorem d_X9_compare_44 : decode prog_11_method_24_code 44 = .ok (.bipush 6, 2) := by decide +kernel
theorem d_X9_compare_46 : decode prog_11_method_24_code 46 = .ok (.iload_n 1, 1) := by decide +kernel
theorem d_X9_compare_47 : decode prog_11_method_24_code 47 = .ok (.imul, 1) := by decide +kernel
theorem d_X9_compare_48 : decode prog_11_method_24_code 48 = .ok (.iload_n 2, 1) := by decide +kernel
theorem d_X9_compare_49 : decode prog_11_method_24_code 49 = .ok (.iadd, 1) := by decide +kernel
theorem d_X9_compare_50 : decode prog_11_method_24_code 50 = .ok (.iaload, 1) := by decide +kernel
theorem d_X9_compare_51 : decode prog_11_method_24_code 51 = .ok (.if_icmp .eq 24, 3) := by decide +kernel
theorem d_X9_compare_54 : decode prog_11_method_24_code 54 = .ok (.iload_n 3, 1) := by decide +kernel
theorem d_X9_compare_55 : decode prog_11_method_24_code 55 = .ok (.aload_n 0, 1) := by decide +kernel
theorem d_X9_compare_56 : decode prog_11_method_24_code 56 = .ok (.getfield 68, 3) := by decide +kernel
theorem d_X9_compare_59 : decode prog_11_method_24_code 59 = .ok (.bipush 6, 2) := by decide +kernel
theorem d_X9_compare_61 : decode prog_11_method_24_code 61 = .ok (.iload_n 1, 1) := by decide +kernel
theorem d_X9_compare_62 : decode prog_11_method_24_code 62 = .ok (.imul, 1) := by decide +kernel
theorem d_X9_compare_63 : decode prog_11_method_24_code 63 = .ok (.iload_n 2, 1) := by decide +kernel
theorem d_X9_compare_64 : decode prog_11_method_24_code 64 = .ok (.iadd, 1) := by decide +kernel
theorem d_X9_compare_65 : decode prog_11_method_24_code 65 = .ok (.iaload, 1) := by decide +kernel
theorem d_X9_compare_66 : decode prog_11_method_24_code 66 = .ok (.if_icmp .ge 7, 3) := by decide +kernel
theorem d_X9_compare_69 : decode prog_11_method_24_code 69 = .ok (.iconst (-1), 1) := by decide +kernel
theorem d_X9_compare_70 : decode prog_11_method_24_code 70 = .ok (.goto 4, 3) := by decide +kernel
theorem d_X9_compare_73 : decode prog_11_method_24_code 73 = .ok (.iconst 1, 1) := by decide +kernel
theorem d_X9_compare_74 : decode prog_11_method_24_code 74 = .ok (.ireturn, 1) := by decide +kernel
theorem d_X9_compare_75 : decode prog_11_method_24_code 75 = .ok (.iinc 2 1, 3) := by decide +kernel
theorem d_X9_compare_78 : decode prog_11_method_24_code 78 = .ok (.goto (-76), 3) := by decide +kernel
theorem d_X9_compare_81 : decode prog_11_method_24_code 81 = .ok (.iconst 0, 1) := by decide +kernel
theorem d_X9_compare_82 : decode prog_11_method_24_code 82 = .ok (.ireturn, 1) := by decide +kernel
abbrev y_X9_value : MethodName := ⟨"VirtualRewriteModel", "value", "(II)I"⟩
theorem d_X9_value_0 : decode prog_11_method_28_code 0 = .ok (.aload_n 0, 1) := by decide +kernel
theorem d_X9_value_1 : decode prog_11_method_28_code 1 = .ok (.iconst 0, 1) := by decide +kernel
theorem d_X9_value_2 : decode prog_11_method_28_code 2 = .ok (.putfield 80, 3) := by decide +kernel
theorem d_X9_value_5 : decode prog_11_method_28_code 5 = .ok (.iload_n 1, 1) := by decide +kernel
theorem d_X9_value_6 : decode prog_11_method_28_code 6 = .ok (.iconst 0, 1) := by decide +kernel
theorem d_X9_value_7 : decode prog_11_method_28_code 7 = .ok (.aload_n 0, 1) := by decide +kernel
theorem d_X9_value_8 : decode prog_11_method_28_code 8 = .ok (.getfield 130, 3) := by decide +kernel
theorem d_X9_value_11 : decode prog_11_method_28_code 11 = .ok (.iconst 1, 1) := by decide +kernel
theorem d_X9_value_12 : decode prog_11_method_28_code 12 = .ok (.isub, 1) := by decide +kernel
theorem d_X9_value_13 : decode prog_11_method_28_code 13 = .ok (.invokestatic 84, 3) := by decide +kernel
theorem d_X9_value_16 : decode prog_11_method_28_code 16 = .ok (.ifCond .eq 12, 3) := by decide +kernel
theorem d_X9_value_19 : decode prog_11_method_28_code 19 = .ok (.iload_n 2, 1) := by decide +kernel
theorem d_X9_value_20 : decode prog_11_method_28_code 20 = .ok (.iconst 0, 1) := by decide +kernel
theorem d_X9_value_21 : decode prog_11_method_28_code 21 = .ok (.iconst 5, 1) := by decide +kernel
theorem d_X9_value_22 : decode prog_11_method_28_code 22 = .ok (.invokestatic 84, 3) := by decide +kernel
theorem d_X9_value_25 : decode prog_11_method_28_code 25 = .ok (.ifCond .ne 5, 3) := by decide +kernel
theorem d_X9_value_28 : decode prog_11_method_28_code 28 = .ok (.iconst (-1), 1) := by decide +kernel
theorem d_X9_value_29 : decode prog_11_method_28_code 29 = .ok (.ireturn, 1) := by decide +kernel
theorem d_X9_value_30 : decode prog_11_method_28_code 30 = .ok (.aload_n 0, 1) := by decide +kernel
theorem d_X9_value_31 : decode prog_11_method_28_code 31 = .ok (.getfield 65, 3) := by decide +kernel
theorem d_X9_value_34 : decode prog_11_method_28_code 34 = .ok (.iload_n 2, 1) := by decide +kernel
theorem d_X9_value_35 : decode prog_11_method_28_code 35 = .ok (.baload, 1) := by decide +kernel
theorem d_X9_value_36 : decode prog_11_method_28_code 36 = .ok (.ifCond .ne 10, 3) := by decide +kernel
theorem d_X9_value_39 : decode prog_11_method_28_code 39 = .ok (.aload_n 0, 1) := by decide +kernel
theorem d_X9_value_40 : decode prog_11_method_28_code 40 = .ok (.iconst 1, 1) := by decide +kernel
theorem d_X9_value_41 : decode prog_11_method_28_code 41 = .ok (.putfield 80, 3) := by decide +kernel
theorem d_X9_value_44 : decode prog_11_method_28_code 44 = .ok (.iconst 0, 1) := by decide +kernel
theorem d_X9_value_45 : decode prog_11_method_28_code 45 = .ok (.ireturn, 1) := by decide +kernel
theorem d_X9_value_46 : decode prog_11_method_28_code 46 = .ok (.aload_n 0, 1) := by decide +kernel
theorem d_X9_value_47 : decode prog_11_method_28_code 47 = .ok (.getfield 68, 3) := by decide +kernel
theorem d_X9_value_50 : decode prog_11_method_28_code 50 = .ok (.bipush 6, 2) := by decide +kernel
theorem d_X9_value_52 : decode prog_11_method_28_code 52 = .ok (.iload_n 1, 1) := by decide +kernel
theorem d_X9_value_53 : decode prog_11_method_28_code 53 = .ok (.imul, 1) := by decide +kernel
theorem d_X9_value_54 : decode prog_11_method_28_code 54 = .ok (.iload_n 2, 1) := by decide +kernel
theorem d_X9_value_55 : decode prog_11_method_28_code 55 = .ok (.iadd, 1) := by decide +kernel
theorem d_X9_value_56 : decode prog_11_method_28_code 56 = .ok (.iaload, 1) := by decide +kernel
theorem d_X9_value_57 : decode prog_11_method_28_code 57 = .ok (.ireturn, 1) := by decide +kernel
