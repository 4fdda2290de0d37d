abbrev y_X9_canMeet : MethodName := ⟨"VirtualRewriteModel", "canMeet", "(I)Z"⟩
theorem d_X9_canMeet_0 : decode prog_11_method_15_code 0 = .ok (.iconst 0, 1) := by decide +kernel
theorem d_X9_canMeet_1 : decode prog_11_method_15_code 1 = .ok (.istore_n 2, 1) := by decide +kernel
theorem d_X9_canMeet_2 : decode prog_11_method_15_code 2 = .ok (.iload_n 2, 1) := by decide +kernel
theorem d_X9_canMeet_3 : decode prog_11_method_15_code 3 = .ok (.bipush 6, 2) := by decide +kernel
theorem d_X9_canMeet_5 : decode prog_11_method_15_code 5 = .ok (.if_icmp .ge 16, 3) := by decide +kernel
theorem d_X9_canMeet_8 : decode prog_11_method_15_code 8 = .ok (.aload_n 0, 1) := by decide +kernel
theorem d_X9_canMeet_9 : decode prog_11_method_15_code 9 = .ok (.getfield 62, 3) := by decide +kernel
theorem d_X9_canMeet_12 : decode prog_11_method_15_code 12 = .ok (.iload_n 2, 1) := by decide +kernel
theorem d_X9_canMeet_13 : decode prog_11_method_15_code 13 = .ok (.iconst (-1), 1) := by decide +kernel
theorem d_X9_canMeet_14 : decode prog_11_method_15_code 14 = .ok (.iastore, 1) := by decide +kernel
theorem d_X9_canMeet_15 : decode prog_11_method_15_code 15 = .ok (.iinc 2 1, 3) := by decide +kernel
theorem d_X9_canMeet_18 : decode prog_11_method_15_code 18 = .ok (.goto (-16), 3) := by decide +kernel
theorem d_X9_canMeet_21 : decode prog_11_method_15_code 21 = .ok (.iconst 1, 1) := by decide +kernel
theorem d_X9_canMeet_22 : decode prog_11_method_15_code 22 = .ok (.istore_n 2, 1) := by decide +kernel
theorem d_X9_canMeet_23 : decode prog_11_method_15_code 23 = .ok (.iconst 0, 1) := by decide +kernel
theorem d_X9_canMeet_24 : decode prog_11_method_15_code 24 = .ok (.istore_n 3, 1) := by decide +kernel
theorem d_X9_canMeet_25 : decode prog_11_method_15_code 25 = .ok (.iload_n 3, 1) := by decide +kernel
theorem d_X9_canMeet_26 : decode prog_11_method_15_code 26 = .ok (.aload_n 0, 1) := by decide +kernel
theorem d_X9_canMeet_27 : decode prog_11_method_15_code 27 = .ok (.getfield 103, 3) := by decide +kernel
theorem d_X9_canMeet_30 : decode prog_11_method_15_code 30 = .ok (.if_icmp .ge 165, 3) := by decide +kernel
theorem d_X9_canMeet_33 : decode prog_11_method_15_code 33 = .ok (.iload_n 2, 1) := by decide +kernel
theorem d_X9_canMeet_34 : decode prog_11_method_15_code 34 = .ok (.ifCond .eq 161, 3) := by decide +kernel
theorem d_X9_canMeet_37 : decode prog_11_method_15_code 37 = .ok (.aload_n 0, 1) := by decide +kernel
theorem d_X9_canMeet_38 : decode prog_11_method_15_code 38 = .ok (.getfield 23, 3) := by decide +kernel
theorem d_X9_canMeet_41 : decode prog_11_method_15_code 41 = .ok (.aload_n 0, 1) := by decide +kernel
theorem d_X9_canMeet_42 : decode prog_11_method_15_code 42 = .ok (.getfield 47, 3) := by decide +kernel
theorem d_X9_canMeet_45 : decode prog_11_method_15_code 45 = .ok (.iload_n 1, 1) := by decide +kernel
theorem d_X9_canMeet_46 : decode prog_11_method_15_code 46 = .ok (.iload_n 3, 1) := by decide +kernel
theorem d_X9_canMeet_47 : decode prog_11_method_15_code 47 = .ok (.iadd, 1) := by decide +kernel
theorem d_X9_canMeet_48 : decode prog_11_method_15_code 48 = .ok (.iaload, 1) := by decide +kernel
theorem d_X9_canMeet_49 : decode prog_11_method_15_code 49 = .ok (.iaload, 1) := by decide +kernel
theorem d_X9_canMeet_50 : decode prog_11_method_15_code 50 = .ok (.aload_n 0, 1) := by decide +kernel
theorem d_X9_canMeet_51 : decode prog_11_method_15_code 51 = .ok (.getfield 32, 3) := by decide +kernel
theorem d_X9_canMeet_54 : decode prog_11_method_15_code 54 = .ok (.iload_n 3, 1) := by decide +kernel
theorem d_X9_canMeet_55 : decode prog_11_method_15_code 55 = .ok (.iaload, 1) := by decide +kernel
theorem d_X9_canMeet_56 : decode prog_11_method_15_code 56 = .ok (.if_icmp .ne 7, 3) := by decide +kernel
theorem d_X9_canMeet_59 : decode prog_11_method_15_code 59 = .ok (.iconst 1, 1) := by decide +kernel
theorem d_X9_canMeet_60 : decode prog_11_method_15_code 60 = .ok (.goto 4, 3) := by decide +kernel
theorem d_X9_canMeet_63 : decode prog_11_method_15_code 63 = .ok (.iconst 0, 1) := by decide +kernel
theorem d_X9_canMeet_64 : decode prog_11_method_15_code 64 = .ok (.istore_n 2, 1) := by decide +kernel
theorem d_X9_canMeet_65 : decode prog_11_method_15_code 65 = .ok (.iconst 0, 1) := by decide +kernel
theorem d_X9_canMeet_66 : decode prog_11_method_15_code 66 = .ok (.istore 4, 2) := by decide +kernel
theorem d_X9_canMeet_68 : decode prog_11_method_15_code 68 = .ok (.iload 4, 2) := by decide +kernel
theorem d_X9_canMeet_70 : decode prog_11_method_15_code 70 = .ok (.iconst 2, 1) := by decide +kernel
theorem d_X9_canMeet_71 : decode prog_11_method_15_code 71 = .ok (.if_icmp .ge 118, 3) := by decide +kernel
theorem d_X9_canMeet_74 : decode prog_11_method_15_code 74 = .ok (.aload_n 0, 1) := by decide +kernel
theorem d_X9_canMeet_75 : decode prog_11_method_15_code 75 = .ok (.getfield 35, 3) := by decide +kernel
theorem d_X9_canMeet_78 : decode prog_11_method_15_code 78 = .ok (.iconst 2, 1) := by decide +kernel
theorem d_X9_canMeet_79 : decode prog_11_method_15_code 79 = .ok (.iload_n 3, 1) := by decide +kernel
theorem d_X9_canMeet_80 : decode prog_11_method_15_code 80 = .ok (.imul, 1) := by decide +kernel
theorem d_X9_canMeet_81 : decode prog_11_method_15_code 81 = .ok (.iload 4, 2) := by decide +kernel
theorem d_X9_canMeet_83 : decode prog_11_method_15_code 83 = .ok (.iadd, 1) := by decide +kernel
theorem d_X9_canMeet_84 : decode prog_11_method_15_code 84 = .ok (.iaload, 1) := by decide +kernel
theorem d_X9_canMeet_85 : decode prog_11_method_15_code 85 = .ok (.istore 5, 2) := by decide +kernel
theorem d_X9_canMeet_87 : decode prog_11_method_15_code 87 = .ok (.aload_n 0, 1) := by decide +kernel
theorem d_X9_canMeet_88 : decode prog_11_method_15_code 88 = .ok (.getfield 26, 3) := by decide +kernel
theorem d_X9_canMeet_91 : decode prog_11_method_15_code 91 = .ok (.iconst 2, 1) := by decide +kernel
theorem d_X9_canMeet_92 : decode prog_11_method_15_code 92 = .ok (.aload_n 0, 1) := by decide +kernel
theorem d_X9_canMeet_93 : decode prog_11_method_15_code 93 = .ok (.getfield 47, 3) := by decide +kernel
theorem d_X9_canMeet_96 : decode prog_11_method_15_code 96 = .ok (.iload_n 1, 1) := by decide +kernel
theorem d_X9_canMeet_97 : decode prog_11_method_15_code 97 = .ok (.iload_n 3, 1) := by decide +kernel
theorem d_X9_canMeet_98 : decode prog_11_method_15_code 98 = .ok (.iadd, 1) := by decide +kernel
theorem d_X9_canMeet_99 : decode prog_11_method_15_code 99 = .ok (.iaload, 1) := by decide +kernel
theorem d_X9_canMeet_100 : decode prog_11_method_15_code 100 = .ok (.imul, 1) := by decide +kernel
theorem d_X9_canMeet_101 : decode prog_11_method_15_code 101 = .ok (.iload 4, 2) := by decide +kernel
theorem d_X9_canMeet_103 : decode prog_11_method_15_code 103 = .ok (.iadd, 1) := by decide +kernel
theorem d_X9_canMeet_104 : decode prog_11_method_15_code 104 = .ok (.iaload, 1) := by decide +kernel
theorem d_X9_canMeet_105 : decode prog_11_method_15_code 105 = .ok (.istore 6, 2) := by decide +kernel
theorem d_X9_canMeet_107 : decode prog_11_method_15_code 107 = .ok (.iload 5, 2) := by decide +kernel
theorem d_X9_canMeet_109 : decode prog_11_method_15_code 109 = .ok (.ifCond .lt 27, 3) := by decide +kernel
theorem d_X9_canMeet_112 : decode prog_11_method_15_code 112 = .ok (.iload_n 2, 1) := by decide +kernel
theorem d_X9_canMeet_113 : decode prog_11_method_15_code 113 = .ok (.ifCond .eq 18, 3) := by decide +kernel
theorem d_X9_canMeet_116 : decode prog_11_method_15_code 116 = .ok (.iload 5, 2) := by decide +kernel
theorem d_X9_canMeet_118 : decode prog_11_method_15_code 118 = .ok (.sipush 10000, 3) := by decide +kernel
theorem d_X9_canMeet_121 : decode prog_11_method_15_code 121 = .ok (.idiv, 1) := by decide +kernel
theorem d_X9_canMeet_122 : decode prog_11_method_15_code 122 = .ok (.iload 6, 2) := by decide +kernel
theorem d_X9_canMeet_124 : decode prog_11_method_15_code 124 = .ok (.if_icmp .ne 7, 3) := by decide +kernel
theorem d_X9_canMeet_127 : decode prog_11_method_15_code 127 = .ok (.iconst 1, 1) := by decide +kernel
theorem d_X9_canMeet_128 : decode prog_11_method_15_code 128 = .ok (.goto 4, 3) := by decide +kernel
theorem d_X9_canMeet_131 : decode prog_11_method_15_code 131 = .ok (.iconst 0, 1) := by decide +kernel
theorem d_X9_canMeet_132 : decode prog_11_method_15_code 132 = .ok (.istore_n 2, 1) := by decide +kernel
theorem d_X9_canMeet_133 : decode prog_11_method_15_code 133 = .ok (.goto 50, 3) := by decide +kernel
theorem d_X9_canMeet_136 : decode prog_11_method_15_code 136 = .ok (.iconst (-1), 1) := by decide +kernel
theorem d_X9_canMeet_137 : decode prog_11_method_15_code 137 = .ok (.iload 5, 2) := by decide +kernel
theorem d_X9_canMeet_139 : decode prog_11_method_15_code 139 = .ok (.isub, 1) := by decide +kernel
theorem d_X9_canMeet_140 : decode prog_11_method_15_code 140 = .ok (.istore 7, 2) := by decide +kernel
theorem d_X9_canMeet_142 : decode prog_11_method_15_code 142 = .ok (.iload_n 2, 1) := by decide +kernel
theorem d_X9_canMeet_143 : decode prog_11_method_15_code 143 = .ok (.ifCond .eq 29, 3) := by decide +kernel
theorem d_X9_canMeet_146 : decode prog_11_method_15_code 146 = .ok (.aload_n 0, 1) := by decide +kernel
theorem d_X9_canMeet_147 : decode prog_11_method_15_code 147 = .ok (.getfield 62, 3) := by decide +kernel
theorem d_X9_canMeet_150 : decode prog_11_method_15_code 150 = .ok (.iload 7, 2) := by decide +kernel
theorem d_X9_canMeet_152 : decode prog_11_method_15_code 152 = .ok (.iaload, 1) := by decide +kernel
theorem d_X9_canMeet_153 : decode prog_11_method_15_code 153 = .ok (.ifCond .lt 15, 3) := by decide +kernel
theorem d_X9_canMeet_156 : decode prog_11_method_15_code 156 = .ok (.aload_n 0, 1) := by decide +kernel
theorem d_X9_canMeet_157 : decode prog_11_method_15_code 157 = .ok (.getfield 62, 3) := by decide +kernel
theorem d_X9_canMeet_160 : decode prog_11_method_15_code 160 = .ok (.iload 7, 2) := by decide +kernel
theorem d_X9_canMeet_162 : decode prog_11_method_15_code 162 = .ok (.iaload, 1) := by decide +kernel
theorem d_X9_canMeet_163 : decode prog_11_method_15_code 163 = .ok (.iload 6, 2) := by decide +kernel
theorem d_X9_canMeet_165 : decode prog_11_method_15_code 165 = .ok (.if_icmp .ne 7, 3) := by decide +kernel
theorem d_X9_canMeet_168 : decode prog_11_method_15_code 168 = .ok (.iconst 1, 1) := by decide +kernel
theorem d_X9_canMeet_169 : decode prog_11_method_15_code 169 = .ok (.goto 4, 3) := by decide +kernel
theorem d_X9_canMeet_172 : decode prog_11_method_15_code 172 = .ok (.iconst 0, 1) := by decide +kernel
theorem d_X9_canMeet_173 : decode prog_11_method_15_code 173 = .ok (.istore_n 2, 1) := by decide +kernel
theorem d_X9_canMeet_174 : decode prog_11_method_15_code 174 = .ok (.aload_n 0, 1) := by decide +kernel
theorem d_X9_canMeet_175 : decode prog_11_method_15_code 175 = .ok (.getfield 62, 3) := by decide +kernel
theorem d_X9_canMeet_178 : decode prog_11_method_15_code 178 = .ok (.iload 7, 2) := by decide +kernel
theorem d_X9_canMeet_180 : decode prog_11_method_15_code 180 = .ok (.iload 6, 2) := by decide +kernel
theorem d_X9_canMeet_182 : decode prog_11_method_15_code 182 = .ok (.iastore, 1) := by decide +kernel
theorem d_X9_canMeet_183 : decode prog_11_method_15_code 183 = .ok (.iinc 4 1, 3) := by decide +kernel
theorem d_X9_canMeet_186 : decode prog_11_method_15_code 186 = .ok (.goto (-118), 3) := by decide +kernel
theorem d_X9_canMeet_189 : decode prog_11_method_15_code 189 = .ok (.iinc 3 1, 3) := by decide +kernel
theorem d_X9_canMeet_192 : decode prog_11_method_15_code 192 = .ok (.goto (-167), 3) := by decide +kernel
theorem d_X9_canMeet_195 : decode prog_11_method_15_code 195 = .ok (.iload_n 2, 1) := by decide +kernel
theorem d_X9_canMeet_196 : decode prog_11_method_15_code 196 = .ok (.ireturn, 1) := by decide +kernel
abbrev y_X9_giveSlots : MethodName := ⟨"VirtualRewriteModel", "giveSlots", "(I)V"⟩
theorem d_X9_giveSlots_0 : decode prog_11_method_17_code 0 = .ok (.iconst 4, 1) := by decide +kernel
theorem d_X9_giveSlots_1 : decode prog_11_method_17_code 1 = .ok (.iload_n 1, 1) := by decide +kernel
theorem d_X9_giveSlots_2 : decode prog_11_method_17_code 2 = .ok (.imul, 1) := by decide +kernel
theorem d_X9_giveSlots_3 : decode prog_11_method_17_code 3 = .ok (.istore_n 2, 1) := by decide +kernel
theorem d_X9_giveSlots_4 : decode prog_11_method_17_code 4 = .ok (.aload_n 0, 1) := by decide +kernel
theorem d_X9_giveSlots_5 : decode prog_11_method_17_code 5 = .ok (.getfield 53, 3) := by decide +kernel
theorem d_X9_giveSlots_8 : decode prog_11_method_17_code 8 = .ok (.iload_n 1, 1) := by decide +kernel
theorem d_X9_giveSlots_9 : decode prog_11_method_17_code 9 = .ok (.iconst 0, 1) := by decide +kernel
theorem d_X9_giveSlots_10 : decode prog_11_method_17_code 10 = .ok (.iastore, 1) := by decide +kernel
theorem d_X9_giveSlots_11 : decode prog_11_method_17_code 11 = .ok (.iconst 0, 1) := by decide +kernel
theorem d_X9_giveSlots_12 : decode prog_11_method_17_code 12 = .ok (.istore_n 3, 1) := by decide +kernel
theorem d_X9_giveSlots_13 : decode prog_11_method_17_code 13 = .ok (.iload_n 3, 1) := by decide +kernel
theorem d_X9_giveSlots_14 : decode prog_11_method_17_code 14 = .ok (.aload_n 0, 1) := by decide +kernel
theorem d_X9_giveSlots_15 : decode prog_11_method_17_code 15 = .ok (.getfield 103, 3) := by decide +kernel
theorem d_X9_giveSlots_18 : decode prog_11_method_17_code 18 = .ok (.if_icmp .ge 98, 3) := by decide +kernel
theorem d_X9_giveSlots_21 : decode prog_11_method_17_code 21 = .ok (.iconst (-1), 1) := by decide +kernel
theorem d_X9_giveSlots_22 : decode prog_11_method_17_code 22 = .ok (.istore 4, 2) := by decide +kernel
theorem d_X9_giveSlots_24 : decode prog_11_method_17_code 24 = .ok (.iload_n 3, 1) := by decide +kernel
theorem d_X9_giveSlots_25 : decode prog_11_method_17_code 25 = .ok (.iconst 1, 1) := by decide +kernel
theorem d_X9_giveSlots_26 : decode prog_11_method_17_code 26 = .ok (.isub, 1) := by decide +kernel
theorem d_X9_giveSlots_27 : decode prog_11_method_17_code 27 = .ok (.istore 5, 2) := by decide +kernel
theorem d_X9_giveSlots_29 : decode prog_11_method_17_code 29 = .ok (.iload 5, 2) := by decide +kernel
theorem d_X9_giveSlots_31 : decode prog_11_method_17_code 31 = .ok (.ifCond .lt 36, 3) := by decide +kernel
theorem d_X9_giveSlots_34 : decode prog_11_method_17_code 34 = .ok (.aload_n 0, 1) := by decide +kernel
theorem d_X9_giveSlots_35 : decode prog_11_method_17_code 35 = .ok (.iload_n 2, 1) := by decide +kernel
theorem d_X9_giveSlots_36 : decode prog_11_method_17_code 36 = .ok (.iload 5, 2) := by decide +kernel
theorem d_X9_giveSlots_38 : decode prog_11_method_17_code 38 = .ok (.iload_n 3, 1) := by decide +kernel
theorem d_X9_giveSlots_39 : decode prog_11_method_17_code 39 = .ok (.invokevirtual 109, 3) := by decide +kernel
theorem d_X9_giveSlots_42 : decode prog_11_method_17_code 42 = .ok (.ifCond .eq 15, 3) := by decide +kernel
theorem d_X9_giveSlots_45 : decode prog_11_method_17_code 45 = .ok (.aload_n 0, 1) := by decide +kernel
theorem d_X9_giveSlots_46 : decode prog_11_method_17_code 46 = .ok (.getfield 50, 3) := by decide +kernel
theorem d_X9_giveSlots_49 : decode prog_11_method_17_code 49 = .ok (.iload_n 2, 1) := by decide +kernel
theorem d_X9_giveSlots_50 : decode prog_11_method_17_code 50 = .ok (.iload 5, 2) := by decide +kernel
theorem d_X9_giveSlots_52 : decode prog_11_method_17_code 52 = .ok (.iadd, 1) := by decide +kernel
theorem d_X9_giveSlots_53 : decode prog_11_method_17_code 53 = .ok (.iaload, 1) := by decide +kernel
theorem d_X9_giveSlots_54 : decode prog_11_method_17_code 54 = .ok (.goto 5, 3) := by decide +kernel
theorem d_X9_giveSlots_57 : decode prog_11_method_17_code 57 = .ok (.iload 4, 2) := by decide +kernel
theorem d_X9_giveSlots_59 : decode prog_11_method_17_code 59 = .ok (.istore 4, 2) := by decide +kernel
theorem d_X9_giveSlots_61 : decode prog_11_method_17_code 61 = .ok (.iinc 5 (-1), 3) := by decide +kernel
theorem d_X9_giveSlots_64 : decode prog_11_method_17_code 64 = .ok (.goto (-35), 3) := by decide +kernel
theorem d_X9_giveSlots_67 : decode prog_11_method_17_code 67 = .ok (.aload_n 0, 1) := by decide +kernel
theorem d_X9_giveSlots_68 : decode prog_11_method_17_code 68 = .ok (.getfield 50, 3) := by decide +kernel
theorem d_X9_giveSlots_71 : decode prog_11_method_17_code 71 = .ok (.iload_n 2, 1) := by decide +kernel
theorem d_X9_giveSlots_72 : decode prog_11_method_17_code 72 = .ok (.iload_n 3, 1) := by decide +kernel
theorem d_X9_giveSlots_73 : decode prog_11_method_17_code 73 = .ok (.iadd, 1) := by decide +kernel
theorem d_X9_giveSlots_74 : decode prog_11_method_17_code 74 = .ok (.iload 4, 2) := by decide +kernel
theorem d_X9_giveSlots_76 : decode prog_11_method_17_code 76 = .ok (.ifCond .ge 12, 3) := by decide +kernel
theorem d_X9_giveSlots_79 : decode prog_11_method_17_code 79 = .ok (.aload_n 0, 1) := by decide +kernel
theorem d_X9_giveSlots_80 : decode prog_11_method_17_code 80 = .ok (.getfield 53, 3) := by decide +kernel
theorem d_X9_giveSlots_83 : decode prog_11_method_17_code 83 = .ok (.iload_n 1, 1) := by decide +kernel
theorem d_X9_giveSlots_84 : decode prog_11_method_17_code 84 = .ok (.iaload, 1) := by decide +kernel
theorem d_X9_giveSlots_85 : decode prog_11_method_17_code 85 = .ok (.goto 5, 3) := by decide +kernel
theorem d_X9_giveSlots_88 : decode prog_11_method_17_code 88 = .ok (.iload 4, 2) := by decide +kernel
theorem d_X9_giveSlots_90 : decode prog_11_method_17_code 90 = .ok (.iastore, 1) := by decide +kernel
theorem d_X9_giveSlots_91 : decode prog_11_method_17_code 91 = .ok (.aload_n 0, 1) := by decide +kernel
theorem d_X9_giveSlots_92 : decode prog_11_method_17_code 92 = .ok (.getfield 53, 3) := by decide +kernel
theorem d_X9_giveSlots_95 : decode prog_11_method_17_code 95 = .ok (.iload_n 1, 1) := by decide +kernel
theorem d_X9_giveSlots_96 : decode prog_11_method_17_code 96 = .ok (.dup2, 1) := by decide +kernel
theorem d_X9_giveSlots_97 : decode prog_11_method_17_code 97 = .ok (.iaload, 1) := by decide +kernel
theorem d_X9_giveSlots_98 : decode prog_11_method_17_code 98 = .ok (.iload 4, 2) := by decide +kernel
theorem d_X9_giveSlots_100 : decode prog_11_method_17_code 100 = .ok (.ifCond .ge 7, 3) := by decide +kernel
theorem d_X9_giveSlots_103 : decode prog_11_method_17_code 103 = .ok (.iconst 1, 1) := by decide +kernel
theorem d_X9_giveSlots_104 : decode prog_11_method_17_code 104 = .ok (.goto 4, 3) := by decide +kernel
theorem d_X9_giveSlots_107 : decode prog_11_method_17_code 107 = .ok (.iconst 0, 1) := by decide +kernel
theorem d_X9_giveSlots_108 : decode prog_11_method_17_code 108 = .ok (.iadd, 1) := by decide +kernel
theorem d_X9_giveSlots_109 : decode prog_11_method_17_code 109 = .ok (.iastore, 1) := by decide +kernel
theorem d_X9_giveSlots_110 : decode prog_11_method_17_code 110 = .ok (.iinc 3 1, 3) := by decide +kernel
theorem d_X9_giveSlots_113 : decode prog_11_method_17_code 113 = .ok (.goto (-100), 3) := by decide +kernel
theorem d_X9_giveSlots_116 : decode prog_11_method_17_code 116 = .ok (.return_, 1) := by decide +kernel
abbrev y_X9_isOneRow : MethodName := ⟨"VirtualRewriteModel", "isOneRow", "(III)Z"⟩
theorem d_X9_isOneRow_0 : decode prog_11_method_16_code 0 = .ok (.aload_n 0, 1) := by decide +kernel
theorem d_X9_isOneRow_1 : decode prog_11_method_16_code 1 = .ok (.getfield 47, 3) := by decide +kernel
theorem d_X9_isOneRow_4 : decode prog_11_method_16_code 4 = .ok (.iload_n 1, 1) := by decide +kernel
theorem d_X9_isOneRow_5 : decode prog_11_method_16_code 5 = .ok (.iload_n 2, 1) := by decide +kernel
theorem d_X9_isOneRow_6 : decode prog_11_method_16_code 6 = .ok (.iadd, 1) := by decide +kernel
theorem d_X9_isOneRow_7 : decode prog_11_method_16_code 7 = .ok (.iaload, 1) := by decide +kernel
theorem d_X9_isOneRow_8 : decode prog_11_method_16_code 8 = .ok (.istore 4, 2) := by decide +kernel
theorem d_X9_isOneRow_10 : decode prog_11_method_16_code 10 = .ok (.aload_n 0, 1) := by decide +kernel
theorem d_X9_isOneRow_11 : decode prog_11_method_16_code 11 = .ok (.getfield 47, 3) := by decide +kernel
theorem d_X9_isOneRow_14 : decode prog_11_method_16_code 14 = .ok (.iload_n 1, 1) := by decide +kernel
theorem d_X9_isOneRow_15 : decode prog_11_method_16_code 15 = .ok (.iload_n 3, 1) := by decide +kernel
theorem d_X9_isOneRow_16 : decode prog_11_method_16_code 16 = .ok (.iadd, 1) := by decide +kernel
theorem d_X9_isOneRow_17 : decode prog_11_method_16_code 17 = .ok (.iaload, 1) := by decide +kernel
theorem d_X9_isOneRow_18 : decode prog_11_method_16_code 18 = .ok (.istore 5, 2) := by decide +kernel
theorem d_X9_isOneRow_20 : decode prog_11_method_16_code 20 = .ok (.iconst 0, 1) := by decide +kernel
theorem d_X9_isOneRow_21 : decode prog_11_method_16_code 21 = .ok (.istore 6, 2) := by decide +kernel
theorem d_X9_isOneRow_23 : decode prog_11_method_16_code 23 = .ok (.iconst 0, 1) := by decide +kernel
theorem d_X9_isOneRow_24 : decode prog_11_method_16_code 24 = .ok (.istore 7, 2) := by decide +kernel
theorem d_X9_isOneRow_26 : decode prog_11_method_16_code 26 = .ok (.iload 7, 2) := by decide +kernel
theorem d_X9_isOneRow_28 : decode prog_11_method_16_code 28 = .ok (.iconst 2, 1) := by decide +kernel
theorem d_X9_isOneRow_29 : decode prog_11_method_16_code 29 = .ok (.if_icmp .ge 130, 3) := by decide +kernel
theorem d_X9_isOneRow_32 : decode prog_11_method_16_code 32 = .ok (.iconst 0, 1) := by decide +kernel
theorem d_X9_isOneRow_33 : decode prog_11_method_16_code 33 = .ok (.istore 8, 2) := by decide +kernel
theorem d_X9_isOneRow_35 : decode prog_11_method_16_code 35 = .ok (.iload 8, 2) := by decide +kernel
theorem d_X9_isOneRow_37 : decode prog_11_method_16_code 37 = .ok (.iconst 2, 1) := by decide +kernel
theorem d_X9_isOneRow_38 : decode prog_11_method_16_code 38 = .ok (.if_icmp .ge 115, 3) := by decide +kernel
theorem d_X9_isOneRow_41 : decode prog_11_method_16_code 41 = .ok (.aload_n 0, 1) := by decide +kernel
theorem d_X9_isOneRow_42 : decode prog_11_method_16_code 42 = .ok (.getfield 29, 3) := by decide +kernel
theorem d_X9_isOneRow_45 : decode prog_11_method_16_code 45 = .ok (.iconst 2, 1) := by decide +kernel
theorem d_X9_isOneRow_46 : decode prog_11_method_16_code 46 = .ok (.iload 4, 2) := by decide +kernel
theorem d_X9_isOneRow_48 : decode prog_11_method_16_code 48 = .ok (.imul, 1) := by decide +kernel
theorem d_X9_isOneRow_49 : decode prog_11_method_16_code 49 = .ok (.iload 7, 2) := by decide +kernel
theorem d_X9_isOneRow_51 : decode prog_11_method_16_code 51 = .ok (.iadd, 1) := by decide +kernel
theorem d_X9_isOneRow_52 : decode prog_11_method_16_code 52 = .ok (.iaload, 1) := by decide +kernel
theorem d_X9_isOneRow_53 : decode prog_11_method_16_code 53 = .ok (.aload_n 0, 1) := by decide +kernel
theorem d_X9_isOneRow_54 : decode prog_11_method_16_code 54 = .ok (.getfield 29, 3) := by decide +kernel
theorem d_X9_isOneRow_57 : decode prog_11_method_16_code 57 = .ok (.iconst 2, 1) := by decide +kernel
theorem d_X9_isOneRow_58 : decode prog_11_method_16_code 58 = .ok (.iload 5, 2) := by decide +kernel
theorem d_X9_isOneRow_60 : decode prog_11_method_16_code 60 = .ok (.imul, 1) := by decide +kernel
theorem d_X9_isOneRow_61 : decode prog_11_method_16_code 61 = .ok (.iload 8, 2) := by decide +kernel
theorem d_X9_isOneRow_63 : decode prog_11_method_16_code 63 = .ok (.iadd, 1) := by decide +kernel
theorem d_X9_isOneRow_64 : decode prog_11_method_16_code 64 = .ok (.iaload, 1) := by decide +kernel
theorem d_X9_isOneRow_65 : decode prog_11_method_16_code 65 = .ok (.if_icmp .ne 37, 3) := by decide +kernel
theorem d_X9_isOneRow_68 : decode prog_11_method_16_code 68 = .ok (.aload_n 0, 1) := by decide +kernel
theorem d_X9_isOneRow_69 : decode prog_11_method_16_code 69 = .ok (.getfield 16, 3) := by decide +kernel
theorem d_X9_isOneRow_72 : decode prog_11_method_16_code 72 = .ok (.iconst 3, 1) := by decide +kernel
theorem d_X9_isOneRow_73 : decode prog_11_method_16_code 73 = .ok (.aload_n 0, 1) := by decide +kernel
theorem d_X9_isOneRow_74 : decode prog_11_method_16_code 74 = .ok (.getfield 20, 3) := by decide +kernel
theorem d_X9_isOneRow_77 : decode prog_11_method_16_code 77 = .ok (.iload 4, 2) := by decide +kernel
theorem d_X9_isOneRow_79 : decode prog_11_method_16_code 79 = .ok (.iaload, 1) := by decide +kernel
theorem d_X9_isOneRow_80 : decode prog_11_method_16_code 80 = .ok (.imul, 1) := by decide +kernel
theorem d_X9_isOneRow_81 : decode prog_11_method_16_code 81 = .ok (.aload_n 0, 1) := by decide +kernel
theorem d_X9_isOneRow_82 : decode prog_11_method_16_code 82 = .ok (.getfield 29, 3) := by decide +kernel
theorem d_X9_isOneRow_85 : decode prog_11_method_16_code 85 = .ok (.iconst 2, 1) := by decide +kernel
theorem d_X9_isOneRow_86 : decode prog_11_method_16_code 86 = .ok (.iload 4, 2) := by decide +kernel
theorem d_X9_isOneRow_88 : decode prog_11_method_16_code 88 = .ok (.imul, 1) := by decide +kernel
theorem d_X9_isOneRow_89 : decode prog_11_method_16_code 89 = .ok (.iload 7, 2) := by decide +kernel
theorem d_X9_isOneRow_91 : decode prog_11_method_16_code 91 = .ok (.iadd, 1) := by decide +kernel
theorem d_X9_isOneRow_92 : decode prog_11_method_16_code 92 = .ok (.iaload, 1) := by decide +kernel
theorem d_X9_isOneRow_93 : decode prog_11_method_16_code 93 = .ok (.iadd, 1) := by decide +kernel
theorem d_X9_isOneRow_94 : decode prog_11_method_16_code 94 = .ok (.baload, 1) := by decide +kernel
theorem d_X9_isOneRow_95 : decode prog_11_method_16_code 95 = .ok (.ifCond .eq 7, 3) := by decide +kernel
theorem d_X9_isOneRow_98 : decode prog_11_method_16_code 98 = .ok (.iconst 1, 1) := by decide +kernel
theorem d_X9_isOneRow_99 : decode prog_11_method_16_code 99 = .ok (.goto 4, 3) := by decide +kernel
theorem d_X9_isOneRow_102 : decode prog_11_method_16_code 102 = .ok (.iconst 0, 1) := by decide +kernel
theorem d_X9_isOneRow_103 : decode prog_11_method_16_code 103 = .ok (.istore 9, 2) := by decide +kernel
theorem d_X9_isOneRow_105 : decode prog_11_method_16_code 105 = .ok (.iload 6, 2) := by decide +kernel
theorem d_X9_isOneRow_107 : decode prog_11_method_16_code 107 = .ok (.ifCond .ne 33, 3) := by decide +kernel
theorem d_X9_isOneRow_110 : decode prog_11_method_16_code 110 = .ok (.iload 9, 2) := by decide +kernel
theorem d_X9_isOneRow_112 : decode prog_11_method_16_code 112 = .ok (.ifCond .eq 32, 3) := by decide +kernel
theorem d_X9_isOneRow_115 : decode prog_11_method_16_code 115 = .ok (.aload_n 0, 1) := by decide +kernel
theorem d_X9_isOneRow_116 : decode prog_11_method_16_code 116 = .ok (.getfield 35, 3) := by decide +kernel
theorem d_X9_isOneRow_119 : decode prog_11_method_16_code 119 = .ok (.iconst 2, 1) := by decide +kernel
theorem d_X9_isOneRow_120 : decode prog_11_method_16_code 120 = .ok (.iload_n 2, 1) := by decide +kernel
theorem d_X9_isOneRow_121 : decode prog_11_method_16_code 121 = .ok (.imul, 1) := by decide +kernel
theorem d_X9_isOneRow_122 : decode prog_11_method_16_code 122 = .ok (.iload 7, 2) := by decide +kernel
theorem d_X9_isOneRow_124 : decode prog_11_method_16_code 124 = .ok (.iadd, 1) := by decide +kernel
theorem d_X9_isOneRow_125 : decode prog_11_method_16_code 125 = .ok (.iaload, 1) := by decide +kernel
theorem d_X9_isOneRow_126 : decode prog_11_method_16_code 126 = .ok (.aload_n 0, 1) := by decide +kernel
theorem d_X9_isOneRow_127 : decode prog_11_method_16_code 127 = .ok (.getfield 35, 3) := by decide +kernel
theorem d_X9_isOneRow_130 : decode prog_11_method_16_code 130 = .ok (.iconst 2, 1) := by decide +kernel
theorem d_X9_isOneRow_131 : decode prog_11_method_16_code 131 = .ok (.iload_n 3, 1) := by decide +kernel
theorem d_X9_isOneRow_132 : decode prog_11_method_16_code 132 = .ok (.imul, 1) := by decide +kernel
theorem d_X9_isOneRow_133 : decode prog_11_method_16_code 133 = .ok (.iload 8, 2) := by decide +kernel
theorem d_X9_isOneRow_135 : decode prog_11_method_16_code 135 = .ok (.iadd, 1) := by decide +kernel
theorem d_X9_isOneRow_136 : decode prog_11_method_16_code 136 = .ok (.iaload, 1) := by decide +kernel
theorem d_X9_isOneRow_137 : decode prog_11_method_16_code 137 = .ok (.if_icmp .ne 7, 3) := by decide +kernel
theorem d_X9_isOneRow_140 : decode prog_11_method_16_code 140 = .ok (.iconst 1, 1) := by decide +kernel
theorem d_X9_isOneRow_141 : decode prog_11_method_16_code 141 = .ok (.goto 4, 3) := by decide +kernel
theorem d_X9_isOneRow_144 : decode prog_11_method_16_code 144 = .ok (.iconst 0, 1) := by decide +kernel
theorem d_X9_isOneRow_145 : decode prog_11_method_16_code 145 = .ok (.istore 6, 2) := by decide +kernel
theorem d_X9_isOneRow_147 : decode prog_11_method_16_code 147 = .ok (.iinc 8 1, 3) := by decide +kernel
theorem d_X9_isOneRow_150 : decode prog_11_method_16_code 150 = .ok (.goto (-115), 3) := by decide +kernel
theorem d_X9_isOneRow_153 : decode prog_11_method_16_code 153 = .ok (.iinc 7 1, 3) := by decide +kernel
theorem d_X9_isOneRow_156 : decode prog_11_method_16_code 156 = .ok (.goto (-130), 3) := by decide +kernel
theorem d_X9_isOneRow_159 : decode prog_11_method_16_code 159 = .ok (.iload 6, 2) := by decide +kernel
theorem d_X9_isOneRow_161 : decode prog_11_method_16_code 161 = .ok (.ifCond .eq 24, 3) := by decide +kernel
theorem d_X9_isOneRow_164 : decode prog_11_method_16_code 164 = .ok (.aload_n 0, 1) := by decide +kernel
theorem d_X9_isOneRow_165 : decode prog_11_method_16_code 165 = .ok (.getfield 20, 3) := by decide +kernel
theorem d_X9_isOneRow_168 : decode prog_11_method_16_code 168 = .ok (.iload 4, 2) := by decide +kernel
theorem d_X9_isOneRow_170 : decode prog_11_method_16_code 170 = .ok (.iaload, 1) := by decide +kernel
theorem d_X9_isOneRow_171 : decode prog_11_method_16_code 171 = .ok (.aload_n 0, 1) := by decide +kernel
theorem d_X9_isOneRow_172 : decode prog_11_method_16_code 172 = .ok (.getfield 20, 3) := by decide +kernel
theorem d_X9_isOneRow_175 : decode prog_11_method_16_code 175 = .ok (.iload 5, 2) := by decide +kernel
theorem d_X9_isOneRow_177 : decode prog_11_method_16_code 177 = .ok (.iaload, 1) := by decide +kernel
theorem d_X9_isOneRow_178 : decode prog_11_method_16_code 178 = .ok (.if_icmp .ne 7, 3) := by decide +kernel
theorem d_X9_isOneRow_181 : decode prog_11_method_16_code 181 = .ok (.iconst 1, 1) := by decide +kernel
theorem d_X9_isOneRow_182 : decode prog_11_method_16_code 182 = .ok (.goto 4, 3) := by decide +kernel
theorem d_X9_isOneRow_185 : decode prog_11_method_16_code 185 = .ok (.iconst 0, 1) := by decide +kernel
theorem d_X9_isOneRow_186 : decode prog_11_method_16_code 186 = .ok (.ireturn, 1) := by decide +kernel
abbrev y_X9_union : MethodName := ⟨"VirtualRewriteModel", "union", "(II)I"⟩
theorem d_X9_union_0 : decode prog_11_method_20_code 0 = .ok (.aload_n 0, 1) := by decide +kernel
theorem d_X9_union_1 : decode prog_11_method_20_code 1 = .ok (.iconst 0, 1) := by decide +kernel
theorem d_X9_union_2 : decode prog_11_method_20_code 2 = .ok (.putfield 80, 3) := by decide +kernel
theorem d_X9_union_5 : decode prog_11_method_20_code 5 = .ok (.aload_n 0, 1) := by decide +kernel
theorem d_X9_union_6 : decode prog_11_method_20_code 6 = .ok (.getfield 103, 3) := by decide +kernel
theorem d_X9_union_9 : decode prog_11_method_20_code 9 = .ok (.ifCond .ne 5, 3) := by decide +kernel
theorem d_X9_union_12 : decode prog_11_method_20_code 12 = .ok (.iconst (-1), 1) := by decide +kernel
theorem d_X9_union_13 : decode prog_11_method_20_code 13 = .ok (.ireturn, 1) := by decide +kernel
theorem d_X9_union_14 : decode prog_11_method_20_code 14 = .ok (.aload_n 0, 1) := by decide +kernel
theorem d_X9_union_15 : decode prog_11_method_20_code 15 = .ok (.invokevirtual 122, 3) := by decide +kernel
theorem d_X9_union_18 : decode prog_11_method_20_code 18 = .ok (.ifCond .ne 6, 3) := by decide +kernel
theorem d_X9_union_21 : decode prog_11_method_20_code 21 = .ok (.bipush (-3), 2) := by decide +kernel
theorem d_X9_union_23 : decode prog_11_method_20_code 23 = .ok (.ireturn, 1) := by decide +kernel
theorem d_X9_union_24 : decode prog_11_method_20_code 24 = .ok (.iload_n 1, 1) := by decide +kernel
theorem d_X9_union_25 : decode prog_11_method_20_code 25 = .ok (.iconst 0, 1) := by decide +kernel
theorem d_X9_union_26 : decode prog_11_method_20_code 26 = .ok (.aload_n 0, 1) := by decide +kernel
theorem d_X9_union_27 : decode prog_11_method_20_code 27 = .ok (.getfield 112, 3) := by decide +kernel
theorem d_X9_union_30 : decode prog_11_method_20_code 30 = .ok (.iconst 1, 1) := by decide +kernel
theorem d_X9_union_31 : decode prog_11_method_20_code 31 = .ok (.isub, 1) := by decide +kernel
theorem d_X9_union_32 : decode prog_11_method_20_code 32 = .ok (.invokestatic 84, 3) := by decide +kernel
theorem d_X9_union_35 : decode prog_11_method_20_code 35 = .ok (.ifCond .eq 29, 3) := by decide +kernel
theorem d_X9_union_38 : decode prog_11_method_20_code 38 = .ok (.iload_n 2, 1) := by decide +kernel
theorem d_X9_union_39 : decode prog_11_method_20_code 39 = .ok (.iconst 0, 1) := by decide +kernel
theorem d_X9_union_40 : decode prog_11_method_20_code 40 = .ok (.bipush 8, 2) := by decide +kernel
theorem d_X9_union_42 : decode prog_11_method_20_code 42 = .ok (.invokestatic 84, 3) := by decide +kernel
theorem d_X9_union_45 : decode prog_11_method_20_code 45 = .ok (.ifCond .eq 19, 3) := by decide +kernel
theorem d_X9_union_48 : decode prog_11_method_20_code 48 = .ok (.iload_n 2, 1) := by decide +kernel
theorem d_X9_union_49 : decode prog_11_method_20_code 49 = .ok (.bipush 8, 2) := by decide +kernel
theorem d_X9_union_51 : decode prog_11_method_20_code 51 = .ok (.if_icmp .ge 15, 3) := by decide +kernel
theorem d_X9_union_54 : decode prog_11_method_20_code 54 = .ok (.iload_n 2, 1) := by decide +kernel
theorem d_X9_union_55 : decode prog_11_method_20_code 55 = .ok (.iconst 4, 1) := by decide +kernel
theorem d_X9_union_56 : decode prog_11_method_20_code 56 = .ok (.irem, 1) := by decide +kernel
theorem d_X9_union_57 : decode prog_11_method_20_code 57 = .ok (.aload_n 0, 1) := by decide +kernel
theorem d_X9_union_58 : decode prog_11_method_20_code 58 = .ok (.getfield 103, 3) := by decide +kernel
theorem d_X9_union_61 : decode prog_11_method_20_code 61 = .ok (.if_icmp .lt 5, 3) := by decide +kernel
theorem d_X9_union_64 : decode prog_11_method_20_code 64 = .ok (.iconst (-1), 1) := by decide +kernel
theorem d_X9_union_65 : decode prog_11_method_20_code 65 = .ok (.ireturn, 1) := by decide +kernel
theorem d_X9_union_66 : decode prog_11_method_20_code 66 = .ok (.iload_n 2, 1) := by decide +kernel
theorem d_X9_union_67 : decode prog_11_method_20_code 67 = .ok (.bipush 8, 2) := by decide +kernel
theorem d_X9_union_69 : decode prog_11_method_20_code 69 = .ok (.if_icmp .ne 12, 3) := by decide +kernel
theorem d_X9_union_72 : decode prog_11_method_20_code 72 = .ok (.aload_n 0, 1) := by decide +kernel
theorem d_X9_union_73 : decode prog_11_method_20_code 73 = .ok (.getfield 53, 3) := by decide +kernel
theorem d_X9_union_76 : decode prog_11_method_20_code 76 = .ok (.iload_n 1, 1) := by decide +kernel
theorem d_X9_union_77 : decode prog_11_method_20_code 77 = .ok (.iaload, 1) := by decide +kernel
theorem d_X9_union_78 : decode prog_11_method_20_code 78 = .ok (.goto 33, 3) := by decide +kernel
theorem d_X9_union_81 : decode prog_11_method_20_code 81 = .ok (.iload_n 2, 1) := by decide +kernel
theorem d_X9_union_82 : decode prog_11_method_20_code 82 = .ok (.iconst 4, 1) := by decide +kernel
theorem d_X9_union_83 : decode prog_11_method_20_code 83 = .ok (.if_icmp .ge 16, 3) := by decide +kernel
theorem d_X9_union_86 : decode prog_11_method_20_code 86 = .ok (.aload_n 0, 1) := by decide +kernel
theorem d_X9_union_87 : decode prog_11_method_20_code 87 = .ok (.getfield 47, 3) := by decide +kernel
theorem d_X9_union_90 : decode prog_11_method_20_code 90 = .ok (.iconst 4, 1) := by decide +kernel
theorem d_X9_union_91 : decode prog_11_method_20_code 91 = .ok (.iload_n 1, 1) := by decide +kernel
theorem d_X9_union_92 : decode prog_11_method_20_code 92 = .ok (.imul, 1) := by decide +kernel
theorem d_X9_union_93 : decode prog_11_method_20_code 93 = .ok (.iload_n 2, 1) := by decide +kernel
theorem d_X9_union_94 : decode prog_11_method_20_code 94 = .ok (.iadd, 1) := by decide +kernel
theorem d_X9_union_95 : decode prog_11_method_20_code 95 = .ok (.iaload, 1) := by decide +kernel
theorem d_X9_union_96 : decode prog_11_method_20_code 96 = .ok (.goto 15, 3) := by decide +kernel
theorem d_X9_union_99 : decode prog_11_method_20_code 99 = .ok (.aload_n 0, 1) := by decide +kernel
theorem d_X9_union_100 : decode prog_11_method_20_code 100 = .ok (.getfield 50, 3) := by decide +kernel
theorem d_X9_union_103 : decode prog_11_method_20_code 103 = .ok (.iconst 4, 1) := by decide +kernel
theorem d_X9_union_104 : decode prog_11_method_20_code 104 = .ok (.iload_n 1, 1) := by decide +kernel
theorem d_X9_union_105 : decode prog_11_method_20_code 105 = .ok (.imul, 1) := by decide +kernel
theorem d_X9_union_106 : decode prog_11_method_20_code 106 = .ok (.iload_n 2, 1) := by decide +kernel
theorem d_X9_union_107 : decode prog_11_method_20_code 107 = .ok (.iadd, 1) := by decide +kernel
theorem d_X9_union_108 : decode prog_11_method_20_code 108 = .ok (.iconst 4, 1) := by decide +kernel
theorem d_X9_union_109 : decode prog_11_method_20_code 109 = .ok (.isub, 1) := by decide +kernel
theorem d_X9_union_110 : decode prog_11_method_20_code 110 = .ok (.iaload, 1) := by decide +kernel
theorem d_X9_union_111 : decode prog_11_method_20_code 111 = .ok (.ireturn, 1) := by decide +kernel
abbrev y_X9_estimate : MethodName := ⟨"VirtualRewriteModel", "estimate", "(I)I"⟩
theorem d_X9_estimate_0 : decode prog_11_method_22_code 0 = .ok (.aload_n 0, 1) := by decide +kernel
theorem d_X9_estimate_1 : decode prog_11_method_22_code 1 = .ok (.iconst 0, 1) := by decide +kernel
theorem d_X9_estimate_2 : decode prog_11_method_22_code 2 = .ok (.putfield 80, 3) := by decide +kernel
theorem d_X9_estimate_5 : decode prog_11_method_22_code 5 = .ok (.aload_n 0, 1) := by decide +kernel
theorem d_X9_estimate_6 : decode prog_11_method_22_code 6 = .ok (.getfield 103, 3) := by decide +kernel
theorem d_X9_estimate_9 : decode prog_11_method_22_code 9 = .ok (.ifCond .ne 5, 3) := by decide +kernel
theorem d_X9_estimate_12 : decode prog_11_method_22_code 12 = .ok (.iconst (-1), 1) := by decide +kernel
theorem d_X9_estimate_13 : decode prog_11_method_22_code 13 = .ok (.ireturn, 1) := by decide +kernel
theorem d_X9_estimate_14 : decode prog_11_method_22_code 14 = .ok (.aload_n 0, 1) := by decide +kernel
theorem d_X9_estimate_15 : decode prog_11_method_22_code 15 = .ok (.invokevirtual 122, 3) := by decide +kernel
theorem d_X9_estimate_18 : decode prog_11_method_22_code 18 = .ok (.ifCond .ne 6, 3) := by decide +kernel
theorem d_X9_estimate_21 : decode prog_11_method_22_code 21 = .ok (.bipush (-3), 2) := by decide +kernel
theorem d_X9_estimate_23 : decode prog_11_method_22_code 23 = .ok (.ireturn, 1) := by decide +kernel
theorem d_X9_estimate_24 : decode prog_11_method_22_code 24 = .ok (.iload_n 1, 1) := by decide +kernel
theorem d_X9_estimate_25 : decode prog_11_method_22_code 25 = .ok (.iconst 0, 1) := by decide +kernel
theorem d_X9_estimate_26 : decode prog_11_method_22_code 26 = .ok (.aload_n 0, 1) := by decide +kernel
theorem d_X9_estimate_27 : decode prog_11_method_22_code 27 = .ok (.getfield 112, 3) := by decide +kernel
theorem d_X9_estimate_30 : decode prog_11_method_22_code 30 = .ok (.iconst 1, 1) := by decide +kernel
theorem d_X9_estimate_31 : decode prog_11_method_22_code 31 = .ok (.isub, 1) := by decide +kernel
theorem d_X9_estimate_32 : decode prog_11_method_22_code 32 = .ok (.invokestatic 84, 3) := by decide +kernel
theorem d_X9_estimate_35 : decode prog_11_method_22_code 35 = .ok (.ifCond .ne 5, 3) := by decide +kernel
theorem d_X9_estimate_38 : decode prog_11_method_22_code 38 = .ok (.iconst (-1), 1) := by decide +kernel
theorem d_X9_estimate_39 : decode prog_11_method_22_code 39 = .ok (.ireturn, 1) := by decide +kernel
theorem d_X9_estimate_40 : decode prog_11_method_22_code 40 = .ok (.iconst 1, 1) := by decide +kernel
theorem d_X9_estimate_41 : decode prog_11_method_22_code 41 = .ok (.istore_n 2, 1) := by decide +kernel
theorem d_X9_estimate_42 : decode prog_11_method_22_code 42 = .ok (.iconst 0, 1) := by decide +kernel
theorem d_X9_estimate_43 : decode prog_11_method_22_code 43 = .ok (.istore_n 3, 1) := by decide +kernel
theorem d_X9_estimate_44 : decode prog_11_method_22_code 44 = .ok (.iload_n 3, 1) := by decide +kernel
theorem d_X9_estimate_45 : decode prog_11_method_22_code 45 = .ok (.aload_n 0, 1) := by decide +kernel
theorem d_X9_estimate_46 : decode prog_11_method_22_code 46 = .ok (.getfield 53, 3) := by decide +kernel
theorem d_X9_estimate_49 : decode prog_11_method_22_code 49 = .ok (.iload_n 1, 1) := by decide +kernel
theorem d_X9_estimate_50 : decode prog_11_method_22_code 50 = .ok (.iaload, 1) := by decide +kernel
theorem d_X9_estimate_51 : decode prog_11_method_22_code 51 = .ok (.if_icmp .ge 23, 3) := by decide +kernel
theorem d_X9_estimate_54 : decode prog_11_method_22_code 54 = .ok (.iload_n 2, 1) := by decide +kernel
theorem d_X9_estimate_55 : decode prog_11_method_22_code 55 = .ok (.aload_n 0, 1) := by decide +kernel
theorem d_X9_estimate_56 : decode prog_11_method_22_code 56 = .ok (.getfield 13, 3) := by decide +kernel
theorem d_X9_estimate_59 : decode prog_11_method_22_code 59 = .ok (.aload_n 0, 1) := by decide +kernel
theorem d_X9_estimate_60 : decode prog_11_method_22_code 60 = .ok (.iload_n 1, 1) := by decide +kernel
theorem d_X9_estimate_61 : decode prog_11_method_22_code 61 = .ok (.iload_n 3, 1) := by decide +kernel
theorem d_X9_estimate_62 : decode prog_11_method_22_code 62 = .ok (.invokevirtual 126, 3) := by decide +kernel
theorem d_X9_estimate_65 : decode prog_11_method_22_code 65 = .ok (.iaload, 1) := by decide +kernel
theorem d_X9_estimate_66 : decode prog_11_method_22_code 66 = .ok (.imul, 1) := by decide +kernel
theorem d_X9_estimate_67 : decode prog_11_method_22_code 67 = .ok (.istore_n 2, 1) := by decide +kernel
theorem d_X9_estimate_68 : decode prog_11_method_22_code 68 = .ok (.iinc 3 1, 3) := by decide +kernel
theorem d_X9_estimate_71 : decode prog_11_method_22_code 71 = .ok (.goto (-27), 3) := by decide +kernel
theorem d_X9_estimate_74 : decode prog_11_method_22_code 74 = .ok (.iload_n 2, 1) := by decide +kernel
theorem d_X9_estimate_75 : decode prog_11_method_22_code 75 = .ok (.ireturn, 1) := by decide +kernel
abbrev y_X9_tableOf : MethodName := ⟨"VirtualRewriteModel", "tableOf", "(II)I"⟩
theorem d_X9_tableOf_0 : decode prog_11_method_21_code 0 = .ok (.iconst 0, 1) := by decide +kernel
theorem d_X9_tableOf_1 : decode prog_11_method_21_code 1 = .ok (.istore_n 3, 1) := by decide +kernel
theorem d_X9_tableOf_2 : decode prog_11_method_21_code 2 = .ok (.aload_n 0, 1) := by decide +kernel
theorem d_X9_tableOf_3 : decode prog_11_method_21_code 3 = .ok (.getfield 50, 3) := by decide +kernel
theorem d_X9_tableOf_6 : decode prog_11_method_21_code 6 = .ok (.iconst 4, 1) := by decide +kernel
theorem d_X9_tableOf_7 : decode prog_11_method_21_code 7 = .ok (.iload_n 1, 1) := by decide +kernel
theorem d_X9_tableOf_8 : decode prog_11_method_21_code 8 = .ok (.imul, 1) := by decide +kernel
theorem d_X9_tableOf_9 : decode prog_11_method_21_code 9 = .ok (.iload_n 3, 1) := by decide +kernel
theorem d_X9_tableOf_10 : decode prog_11_method_21_code 10 = .ok (.iadd, 1) := by decide +kernel
theorem d_X9_tableOf_11 : decode prog_11_method_21_code 11 = .ok (.iaload, 1) := by decide +kernel
theorem d_X9_tableOf_12 : decode prog_11_method_21_code 12 = .ok (.iload_n 2, 1) := by decide +kernel
theorem d_X9_tableOf_13 : decode prog_11_method_21_code 13 = .ok (.if_icmp .eq 9, 3) := by decide +kernel
theorem d_X9_tableOf_16 : decode prog_11_method_21_code 16 = .ok (.iinc 3 1, 3) := by decide +kernel
theorem d_X9_tableOf_19 : decode prog_11_method_21_code 19 = .ok (.goto (-17), 3) := by decide +kernel
theorem d_X9_tableOf_22 : decode prog_11_method_21_code 22 = .ok (.aload_n 0, 1) := by decide +kernel
theorem d_X9_tableOf_23 : decode prog_11_method_21_code 23 = .ok (.getfield 20, 3) := by decide +kernel
theorem d_X9_tableOf_26 : decode prog_11_method_21_code 26 = .ok (.aload_n 0, 1) := by decide +kernel
theorem d_X9_tableOf_27 : decode prog_11_method_21_code 27 = .ok (.getfield 47, 3) := by decide +kernel
theorem d_X9_tableOf_30 : decode prog_11_method_21_code 30 = .ok (.iconst 4, 1) := by decide +kernel
theorem d_X9_tableOf_31 : decode prog_11_method_21_code 31 = .ok (.iload_n 1, 1) := by decide +kernel
theorem d_X9_tableOf_32 : decode prog_11_method_21_code 32 = .ok (.imul, 1) := by decide +kernel
theorem d_X9_tableOf_33 : decode prog_11_method_21_code 33 = .ok (.iload_n 3, 1) := by decide +kernel
theorem d_X9_tableOf_34 : decode prog_11_method_21_code 34 = .ok (.iadd, 1) := by decide +kernel
theorem d_X9_tableOf_35 : decode prog_11_method_21_code 35 = .ok (.iaload, 1) := by decide +kernel
theorem d_X9_tableOf_36 : decode prog_11_method_21_code 36 = .ok (.iaload, 1) := by decide +kernel
theorem d_X9_tableOf_37 : decode prog_11_method_21_code 37 = .ok (.ireturn, 1) := by decide +kernel
abbrev y_X9_run : MethodName := ⟨"VirtualRewriteModel", "run", "()I"⟩
theorem d_X9_run_0 : decode prog_11_method_27_code 0 = .ok (.aload_n 0, 1) := by decide +kernel
theorem d_X9_run_1 : decode prog_11_method_27_code 1 = .ok (.iconst 0, 1) := by decide +kernel
theorem d_X9_run_2 : decode prog_11_method_27_code 2 = .ok (.putfield 80, 3) := by decide +kernel
theorem d_X9_run_5 : decode prog_11_method_27_code 5 = .ok (.aload_n 0, 1) := by decide +kernel
theorem d_X9_run_6 : decode prog_11_method_27_code 6 = .ok (.iconst 0, 1) := by decide +kernel
theorem d_X9_run_7 : decode prog_11_method_27_code 7 = .ok (.putfield 130, 3) := by decide +kernel
theorem d_X9_run_10 : decode prog_11_method_27_code 10 = .ok (.aload_n 0, 1) := by decide +kernel
theorem d_X9_run_11 : decode prog_11_method_27_code 11 = .ok (.getfield 103, 3) := by decide +kernel
theorem d_X9_run_14 : decode prog_11_method_27_code 14 = .ok (.ifCond .ne 5, 3) := by decide +kernel
theorem d_X9_run_17 : decode prog_11_method_27_code 17 = .ok (.iconst (-1), 1) := by decide +kernel
theorem d_X9_run_18 : decode prog_11_method_27_code 18 = .ok (.ireturn, 1) := by decide +kernel
theorem d_X9_run_19 : decode prog_11_method_27_code 19 = .ok (.aload_n 0, 1) := by decide +kernel
theorem d_X9_run_20 : decode prog_11_method_27_code 20 = .ok (.invokevirtual 122, 3) := by decide +kernel
theorem d_X9_run_23 : decode prog_11_method_27_code 23 = .ok (.ifCond .ne 6, 3) := by decide +kernel
theorem d_X9_run_26 : decode prog_11_method_27_code 26 = .ok (.bipush (-3), 2) := by decide +kernel
theorem d_X9_run_28 : decode prog_11_method_27_code 28 = .ok (.ireturn, 1) := by decide +kernel
theorem d_X9_run_29 : decode prog_11_method_27_code 29 = .ok (.iconst 0, 1) := by decide +kernel
theorem d_X9_run_30 : decode prog_11_method_27_code 30 = .ok (.istore_n 1, 1) := by decide +kernel
theorem d_X9_run_31 : decode prog_11_method_27_code 31 = .ok (.iload_n 1, 1) := by decide +kernel
theorem d_X9_run_32 : decode prog_11_method_27_code 32 = .ok (.bipush 6, 2) := by decide +kernel
theorem d_X9_run_34 : decode prog_11_method_27_code 34 = .ok (.if_icmp .ge 16, 3) := by decide +kernel
theorem d_X9_run_37 : decode prog_11_method_27_code 37 = .ok (.aload_n 0, 1) := by decide +kernel
theorem d_X9_run_38 : decode prog_11_method_27_code 38 = .ok (.getfield 65, 3) := by decide +kernel
theorem d_X9_run_41 : decode prog_11_method_27_code 41 = .ok (.iload_n 1, 1) := by decide +kernel
theorem d_X9_run_42 : decode prog_11_method_27_code 42 = .ok (.iconst 0, 1) := by decide +kernel
theorem d_X9_run_43 : decode prog_11_method_27_code 43 = .ok (.bastore, 1) := by decide +kernel
theorem d_X9_run_44 : decode prog_11_method_27_code 44 = .ok (.iinc 1 1, 3) := by decide +kernel
theorem d_X9_run_47 : decode prog_11_method_27_code 47 = .ok (.goto (-16), 3) := by decide +kernel
theorem d_X9_run_50 : decode prog_11_method_27_code 50 = .ok (.iconst 0, 1) := by decide +kernel
theorem d_X9_run_51 : decode prog_11_method_27_code 51 = .ok (.istore_n 1, 1) := by decide +kernel
theorem d_X9_run_52 : decode prog_11_method_27_code 52 = .ok (.iload_n 1, 1) := by decide +kernel
theorem d_X9_run_53 : decode prog_11_method_27_code 53 = .ok (.iconst 2, 1) := by decide +kernel
theorem d_X9_run_54 : decode prog_11_method_27_code 54 = .ok (.aload_n 0, 1) := by decide +kernel
theorem d_X9_run_55 : decode prog_11_method_27_code 55 = .ok (.getfield 103, 3) := by decide +kernel
theorem d_X9_run_58 : decode prog_11_method_27_code 58 = .ok (.imul, 1) := by decide +kernel
theorem d_X9_run_59 : decode prog_11_method_27_code 59 = .ok (.if_icmp .ge 32, 3) := by decide +kernel
theorem d_X9_run_62 : decode prog_11_method_27_code 62 = .ok (.aload_n 0, 1) := by decide +kernel
theorem d_X9_run_63 : decode prog_11_method_27_code 63 = .ok (.getfield 35, 3) := by decide +kernel
theorem d_X9_run_66 : decode prog_11_method_27_code 66 = .ok (.iload_n 1, 1) := by decide +kernel
theorem d_X9_run_67 : decode prog_11_method_27_code 67 = .ok (.iaload, 1) := by decide +kernel
theorem d_X9_run_68 : decode prog_11_method_27_code 68 = .ok (.ifCond .ge 17, 3) := by decide +kernel
theorem d_X9_run_71 : decode prog_11_method_27_code 71 = .ok (.aload_n 0, 1) := by decide +kernel
theorem d_X9_run_72 : decode prog_11_method_27_code 72 = .ok (.getfield 65, 3) := by decide +kernel
theorem d_X9_run_75 : decode prog_11_method_27_code 75 = .ok (.iconst (-1), 1) := by decide +kernel
theorem d_X9_run_76 : decode prog_11_method_27_code 76 = .ok (.aload_n 0, 1) := by decide +kernel
theorem d_X9_run_77 : decode prog_11_method_27_code 77 = .ok (.getfield 35, 3) := by decide +kernel
theorem d_X9_run_80 : decode prog_11_method_27_code 80 = .ok (.iload_n 1, 1) := by decide +kernel
theorem d_X9_run_81 : decode prog_11_method_27_code 81 = .ok (.iaload, 1) := by decide +kernel
theorem d_X9_run_82 : decode prog_11_method_27_code 82 = .ok (.isub, 1) := by decide +kernel
theorem d_X9_run_83 : decode prog_11_method_27_code 83 = .ok (.iconst 1, 1) := by decide +kernel
theorem d_X9_run_84 : decode prog_11_method_27_code 84 = .ok (.bastore, 1) := by decide +kernel
theorem d_X9_run_85 : decode prog_11_method_27_code 85 = .ok (.iinc 1 1, 3) := by decide +kernel
theorem d_X9_run_88 : decode prog_11_method_27_code 88 = .ok (.goto (-36), 3) := by decide +kernel
theorem d_X9_run_91 : decode prog_11_method_27_code 91 = .ok (.iconst 0, 1) := by decide +kernel
theorem d_X9_run_92 : decode prog_11_method_27_code 92 = .ok (.istore_n 1, 1) := by decide +kernel
theorem d_X9_run_93 : decode prog_11_method_27_code 93 = .ok (.iload_n 1, 1) := by decide +kernel
theorem d_X9_run_94 : decode prog_11_method_27_code 94 = .ok (.aload_n 0, 1) := by decide +kernel
theorem d_X9_run_95 : decode prog_11_method_27_code 95 = .ok (.getfield 112, 3) := by decide +kernel
theorem d_X9_run_98 : decode prog_11_method_27_code 98 = .ok (.if_icmp .ge 24, 3) := by decide +kernel
theorem d_X9_run_101 : decode prog_11_method_27_code 101 = .ok (.aload_n 0, 1) := by decide +kernel
theorem d_X9_run_102 : decode prog_11_method_27_code 102 = .ok (.getfield 130, 3) := by decide +kernel
theorem d_X9_run_105 : decode prog_11_method_27_code 105 = .ok (.sipush 300, 3) := by decide +kernel
theorem d_X9_run_108 : decode prog_11_method_27_code 108 = .ok (.if_icmp .gt 14, 3) := by decide +kernel
theorem d_X9_run_111 : decode prog_11_method_27_code 111 = .ok (.aload_n 0, 1) := by decide +kernel
theorem d_X9_run_112 : decode prog_11_method_27_code 112 = .ok (.iload_n 1, 1) := by decide +kernel
theorem d_X9_run_113 : decode prog_11_method_27_code 113 = .ok (.invokevirtual 144, 3) := by decide +kernel
theorem d_X9_run_116 : decode prog_11_method_27_code 116 = .ok (.iinc 1 1, 3) := by decide +kernel
theorem d_X9_run_119 : decode prog_11_method_27_code 119 = .ok (.goto (-26), 3) := by decide +kernel
theorem d_X9_run_122 : decode prog_11_method_27_code 122 = .ok (.aload_n 0, 1) := by decide +kernel
theorem d_X9_run_123 : decode prog_11_method_27_code 123 = .ok (.getfield 130, 3) := by decide +kernel
theorem d_X9_run_126 : decode prog_11_method_27_code 126 = .ok (.sipush 300, 3) := by decide +kernel
theorem d_X9_run_129 : decode prog_11_method_27_code 129 = .ok (.if_icmp .le 11, 3) := by decide +kernel
theorem d_X9_run_132 : decode prog_11_method_27_code 132 = .ok (.aload_n 0, 1) := by decide +kernel
theorem d_X9_run_133 : decode prog_11_method_27_code 133 = .ok (.iconst 0, 1) := by decide +kernel
theorem d_X9_run_134 : decode prog_11_method_27_code 134 = .ok (.putfield 130, 3) := by decide +kernel
theorem d_X9_run_137 : decode prog_11_method_27_code 137 = .ok (.bipush (-3), 2) := by decide +kernel
theorem d_X9_run_139 : decode prog_11_method_27_code 139 = .ok (.ireturn, 1) := by decide +kernel
theorem d_X9_run_140 : decode prog_11_method_27_code 140 = .ok (.aload_n 0, 1) := by decide +kernel
theorem d_X9_run_141 : decode prog_11_method_27_code 141 = .ok (.getfield 130, 3) := by decide +kernel
theorem d_X9_run_144 : decode prog_11_method_27_code 144 = .ok (.ireturn, 1) := by decide +kernel
