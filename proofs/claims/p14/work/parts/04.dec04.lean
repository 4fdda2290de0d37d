abbrev y_X4_allows : MethodName := ⟨"VirtualRewrite$Question", "allows", "(II)Z"⟩
theorem d_X4_allows_0 : decode prog_6_method_6_code 0 = .ok (.iload_n 2, 1) := by decide +kernel
theorem d_X4_allows_1 : decode prog_6_method_6_code 1 = .ok (.aload_n 0, 1) := by decide +kernel
theorem d_X4_allows_2 : decode prog_6_method_6_code 2 = .ok (.getfield 18, 3) := by decide +kernel
theorem d_X4_allows_5 : decode prog_6_method_6_code 5 = .ok (.iload_n 1, 1) := by decide +kernel
theorem d_X4_allows_6 : decode prog_6_method_6_code 6 = .ok (.iaload, 1) := by decide +kernel
theorem d_X4_allows_7 : decode prog_6_method_6_code 7 = .ok (.if_icmp .lt 17, 3) := by decide +kernel
theorem d_X4_allows_10 : decode prog_6_method_6_code 10 = .ok (.iload_n 2, 1) := by decide +kernel
theorem d_X4_allows_11 : decode prog_6_method_6_code 11 = .ok (.aload_n 0, 1) := by decide +kernel
theorem d_X4_allows_12 : decode prog_6_method_6_code 12 = .ok (.getfield 21, 3) := by decide +kernel
theorem d_X4_allows_15 : decode prog_6_method_6_code 15 = .ok (.iload_n 1, 1) := by decide +kernel
theorem d_X4_allows_16 : decode prog_6_method_6_code 16 = .ok (.iaload, 1) := by decide +kernel
theorem d_X4_allows_17 : decode prog_6_method_6_code 17 = .ok (.if_icmp .gt 7, 3) := by decide +kernel
theorem d_X4_allows_20 : decode prog_6_method_6_code 20 = .ok (.iconst 1, 1) := by decide +kernel
theorem d_X4_allows_21 : decode prog_6_method_6_code 21 = .ok (.goto 4, 3) := by decide +kernel
theorem d_X4_allows_24 : decode prog_6_method_6_code 24 = .ok (.iconst 0, 1) := by decide +kernel
theorem d_X4_allows_25 : decode prog_6_method_6_code 25 = .ok (.ireturn, 1) := by decide +kernel
abbrev y_X8_isTold : MethodName := ⟨"VirtualRewrite$Finder", "isTold", "(ILVirtualRewrite$Table;II)Z"⟩
theorem d_X8_isTold_0 : decode prog_4_method_9_code 0 = .ok (.iconst 0, 1) := by decide +kernel
theorem d_X8_isTold_1 : decode prog_4_method_9_code 1 = .ok (.istore 5, 2) := by decide +kernel
theorem d_X8_isTold_3 : decode prog_4_method_9_code 3 = .ok (.iload 5, 2) := by decide +kernel
theorem d_X8_isTold_5 : decode prog_4_method_9_code 5 = .ok (.iload 4, 2) := by decide +kernel
theorem d_X8_isTold_7 : decode prog_4_method_9_code 7 = .ok (.if_icmp .ge 33, 3) := by decide +kernel
theorem d_X8_isTold_10 : decode prog_4_method_9_code 10 = .ok (.aload_n 0, 1) := by decide +kernel
theorem d_X8_isTold_11 : decode prog_4_method_9_code 11 = .ok (.iload_n 1, 1) := by decide +kernel
theorem d_X8_isTold_12 : decode prog_4_method_9_code 12 = .ok (.aload_n 2, 1) := by decide +kernel
theorem d_X8_isTold_13 : decode prog_4_method_9_code 13 = .ok (.iload_n 3, 1) := by decide +kernel
theorem d_X8_isTold_14 : decode prog_4_method_9_code 14 = .ok (.aload_n 0, 1) := by decide +kernel
theorem d_X8_isTold_15 : decode prog_4_method_9_code 15 = .ok (.getfield 21, 3) := by decide +kernel
theorem d_X8_isTold_18 : decode prog_4_method_9_code 18 = .ok (.iload_n 1, 1) := by decide +kernel
theorem d_X8_isTold_19 : decode prog_4_method_9_code 19 = .ok (.bipush 20, 2) := by decide +kernel
theorem d_X8_isTold_21 : decode prog_4_method_9_code 21 = .ok (.imul, 1) := by decide +kernel
theorem d_X8_isTold_22 : decode prog_4_method_9_code 22 = .ok (.iload 5, 2) := by decide +kernel
theorem d_X8_isTold_24 : decode prog_4_method_9_code 24 = .ok (.iadd, 1) := by decide +kernel
theorem d_X8_isTold_25 : decode prog_4_method_9_code 25 = .ok (.iaload, 1) := by decide +kernel
theorem d_X8_isTold_26 : decode prog_4_method_9_code 26 = .ok (.invokevirtual 144, 3) := by decide +kernel
theorem d_X8_isTold_29 : decode prog_4_method_9_code 29 = .ok (.ifCond .eq 5, 3) := by decide +kernel
theorem d_X8_isTold_32 : decode prog_4_method_9_code 32 = .ok (.iconst 1, 1) := by decide +kernel
theorem d_X8_isTold_33 : decode prog_4_method_9_code 33 = .ok (.ireturn, 1) := by decide +kernel
theorem d_X8_isTold_34 : decode prog_4_method_9_code 34 = .ok (.iinc 5 1, 3) := by decide +kernel
theorem d_X8_isTold_37 : decode prog_4_method_9_code 37 = .ok (.goto (-34), 3) := by decide +kernel
theorem d_X8_isTold_40 : decode prog_4_method_9_code 40 = .ok (.iconst 0, 1) := by decide +kernel
theorem d_X8_isTold_41 : decode prog_4_method_9_code 41 = .ok (.ireturn, 1) := by decide +kernel
abbrev y_X8_areAlike : MethodName := ⟨"VirtualRewrite$Finder", "areAlike", "(ILVirtualRewrite$Table;II)Z"⟩
theorem d_X8_areAlike_0 : decode prog_4_method_10_code 0 = .ok (.iconst 0, 1) := by decide +kernel
theorem d_X8_areAlike_1 : decode prog_4_method_10_code 1 = .ok (.istore 5, 2) := by decide +kernel
theorem d_X8_areAlike_3 : decode prog_4_method_10_code 3 = .ok (.iload 5, 2) := by decide +kernel
theorem d_X8_areAlike_5 : decode prog_4_method_10_code 5 = .ok (.bipush 6, 2) := by decide +kernel
theorem d_X8_areAlike_7 : decode prog_4_method_10_code 7 = .ok (.if_icmp .ge 49, 3) := by decide +kernel
theorem d_X8_areAlike_10 : decode prog_4_method_10_code 10 = .ok (.aload_n 0, 1) := by decide +kernel
theorem d_X8_areAlike_11 : decode prog_4_method_10_code 11 = .ok (.getfield 18, 3) := by decide +kernel
theorem d_X8_areAlike_14 : decode prog_4_method_10_code 14 = .ok (.iload_n 1, 1) := by decide +kernel
theorem d_X8_areAlike_15 : decode prog_4_method_10_code 15 = .ok (.bipush 6, 2) := by decide +kernel
theorem d_X8_areAlike_17 : decode prog_4_method_10_code 17 = .ok (.imul, 1) := by decide +kernel
theorem d_X8_areAlike_18 : decode prog_4_method_10_code 18 = .ok (.iload 5, 2) := by decide +kernel
theorem d_X8_areAlike_20 : decode prog_4_method_10_code 20 = .ok (.iadd, 1) := by decide +kernel
theorem d_X8_areAlike_21 : decode prog_4_method_10_code 21 = .ok (.iaload, 1) := by decide +kernel
theorem d_X8_areAlike_22 : decode prog_4_method_10_code 22 = .ok (.istore 6, 2) := by decide +kernel
theorem d_X8_areAlike_24 : decode prog_4_method_10_code 24 = .ok (.iload 6, 2) := by decide +kernel
theorem d_X8_areAlike_26 : decode prog_4_method_10_code 26 = .ok (.iconst (-1), 1) := by decide +kernel
theorem d_X8_areAlike_27 : decode prog_4_method_10_code 27 = .ok (.if_icmp .eq 23, 3) := by decide +kernel
theorem d_X8_areAlike_30 : decode prog_4_method_10_code 30 = .ok (.aload_n 2, 1) := by decide +kernel
theorem d_X8_areAlike_31 : decode prog_4_method_10_code 31 = .ok (.iload_n 3, 1) := by decide +kernel
theorem d_X8_areAlike_32 : decode prog_4_method_10_code 32 = .ok (.iload 6, 2) := by decide +kernel
theorem d_X8_areAlike_34 : decode prog_4_method_10_code 34 = .ok (.invokevirtual 137, 3) := by decide +kernel
theorem d_X8_areAlike_37 : decode prog_4_method_10_code 37 = .ok (.aload_n 2, 1) := by decide +kernel
theorem d_X8_areAlike_38 : decode prog_4_method_10_code 38 = .ok (.iload 4, 2) := by decide +kernel
theorem d_X8_areAlike_40 : decode prog_4_method_10_code 40 = .ok (.iload 6, 2) := by decide +kernel
theorem d_X8_areAlike_42 : decode prog_4_method_10_code 42 = .ok (.invokevirtual 137, 3) := by decide +kernel
theorem d_X8_areAlike_45 : decode prog_4_method_10_code 45 = .ok (.if_icmp .eq 5, 3) := by decide +kernel
theorem d_X8_areAlike_48 : decode prog_4_method_10_code 48 = .ok (.iconst 0, 1) := by decide +kernel
theorem d_X8_areAlike_49 : decode prog_4_method_10_code 49 = .ok (.ireturn, 1) := by decide +kernel
theorem d_X8_areAlike_50 : decode prog_4_method_10_code 50 = .ok (.iinc 5 1, 3) := by decide +kernel
theorem d_X8_areAlike_53 : decode prog_4_method_10_code 53 = .ok (.goto (-50), 3) := by decide +kernel
theorem d_X8_areAlike_56 : decode prog_4_method_10_code 56 = .ok (.iconst 1, 1) := by decide +kernel
theorem d_X8_areAlike_57 : decode prog_4_method_10_code 57 = .ok (.ireturn, 1) := by decide +kernel
abbrev y_X8_orderSlots : MethodName := ⟨"VirtualRewrite$Finder", "orderSlots", "()V"⟩
theorem d_X8_orderSlots_0 : decode prog_4_method_11_code 0 = .ok (.iconst 0, 1) := by decide +kernel
theorem d_X8_orderSlots_1 : decode prog_4_method_11_code 1 = .ok (.istore_n 1, 1) := by decide +kernel
theorem d_X8_orderSlots_2 : decode prog_4_method_11_code 2 = .ok (.iload_n 1, 1) := by decide +kernel
theorem d_X8_orderSlots_3 : decode prog_4_method_11_code 3 = .ok (.aload_n 0, 1) := by decide +kernel
theorem d_X8_orderSlots_4 : decode prog_4_method_11_code 4 = .ok (.getfield 48, 3) := by decide +kernel
theorem d_X8_orderSlots_7 : decode prog_4_method_11_code 7 = .ok (.getfield 65, 3) := by decide +kernel
theorem d_X8_orderSlots_10 : decode prog_4_method_11_code 10 = .ok (.if_icmp .ge 16, 3) := by decide +kernel
theorem d_X8_orderSlots_13 : decode prog_4_method_11_code 13 = .ok (.aload_n 0, 1) := by decide +kernel
theorem d_X8_orderSlots_14 : decode prog_4_method_11_code 14 = .ok (.getfield 27, 3) := by decide +kernel
theorem d_X8_orderSlots_17 : decode prog_4_method_11_code 17 = .ok (.iload_n 1, 1) := by decide +kernel
theorem d_X8_orderSlots_18 : decode prog_4_method_11_code 18 = .ok (.iload_n 1, 1) := by decide +kernel
theorem d_X8_orderSlots_19 : decode prog_4_method_11_code 19 = .ok (.iastore, 1) := by decide +kernel
theorem d_X8_orderSlots_20 : decode prog_4_method_11_code 20 = .ok (.iinc 1 1, 3) := by decide +kernel
theorem d_X8_orderSlots_23 : decode prog_4_method_11_code 23 = .ok (.goto (-21), 3) := by decide +kernel
theorem d_X8_orderSlots_26 : decode prog_4_method_11_code 26 = .ok (.iconst 0, 1) := by decide +kernel
theorem d_X8_orderSlots_27 : decode prog_4_method_11_code 27 = .ok (.istore_n 1, 1) := by decide +kernel
theorem d_X8_orderSlots_28 : decode prog_4_method_11_code 28 = .ok (.iconst 0, 1) := by decide +kernel
theorem d_X8_orderSlots_29 : decode prog_4_method_11_code 29 = .ok (.istore_n 2, 1) := by decide +kernel
theorem d_X8_orderSlots_30 : decode prog_4_method_11_code 30 = .ok (.iload_n 2, 1) := by decide +kernel
theorem d_X8_orderSlots_31 : decode prog_4_method_11_code 31 = .ok (.aload_n 0, 1) := by decide +kernel
theorem d_X8_orderSlots_32 : decode prog_4_method_11_code 32 = .ok (.getfield 48, 3) := by decide +kernel
theorem d_X8_orderSlots_35 : decode prog_4_method_11_code 35 = .ok (.getfield 65, 3) := by decide +kernel
theorem d_X8_orderSlots_38 : decode prog_4_method_11_code 38 = .ok (.if_icmp .ge 96, 3) := by decide +kernel
theorem d_X8_orderSlots_41 : decode prog_4_method_11_code 41 = .ok (.iload_n 2, 1) := by decide +kernel
theorem d_X8_orderSlots_42 : decode prog_4_method_11_code 42 = .ok (.istore_n 3, 1) := by decide +kernel
theorem d_X8_orderSlots_43 : decode prog_4_method_11_code 43 = .ok (.iload_n 2, 1) := by decide +kernel
theorem d_X8_orderSlots_44 : decode prog_4_method_11_code 44 = .ok (.iconst 1, 1) := by decide +kernel
theorem d_X8_orderSlots_45 : decode prog_4_method_11_code 45 = .ok (.iadd, 1) := by decide +kernel
theorem d_X8_orderSlots_46 : decode prog_4_method_11_code 46 = .ok (.istore 4, 2) := by decide +kernel
theorem d_X8_orderSlots_48 : decode prog_4_method_11_code 48 = .ok (.iload 4, 2) := by decide +kernel
theorem d_X8_orderSlots_50 : decode prog_4_method_11_code 50 = .ok (.aload_n 0, 1) := by decide +kernel
theorem d_X8_orderSlots_51 : decode prog_4_method_11_code 51 = .ok (.getfield 48, 3) := by decide +kernel
theorem d_X8_orderSlots_54 : decode prog_4_method_11_code 54 = .ok (.getfield 65, 3) := by decide +kernel
theorem d_X8_orderSlots_57 : decode prog_4_method_11_code 57 = .ok (.if_icmp .ge 33, 3) := by decide +kernel
theorem d_X8_orderSlots_60 : decode prog_4_method_11_code 60 = .ok (.aload_n 0, 1) := by decide +kernel
theorem d_X8_orderSlots_61 : decode prog_4_method_11_code 61 = .ok (.aload_n 0, 1) := by decide +kernel
theorem d_X8_orderSlots_62 : decode prog_4_method_11_code 62 = .ok (.getfield 27, 3) := by decide +kernel
theorem d_X8_orderSlots_65 : decode prog_4_method_11_code 65 = .ok (.iload 4, 2) := by decide +kernel
theorem d_X8_orderSlots_67 : decode prog_4_method_11_code 67 = .ok (.iaload, 1) := by decide +kernel
theorem d_X8_orderSlots_68 : decode prog_4_method_11_code 68 = .ok (.aload_n 0, 1) := by decide +kernel
theorem d_X8_orderSlots_69 : decode prog_4_method_11_code 69 = .ok (.getfield 27, 3) := by decide +kernel
theorem d_X8_orderSlots_72 : decode prog_4_method_11_code 72 = .ok (.iload_n 3, 1) := by decide +kernel
theorem d_X8_orderSlots_73 : decode prog_4_method_11_code 73 = .ok (.iaload, 1) := by decide +kernel
theorem d_X8_orderSlots_74 : decode prog_4_method_11_code 74 = .ok (.iload_n 1, 1) := by decide +kernel
theorem d_X8_orderSlots_75 : decode prog_4_method_11_code 75 = .ok (.invokevirtual 147, 3) := by decide +kernel
theorem d_X8_orderSlots_78 : decode prog_4_method_11_code 78 = .ok (.ifCond .eq 6, 3) := by decide +kernel
theorem d_X8_orderSlots_81 : decode prog_4_method_11_code 81 = .ok (.iload 4, 2) := by decide +kernel
theorem d_X8_orderSlots_83 : decode prog_4_method_11_code 83 = .ok (.istore_n 3, 1) := by decide +kernel
theorem d_X8_orderSlots_84 : decode prog_4_method_11_code 84 = .ok (.iinc 4 1, 3) := by decide +kernel
theorem d_X8_orderSlots_87 : decode prog_4_method_11_code 87 = .ok (.goto (-39), 3) := by decide +kernel
theorem d_X8_orderSlots_90 : decode prog_4_method_11_code 90 = .ok (.aload_n 0, 1) := by decide +kernel
theorem d_X8_orderSlots_91 : decode prog_4_method_11_code 91 = .ok (.getfield 27, 3) := by decide +kernel
theorem d_X8_orderSlots_94 : decode prog_4_method_11_code 94 = .ok (.iload_n 3, 1) := by decide +kernel
theorem d_X8_orderSlots_95 : decode prog_4_method_11_code 95 = .ok (.iaload, 1) := by decide +kernel
theorem d_X8_orderSlots_96 : decode prog_4_method_11_code 96 = .ok (.istore 4, 2) := by decide +kernel
theorem d_X8_orderSlots_98 : decode prog_4_method_11_code 98 = .ok (.aload_n 0, 1) := by decide +kernel
theorem d_X8_orderSlots_99 : decode prog_4_method_11_code 99 = .ok (.getfield 27, 3) := by decide +kernel
theorem d_X8_orderSlots_102 : decode prog_4_method_11_code 102 = .ok (.iload_n 3, 1) := by decide +kernel
theorem d_X8_orderSlots_103 : decode prog_4_method_11_code 103 = .ok (.aload_n 0, 1) := by decide +kernel
theorem d_X8_orderSlots_104 : decode prog_4_method_11_code 104 = .ok (.getfield 27, 3) := by decide +kernel
theorem d_X8_orderSlots_107 : decode prog_4_method_11_code 107 = .ok (.iload_n 2, 1) := by decide +kernel
theorem d_X8_orderSlots_108 : decode prog_4_method_11_code 108 = .ok (.iaload, 1) := by decide +kernel
theorem d_X8_orderSlots_109 : decode prog_4_method_11_code 109 = .ok (.iastore, 1) := by decide +kernel
theorem d_X8_orderSlots_110 : decode prog_4_method_11_code 110 = .ok (.aload_n 0, 1) := by decide +kernel
theorem d_X8_orderSlots_111 : decode prog_4_method_11_code 111 = .ok (.getfield 27, 3) := by decide +kernel
theorem d_X8_orderSlots_114 : decode prog_4_method_11_code 114 = .ok (.iload_n 2, 1) := by decide +kernel
theorem d_X8_orderSlots_115 : decode prog_4_method_11_code 115 = .ok (.iload 4, 2) := by decide +kernel
theorem d_X8_orderSlots_117 : decode prog_4_method_11_code 117 = .ok (.iastore, 1) := by decide +kernel
theorem d_X8_orderSlots_118 : decode prog_4_method_11_code 118 = .ok (.iload_n 1, 1) := by decide +kernel
theorem d_X8_orderSlots_119 : decode prog_4_method_11_code 119 = .ok (.aload_n 0, 1) := by decide +kernel
theorem d_X8_orderSlots_120 : decode prog_4_method_11_code 120 = .ok (.getfield 15, 3) := by decide +kernel
theorem d_X8_orderSlots_123 : decode prog_4_method_11_code 123 = .ok (.iload 4, 2) := by decide +kernel
theorem d_X8_orderSlots_125 : decode prog_4_method_11_code 125 = .ok (.iaload, 1) := by decide +kernel
theorem d_X8_orderSlots_126 : decode prog_4_method_11_code 126 = .ok (.ior, 1) := by decide +kernel
theorem d_X8_orderSlots_127 : decode prog_4_method_11_code 127 = .ok (.istore_n 1, 1) := by decide +kernel
theorem d_X8_orderSlots_128 : decode prog_4_method_11_code 128 = .ok (.iinc 2 1, 3) := by decide +kernel
theorem d_X8_orderSlots_131 : decode prog_4_method_11_code 131 = .ok (.goto (-101), 3) := by decide +kernel
theorem d_X8_orderSlots_134 : decode prog_4_method_11_code 134 = .ok (.return_, 1) := by decide +kernel
abbrev y_X8_isBetter : MethodName := ⟨"VirtualRewrite$Finder", "isBetter", "(III)Z"⟩
theorem d_X8_isBetter_0 : decode prog_4_method_12_code 0 = .ok (.aload_n 0, 1) := by decide +kernel
theorem d_X8_isBetter_1 : decode prog_4_method_12_code 1 = .ok (.getfield 15, 3) := by decide +kernel
theorem d_X8_isBetter_4 : decode prog_4_method_12_code 4 = .ok (.iload_n 1, 1) := by decide +kernel
theorem d_X8_isBetter_5 : decode prog_4_method_12_code 5 = .ok (.iaload, 1) := by decide +kernel
theorem d_X8_isBetter_6 : decode prog_4_method_12_code 6 = .ok (.iload_n 3, 1) := by decide +kernel
theorem d_X8_isBetter_7 : decode prog_4_method_12_code 7 = .ok (.iand, 1) := by decide +kernel
theorem d_X8_isBetter_8 : decode prog_4_method_12_code 8 = .ok (.invokestatic 151, 3) := by decide +kernel
theorem d_X8_isBetter_11 : decode prog_4_method_12_code 11 = .ok (.istore 4, 2) := by decide +kernel
theorem d_X8_isBetter_13 : decode prog_4_method_12_code 13 = .ok (.aload_n 0, 1) := by decide +kernel
theorem d_X8_isBetter_14 : decode prog_4_method_12_code 14 = .ok (.getfield 15, 3) := by decide +kernel
theorem d_X8_isBetter_17 : decode prog_4_method_12_code 17 = .ok (.iload_n 2, 1) := by decide +kernel
theorem d_X8_isBetter_18 : decode prog_4_method_12_code 18 = .ok (.iaload, 1) := by decide +kernel
theorem d_X8_isBetter_19 : decode prog_4_method_12_code 19 = .ok (.iload_n 3, 1) := by decide +kernel
theorem d_X8_isBetter_20 : decode prog_4_method_12_code 20 = .ok (.iand, 1) := by decide +kernel
theorem d_X8_isBetter_21 : decode prog_4_method_12_code 21 = .ok (.invokestatic 151, 3) := by decide +kernel
theorem d_X8_isBetter_24 : decode prog_4_method_12_code 24 = .ok (.istore 5, 2) := by decide +kernel
theorem d_X8_isBetter_26 : decode prog_4_method_12_code 26 = .ok (.iload 4, 2) := by decide +kernel
theorem d_X8_isBetter_28 : decode prog_4_method_12_code 28 = .ok (.iload 5, 2) := by decide +kernel
theorem d_X8_isBetter_30 : decode prog_4_method_12_code 30 = .ok (.if_icmp .eq 18, 3) := by decide +kernel
theorem d_X8_isBetter_33 : decode prog_4_method_12_code 33 = .ok (.iload 4, 2) := by decide +kernel
theorem d_X8_isBetter_35 : decode prog_4_method_12_code 35 = .ok (.iload 5, 2) := by decide +kernel
theorem d_X8_isBetter_37 : decode prog_4_method_12_code 37 = .ok (.if_icmp .le 7, 3) := by decide +kernel
theorem d_X8_isBetter_40 : decode prog_4_method_12_code 40 = .ok (.iconst 1, 1) := by decide +kernel
theorem d_X8_isBetter_41 : decode prog_4_method_12_code 41 = .ok (.goto 27, 3) := by decide +kernel
theorem d_X8_isBetter_44 : decode prog_4_method_12_code 44 = .ok (.iconst 0, 1) := by decide +kernel
theorem d_X8_isBetter_45 : decode prog_4_method_12_code 45 = .ok (.goto 23, 3) := by decide +kernel
theorem d_X8_isBetter_48 : decode prog_4_method_12_code 48 = .ok (.aload_n 0, 1) := by decide +kernel
theorem d_X8_isBetter_49 : decode prog_4_method_12_code 49 = .ok (.getfield 24, 3) := by decide +kernel
theorem d_X8_isBetter_52 : decode prog_4_method_12_code 52 = .ok (.iload_n 1, 1) := by decide +kernel
theorem d_X8_isBetter_53 : decode prog_4_method_12_code 53 = .ok (.iaload, 1) := by decide +kernel
theorem d_X8_isBetter_54 : decode prog_4_method_12_code 54 = .ok (.aload_n 0, 1) := by decide +kernel
theorem d_X8_isBetter_55 : decode prog_4_method_12_code 55 = .ok (.getfield 24, 3) := by decide +kernel
theorem d_X8_isBetter_58 : decode prog_4_method_12_code 58 = .ok (.iload_n 2, 1) := by decide +kernel
theorem d_X8_isBetter_59 : decode prog_4_method_12_code 59 = .ok (.iaload, 1) := by decide +kernel
theorem d_X8_isBetter_60 : decode prog_4_method_12_code 60 = .ok (.if_icmp .ge 7, 3) := by decide +kernel
theorem d_X8_isBetter_63 : decode prog_4_method_12_code 63 = .ok (.iconst 1, 1) := by decide +kernel
theorem d_X8_isBetter_64 : decode prog_4_method_12_code 64 = .ok (.goto 4, 3) := by decide +kernel
theorem d_X8_isBetter_67 : decode prog_4_method_12_code 67 = .ok (.iconst 0, 1) := by decide +kernel
theorem d_X8_isBetter_68 : decode prog_4_method_12_code 68 = .ok (.ireturn, 1) := by decide +kernel
abbrev y_JInteger_bitCount : MethodName := ⟨"java/lang/Integer", "bitCount", "(I)I"⟩
theorem d_JInteger_bitCount_0 : decode prog_14_method_49_code 0 = .ok (.iload_n 0, 1) := by decide +kernel
theorem d_JInteger_bitCount_1 : decode prog_14_method_49_code 1 = .ok (.iload_n 0, 1) := by decide +kernel
theorem d_JInteger_bitCount_2 : decode prog_14_method_49_code 2 = .ok (.iconst 1, 1) := by decide +kernel
theorem d_JInteger_bitCount_3 : decode prog_14_method_49_code 3 = .ok (.iushr, 1) := by decide +kernel
theorem d_JInteger_bitCount_4 : decode prog_14_method_49_code 4 = .ok (.ldc_w 265, 3) := by decide +kernel
theorem d_JInteger_bitCount_7 : decode prog_14_method_49_code 7 = .ok (.iand, 1) := by decide +kernel
theorem d_JInteger_bitCount_8 : decode prog_14_method_49_code 8 = .ok (.isub, 1) := by decide +kernel
theorem d_JInteger_bitCount_9 : decode prog_14_method_49_code 9 = .ok (.istore_n 0, 1) := by decide +kernel
theorem d_JInteger_bitCount_10 : decode prog_14_method_49_code 10 = .ok (.iload_n 0, 1) := by decide +kernel
theorem d_JInteger_bitCount_11 : decode prog_14_method_49_code 11 = .ok (.ldc_w 266, 3) := by decide +kernel
theorem d_JInteger_bitCount_14 : decode prog_14_method_49_code 14 = .ok (.iand, 1) := by decide +kernel
theorem d_JInteger_bitCount_15 : decode prog_14_method_49_code 15 = .ok (.iload_n 0, 1) := by decide +kernel
theorem d_JInteger_bitCount_16 : decode prog_14_method_49_code 16 = .ok (.iconst 2, 1) := by decide +kernel
theorem d_JInteger_bitCount_17 : decode prog_14_method_49_code 17 = .ok (.iushr, 1) := by decide +kernel
theorem d_JInteger_bitCount_18 : decode prog_14_method_49_code 18 = .ok (.ldc_w 266, 3) := by decide +kernel
theorem d_JInteger_bitCount_21 : decode prog_14_method_49_code 21 = .ok (.iand, 1) := by decide +kernel
theorem d_JInteger_bitCount_22 : decode prog_14_method_49_code 22 = .ok (.iadd, 1) := by decide +kernel
theorem d_JInteger_bitCount_23 : decode prog_14_method_49_code 23 = .ok (.istore_n 0, 1) := by decide +kernel
theorem d_JInteger_bitCount_24 : decode prog_14_method_49_code 24 = .ok (.iload_n 0, 1) := by decide +kernel
theorem d_JInteger_bitCount_25 : decode prog_14_method_49_code 25 = .ok (.iload_n 0, 1) := by decide +kernel
theorem d_JInteger_bitCount_26 : decode prog_14_method_49_code 26 = .ok (.iconst 4, 1) := by decide +kernel
theorem d_JInteger_bitCount_27 : decode prog_14_method_49_code 27 = .ok (.iushr, 1) := by decide +kernel
theorem d_JInteger_bitCount_28 : decode prog_14_method_49_code 28 = .ok (.iadd, 1) := by decide +kernel
theorem d_JInteger_bitCount_29 : decode prog_14_method_49_code 29 = .ok (.ldc_w 267, 3) := by decide +kernel
theorem d_JInteger_bitCount_32 : decode prog_14_method_49_code 32 = .ok (.iand, 1) := by decide +kernel
theorem d_JInteger_bitCount_33 : decode prog_14_method_49_code 33 = .ok (.istore_n 0, 1) := by decide +kernel
theorem d_JInteger_bitCount_34 : decode prog_14_method_49_code 34 = .ok (.iload_n 0, 1) := by decide +kernel
theorem d_JInteger_bitCount_35 : decode prog_14_method_49_code 35 = .ok (.iload_n 0, 1) := by decide +kernel
theorem d_JInteger_bitCount_36 : decode prog_14_method_49_code 36 = .ok (.bipush 8, 2) := by decide +kernel
theorem d_JInteger_bitCount_38 : decode prog_14_method_49_code 38 = .ok (.iushr, 1) := by decide +kernel
theorem d_JInteger_bitCount_39 : decode prog_14_method_49_code 39 = .ok (.iadd, 1) := by decide +kernel
theorem d_JInteger_bitCount_40 : decode prog_14_method_49_code 40 = .ok (.istore_n 0, 1) := by decide +kernel
theorem d_JInteger_bitCount_41 : decode prog_14_method_49_code 41 = .ok (.iload_n 0, 1) := by decide +kernel
theorem d_JInteger_bitCount_42 : decode prog_14_method_49_code 42 = .ok (.iload_n 0, 1) := by decide +kernel
theorem d_JInteger_bitCount_43 : decode prog_14_method_49_code 43 = .ok (.bipush 16, 2) := by decide +kernel
theorem d_JInteger_bitCount_45 : decode prog_14_method_49_code 45 = .ok (.iushr, 1) := by decide +kernel
theorem d_JInteger_bitCount_46 : decode prog_14_method_49_code 46 = .ok (.iadd, 1) := by decide +kernel
theorem d_JInteger_bitCount_47 : decode prog_14_method_49_code 47 = .ok (.istore_n 0, 1) := by decide +kernel
theorem d_JInteger_bitCount_48 : decode prog_14_method_49_code 48 = .ok (.iload_n 0, 1) := by decide +kernel
theorem d_JInteger_bitCount_49 : decode prog_14_method_49_code 49 = .ok (.bipush 63, 2) := by decide +kernel
theorem d_JInteger_bitCount_51 : decode prog_14_method_49_code 51 = .ok (.iand, 1) := by decide +kernel
theorem d_JInteger_bitCount_52 : decode prog_14_method_49_code 52 = .ok (.ireturn, 1) := by decide +kernel
abbrev y_X8_search : MethodName := ⟨"VirtualRewrite$Finder", "search", "(II)I"⟩
theorem d_X8_search_0 : decode prog_4_method_13_code 0 = .ok (.iload_n 1, 1) := by decide +kernel
theorem d_X8_search_1 : decode prog_4_method_13_code 1 = .ok (.aload_n 0, 1) := by decide +kernel
theorem d_X8_search_2 : decode prog_4_method_13_code 2 = .ok (.getfield 48, 3) := by decide +kernel
theorem d_X8_search_5 : decode prog_4_method_13_code 5 = .ok (.getfield 65, 3) := by decide +kernel
theorem d_X8_search_8 : decode prog_4_method_13_code 8 = .ok (.if_icmp .lt 20, 3) := by decide +kernel
theorem d_X8_search_11 : decode prog_4_method_13_code 11 = .ok (.aload_n 0, 1) := by decide +kernel
theorem d_X8_search_12 : decode prog_4_method_13_code 12 = .ok (.getfield 52, 3) := by decide +kernel
theorem d_X8_search_15 : decode prog_4_method_13_code 15 = .ok (.aload_n 0, 1) := by decide +kernel
theorem d_X8_search_16 : decode prog_4_method_13_code 16 = .ok (.getfield 33, 3) := by decide +kernel
theorem d_X8_search_19 : decode prog_4_method_13_code 19 = .ok (.aload_n 0, 1) := by decide +kernel
theorem d_X8_search_20 : decode prog_4_method_13_code 20 = .ok (.getfield 36, 3) := by decide +kernel
theorem d_X8_search_23 : decode prog_4_method_13_code 23 = .ok (.invokevirtual 156, 3) := by decide +kernel
theorem d_X8_search_26 : decode prog_4_method_13_code 26 = .ok (.iconst (-1), 1) := by decide +kernel
theorem d_X8_search_27 : decode prog_4_method_13_code 27 = .ok (.ireturn, 1) := by decide +kernel
theorem d_X8_search_28 : decode prog_4_method_13_code 28 = .ok (.aload_n 0, 1) := by decide +kernel
theorem d_X8_search_29 : decode prog_4_method_13_code 29 = .ok (.getfield 27, 3) := by decide +kernel
theorem d_X8_search_32 : decode prog_4_method_13_code 32 = .ok (.iload_n 1, 1) := by decide +kernel
theorem d_X8_search_33 : decode prog_4_method_13_code 33 = .ok (.iaload, 1) := by decide +kernel
theorem d_X8_search_34 : decode prog_4_method_13_code 34 = .ok (.istore_n 3, 1) := by decide +kernel
theorem d_X8_search_35 : decode prog_4_method_13_code 35 = .ok (.aload_n 0, 1) := by decide +kernel
theorem d_X8_search_36 : decode prog_4_method_13_code 36 = .ok (.iload_n 3, 1) := by decide +kernel
theorem d_X8_search_37 : decode prog_4_method_13_code 37 = .ok (.invokevirtual 118, 3) := by decide +kernel
theorem d_X8_search_40 : decode prog_4_method_13_code 40 = .ok (.astore 4, 2) := by decide +kernel
theorem d_X8_search_42 : decode prog_4_method_13_code 42 = .ok (.iload_n 2, 1) := by decide +kernel
theorem d_X8_search_43 : decode prog_4_method_13_code 43 = .ok (.aload_n 0, 1) := by decide +kernel
theorem d_X8_search_44 : decode prog_4_method_13_code 44 = .ok (.getfield 15, 3) := by decide +kernel
theorem d_X8_search_47 : decode prog_4_method_13_code 47 = .ok (.iload_n 3, 1) := by decide +kernel
theorem d_X8_search_48 : decode prog_4_method_13_code 48 = .ok (.iaload, 1) := by decide +kernel
theorem d_X8_search_49 : decode prog_4_method_13_code 49 = .ok (.ior, 1) := by decide +kernel
theorem d_X8_search_50 : decode prog_4_method_13_code 50 = .ok (.istore 5, 2) := by decide +kernel
theorem d_X8_search_52 : decode prog_4_method_13_code 52 = .ok (.iload_n 2, 1) := by decide +kernel
theorem d_X8_search_53 : decode prog_4_method_13_code 53 = .ok (.aload_n 0, 1) := by decide +kernel
theorem d_X8_search_54 : decode prog_4_method_13_code 54 = .ok (.getfield 15, 3) := by decide +kernel
theorem d_X8_search_57 : decode prog_4_method_13_code 57 = .ok (.iload_n 3, 1) := by decide +kernel
theorem d_X8_search_58 : decode prog_4_method_13_code 58 = .ok (.iaload, 1) := by decide +kernel
theorem d_X8_search_59 : decode prog_4_method_13_code 59 = .ok (.iand, 1) := by decide +kernel
theorem d_X8_search_60 : decode prog_4_method_13_code 60 = .ok (.istore 6, 2) := by decide +kernel
theorem d_X8_search_62 : decode prog_4_method_13_code 62 = .ok (.iconst 0, 1) := by decide +kernel
theorem d_X8_search_63 : decode prog_4_method_13_code 63 = .ok (.istore 7, 2) := by decide +kernel
theorem d_X8_search_65 : decode prog_4_method_13_code 65 = .ok (.iconst 0, 1) := by decide +kernel
theorem d_X8_search_66 : decode prog_4_method_13_code 66 = .ok (.istore 8, 2) := by decide +kernel
theorem d_X8_search_68 : decode prog_4_method_13_code 68 = .ok (.iload 8, 2) := by decide +kernel
theorem d_X8_search_70 : decode prog_4_method_13_code 70 = .ok (.aload_n 0, 1) := by decide +kernel
theorem d_X8_search_71 : decode prog_4_method_13_code 71 = .ok (.getfield 24, 3) := by decide +kernel
theorem d_X8_search_74 : decode prog_4_method_13_code 74 = .ok (.iload_n 3, 1) := by decide +kernel
theorem d_X8_search_75 : decode prog_4_method_13_code 75 = .ok (.iaload, 1) := by decide +kernel
theorem d_X8_search_76 : decode prog_4_method_13_code 76 = .ok (.if_icmp .ge 97, 3) := by decide +kernel
theorem d_X8_search_79 : decode prog_4_method_13_code 79 = .ok (.aload_n 0, 1) := by decide +kernel
theorem d_X8_search_80 : decode prog_4_method_13_code 80 = .ok (.getfield 52, 3) := by decide +kernel
theorem d_X8_search_83 : decode prog_4_method_13_code 83 = .ok (.getfield 162, 3) := by decide +kernel
theorem d_X8_search_86 : decode prog_4_method_13_code 86 = .ok (.ifCond .ne 87, 3) := by decide +kernel
theorem d_X8_search_89 : decode prog_4_method_13_code 89 = .ok (.aload_n 0, 1) := by decide +kernel
theorem d_X8_search_90 : decode prog_4_method_13_code 90 = .ok (.getfield 21, 3) := by decide +kernel
theorem d_X8_search_93 : decode prog_4_method_13_code 93 = .ok (.iload_n 3, 1) := by decide +kernel
theorem d_X8_search_94 : decode prog_4_method_13_code 94 = .ok (.bipush 20, 2) := by decide +kernel
theorem d_X8_search_96 : decode prog_4_method_13_code 96 = .ok (.imul, 1) := by decide +kernel
theorem d_X8_search_97 : decode prog_4_method_13_code 97 = .ok (.iload 8, 2) := by decide +kernel
theorem d_X8_search_99 : decode prog_4_method_13_code 99 = .ok (.iadd, 1) := by decide +kernel
theorem d_X8_search_100 : decode prog_4_method_13_code 100 = .ok (.iaload, 1) := by decide +kernel
theorem d_X8_search_101 : decode prog_4_method_13_code 101 = .ok (.istore 9, 2) := by decide +kernel
theorem d_X8_search_103 : decode prog_4_method_13_code 103 = .ok (.aload_n 0, 1) := by decide +kernel
theorem d_X8_search_104 : decode prog_4_method_13_code 104 = .ok (.iload_n 3, 1) := by decide +kernel
theorem d_X8_search_105 : decode prog_4_method_13_code 105 = .ok (.aload 4, 2) := by decide +kernel
theorem d_X8_search_107 : decode prog_4_method_13_code 107 = .ok (.iload 9, 2) := by decide +kernel
theorem d_X8_search_109 : decode prog_4_method_13_code 109 = .ok (.iload_n 2, 1) := by decide +kernel
theorem d_X8_search_110 : decode prog_4_method_13_code 110 = .ok (.invokevirtual 166, 3) := by decide +kernel
theorem d_X8_search_113 : decode prog_4_method_13_code 113 = .ok (.ifCond .eq 54, 3) := by decide +kernel
theorem d_X8_search_116 : decode prog_4_method_13_code 116 = .ok (.aload_n 0, 1) := by decide +kernel
theorem d_X8_search_117 : decode prog_4_method_13_code 117 = .ok (.iload_n 3, 1) := by decide +kernel
theorem d_X8_search_118 : decode prog_4_method_13_code 118 = .ok (.aload 4, 2) := by decide +kernel
theorem d_X8_search_120 : decode prog_4_method_13_code 120 = .ok (.iload 9, 2) := by decide +kernel
theorem d_X8_search_122 : decode prog_4_method_13_code 122 = .ok (.invokevirtual 169, 3) := by decide +kernel
theorem d_X8_search_125 : decode prog_4_method_13_code 125 = .ok (.aload_n 0, 1) := by decide +kernel
theorem d_X8_search_126 : decode prog_4_method_13_code 126 = .ok (.iload_n 1, 1) := by decide +kernel
theorem d_X8_search_127 : decode prog_4_method_13_code 127 = .ok (.iconst 1, 1) := by decide +kernel
theorem d_X8_search_128 : decode prog_4_method_13_code 128 = .ok (.iadd, 1) := by decide +kernel
theorem d_X8_search_129 : decode prog_4_method_13_code 129 = .ok (.iload 5, 2) := by decide +kernel
theorem d_X8_search_131 : decode prog_4_method_13_code 131 = .ok (.invokevirtual 74, 3) := by decide +kernel
theorem d_X8_search_134 : decode prog_4_method_13_code 134 = .ok (.istore 10, 2) := by decide +kernel
theorem d_X8_search_136 : decode prog_4_method_13_code 136 = .ok (.iload 10, 2) := by decide +kernel
theorem d_X8_search_138 : decode prog_4_method_13_code 138 = .ok (.iconst (-1), 1) := by decide +kernel
theorem d_X8_search_139 : decode prog_4_method_13_code 139 = .ok (.if_icmp .ne 9, 3) := by decide +kernel
theorem d_X8_search_142 : decode prog_4_method_13_code 142 = .ok (.iconst 1, 1) := by decide +kernel
theorem d_X8_search_143 : decode prog_4_method_13_code 143 = .ok (.istore 7, 2) := by decide +kernel
theorem d_X8_search_145 : decode prog_4_method_13_code 145 = .ok (.goto 22, 3) := by decide +kernel
theorem d_X8_search_148 : decode prog_4_method_13_code 148 = .ok (.iload 10, 2) := by decide +kernel
theorem d_X8_search_150 : decode prog_4_method_13_code 150 = .ok (.iload_n 2, 1) := by decide +kernel
theorem d_X8_search_151 : decode prog_4_method_13_code 151 = .ok (.iconst (-1), 1) := by decide +kernel
theorem d_X8_search_152 : decode prog_4_method_13_code 152 = .ok (.ixor, 1) := by decide +kernel
theorem d_X8_search_153 : decode prog_4_method_13_code 153 = .ok (.iand, 1) := by decide +kernel
theorem d_X8_search_154 : decode prog_4_method_13_code 154 = .ok (.ifCond .ne 6, 3) := by decide +kernel
theorem d_X8_search_157 : decode prog_4_method_13_code 157 = .ok (.iload 10, 2) := by decide +kernel
theorem d_X8_search_159 : decode prog_4_method_13_code 159 = .ok (.ireturn, 1) := by decide +kernel
theorem d_X8_search_160 : decode prog_4_method_13_code 160 = .ok (.iload 6, 2) := by decide +kernel
theorem d_X8_search_162 : decode prog_4_method_13_code 162 = .ok (.iload 10, 2) := by decide +kernel
theorem d_X8_search_164 : decode prog_4_method_13_code 164 = .ok (.ior, 1) := by decide +kernel
theorem d_X8_search_165 : decode prog_4_method_13_code 165 = .ok (.istore 6, 2) := by decide +kernel
theorem d_X8_search_167 : decode prog_4_method_13_code 167 = .ok (.iinc 8 1, 3) := by decide +kernel
theorem d_X8_search_170 : decode prog_4_method_13_code 170 = .ok (.goto (-102), 3) := by decide +kernel
theorem d_X8_search_173 : decode prog_4_method_13_code 173 = .ok (.iload 7, 2) := by decide +kernel
theorem d_X8_search_175 : decode prog_4_method_13_code 175 = .ok (.ifCond .eq 7, 3) := by decide +kernel
theorem d_X8_search_178 : decode prog_4_method_13_code 178 = .ok (.iconst (-1), 1) := by decide +kernel
theorem d_X8_search_179 : decode prog_4_method_13_code 179 = .ok (.goto 7, 3) := by decide +kernel
theorem d_X8_search_182 : decode prog_4_method_13_code 182 = .ok (.iload 6, 2) := by decide +kernel
theorem d_X8_search_184 : decode prog_4_method_13_code 184 = .ok (.iload_n 2, 1) := by decide +kernel
theorem d_X8_search_185 : decode prog_4_method_13_code 185 = .ok (.iand, 1) := by decide +kernel
theorem d_X8_search_186 : decode prog_4_method_13_code 186 = .ok (.ireturn, 1) := by decide +kernel
abbrev y_X7_take : MethodName := ⟨"VirtualRewrite$Answers", "take", "([II)V"⟩
theorem d_X7_take_0 : decode prog_2_method_6_code 0 = .ok (.aload_n 0, 1) := by decide +kernel
theorem d_X7_take_1 : decode prog_2_method_6_code 1 = .ok (.aload_n 1, 1) := by decide +kernel
theorem d_X7_take_2 : decode prog_2_method_6_code 2 = .ok (.invokevirtual 35, 3) := by decide +kernel
theorem d_X7_take_5 : decode prog_2_method_6_code 5 = .ok (.istore_n 3, 1) := by decide +kernel
theorem d_X7_take_6 : decode prog_2_method_6_code 6 = .ok (.iload_n 3, 1) := by decide +kernel
theorem d_X7_take_7 : decode prog_2_method_6_code 7 = .ok (.aload_n 0, 1) := by decide +kernel
theorem d_X7_take_8 : decode prog_2_method_6_code 8 = .ok (.getfield 24, 3) := by decide +kernel
theorem d_X7_take_11 : decode prog_2_method_6_code 11 = .ok (.if_icmp .ge 30, 3) := by decide +kernel
theorem d_X7_take_14 : decode prog_2_method_6_code 14 = .ok (.aload_n 0, 1) := by decide +kernel
theorem d_X7_take_15 : decode prog_2_method_6_code 15 = .ok (.iload_n 3, 1) := by decide +kernel
theorem d_X7_take_16 : decode prog_2_method_6_code 16 = .ok (.aload_n 1, 1) := by decide +kernel
theorem d_X7_take_17 : decode prog_2_method_6_code 17 = .ok (.invokevirtual 39, 3) := by decide +kernel
theorem d_X7_take_20 : decode prog_2_method_6_code 20 = .ok (.ifCond .ne 21, 3) := by decide +kernel
theorem d_X7_take_23 : decode prog_2_method_6_code 23 = .ok (.aload_n 0, 1) := by decide +kernel
theorem d_X7_take_24 : decode prog_2_method_6_code 24 = .ok (.getfield 18, 3) := by decide +kernel
theorem d_X7_take_27 : decode prog_2_method_6_code 27 = .ok (.aload_n 0, 1) := by decide +kernel
theorem d_X7_take_28 : decode prog_2_method_6_code 28 = .ok (.getfield 15, 3) := by decide +kernel
theorem d_X7_take_31 : decode prog_2_method_6_code 31 = .ok (.iload_n 3, 1) := by decide +kernel
theorem d_X7_take_32 : decode prog_2_method_6_code 32 = .ok (.iaload, 1) := by decide +kernel
theorem d_X7_take_33 : decode prog_2_method_6_code 33 = .ok (.dup2, 1) := by decide +kernel
theorem d_X7_take_34 : decode prog_2_method_6_code 34 = .ok (.iaload, 1) := by decide +kernel
theorem d_X7_take_35 : decode prog_2_method_6_code 35 = .ok (.iconst 1, 1) := by decide +kernel
theorem d_X7_take_36 : decode prog_2_method_6_code 36 = .ok (.iadd, 1) := by decide +kernel
theorem d_X7_take_37 : decode prog_2_method_6_code 37 = .ok (.iastore, 1) := by decide +kernel
theorem d_X7_take_38 : decode prog_2_method_6_code 38 = .ok (.goto 28, 3) := by decide +kernel
theorem d_X7_take_41 : decode prog_2_method_6_code 41 = .ok (.aload_n 0, 1) := by decide +kernel
theorem d_X7_take_42 : decode prog_2_method_6_code 42 = .ok (.getfield 24, 3) := by decide +kernel
theorem d_X7_take_45 : decode prog_2_method_6_code 45 = .ok (.sipush 300, 3) := by decide +kernel
theorem d_X7_take_48 : decode prog_2_method_6_code 48 = .ok (.if_icmp .lt 11, 3) := by decide +kernel
theorem d_X7_take_51 : decode prog_2_method_6_code 51 = .ok (.aload_n 0, 1) := by decide +kernel
theorem d_X7_take_52 : decode prog_2_method_6_code 52 = .ok (.iconst 1, 1) := by decide +kernel
theorem d_X7_take_53 : decode prog_2_method_6_code 53 = .ok (.putfield 31, 3) := by decide +kernel
theorem d_X7_take_56 : decode prog_2_method_6_code 56 = .ok (.goto 10, 3) := by decide +kernel
theorem d_X7_take_59 : decode prog_2_method_6_code 59 = .ok (.aload_n 0, 1) := by decide +kernel
theorem d_X7_take_60 : decode prog_2_method_6_code 60 = .ok (.iload_n 3, 1) := by decide +kernel
theorem d_X7_take_61 : decode prog_2_method_6_code 61 = .ok (.aload_n 1, 1) := by decide +kernel
theorem d_X7_take_62 : decode prog_2_method_6_code 62 = .ok (.iload_n 2, 1) := by decide +kernel
theorem d_X7_take_63 : decode prog_2_method_6_code 63 = .ok (.invokevirtual 43, 3) := by decide +kernel
theorem d_X7_take_66 : decode prog_2_method_6_code 66 = .ok (.return_, 1) := by decide +kernel
abbrev y_X7_firstNotBefore : MethodName := ⟨"VirtualRewrite$Answers", "firstNotBefore", "([I)I"⟩
theorem d_X7_firstNotBefore_0 : decode prog_2_method_8_code 0 = .ok (.iconst 0, 1) := by decide +kernel
theorem d_X7_firstNotBefore_1 : decode prog_2_method_8_code 1 = .ok (.istore_n 2, 1) := by decide +kernel
theorem d_X7_firstNotBefore_2 : decode prog_2_method_8_code 2 = .ok (.aload_n 0, 1) := by decide +kernel
theorem d_X7_firstNotBefore_3 : decode prog_2_method_8_code 3 = .ok (.getfield 24, 3) := by decide +kernel
theorem d_X7_firstNotBefore_6 : decode prog_2_method_8_code 6 = .ok (.istore_n 3, 1) := by decide +kernel
theorem d_X7_firstNotBefore_7 : decode prog_2_method_8_code 7 = .ok (.iload_n 2, 1) := by decide +kernel
theorem d_X7_firstNotBefore_8 : decode prog_2_method_8_code 8 = .ok (.iload_n 3, 1) := by decide +kernel
theorem d_X7_firstNotBefore_9 : decode prog_2_method_8_code 9 = .ok (.if_icmp .ge 34, 3) := by decide +kernel
theorem d_X7_firstNotBefore_12 : decode prog_2_method_8_code 12 = .ok (.iload_n 2, 1) := by decide +kernel
theorem d_X7_firstNotBefore_13 : decode prog_2_method_8_code 13 = .ok (.iload_n 3, 1) := by decide +kernel
theorem d_X7_firstNotBefore_14 : decode prog_2_method_8_code 14 = .ok (.iadd, 1) := by decide +kernel
theorem d_X7_firstNotBefore_15 : decode prog_2_method_8_code 15 = .ok (.iconst 1, 1) := by decide +kernel
theorem d_X7_firstNotBefore_16 : decode prog_2_method_8_code 16 = .ok (.iushr, 1) := by decide +kernel
theorem d_X7_firstNotBefore_17 : decode prog_2_method_8_code 17 = .ok (.istore 4, 2) := by decide +kernel
theorem d_X7_firstNotBefore_19 : decode prog_2_method_8_code 19 = .ok (.aload_n 0, 1) := by decide +kernel
theorem d_X7_firstNotBefore_20 : decode prog_2_method_8_code 20 = .ok (.iload 4, 2) := by decide +kernel
theorem d_X7_firstNotBefore_22 : decode prog_2_method_8_code 22 = .ok (.aload_n 1, 1) := by decide +kernel
theorem d_X7_firstNotBefore_23 : decode prog_2_method_8_code 23 = .ok (.invokevirtual 39, 3) := by decide +kernel
theorem d_X7_firstNotBefore_26 : decode prog_2_method_8_code 26 = .ok (.ifCond .ge 11, 3) := by decide +kernel
theorem d_X7_firstNotBefore_29 : decode prog_2_method_8_code 29 = .ok (.iload 4, 2) := by decide +kernel
theorem d_X7_firstNotBefore_31 : decode prog_2_method_8_code 31 = .ok (.iconst 1, 1) := by decide +kernel
theorem d_X7_firstNotBefore_32 : decode prog_2_method_8_code 32 = .ok (.iadd, 1) := by decide +kernel
theorem d_X7_firstNotBefore_33 : decode prog_2_method_8_code 33 = .ok (.istore_n 2, 1) := by decide +kernel
theorem d_X7_firstNotBefore_34 : decode prog_2_method_8_code 34 = .ok (.goto 6, 3) := by decide +kernel
theorem d_X7_firstNotBefore_37 : decode prog_2_method_8_code 37 = .ok (.iload 4, 2) := by decide +kernel
theorem d_X7_firstNotBefore_39 : decode prog_2_method_8_code 39 = .ok (.istore_n 3, 1) := by decide +kernel
theorem d_X7_firstNotBefore_40 : decode prog_2_method_8_code 40 = .ok (.goto (-33), 3) := by decide +kernel
theorem d_X7_firstNotBefore_43 : decode prog_2_method_8_code 43 = .ok (.iload_n 2, 1) := by decide +kernel
theorem d_X7_firstNotBefore_44 : decode prog_2_method_8_code 44 = .ok (.ireturn, 1) := by decide +kernel
abbrev y_X7_compare : MethodName := ⟨"VirtualRewrite$Answers", "compare", "(I[I)I"⟩
theorem d_X7_compare_0 : decode prog_2_method_9_code 0 = .ok (.iconst 0, 1) := by decide +kernel
theorem d_X7_compare_1 : decode prog_2_method_9_code 1 = .ok (.istore_n 3, 1) := by decide +kernel
theorem d_X7_compare_2 : decode prog_2_method_9_code 2 = .ok (.iload_n 3, 1) := by decide +kernel
theorem d_X7_compare_3 : decode prog_2_method_9_code 3 = .ok (.bipush 6, 2) := by decide +kernel
theorem d_X7_compare_5 : decode prog_2_method_9_code 5 = .ok (.if_icmp .ge 29, 3) := by decide +kernel
theorem d_X7_compare_8 : decode prog_2_method_9_code 8 = .ok (.aload_n 0, 1) := by decide +kernel
theorem d_X7_compare_9 : decode prog_2_method_9_code 9 = .ok (.iload_n 1, 1) := by decide +kernel
theorem d_X7_compare_10 : decode prog_2_method_9_code 10 = .ok (.iload_n 3, 1) := by decide +kernel
theorem d_X7_compare_11 : decode prog_2_method_9_code 11 = .ok (.invokevirtual 53, 3) := by decide +kernel
theorem d_X7_compare_14 : decode prog_2_method_9_code 14 = .ok (.aload_n 2, 1) := by decide +kernel
theorem d_X7_compare_15 : decode prog_2_method_9_code 15 = .ok (.iload_n 3, 1) := by decide +kernel
theorem d_X7_compare_16 : decode prog_2_method_9_code 16 = .ok (.iaload, 1) := by decide +kernel
theorem d_X7_compare_17 : decode prog_2_method_9_code 17 = .ok (.isub, 1) := by decide +kernel
theorem d_X7_compare_18 : decode prog_2_method_9_code 18 = .ok (.istore 4, 2) := by decide +kernel
theorem d_X7_compare_20 : decode prog_2_method_9_code 20 = .ok (.iload 4, 2) := by decide +kernel
theorem d_X7_compare_22 : decode prog_2_method_9_code 22 = .ok (.ifCond .eq 6, 3) := by decide +kernel
theorem d_X7_compare_25 : decode prog_2_method_9_code 25 = .ok (.iload 4, 2) := by decide +kernel
theorem d_X7_compare_27 : decode prog_2_method_9_code 27 = .ok (.ireturn, 1) := by decide +kernel
theorem d_X7_compare_28 : decode prog_2_method_9_code 28 = .ok (.iinc 3 1, 3) := by decide +kernel
theorem d_X7_compare_31 : decode prog_2_method_9_code 31 = .ok (.goto (-29), 3) := by decide +kernel
theorem d_X7_compare_34 : decode prog_2_method_9_code 34 = .ok (.iconst 0, 1) := by decide +kernel
theorem d_X7_compare_35 : decode prog_2_method_9_code 35 = .ok (.ireturn, 1) := by decide +kernel
abbrev y_X7_code : MethodName := ⟨"VirtualRewrite$Answers", "code", "(II)I"⟩
theorem d_X7_code_0 : decode prog_2_method_3_code 0 = .ok (.aload_n 0, 1) := by decide +kernel
theorem d_X7_code_1 : decode prog_2_method_3_code 1 = .ok (.getfield 9, 3) := by decide +kernel
theorem d_X7_code_4 : decode prog_2_method_3_code 4 = .ok (.aload_n 0, 1) := by decide +kernel
theorem d_X7_code_5 : decode prog_2_method_3_code 5 = .ok (.getfield 15, 3) := by decide +kernel
theorem d_X7_code_8 : decode prog_2_method_3_code 8 = .ok (.iload_n 1, 1) := by decide +kernel
theorem d_X7_code_9 : decode prog_2_method_3_code 9 = .ok (.iaload, 1) := by decide +kernel
theorem d_X7_code_10 : decode prog_2_method_3_code 10 = .ok (.bipush 6, 2) := by decide +kernel
theorem d_X7_code_12 : decode prog_2_method_3_code 12 = .ok (.imul, 1) := by decide +kernel
theorem d_X7_code_13 : decode prog_2_method_3_code 13 = .ok (.iload_n 2, 1) := by decide +kernel
theorem d_X7_code_14 : decode prog_2_method_3_code 14 = .ok (.iadd, 1) := by decide +kernel
theorem d_X7_code_15 : decode prog_2_method_3_code 15 = .ok (.iaload, 1) := by decide +kernel
theorem d_X7_code_16 : decode prog_2_method_3_code 16 = .ok (.ireturn, 1) := by decide +kernel
abbrev y_X7_insert : MethodName := ⟨"VirtualRewrite$Answers", "insert", "(I[II)V"⟩
theorem d_X7_insert_0 : decode prog_2_method_7_code 0 = .ok (.aload_n 2, 1) := by decide +kernel
theorem d_X7_insert_1 : decode prog_2_method_7_code 1 = .ok (.iconst 0, 1) := by decide +kernel
theorem d_X7_insert_2 : decode prog_2_method_7_code 2 = .ok (.aload_n 0, 1) := by decide +kernel
theorem d_X7_insert_3 : decode prog_2_method_7_code 3 = .ok (.getfield 9, 3) := by decide +kernel
theorem d_X7_insert_6 : decode prog_2_method_7_code 6 = .ok (.aload_n 0, 1) := by decide +kernel
theorem d_X7_insert_7 : decode prog_2_method_7_code 7 = .ok (.getfield 24, 3) := by decide +kernel
theorem d_X7_insert_10 : decode prog_2_method_7_code 10 = .ok (.bipush 6, 2) := by decide +kernel
theorem d_X7_insert_12 : decode prog_2_method_7_code 12 = .ok (.imul, 1) := by decide +kernel
theorem d_X7_insert_13 : decode prog_2_method_7_code 13 = .ok (.bipush 6, 2) := by decide +kernel
theorem d_X7_insert_15 : decode prog_2_method_7_code 15 = .ok (.invokestatic 47, 3) := by decide +kernel
theorem d_X7_insert_18 : decode prog_2_method_7_code 18 = .ok (.aload_n 0, 1) := by decide +kernel
theorem d_X7_insert_19 : decode prog_2_method_7_code 19 = .ok (.getfield 18, 3) := by decide +kernel
theorem d_X7_insert_22 : decode prog_2_method_7_code 22 = .ok (.aload_n 0, 1) := by decide +kernel
theorem d_X7_insert_23 : decode prog_2_method_7_code 23 = .ok (.getfield 24, 3) := by decide +kernel
theorem d_X7_insert_26 : decode prog_2_method_7_code 26 = .ok (.iconst 1, 1) := by decide +kernel
theorem d_X7_insert_27 : decode prog_2_method_7_code 27 = .ok (.iastore, 1) := by decide +kernel
theorem d_X7_insert_28 : decode prog_2_method_7_code 28 = .ok (.aload_n 0, 1) := by decide +kernel
theorem d_X7_insert_29 : decode prog_2_method_7_code 29 = .ok (.getfield 21, 3) := by decide +kernel
theorem d_X7_insert_32 : decode prog_2_method_7_code 32 = .ok (.aload_n 0, 1) := by decide +kernel
theorem d_X7_insert_33 : decode prog_2_method_7_code 33 = .ok (.getfield 24, 3) := by decide +kernel
theorem d_X7_insert_36 : decode prog_2_method_7_code 36 = .ok (.iload_n 3, 1) := by decide +kernel
theorem d_X7_insert_37 : decode prog_2_method_7_code 37 = .ok (.iastore, 1) := by decide +kernel
theorem d_X7_insert_38 : decode prog_2_method_7_code 38 = .ok (.aload_n 0, 1) := by decide +kernel
theorem d_X7_insert_39 : decode prog_2_method_7_code 39 = .ok (.getfield 15, 3) := by decide +kernel
theorem d_X7_insert_42 : decode prog_2_method_7_code 42 = .ok (.iload_n 1, 1) := by decide +kernel
theorem d_X7_insert_43 : decode prog_2_method_7_code 43 = .ok (.aload_n 0, 1) := by decide +kernel
theorem d_X7_insert_44 : decode prog_2_method_7_code 44 = .ok (.getfield 15, 3) := by decide +kernel
theorem d_X7_insert_47 : decode prog_2_method_7_code 47 = .ok (.iload_n 1, 1) := by decide +kernel
theorem d_X7_insert_48 : decode prog_2_method_7_code 48 = .ok (.iconst 1, 1) := by decide +kernel
theorem d_X7_insert_49 : decode prog_2_method_7_code 49 = .ok (.iadd, 1) := by decide +kernel
theorem d_X7_insert_50 : decode prog_2_method_7_code 50 = .ok (.aload_n 0, 1) := by decide +kernel
theorem d_X7_insert_51 : decode prog_2_method_7_code 51 = .ok (.getfield 24, 3) := by decide +kernel
theorem d_X7_insert_54 : decode prog_2_method_7_code 54 = .ok (.iload_n 1, 1) := by decide +kernel
theorem d_X7_insert_55 : decode prog_2_method_7_code 55 = .ok (.isub, 1) := by decide +kernel
theorem d_X7_insert_56 : decode prog_2_method_7_code 56 = .ok (.invokestatic 47, 3) := by decide +kernel
theorem d_X7_insert_59 : decode prog_2_method_7_code 59 = .ok (.aload_n 0, 1) := by decide +kernel
theorem d_X7_insert_60 : decode prog_2_method_7_code 60 = .ok (.getfield 15, 3) := by decide +kernel
theorem d_X7_insert_63 : decode prog_2_method_7_code 63 = .ok (.iload_n 1, 1) := by decide +kernel
theorem d_X7_insert_64 : decode prog_2_method_7_code 64 = .ok (.aload_n 0, 1) := by decide +kernel
theorem d_X7_insert_65 : decode prog_2_method_7_code 65 = .ok (.getfield 24, 3) := by decide +kernel
theorem d_X7_insert_68 : decode prog_2_method_7_code 68 = .ok (.iastore, 1) := by decide +kernel
theorem d_X7_insert_69 : decode prog_2_method_7_code 69 = .ok (.aload_n 0, 1) := by decide +kernel
theorem d_X7_insert_70 : decode prog_2_method_7_code 70 = .ok (.dup, 1) := by decide +kernel
theorem d_X7_insert_71 : decode prog_2_method_7_code 71 = .ok (.getfield 24, 3) := by decide +kernel
theorem d_X7_insert_74 : decode prog_2_method_7_code 74 = .ok (.iconst 1, 1) := by decide +kernel
theorem d_X7_insert_75 : decode prog_2_method_7_code 75 = .ok (.iadd, 1) := by decide +kernel
theorem d_X7_insert_76 : decode prog_2_method_7_code 76 = .ok (.putfield 24, 3) := by decide +kernel
theorem d_X7_insert_79 : decode prog_2_method_7_code 79 = .ok (.return_, 1) := by decide +kernel
