abbrev y_X9_found : MethodName := ⟨"VirtualRewriteModel", "found", "(II)I"⟩
theorem d_X9_found_0 : decode prog_11_method_29_code 0 = .ok (.aload_n 0, 1) := by decide +kernel
theorem d_X9_found_1 : decode prog_11_method_29_code 1 = .ok (.iconst 0, 1) := by decide +kernel
theorem d_X9_found_2 : decode prog_11_method_29_code 2 = .ok (.putfield 80, 3) := by decide +kernel
theorem d_X9_found_5 : decode prog_11_method_29_code 5 = .ok (.iload_n 1, 1) := by decide +kernel
theorem d_X9_found_6 : decode prog_11_method_29_code 6 = .ok (.iconst 0, 1) := by decide +kernel
theorem d_X9_found_7 : decode prog_11_method_29_code 7 = .ok (.aload_n 0, 1) := by decide +kernel
theorem d_X9_found_8 : decode prog_11_method_29_code 8 = .ok (.getfield 130, 3) := by decide +kernel
theorem d_X9_found_11 : decode prog_11_method_29_code 11 = .ok (.iconst 1, 1) := by decide +kernel
theorem d_X9_found_12 : decode prog_11_method_29_code 12 = .ok (.isub, 1) := by decide +kernel
theorem d_X9_found_13 : decode prog_11_method_29_code 13 = .ok (.invokestatic 84, 3) := by decide +kernel
theorem d_X9_found_16 : decode prog_11_method_29_code 16 = .ok (.ifCond .eq 12, 3) := by decide +kernel
theorem d_X9_found_19 : decode prog_11_method_29_code 19 = .ok (.iload_n 2, 1) := by decide +kernel
theorem d_X9_found_20 : decode prog_11_method_29_code 20 = .ok (.iconst 0, 1) := by decide +kernel
theorem d_X9_found_21 : decode prog_11_method_29_code 21 = .ok (.iconst 1, 1) := by decide +kernel
theorem d_X9_found_22 : decode prog_11_method_29_code 22 = .ok (.invokestatic 84, 3) := by decide +kernel
theorem d_X9_found_25 : decode prog_11_method_29_code 25 = .ok (.ifCond .ne 5, 3) := by decide +kernel
theorem d_X9_found_28 : decode prog_11_method_29_code 28 = .ok (.iconst (-1), 1) := by decide +kernel
theorem d_X9_found_29 : decode prog_11_method_29_code 29 = .ok (.ireturn, 1) := by decide +kernel
theorem d_X9_found_30 : decode prog_11_method_29_code 30 = .ok (.iload_n 2, 1) := by decide +kernel
theorem d_X9_found_31 : decode prog_11_method_29_code 31 = .ok (.ifCond .ne 12, 3) := by decide +kernel
theorem d_X9_found_34 : decode prog_11_method_29_code 34 = .ok (.aload_n 0, 1) := by decide +kernel
theorem d_X9_found_35 : decode prog_11_method_29_code 35 = .ok (.getfield 71, 3) := by decide +kernel
theorem d_X9_found_38 : decode prog_11_method_29_code 38 = .ok (.iload_n 1, 1) := by decide +kernel
theorem d_X9_found_39 : decode prog_11_method_29_code 39 = .ok (.iaload, 1) := by decide +kernel
theorem d_X9_found_40 : decode prog_11_method_29_code 40 = .ok (.goto 9, 3) := by decide +kernel
theorem d_X9_found_43 : decode prog_11_method_29_code 43 = .ok (.aload_n 0, 1) := by decide +kernel
theorem d_X9_found_44 : decode prog_11_method_29_code 44 = .ok (.getfield 74, 3) := by decide +kernel
theorem d_X9_found_47 : decode prog_11_method_29_code 47 = .ok (.iload_n 1, 1) := by decide +kernel
theorem d_X9_found_48 : decode prog_11_method_29_code 48 = .ok (.iaload, 1) := by decide +kernel
theorem d_X9_found_49 : decode prog_11_method_29_code 49 = .ok (.ireturn, 1) := by decide +kernel
