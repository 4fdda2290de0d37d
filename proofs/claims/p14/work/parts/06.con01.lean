def wp_X2_cell (ki : Nat → ClassId) (r0 : Nat) (x1 : Int32) (x2 : Int32) (f : ac_hp) (Q : Int32 → ac_hp → Prop) : Prop := ∃ o1 : Nat, hr_f f r0 2 0 (.ref o1) ∧ ∃ v2 : Int32, hr_i (ki 0) f o1 ((x1 * 3) + x2) v2 ∧ Q v2 f

set_option maxRecDepth 20000 in
set_option maxHeartbeats 4000000 in
theorem c_X2_cell (l : Launch) (D : va_G) (ki : Nat → ClassId) (r0 : Nat) (x1 : Int32) (x2 : Int32) (f : ac_hp) (Q : Int32 → ac_hp → Prop) (h : wp_X2_cell ki r0 x1 x2 f Q) : ac_met l D ki y_X2_cell prog_9_method_2_code 3 (some .int) (ro_ 1 0 0) [.ref r0, .int x1, .int x2] f (qr_I Q) 0 0 := by
  refine ac_enter (fun ki => wp_X2_cell ki r0 x1 x2 f Q) (by decide) (Nat.le_of_ble_eq_true rfl) h ?_
  intro x hro hR hnm h
  unfold wp_X2_cell at h
  refine ac_aload_n 0 d_X2_cell_0 rfl rfl ?_
  obtain ⟨o1, hr, h⟩ := h
  refine ak_getf hr fl_X2_9 d_X2_cell_1 ?_
  refine ac_iload_n 1 d_X2_cell_4 rfl rfl ?_
  refine ac_iconst (v := 3) d_X2_cell_5 rfl ?_
  refine ac_imul d_X2_cell_6 ?_
  refine ac_iload_n 2 d_X2_cell_7 rfl rfl ?_
  refine ac_iadd d_X2_cell_8 ?_
  obtain ⟨v2, hr, h⟩ := h
  refine ak_iald 0 hr rfl d_X2_cell_9 ?_
  exact ac_ireturn hR rfl ⟨_, rfl, h⟩ (by decide) (by decide) d_X2_cell_10

def wp_X2_append (ki : Nat → ClassId) (r0 : Nat) (x1 : Int32) (x2 : Int32) (x3 : Int32) (f : ac_hp) (Q : ac_hp → Prop) : Prop := ∃ v1 : Int32, hr_f f r0 2 2 (.int v1) ∧ ∀ v2 : Int32, v2 = v1 * 3 → ∃ o3 : Nat, hr_f f r0 2 0 (.ref o3) ∧ ∃ f4 : ac_hp, hw_i (ki 0) f o3 v2 x1 f4 ∧ ∃ o5 : Nat, hr_f f4 r0 2 0 (.ref o5) ∧ ∃ f6 : ac_hp, hw_i (ki 0) f4 o5 (v2 + 1) x2 f6 ∧ ∃ o7 : Nat, hr_f f6 r0 2 0 (.ref o7) ∧ ∃ f8 : ac_hp, hw_i (ki 0) f6 o7 (v2 + 2) x3 f8 ∧ ∃ v9 : Int32, hr_f f8 r0 2 2 (.int v9) ∧ ∃ f10 : ac_hp, hw_f f8 r0 2 2 (.int (v9 + 1)) f10 ∧ Q f10

set_option maxRecDepth 20000 in
set_option maxHeartbeats 4000000 in
theorem c_X2_append (l : Launch) (D : va_G) (ki : Nat → ClassId) (r0 : Nat) (x1 : Int32) (x2 : Int32) (x3 : Int32) (f : ac_hp) (Q : ac_hp → Prop) (h : wp_X2_append ki r0 x1 x2 x3 f Q) : ac_met l D ki y_X2_append prog_9_method_6_code 5 none (ro_ 1 0 0) [.ref r0, .int x1, .int x2, .int x3] f (qr_V Q) 0 0 := by
  refine ac_enter (fun ki => wp_X2_append ki r0 x1 x2 x3 f Q) (by decide) (Nat.le_of_ble_eq_true rfl) h ?_
  intro x hro hR hnm h
  unfold wp_X2_append at h
  refine ac_aload_n 0 d_X2_append_0 rfl rfl ?_
  obtain ⟨v1, hr, h⟩ := h
  refine ak_getf hr fl_X2_19 d_X2_append_1 ?_
  refine ac_iconst (v := 3) d_X2_append_4 rfl ?_
  refine ac_imul d_X2_append_5 ?_
  refine ak_topi (fun v2 ev2 => ?_)
  have h := h v2 ev2
  refine ac_istore (lv' := [(4, .int v2), (0, .ref r0), (1, .int x1), (2, .int x2), (3, .int x3)]) d_X2_append_6 (by decide) rfl ?_
  refine ac_aload_n 1 d_X2_append_8 rfl rfl ?_
  obtain ⟨o3, hr, h⟩ := h
  refine ak_getf hr fl_X2_9 d_X2_append_9 ?_
  refine ac_iload 0 d_X2_append_12 rfl ?_
  refine ac_iload_n 2 d_X2_append_14 rfl rfl ?_
  obtain ⟨f4, hr, h⟩ := h
  refine ak_iast 0 hr rfl d_X2_append_15 ?_
  refine ac_aload_n 1 d_X2_append_16 rfl rfl ?_
  obtain ⟨o5, hr, h⟩ := h
  refine ak_getf hr fl_X2_9 d_X2_append_17 ?_
  refine ac_iload 0 d_X2_append_20 rfl ?_
  refine ac_iconst (v := 1) d_X2_append_22 rfl ?_
  refine ac_iadd d_X2_append_23 ?_
  refine ac_iload_n 3 d_X2_append_24 rfl rfl ?_
  obtain ⟨f6, hr, h⟩ := h
  refine ak_iast 0 hr rfl d_X2_append_25 ?_
  refine ac_aload_n 1 d_X2_append_26 rfl rfl ?_
  obtain ⟨o7, hr, h⟩ := h
  refine ak_getf hr fl_X2_9 d_X2_append_27 ?_
  refine ac_iload 0 d_X2_append_30 rfl ?_
  refine ac_iconst (v := 2) d_X2_append_32 rfl ?_
  refine ac_iadd d_X2_append_33 ?_
  refine ac_iload_n 4 d_X2_append_34 rfl rfl ?_
  obtain ⟨f8, hr, h⟩ := h
  refine ak_iast 0 hr rfl d_X2_append_35 ?_
  refine ac_aload_n 1 d_X2_append_36 rfl rfl ?_
  refine ac_dup d_X2_append_37 rfl ?_
  obtain ⟨v9, hr, h⟩ := h
  refine ak_getf hr fl_X2_19 d_X2_append_38 ?_
  refine ac_iconst (v := 1) d_X2_append_41 rfl ?_
  refine ac_iadd d_X2_append_42 ?_
  obtain ⟨f10, hr, h⟩ := h
  refine ak_putf hr fp_X2_19 rfl rfl d_X2_append_43 ?_
  exact ac_vreturn hR ⟨rfl, h⟩ (by decide) (by decide) d_X2_append_46

def wp_X2_remove (ki : Nat → ClassId) (r0 : Nat) (x1 : Int32) (f : ac_hp) (Q : ac_hp → Prop) : Prop := ∃ v1 : Int32, hr_f f r0 2 2 (.int v1) ∧ ∀ v2 : Int32, v2 = (v1 - x1) - 1 → ∃ o3 : Nat, hr_f f r0 2 0 (.ref o3) ∧ ∃ o4 : Nat, hr_f f r0 2 0 (.ref o4) ∧ ∃ f5 : ac_hp, hw_c (ki 0) f o3 ((x1 + 1) * 3) o4 (x1 * 3) (v2 * 3) f5 ∧ ∃ v6 : Int32, hr_f f5 r0 2 2 (.int v6) ∧ ∃ f7 : ac_hp, hw_f f5 r0 2 2 (.int (v6 - 1)) f7 ∧ Q f7

set_option maxRecDepth 20000 in
set_option maxHeartbeats 4000000 in
theorem c_X2_remove (l : Launch) (D : va_G) (ki : Nat → ClassId) (r0 : Nat) (x1 : Int32) (f : ac_hp) (Q : ac_hp → Prop) (h : wp_X2_remove ki r0 x1 f Q) : ac_met l D ki y_X2_remove prog_9_method_7_code 3 none (ro_ 1 0 0) [.ref r0, .int x1] f (qr_V Q) 0 0 := by
  refine ac_enter (fun ki => wp_X2_remove ki r0 x1 f Q) (by decide) (Nat.le_of_ble_eq_true rfl) h ?_
  intro x hro hR hnm h
  unfold wp_X2_remove at h
  refine ac_aload_n 0 d_X2_remove_0 rfl rfl ?_
  obtain ⟨v1, hr, h⟩ := h
  refine ak_getf hr fl_X2_19 d_X2_remove_1 ?_
  refine ac_iload_n 1 d_X2_remove_4 rfl rfl ?_
  refine ac_isub d_X2_remove_5 ?_
  refine ac_iconst (v := 1) d_X2_remove_6 rfl ?_
  refine ac_isub d_X2_remove_7 ?_
  refine ak_topi (fun v2 ev2 => ?_)
  have h := h v2 ev2
  refine ac_istore_n (lv' := [(2, .int v2), (0, .ref r0), (1, .int x1)]) d_X2_remove_8 rfl (by decide) rfl ?_
  refine ac_aload_n 1 d_X2_remove_9 rfl rfl ?_
  obtain ⟨o3, hr, h⟩ := h
  refine ak_getf hr fl_X2_9 d_X2_remove_10 ?_
  refine ac_iload_n 2 d_X2_remove_13 rfl rfl ?_
  refine ac_iconst (v := 1) d_X2_remove_14 rfl ?_
  refine ac_iadd d_X2_remove_15 ?_
  refine ac_iconst (v := 3) d_X2_remove_16 rfl ?_
  refine ac_imul d_X2_remove_17 ?_
  refine ac_aload_n 1 d_X2_remove_18 rfl rfl ?_
  obtain ⟨o4, hr, h⟩ := h
  refine ak_getf hr fl_X2_9 d_X2_remove_19 ?_
  refine ac_iload_n 2 d_X2_remove_22 rfl rfl ?_
  refine ac_iconst (v := 3) d_X2_remove_23 rfl ?_
  refine ac_imul d_X2_remove_24 ?_
  refine ac_iload_n 0 d_X2_remove_25 rfl rfl ?_
  refine ac_iconst (v := 3) d_X2_remove_26 rfl ?_
  refine ac_imul d_X2_remove_27 ?_
  obtain ⟨f5, hr, h⟩ := h
  refine ak_copyi 0 hr sc_X2_31 sc_nat sc_stat sc_ini rfl (by rw [hro]; decide) (by rw [hro]; decide) d_X2_remove_28 ?_
  refine ac_aload_n 1 d_X2_remove_31 rfl rfl ?_
  refine ac_dup d_X2_remove_32 rfl ?_
  obtain ⟨v6, hr, h⟩ := h
  refine ak_getf hr fl_X2_19 d_X2_remove_33 ?_
  refine ac_iconst (v := 1) d_X2_remove_36 rfl ?_
  refine ac_isub d_X2_remove_37 ?_
  obtain ⟨f7, hr, h⟩ := h
  refine ak_putf hr fp_X2_19 rfl rfl d_X2_remove_38 ?_
  exact ac_vreturn hR ⟨rfl, h⟩ (by decide) (by decide) d_X2_remove_41

def wp_X3_describe (ki : Nat → ClassId) (r0 : Nat) (x1 : Int32) (x2 : Int32) (x3 : Int32) (f : ac_hp) (Q : ac_hp → Prop) : Prop := ∃ o1 : Nat, hr_f f r0 3 0 (.ref o1) ∧ ∃ f2 : ac_hp, hw_i (ki 0) f o1 x1 x2 f2 ∧ ∃ o3 : Nat, hr_f f2 r0 3 1 (.ref o3) ∧ ∃ f4 : ac_hp, hw_i (ki 0) f2 o3 x1 x3 f4 ∧ Q f4

set_option maxRecDepth 20000 in
set_option maxHeartbeats 4000000 in
theorem c_X3_describe (l : Launch) (D : va_G) (ki : Nat → ClassId) (r0 : Nat) (x1 : Int32) (x2 : Int32) (x3 : Int32) (f : ac_hp) (Q : ac_hp → Prop) (h : wp_X3_describe ki r0 x1 x2 x3 f Q) : ac_met l D ki y_X3_describe prog_5_method_2_code 4 none (ro_ 1 0 0) [.ref r0, .int x1, .int x2, .int x3] f (qr_V Q) 0 0 := by
  refine ac_enter (fun ki => wp_X3_describe ki r0 x1 x2 x3 f Q) (by decide) (Nat.le_of_ble_eq_true rfl) h ?_
  intro x hro hR hnm h
  unfold wp_X3_describe at h
  refine ac_aload_n 0 d_X3_describe_0 rfl rfl ?_
  obtain ⟨o1, hr, h⟩ := h
  refine ak_getf hr fl_X3_9 d_X3_describe_1 ?_
  refine ac_iload_n 1 d_X3_describe_4 rfl rfl ?_
  refine ac_iload_n 2 d_X3_describe_5 rfl rfl ?_
  obtain ⟨f2, hr, h⟩ := h
  refine ak_iast 0 hr rfl d_X3_describe_6 ?_
  refine ac_aload_n 0 d_X3_describe_7 rfl rfl ?_
  obtain ⟨o3, hr, h⟩ := h
  refine ak_getf hr fl_X3_15 d_X3_describe_8 ?_
  refine ac_iload_n 1 d_X3_describe_11 rfl rfl ?_
  refine ac_iload_n 3 d_X3_describe_12 rfl rfl ?_
  obtain ⟨f4, hr, h⟩ := h
  refine ak_iast 0 hr rfl d_X3_describe_13 ?_
  exact ac_vreturn hR ⟨rfl, h⟩ (by decide) (by decide) d_X3_describe_14

def wp_X5_forget (ki : Nat → ClassId) (r0 : Nat) (f : ac_hp) (Q : ac_hp → Prop) : Prop := ∃ f1 : ac_hp, hw_f f r0 5 7 (.int 0) f1 ∧ Q f1

set_option maxRecDepth 20000 in
set_option maxHeartbeats 4000000 in
theorem c_X5_forget (l : Launch) (D : va_G) (ki : Nat → ClassId) (r0 : Nat) (f : ac_hp) (Q : ac_hp → Prop) (h : wp_X5_forget ki r0 f Q) : ac_met l D ki y_X5_forget prog_7_method_5_code 1 none (ro_ 1 0 0) [.ref r0] f (qr_V Q) 0 0 := by
  refine ac_enter (fun ki => wp_X5_forget ki r0 f Q) (by decide) (Nat.le_of_ble_eq_true rfl) h ?_
  intro x hro hR hnm h
  unfold wp_X5_forget at h
  refine ac_aload_n 0 d_X5_forget_0 rfl rfl ?_
  refine ac_iconst (v := 0) d_X5_forget_1 rfl ?_
  obtain ⟨f1, hr, h⟩ := h
  refine ak_putf hr fp_X5_29 rfl rfl d_X5_forget_2 ?_
  exact ac_vreturn hR ⟨rfl, h⟩ (by decide) (by decide) d_X5_forget_5

def wp_X1_tableOf (ki : Nat → ClassId) (r0 : Nat) (r1 : Nat) (f : ac_hp) (Q : Nat → ac_hp → Prop) : Prop := ∃ o1 : Nat, hr_f f r0 1 0 (.ref o1) ∧ ∃ v2 : Int32, hr_f f r1 3 2 (.int v2) ∧ ∃ o3 : Nat, hr_q (ki 3) f o1 v2 o3 ∧ Q o3 f

set_option maxRecDepth 20000 in
set_option maxHeartbeats 4000000 in
theorem c_X1_tableOf (l : Launch) (D : va_G) (ki : Nat → ClassId) (r0 : Nat) (r1 : Nat) (f : ac_hp) (Q : Nat → ac_hp → Prop) (h : wp_X1_tableOf ki r0 r1 f Q) : ac_met l D ki y_X1_tableOf prog_3_method_2_code 2 (some (.object "VirtualRewrite$Table")) (ro_ 1 0 0) [.ref r0, .ref r1] f (qr_R Q) 0 0 := by
  refine ac_enter (fun ki => wp_X1_tableOf ki r0 r1 f Q) (by decide) (Nat.le_of_ble_eq_true rfl) h ?_
  intro x hro hR hnm h
  unfold wp_X1_tableOf at h
  refine ac_aload_n 0 d_X1_tableOf_0 rfl rfl ?_
  obtain ⟨o1, hr, h⟩ := h
  refine ak_getf hr fl_X1_11 d_X1_tableOf_1 ?_
  refine ac_aload_n 1 d_X1_tableOf_4 rfl rfl ?_
  obtain ⟨v2, hr, h⟩ := h
  refine ak_getf hr fl_X1_36 d_X1_tableOf_5 ?_
  obtain ⟨o3, hr, h⟩ := h
  refine ak_aald 3 hr rfl d_X1_tableOf_8 ?_
  exact ac_areturn hR (Or.inl ⟨_, rfl⟩) ⟨_, rfl, h⟩ (by decide) (by decide) d_X1_tableOf_9

def wp_X1_keepTriple_L8 (ki : Nat → ClassId) (r0 : Nat) (x1 : Int64) (E49 : Int32 → ac_hp → Prop) : Nat → Int32 → Int32 → ac_hp → Prop
  | 0, _, _, _ => False
  | n + 1, x3, x4, f => ((x4 ≤ x3 → E49 x3 f) ∧ (¬ x4 ≤ x3 → ∀ v2 : Int32, v2 = ((x3 + x4).toUInt32 >>> ((1 : Int32).toUInt32 &&& Int32.toUInt32 31)).toInt32 → ∃ o3 : Nat, hr_f f r0 1 2 (.ref o3) ∧ ∃ v4 : Int64, hr_l (ki 2) f o3 v2 v4 ∧ ((0 ≤ (lg_cmp v4 x1) → wp_X1_keepTriple_L8 ki r0 x1 E49 n x3 v2 f) ∧ (¬ 0 ≤ (lg_cmp v4 x1) → ∀ v5 : Int32, v5 = v2 + 1 → wp_X1_keepTriple_L8 ki r0 x1 E49 n v5 x4 f))))

def wp_X1_keepTriple (ki : Nat → ClassId) (r0 : Nat) (x1 : Int64) (f : ac_hp) (Q : ac_hp → Prop) : Prop := ∃ v1 : Int32, hr_f f r0 1 4 (.int v1) ∧ ∃ n6 : Nat, wp_X1_keepTriple_L8 ki r0 x1 (fun y7 f8 => ∃ v9 : Int32, hr_f f8 r0 1 4 (.int v9) ∧ ((v9 ≤ y7 → ∃ o10 : Nat, hr_f f8 r0 1 2 (.ref o10) ∧ ∃ o11 : Nat, hr_f f8 r0 1 2 (.ref o11) ∧ ∃ v12 : Int32, hr_f f8 r0 1 4 (.int v12) ∧ ∃ f13 : ac_hp, hw_d (ki 2) f8 o10 y7 o11 (y7 + 1) (v12 - y7) f13 ∧ ∃ o14 : Nat, hr_f f13 r0 1 2 (.ref o14) ∧ ∃ f15 : ac_hp, hw_l (ki 2) f13 o14 y7 x1 f15 ∧ ∃ v16 : Int32, hr_f f15 r0 1 4 (.int v16) ∧ ∃ f17 : ac_hp, hw_f f15 r0 1 4 (.int (v16 + 1)) f17 ∧ Q f17) ∧ (¬ v9 ≤ y7 → ∃ o18 : Nat, hr_f f8 r0 1 2 (.ref o18) ∧ ∃ v19 : Int64, hr_l (ki 2) f8 o18 y7 v19 ∧ ((¬ (lg_cmp v19 x1) = 0 → ∃ o20 : Nat, hr_f f8 r0 1 2 (.ref o20) ∧ ∃ o21 : Nat, hr_f f8 r0 1 2 (.ref o21) ∧ ∃ v22 : Int32, hr_f f8 r0 1 4 (.int v22) ∧ ∃ f23 : ac_hp, hw_d (ki 2) f8 o20 y7 o21 (y7 + 1) (v22 - y7) f23 ∧ ∃ o24 : Nat, hr_f f23 r0 1 2 (.ref o24) ∧ ∃ f25 : ac_hp, hw_l (ki 2) f23 o24 y7 x1 f25 ∧ ∃ v26 : Int32, hr_f f25 r0 1 4 (.int v26) ∧ ∃ f27 : ac_hp, hw_f f25 r0 1 4 (.int (v26 + 1)) f27 ∧ Q f27) ∧ ((lg_cmp v19 x1) = 0 → Q f8))))) n6 0 v1 f

set_option maxRecDepth 20000 in
set_option maxHeartbeats 4000000 in
theorem ok_X1_keepTriple_L8 {x : ac_X} (hro : ac_R x = (ro_ 1 0 0)) (r0 : Nat) (x1 : Int64) (E49 : Int32 → ac_hp → Prop) (hE49 : ∀ (y3 : Int32) (f : ac_hp), E49 y3 f → ac_At (prog_3_method_5_code, 6, "VirtualRewrite$Catalog") x 0 0 49 [(0, .ref r0), (1, .long x1), (3, .int y3)] [] f) : ∀ (n : Nat) (x3 : Int32) (x4 : Int32) (f : ac_hp), wp_X1_keepTriple_L8 (ac_ki x) r0 x1 E49 n x3 x4 f → ac_At (prog_3_method_5_code, 6, "VirtualRewrite$Catalog") x 0 0 8 [(0, .ref r0), (1, .long x1), (3, .int x3), (4, .int x4)] [] f := by
  intro n
  induction n with
  | zero => intro _ _ _ h; exact h.elim
  | succ n ih =>
    intro x3 x4 f h
    rw [wp_X1_keepTriple_L8] at h
    refine ac_iload_n 2 d_X1_keepTriple_8 rfl rfl ?_
    refine ac_iload 3 d_X1_keepTriple_9 rfl ?_
    refine ac_icmp_ge (tgt := 49) d_X1_keepTriple_11 (by decide) (fun hc => ?_) (fun hc => ?_)
    · have h := h.1 hc
      refine ac_weak [0, 1, 2] rfl ?_
      exact hE49 x3 f h
    · have h := h.2 hc
      refine ac_iload_n 2 d_X1_keepTriple_14 rfl rfl ?_
      refine ac_iload 3 d_X1_keepTriple_15 rfl ?_
      refine ac_iadd d_X1_keepTriple_17 ?_
      refine ac_iconst (v := 1) d_X1_keepTriple_18 rfl ?_
      refine ac_iushr d_X1_keepTriple_19 ?_
      refine ak_topi (fun v2 ev2 => ?_)
      have h := h v2 ev2
      refine ac_istore (lv' := [(5, .int v2), (0, .ref r0), (1, .long x1), (3, .int x3), (4, .int x4)]) d_X1_keepTriple_20 (by decide) rfl ?_
      refine ac_aload_n 1 d_X1_keepTriple_22 rfl rfl ?_
      obtain ⟨o3, hr, h⟩ := h
      refine ak_getf hr fl_X1_23 d_X1_keepTriple_23 ?_
      refine ac_iload 0 d_X1_keepTriple_26 rfl ?_
      obtain ⟨v4, hr, h⟩ := h
      refine ak_lald 2 hr rfl d_X1_keepTriple_28 ?_
      refine ac_lload_n 2 d_X1_keepTriple_29 rfl rfl ?_
      refine ac_lcmp d_X1_keepTriple_30 ?_
      refine ac_if_ge (tgt := 42) d_X1_keepTriple_31 (by decide) (fun hc => ?_) (fun hc => ?_)
      · have h := h.1 hc
        refine ac_iload 0 d_X1_keepTriple_42 rfl ?_
        refine ac_istore (lv' := [(4, .int v2), (5, .int v2), (0, .ref r0), (1, .long x1), (3, .int x3)]) d_X1_keepTriple_44 (by decide) rfl ?_
        refine ac_goto (tgt := 8) d_X1_keepTriple_46 (by decide) ?_
        refine ac_weak [2, 3, 4, 0] rfl ?_
        exact ih x3 v2 f h
      · have h := h.2 hc
        refine ac_iload 0 d_X1_keepTriple_34 rfl ?_
        refine ac_iconst (v := 1) d_X1_keepTriple_36 rfl ?_
        refine ac_iadd d_X1_keepTriple_37 ?_
        refine ak_topi (fun v5 ev5 => ?_)
        have h := h v5 ev5
        refine ac_istore_n (lv' := [(3, .int v5), (5, .int v2), (0, .ref r0), (1, .long x1), (4, .int x4)]) d_X1_keepTriple_38 rfl (by decide) rfl ?_
        refine ac_goto (tgt := 46) d_X1_keepTriple_39 (by decide) ?_
        refine ac_goto (tgt := 8) d_X1_keepTriple_46 (by decide) ?_
        refine ac_weak [2, 3, 0, 4] rfl ?_
        exact ih v5 x4 f h

set_option maxRecDepth 20000 in
set_option maxHeartbeats 4000000 in
theorem c_X1_keepTriple (l : Launch) (D : va_G) (ki : Nat → ClassId) (r0 : Nat) (x1 : Int64) (f : ac_hp) (Q : ac_hp → Prop) (h : wp_X1_keepTriple ki r0 x1 f Q) : ac_met l D ki y_X1_keepTriple prog_3_method_5_code 6 none (ro_ 1 0 0) [.ref r0, .long x1] f (qr_V Q) 0 0 := by
  refine ac_enter (fun ki => wp_X1_keepTriple ki r0 x1 f Q) (by decide) (Nat.le_of_ble_eq_true rfl) h ?_
  intro x hro hR hnm h
  unfold wp_X1_keepTriple at h
  refine ac_iconst (v := 0) d_X1_keepTriple_0 rfl ?_
  refine ac_istore_n (lv' := [(3, .int 0), (0, .ref r0), (1, .long x1)]) d_X1_keepTriple_1 rfl (by decide) rfl ?_
  refine ac_aload_n 1 d_X1_keepTriple_2 rfl rfl ?_
  obtain ⟨v1, hr, h⟩ := h
  refine ak_getf hr fl_X1_31 d_X1_keepTriple_3 ?_
  refine ac_istore (lv' := [(4, .int v1), (3, .int 0), (0, .ref r0), (1, .long x1)]) d_X1_keepTriple_6 (by decide) rfl ?_
  obtain ⟨n6, h⟩ := h
  refine ac_weak [2, 3, 1, 0] rfl ?_
  refine ok_X1_keepTriple_L8 hro r0 x1 _ (fun y7 f8 h => ?_) n6 0 v1 f h
  · skip
    refine ac_iload_n 2 d_X1_keepTriple_49 rfl rfl ?_
    refine ac_aload_n 0 d_X1_keepTriple_50 rfl rfl ?_
    obtain ⟨v9, hr, h⟩ := h
    refine ak_getf hr fl_X1_31 d_X1_keepTriple_51 ?_
    refine ac_icmp_ge (tgt := 69) d_X1_keepTriple_54 (by decide) (fun hc => ?_) (fun hc => ?_)
    · have h := h.1 hc
      refine ac_aload_n 0 d_X1_keepTriple_69 rfl rfl ?_
      obtain ⟨o10, hr, h⟩ := h
      refine ak_getf hr fl_X1_23 d_X1_keepTriple_70 ?_
      refine ac_iload_n 2 d_X1_keepTriple_73 rfl rfl ?_
      refine ac_aload_n 0 d_X1_keepTriple_74 rfl rfl ?_
      obtain ⟨o11, hr, h⟩ := h
      refine ak_getf hr fl_X1_23 d_X1_keepTriple_75 ?_
      refine ac_iload_n 2 d_X1_keepTriple_78 rfl rfl ?_
      refine ac_iconst (v := 1) d_X1_keepTriple_79 rfl ?_
      refine ac_iadd d_X1_keepTriple_80 ?_
      refine ac_aload_n 0 d_X1_keepTriple_81 rfl rfl ?_
      obtain ⟨v12, hr, h⟩ := h
      refine ak_getf hr fl_X1_31 d_X1_keepTriple_82 ?_
      refine ac_iload_n 2 d_X1_keepTriple_85 rfl rfl ?_
      refine ac_isub d_X1_keepTriple_86 ?_
      obtain ⟨f13, hr, h⟩ := h
      refine ak_copyl 2 hr sc_X1_68 sc_nat sc_stat sc_ini rfl (by rw [hro]; decide) (by rw [hro]; decide) d_X1_keepTriple_87 ?_
      refine ac_aload_n 0 d_X1_keepTriple_90 rfl rfl ?_
      obtain ⟨o14, hr, h⟩ := h
      refine ak_getf hr fl_X1_23 d_X1_keepTriple_91 ?_
      refine ac_iload_n 2 d_X1_keepTriple_94 rfl rfl ?_
      refine ac_lload_n 1 d_X1_keepTriple_95 rfl rfl ?_
      obtain ⟨f15, hr, h⟩ := h
      refine ak_last 2 hr rfl d_X1_keepTriple_96 ?_
      refine ac_aload_n 0 d_X1_keepTriple_97 rfl rfl ?_
      refine ac_dup d_X1_keepTriple_98 rfl ?_
      obtain ⟨v16, hr, h⟩ := h
      refine ak_getf hr fl_X1_31 d_X1_keepTriple_99 ?_
      refine ac_iconst (v := 1) d_X1_keepTriple_102 rfl ?_
      refine ac_iadd d_X1_keepTriple_103 ?_
      obtain ⟨f17, hr, h⟩ := h
      refine ak_putf hr fp_X1_31 rfl rfl d_X1_keepTriple_104 ?_
      exact ac_vreturn hR ⟨rfl, h⟩ (by decide) (by decide) d_X1_keepTriple_107
    · have h := h.2 hc
      refine ac_aload_n 0 d_X1_keepTriple_57 rfl rfl ?_
      obtain ⟨o18, hr, h⟩ := h
      refine ak_getf hr fl_X1_23 d_X1_keepTriple_58 ?_
      refine ac_iload_n 2 d_X1_keepTriple_61 rfl rfl ?_
      obtain ⟨v19, hr, h⟩ := h
      refine ak_lald 2 hr rfl d_X1_keepTriple_62 ?_
      refine ac_lload_n 1 d_X1_keepTriple_63 rfl rfl ?_
      refine ac_lcmp d_X1_keepTriple_64 ?_
      refine ac_if_ne (tgt := 69) d_X1_keepTriple_65 (by decide) (fun hc => ?_) (fun hc => ?_)
      · have h := h.1 hc
        refine ac_aload_n 0 d_X1_keepTriple_69 rfl rfl ?_
        obtain ⟨o20, hr, h⟩ := h
        refine ak_getf hr fl_X1_23 d_X1_keepTriple_70 ?_
        refine ac_iload_n 2 d_X1_keepTriple_73 rfl rfl ?_
        refine ac_aload_n 0 d_X1_keepTriple_74 rfl rfl ?_
        obtain ⟨o21, hr, h⟩ := h
        refine ak_getf hr fl_X1_23 d_X1_keepTriple_75 ?_
        refine ac_iload_n 2 d_X1_keepTriple_78 rfl rfl ?_
        refine ac_iconst (v := 1) d_X1_keepTriple_79 rfl ?_
        refine ac_iadd d_X1_keepTriple_80 ?_
        refine ac_aload_n 0 d_X1_keepTriple_81 rfl rfl ?_
        obtain ⟨v22, hr, h⟩ := h
        refine ak_getf hr fl_X1_31 d_X1_keepTriple_82 ?_
        refine ac_iload_n 2 d_X1_keepTriple_85 rfl rfl ?_
        refine ac_isub d_X1_keepTriple_86 ?_
        obtain ⟨f23, hr, h⟩ := h
        refine ak_copyl 2 hr sc_X1_68 sc_nat sc_stat sc_ini rfl (by rw [hro]; decide) (by rw [hro]; decide) d_X1_keepTriple_87 ?_
        refine ac_aload_n 0 d_X1_keepTriple_90 rfl rfl ?_
        obtain ⟨o24, hr, h⟩ := h
        refine ak_getf hr fl_X1_23 d_X1_keepTriple_91 ?_
        refine ac_iload_n 2 d_X1_keepTriple_94 rfl rfl ?_
        refine ac_lload_n 1 d_X1_keepTriple_95 rfl rfl ?_
        obtain ⟨f25, hr, h⟩ := h
        refine ak_last 2 hr rfl d_X1_keepTriple_96 ?_
        refine ac_aload_n 0 d_X1_keepTriple_97 rfl rfl ?_
        refine ac_dup d_X1_keepTriple_98 rfl ?_
        obtain ⟨v26, hr, h⟩ := h
        refine ak_getf hr fl_X1_31 d_X1_keepTriple_99 ?_
        refine ac_iconst (v := 1) d_X1_keepTriple_102 rfl ?_
        refine ac_iadd d_X1_keepTriple_103 ?_
        obtain ⟨f27, hr, h⟩ := h
        refine ak_putf hr fp_X1_31 rfl rfl d_X1_keepTriple_104 ?_
        exact ac_vreturn hR ⟨rfl, h⟩ (by decide) (by decide) d_X1_keepTriple_107
      · have h := h.2 hc
        exact ac_vreturn hR ⟨rfl, h⟩ (by decide) (by decide) d_X1_keepTriple_68

def wp_X0_isPlace (ki : Nat → ClassId) (x0 : Int32) (f : ac_hp) (Q : Int32 → ac_hp → Prop) : Prop := ((x0 < (-6) → Q 0 f) ∧ (¬ x0 < (-6) → ((60000 ≤ x0 → Q 0 f) ∧ (¬ 60000 ≤ x0 → Q 1 f))))

set_option maxRecDepth 20000 in
set_option maxHeartbeats 4000000 in
theorem c_X0_isPlace (l : Launch) (D : va_G) (ki : Nat → ClassId) (x0 : Int32) (f : ac_hp) (Q : Int32 → ac_hp → Prop) (h : wp_X0_isPlace ki x0 f Q) : ac_met l D ki y_X0_isPlace prog_1_method_19_code 1 (some .boolean) (ro_ 1 0 0) [.int x0] f (qr_I Q) 0 0 := by
  refine ac_enter (fun ki => wp_X0_isPlace ki x0 f Q) (by decide) (Nat.le_of_ble_eq_true rfl) h ?_
  intro x hro hR hnm h
  unfold wp_X0_isPlace at h
  refine ac_iload_n 0 d_X0_isPlace_0 rfl rfl ?_
  refine ac_bipush (v := -6) d_X0_isPlace_1 rfl ?_
  refine ac_icmp_lt (tgt := 16) d_X0_isPlace_3 (by decide) (fun hc => ?_) (fun hc => ?_)
  · have h := h.1 hc
    refine ac_iconst (v := 0) d_X0_isPlace_16 rfl ?_
    exact ac_ireturn hR rfl ⟨_, rfl, h⟩ (by decide) (by decide) d_X0_isPlace_17
  · have h := h.2 hc
    refine ac_iload_n 0 d_X0_isPlace_6 rfl rfl ?_
    refine ac_ldc (v := 60000) kc_X0_193 d_X0_isPlace_7 ?_
    refine ac_icmp_ge (tgt := 16) d_X0_isPlace_9 (by decide) (fun hc => ?_) (fun hc => ?_)
    · have h := h.1 hc
      refine ac_iconst (v := 0) d_X0_isPlace_16 rfl ?_
      exact ac_ireturn hR rfl ⟨_, rfl, h⟩ (by decide) (by decide) d_X0_isPlace_17
    · have h := h.2 hc
      refine ac_iconst (v := 1) d_X0_isPlace_12 rfl ?_
      refine ac_goto (tgt := 17) d_X0_isPlace_13 (by decide) ?_
      exact ac_ireturn hR rfl ⟨_, rfl, h⟩ (by decide) (by decide) d_X0_isPlace_17

def wp_X4_append (ki : Nat → ClassId) (r0 : Nat) (x1 : Int32) (x2 : Int32) (x3 : Int32) (f : ac_hp) (Q : ac_hp → Prop) : Prop := ∃ o1 : Nat, hr_f f r0 4 0 (.ref o1) ∧ ∃ v2 : Int32, hr_f f r0 4 4 (.int v2) ∧ ∃ f3 : ac_hp, hw_i (ki 0) f o1 v2 x1 f3 ∧ ∃ o4 : Nat, hr_f f3 r0 4 1 (.ref o4) ∧ ∃ v5 : Int32, hr_f f3 r0 4 4 (.int v5) ∧ ∃ f6 : ac_hp, hw_i (ki 0) f3 o4 (v5 * 2) x2 f6 ∧ ∃ o7 : Nat, hr_f f6 r0 4 1 (.ref o7) ∧ ∃ v8 : Int32, hr_f f6 r0 4 4 (.int v8) ∧ ∃ f9 : ac_hp, hw_i (ki 0) f6 o7 ((v8 * 2) + 1) x3 f9 ∧ ∃ v10 : Int32, hr_f f9 r0 4 4 (.int v10) ∧ ∃ f11 : ac_hp, hw_f f9 r0 4 4 (.int (v10 + 1)) f11 ∧ Q f11

set_option maxRecDepth 20000 in
set_option maxHeartbeats 4000000 in
theorem c_X4_append (l : Launch) (D : va_G) (ki : Nat → ClassId) (r0 : Nat) (x1 : Int32) (x2 : Int32) (x3 : Int32) (f : ac_hp) (Q : ac_hp → Prop) (h : wp_X4_append ki r0 x1 x2 x3 f Q) : ac_met l D ki y_X4_append prog_6_method_2_code 4 none (ro_ 1 0 0) [.ref r0, .int x1, .int x2, .int x3] f (qr_V Q) 0 0 := by
  refine ac_enter (fun ki => wp_X4_append ki r0 x1 x2 x3 f Q) (by decide) (Nat.le_of_ble_eq_true rfl) h ?_
  intro x hro hR hnm h
  unfold wp_X4_append at h
  refine ac_aload_n 0 d_X4_append_0 rfl rfl ?_
  obtain ⟨o1, hr, h⟩ := h
  refine ak_getf hr fl_X4_9 d_X4_append_1 ?_
  refine ac_aload_n 0 d_X4_append_4 rfl rfl ?_
  obtain ⟨v2, hr, h⟩ := h
  refine ak_getf hr fl_X4_24 d_X4_append_5 ?_
  refine ac_iload_n 1 d_X4_append_8 rfl rfl ?_
  obtain ⟨f3, hr, h⟩ := h
  refine ak_iast 0 hr rfl d_X4_append_9 ?_
  refine ac_aload_n 0 d_X4_append_10 rfl rfl ?_
  obtain ⟨o4, hr, h⟩ := h
  refine ak_getf hr fl_X4_15 d_X4_append_11 ?_
  refine ac_aload_n 0 d_X4_append_14 rfl rfl ?_
  obtain ⟨v5, hr, h⟩ := h
  refine ak_getf hr fl_X4_24 d_X4_append_15 ?_
  refine ac_iconst (v := 2) d_X4_append_18 rfl ?_
  refine ac_imul d_X4_append_19 ?_
  refine ac_iload_n 2 d_X4_append_20 rfl rfl ?_
  obtain ⟨f6, hr, h⟩ := h
  refine ak_iast 0 hr rfl d_X4_append_21 ?_
  refine ac_aload_n 0 d_X4_append_22 rfl rfl ?_
  obtain ⟨o7, hr, h⟩ := h
  refine ak_getf hr fl_X4_15 d_X4_append_23 ?_
  refine ac_aload_n 0 d_X4_append_26 rfl rfl ?_
  obtain ⟨v8, hr, h⟩ := h
  refine ak_getf hr fl_X4_24 d_X4_append_27 ?_
  refine ac_iconst (v := 2) d_X4_append_30 rfl ?_
  refine ac_imul d_X4_append_31 ?_
  refine ac_iconst (v := 1) d_X4_append_32 rfl ?_
  refine ac_iadd d_X4_append_33 ?_
  refine ac_iload_n 3 d_X4_append_34 rfl rfl ?_
  obtain ⟨f9, hr, h⟩ := h
  refine ak_iast 0 hr rfl d_X4_append_35 ?_
  refine ac_aload_n 0 d_X4_append_36 rfl rfl ?_
  refine ac_dup d_X4_append_37 rfl ?_
  obtain ⟨v10, hr, h⟩ := h
  refine ak_getf hr fl_X4_24 d_X4_append_38 ?_
  refine ac_iconst (v := 1) d_X4_append_41 rfl ?_
  refine ac_iadd d_X4_append_42 ?_
  obtain ⟨f11, hr, h⟩ := h
  refine ak_putf hr fp_X4_24 rfl rfl d_X4_append_43 ?_
  exact ac_vreturn hR ⟨rfl, h⟩ (by decide) (by decide) d_X4_append_46

def wp_JMath_max (ki : Nat → ClassId) (x0 : Int32) (x1 : Int32) (f : ac_hp) (Q : Int32 → ac_hp → Prop) : Prop := ((x0 < x1 → Q x1 f) ∧ (¬ x0 < x1 → Q x0 f))

set_option maxRecDepth 20000 in
set_option maxHeartbeats 4000000 in
theorem c_JMath_max (l : Launch) (D : va_G) (ki : Nat → ClassId) (x0 : Int32) (x1 : Int32) (f : ac_hp) (Q : Int32 → ac_hp → Prop) (h : wp_JMath_max ki x0 x1 f Q) : ac_met l D ki y_JMath_max prog_15_method_65_code 2 (some .int) (ro_ 1 0 0) [.int x0, .int x1] f (qr_I Q) 0 0 := by
  refine ac_enterF (fun ki => wp_JMath_max ki x0 x1 f Q) (by decide +kernel) (Nat.le_of_ble_eq_true rfl) h ?_
  intro x hro hR hnm h
  unfold wp_JMath_max at h
  refine ac_iload_n 0 d_JMath_max_0 rfl rfl ?_
  refine ac_iload_n 1 d_JMath_max_1 rfl rfl ?_
  refine ac_icmp_lt (tgt := 9) d_JMath_max_2 (by decide) (fun hc => ?_) (fun hc => ?_)
  · have h := h.1 hc
    refine ac_iload_n 1 d_JMath_max_9 rfl rfl ?_
    exact ac_ireturn hR rfl ⟨_, rfl, h⟩ (by decide) (by decide) d_JMath_max_10
  · have h := h.2 hc
    refine ac_iload_n 0 d_JMath_max_5 rfl rfl ?_
    refine ac_goto (tgt := 10) d_JMath_max_6 (by decide) ?_
    exact ac_ireturn hR rfl ⟨_, rfl, h⟩ (by decide) (by decide) d_JMath_max_10

def wp_JMath_min (ki : Nat → ClassId) (x0 : Int32) (x1 : Int32) (f : ac_hp) (Q : Int32 → ac_hp → Prop) : Prop := ((x1 < x0 → Q x1 f) ∧ (¬ x1 < x0 → Q x0 f))

set_option maxRecDepth 20000 in
set_option maxHeartbeats 4000000 in
theorem c_JMath_min (l : Launch) (D : va_G) (ki : Nat → ClassId) (x0 : Int32) (x1 : Int32) (f : ac_hp) (Q : Int32 → ac_hp → Prop) (h : wp_JMath_min ki x0 x1 f Q) : ac_met l D ki y_JMath_min prog_15_method_69_code 2 (some .int) (ro_ 1 0 0) [.int x0, .int x1] f (qr_I Q) 0 0 := by
  refine ac_enterF (fun ki => wp_JMath_min ki x0 x1 f Q) (by decide +kernel) (Nat.le_of_ble_eq_true rfl) h ?_
  intro x hro hR hnm h
  unfold wp_JMath_min at h
  refine ac_iload_n 0 d_JMath_min_0 rfl rfl ?_
  refine ac_iload_n 1 d_JMath_min_1 rfl rfl ?_
  refine ac_icmp_gt (tgt := 9) d_JMath_min_2 (by decide) (fun hc => ?_) (fun hc => ?_)
  · have h := h.1 hc
    refine ac_iload_n 1 d_JMath_min_9 rfl rfl ?_
    exact ac_ireturn hR rfl ⟨_, rfl, h⟩ (by decide) (by decide) d_JMath_min_10
  · have h := h.2 hc
    refine ac_iload_n 0 d_JMath_min_5 rfl rfl ?_
    refine ac_goto (tgt := 10) d_JMath_min_6 (by decide) ?_
    exact ac_ireturn hR rfl ⟨_, rfl, h⟩ (by decide) (by decide) d_JMath_min_10

def wp_X4_reset_L12 (ki : Nat → ClassId) (r0 : Nat) (E40 : ac_hp → Prop) : Nat → Int32 → ac_hp → Prop
  | 0, _, _ => False
  | n + 1, x1, f => ((6 ≤ x1 → E40  f) ∧ (¬ 6 ≤ x1 → ∃ o3 : Nat, hr_f f r0 4 2 (.ref o3) ∧ ∃ f4 : ac_hp, hw_i (ki 0) f o3 x1 0 f4 ∧ ∃ o5 : Nat, hr_f f4 r0 4 3 (.ref o5) ∧ ∃ f6 : ac_hp, hw_i (ki 0) f4 o5 x1 9999 f6 ∧ ∀ v7 : Int32, v7 = x1 + 1 → wp_X4_reset_L12 ki r0 E40 n v7 f6))

def wp_X4_reset (ki : Nat → ClassId) (r0 : Nat) (f : ac_hp) (Q : ac_hp → Prop) : Prop := ∃ f1 : ac_hp, hw_f f r0 4 4 (.int 0) f1 ∧ ∃ f2 : ac_hp, hw_f f1 r0 4 5 (.int 0) f2 ∧ ∃ n8 : Nat, wp_X4_reset_L12 ki r0 (fun f9 => Q f9) n8 0 f2

set_option maxRecDepth 20000 in
set_option maxHeartbeats 4000000 in
theorem ok_X4_reset_L12 {x : ac_X} (hro : ac_R x = (ro_ 1 0 0)) (r0 : Nat) (E40 : ac_hp → Prop) (hE40 : ∀ (f : ac_hp), E40 f → ac_At (prog_6_method_4_code, 2, "VirtualRewrite$Question") x 0 0 40 [] [] f) : ∀ (n : Nat) (x1 : Int32) (f : ac_hp), wp_X4_reset_L12 (ac_ki x) r0 E40 n x1 f → ac_At (prog_6_method_4_code, 2, "VirtualRewrite$Question") x 0 0 12 [(0, .ref r0), (1, .int x1)] [] f := by
  intro n
  induction n with
  | zero => intro _ _ h; exact h.elim
  | succ n ih =>
    intro x1 f h
    rw [wp_X4_reset_L12] at h
    refine ac_iload_n 1 d_X4_reset_12 rfl rfl ?_
    refine ac_bipush (v := 6) d_X4_reset_13 rfl ?_
    refine ac_icmp_ge (tgt := 40) d_X4_reset_15 (by decide) (fun hc => ?_) (fun hc => ?_)
    · have h := h.1 hc
      refine ac_weak [] rfl ?_
      exact hE40  f h
    · have h := h.2 hc
      refine ac_aload_n 0 d_X4_reset_18 rfl rfl ?_
      obtain ⟨o3, hr, h⟩ := h
      refine ak_getf hr fl_X4_18 d_X4_reset_19 ?_
      refine ac_iload_n 1 d_X4_reset_22 rfl rfl ?_
      refine ac_iconst (v := 0) d_X4_reset_23 rfl ?_
      obtain ⟨f4, hr, h⟩ := h
      refine ak_iast 0 hr rfl d_X4_reset_24 ?_
      refine ac_aload_n 0 d_X4_reset_25 rfl rfl ?_
      obtain ⟨o5, hr, h⟩ := h
      refine ak_getf hr fl_X4_21 d_X4_reset_26 ?_
      refine ac_iload_n 1 d_X4_reset_29 rfl rfl ?_
      refine ac_sipush (v := 9999) d_X4_reset_30 rfl ?_
      obtain ⟨f6, hr, h⟩ := h
      refine ak_iast 0 hr rfl d_X4_reset_33 ?_
      obtain ⟨v7, ev7⟩ : ∃ y : Int32, y = x1 + 1 := ⟨_, rfl⟩
      have h := h v7 ev7
      refine ac_iinc (j := 1) (lv' := [(1, .int v7), (0, .ref r0)]) d_X4_reset_34 rfl (by rw [ev7]; rfl) (by decide) rfl ?_
      refine ac_goto (tgt := 12) d_X4_reset_37 (by decide) ?_
      refine ac_weak [1, 0] rfl ?_
      exact ih v7 f6 h

set_option maxRecDepth 20000 in
set_option maxHeartbeats 4000000 in
theorem c_X4_reset (l : Launch) (D : va_G) (ki : Nat → ClassId) (r0 : Nat) (f : ac_hp) (Q : ac_hp → Prop) (h : wp_X4_reset ki r0 f Q) : ac_met l D ki y_X4_reset prog_6_method_4_code 2 none (ro_ 1 0 0) [.ref r0] f (qr_V Q) 0 0 := by
  refine ac_enter (fun ki => wp_X4_reset ki r0 f Q) (by decide) (Nat.le_of_ble_eq_true rfl) h ?_
  intro x hro hR hnm h
  unfold wp_X4_reset at h
  refine ac_aload_n 0 d_X4_reset_0 rfl rfl ?_
  refine ac_iconst (v := 0) d_X4_reset_1 rfl ?_
  obtain ⟨f1, hr, h⟩ := h
  refine ak_putf hr fp_X4_24 rfl rfl d_X4_reset_2 ?_
  refine ac_aload_n 0 d_X4_reset_5 rfl rfl ?_
  refine ac_iconst (v := 0) d_X4_reset_6 rfl ?_
  obtain ⟨f2, hr, h⟩ := h
  refine ak_putf hr fp_X4_28 rfl rfl d_X4_reset_7 ?_
  refine ac_iconst (v := 0) d_X4_reset_10 rfl ?_
  refine ac_istore_n (lv' := [(1, .int 0), (0, .ref r0)]) d_X4_reset_11 rfl (by decide) rfl ?_
  obtain ⟨n8, h⟩ := h
  refine ac_weak [1, 0] rfl ?_
  refine ok_X4_reset_L12 hro r0 _ (fun f9 h => ?_) n8 0 f2 h
  · skip
    exact ac_vreturn hR ⟨rfl, h⟩ (by decide) (by decide) d_X4_reset_40

