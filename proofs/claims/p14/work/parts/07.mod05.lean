def wp_X9_value (ki : Nat → ClassId) (r0 : Nat) (x1 : Int32) (x2 : Int32) (f : ac_hp) (Q : Int32 → ac_hp → Prop) : Prop := ∃ f1 : ac_hp, hw_f f r0 9 0 (.int 0) f1 ∧ ∃ v2 : Int32, hr_f f1 r0 9 23 (.int v2) ∧ wp_X9_in ki x1 0 (v2 - 1) f1 (fun v4 f3 => ((v4 = 0 → Q (-1) f3) ∧ (¬ v4 = 0 → wp_X9_in ki x2 0 5 f3 (fun v6 f5 => ((¬ v6 = 0 → ∃ o7 : Nat, hr_f f5 r0 9 24 (.ref o7) ∧ ∃ v8 : Int32, hr_i (ki 1) f5 o7 x2 v8 ∧ ((¬ v8 = 0 → ∃ o9 : Nat, hr_f f5 r0 9 25 (.ref o9) ∧ ∃ v10 : Int32, hr_i (ki 0) f5 o9 ((6 * x1) + x2) v10 ∧ Q v10 f5) ∧ (v8 = 0 → ∃ f11 : ac_hp, hw_f f5 r0 9 0 (.int 1) f11 ∧ Q 0 f11))) ∧ (v6 = 0 → Q (-1) f5))))))

set_option maxRecDepth 20000 in
set_option maxHeartbeats 4000000 in
theorem c_X9_value (l : Launch) (D : va_G) (ki : Nat → ClassId) (r0 : Nat) (x1 : Int32) (x2 : Int32) (f : ac_hp) (Q : Int32 → ac_hp → Prop) (h : wp_X9_value ki r0 x1 x2 f Q) : ac_met l D ki y_X9_value prog_11_method_28_code 3 (some .int) (ro_ 2 0 0) [.ref r0, .int x1, .int x2] f (qr_I Q) 0 0 := by
  refine ac_enter (fun ki => wp_X9_value ki r0 x1 x2 f Q) (by decide) (Nat.le_of_ble_eq_true rfl) h ?_
  intro x hro hR hnm h
  unfold wp_X9_value at h
  refine ac_aload_n 0 d_X9_value_0 rfl rfl ?_
  refine ac_iconst (v := 0) d_X9_value_1 rfl ?_
  obtain ⟨f1, hr, h⟩ := h
  refine ak_putf hr fp_X9_80 rfl rfl d_X9_value_2 ?_
  refine ac_iload_n 1 d_X9_value_5 rfl rfl ?_
  refine ac_iconst (v := 0) d_X9_value_6 rfl ?_
  refine ac_aload_n 0 d_X9_value_7 rfl rfl ?_
  obtain ⟨v2, hr, h⟩ := h
  refine ak_getf hr fl_X9_130 d_X9_value_8 ?_
  refine ac_iconst (v := 1) d_X9_value_11 rfl ?_
  refine ac_isub d_X9_value_12 ?_
  refine ac_callS0 cd_X9_in ml_X9_84 st_X9_in (c_X9_in _ _ _ x1 0 (v2 - 1) f1 _ h) rfl rfl (by rw [hro]; decide) rfl (rest := []) rfl (Nat.le_of_ble_eq_true rfl) (by rw [hro]; decide) d_X9_value_13 (ac_I (fun v4 f3 h => ?_))
  refine ac_if_eq (tgt := 28) d_X9_value_16 (by decide) (fun hc => ?_) (fun hc => ?_)
  · have h := h.1 hc
    refine ac_iconst (v := -1) d_X9_value_28 rfl ?_
    exact ac_ireturn hR rfl ⟨_, rfl, h⟩ (by decide) (by decide) d_X9_value_29
  · have h := h.2 hc
    refine ac_iload_n 2 d_X9_value_19 rfl rfl ?_
    refine ac_iconst (v := 0) d_X9_value_20 rfl ?_
    refine ac_iconst (v := 5) d_X9_value_21 rfl ?_
    refine ac_callS0 cd_X9_in ml_X9_84 st_X9_in (c_X9_in _ _ _ x2 0 5 f3 _ h) rfl rfl (by rw [hro]; decide) rfl (rest := []) rfl (Nat.le_of_ble_eq_true rfl) (by rw [hro]; decide) d_X9_value_22 (ac_I (fun v6 f5 h => ?_))
    refine ac_if_ne (tgt := 30) d_X9_value_25 (by decide) (fun hc => ?_) (fun hc => ?_)
    · have h := h.1 hc
      refine ac_aload_n 0 d_X9_value_30 rfl rfl ?_
      obtain ⟨o7, hr, h⟩ := h
      refine ak_getf hr fl_X9_65 d_X9_value_31 ?_
      refine ac_iload_n 2 d_X9_value_34 rfl rfl ?_
      obtain ⟨v8, hr, h⟩ := h
      refine ak_zald 1 hr rfl d_X9_value_35 ?_
      refine ac_if_ne (tgt := 46) d_X9_value_36 (by decide) (fun hc => ?_) (fun hc => ?_)
      · have h := h.1 hc
        refine ac_aload_n 0 d_X9_value_46 rfl rfl ?_
        obtain ⟨o9, hr, h⟩ := h
        refine ak_getf hr fl_X9_68 d_X9_value_47 ?_
        refine ac_bipush (v := 6) d_X9_value_50 rfl ?_
        refine ac_iload_n 1 d_X9_value_52 rfl rfl ?_
        refine ac_imul d_X9_value_53 ?_
        refine ac_iload_n 2 d_X9_value_54 rfl rfl ?_
        refine ac_iadd d_X9_value_55 ?_
        obtain ⟨v10, hr, h⟩ := h
        refine ak_iald 0 hr rfl d_X9_value_56 ?_
        exact ac_ireturn hR rfl ⟨_, rfl, h⟩ (by decide) (by decide) d_X9_value_57
      · have h := h.2 hc
        refine ac_aload_n 0 d_X9_value_39 rfl rfl ?_
        refine ac_iconst (v := 1) d_X9_value_40 rfl ?_
        obtain ⟨f11, hr, h⟩ := h
        refine ak_putf hr fp_X9_80 rfl rfl d_X9_value_41 ?_
        refine ac_iconst (v := 0) d_X9_value_44 rfl ?_
        exact ac_ireturn hR rfl ⟨_, rfl, h⟩ (by decide) (by decide) d_X9_value_45
    · have h := h.2 hc
      refine ac_iconst (v := -1) d_X9_value_28 rfl ?_
      exact ac_ireturn hR rfl ⟨_, rfl, h⟩ (by decide) (by decide) d_X9_value_29

def wp_X9_found (ki : Nat → ClassId) (r0 : Nat) (x1 : Int32) (x2 : Int32) (f : ac_hp) (Q : Int32 → ac_hp → Prop) : Prop := ∃ f1 : ac_hp, hw_f f r0 9 0 (.int 0) f1 ∧ ∃ v2 : Int32, hr_f f1 r0 9 23 (.int v2) ∧ wp_X9_in ki x1 0 (v2 - 1) f1 (fun v4 f3 => ((v4 = 0 → Q (-1) f3) ∧ (¬ v4 = 0 → wp_X9_in ki x2 0 1 f3 (fun v6 f5 => ((¬ v6 = 0 → ((¬ x2 = 0 → ∃ o7 : Nat, hr_f f5 r0 9 27 (.ref o7) ∧ ∃ v8 : Int32, hr_i (ki 0) f5 o7 x1 v8 ∧ Q v8 f5) ∧ (x2 = 0 → ∃ o9 : Nat, hr_f f5 r0 9 26 (.ref o9) ∧ ∃ v10 : Int32, hr_i (ki 0) f5 o9 x1 v10 ∧ Q v10 f5))) ∧ (v6 = 0 → Q (-1) f5))))))

set_option maxRecDepth 20000 in
set_option maxHeartbeats 4000000 in
theorem c_X9_found (l : Launch) (D : va_G) (ki : Nat → ClassId) (r0 : Nat) (x1 : Int32) (x2 : Int32) (f : ac_hp) (Q : Int32 → ac_hp → Prop) (h : wp_X9_found ki r0 x1 x2 f Q) : ac_met l D ki y_X9_found prog_11_method_29_code 3 (some .int) (ro_ 2 0 0) [.ref r0, .int x1, .int x2] f (qr_I Q) 0 0 := by
  refine ac_enter (fun ki => wp_X9_found ki r0 x1 x2 f Q) (by decide) (Nat.le_of_ble_eq_true rfl) h ?_
  intro x hro hR hnm h
  unfold wp_X9_found at h
  refine ac_aload_n 0 d_X9_found_0 rfl rfl ?_
  refine ac_iconst (v := 0) d_X9_found_1 rfl ?_
  obtain ⟨f1, hr, h⟩ := h
  refine ak_putf hr fp_X9_80 rfl rfl d_X9_found_2 ?_
  refine ac_iload_n 1 d_X9_found_5 rfl rfl ?_
  refine ac_iconst (v := 0) d_X9_found_6 rfl ?_
  refine ac_aload_n 0 d_X9_found_7 rfl rfl ?_
  obtain ⟨v2, hr, h⟩ := h
  refine ak_getf hr fl_X9_130 d_X9_found_8 ?_
  refine ac_iconst (v := 1) d_X9_found_11 rfl ?_
  refine ac_isub d_X9_found_12 ?_
  refine ac_callS0 cd_X9_in ml_X9_84 st_X9_in (c_X9_in _ _ _ x1 0 (v2 - 1) f1 _ h) rfl rfl (by rw [hro]; decide) rfl (rest := []) rfl (Nat.le_of_ble_eq_true rfl) (by rw [hro]; decide) d_X9_found_13 (ac_I (fun v4 f3 h => ?_))
  refine ac_if_eq (tgt := 28) d_X9_found_16 (by decide) (fun hc => ?_) (fun hc => ?_)
  · have h := h.1 hc
    refine ac_iconst (v := -1) d_X9_found_28 rfl ?_
    exact ac_ireturn hR rfl ⟨_, rfl, h⟩ (by decide) (by decide) d_X9_found_29
  · have h := h.2 hc
    refine ac_iload_n 2 d_X9_found_19 rfl rfl ?_
    refine ac_iconst (v := 0) d_X9_found_20 rfl ?_
    refine ac_iconst (v := 1) d_X9_found_21 rfl ?_
    refine ac_callS0 cd_X9_in ml_X9_84 st_X9_in (c_X9_in _ _ _ x2 0 1 f3 _ h) rfl rfl (by rw [hro]; decide) rfl (rest := []) rfl (Nat.le_of_ble_eq_true rfl) (by rw [hro]; decide) d_X9_found_22 (ac_I (fun v6 f5 h => ?_))
    refine ac_if_ne (tgt := 30) d_X9_found_25 (by decide) (fun hc => ?_) (fun hc => ?_)
    · have h := h.1 hc
      refine ac_iload_n 2 d_X9_found_30 rfl rfl ?_
      refine ac_if_ne (tgt := 43) d_X9_found_31 (by decide) (fun hc => ?_) (fun hc => ?_)
      · have h := h.1 hc
        refine ac_aload_n 0 d_X9_found_43 rfl rfl ?_
        obtain ⟨o7, hr, h⟩ := h
        refine ak_getf hr fl_X9_74 d_X9_found_44 ?_
        refine ac_iload_n 1 d_X9_found_47 rfl rfl ?_
        obtain ⟨v8, hr, h⟩ := h
        refine ak_iald 0 hr rfl d_X9_found_48 ?_
        exact ac_ireturn hR rfl ⟨_, rfl, h⟩ (by decide) (by decide) d_X9_found_49
      · have h := h.2 hc
        refine ac_aload_n 0 d_X9_found_34 rfl rfl ?_
        obtain ⟨o9, hr, h⟩ := h
        refine ak_getf hr fl_X9_71 d_X9_found_35 ?_
        refine ac_iload_n 1 d_X9_found_38 rfl rfl ?_
        obtain ⟨v10, hr, h⟩ := h
        refine ak_iald 0 hr rfl d_X9_found_39 ?_
        refine ac_goto (tgt := 49) d_X9_found_40 (by decide) ?_
        exact ac_ireturn hR rfl ⟨_, rfl, h⟩ (by decide) (by decide) d_X9_found_49
    · have h := h.2 hc
      refine ac_iconst (v := -1) d_X9_found_28 rfl ?_
      exact ac_ireturn hR rfl ⟨_, rfl, h⟩ (by decide) (by decide) d_X9_found_29

def wp_X9_atom (ki : Nat → ClassId) (r0 : Nat) (x1 : Int32) (x2 : Int32) (x3 : Int32) (f : ac_hp) (Q : Int32 → ac_hp → Prop) : Prop := ∃ f1 : ac_hp, hw_f f r0 9 0 (.int 0) f1 ∧ wp_X9_in ki x1 0 7 f1 (fun v3 f2 => ((v3 = 0 → Q (-1) f2) ∧ (¬ v3 = 0 → wp_X9_isPlace ki x2 f2 (fun v5 f4 => ((v5 = 0 → Q (-1) f4) ∧ (¬ v5 = 0 → wp_X9_isPlace ki x3 f4 (fun v7 f6 => ((¬ v7 = 0 → ∃ v8 : Int32, hr_f f6 r0 9 9 (.int v8) ∧ ((¬ v8 = 4 → ∃ o9 : Nat, hr_f f6 r0 9 10 (.ref o9) ∧ ∃ v10 : Int32, hr_f f6 r0 9 9 (.int v10) ∧ ∃ f11 : ac_hp, hw_i (ki 0) f6 o9 v10 x1 f11 ∧ ∃ o12 : Nat, hr_f f11 r0 9 11 (.ref o12) ∧ ∃ v13 : Int32, hr_f f11 r0 9 9 (.int v13) ∧ ∃ f14 : ac_hp, hw_i (ki 0) f11 o12 (2 * v13) x2 f14 ∧ ∃ o15 : Nat, hr_f f14 r0 9 11 (.ref o15) ∧ ∃ v16 : Int32, hr_f f14 r0 9 9 (.int v16) ∧ ∃ f17 : ac_hp, hw_i (ki 0) f14 o15 ((2 * v16) + 1) x3 f17 ∧ ∃ v18 : Int32, hr_f f17 r0 9 9 (.int v18) ∧ ∃ f19 : ac_hp, hw_f f17 r0 9 9 (.int (v18 + 1)) f19 ∧ ∃ v20 : Int32, hr_f f19 r0 9 9 (.int v20) ∧ Q v20 f19) ∧ (v8 = 4 → Q (-2) f6))) ∧ (v7 = 0 → Q (-1) f6)))))))))

set_option maxRecDepth 20000 in
set_option maxHeartbeats 4000000 in
theorem c_X9_atom (l : Launch) (D : va_G) (ki : Nat → ClassId) (r0 : Nat) (x1 : Int32) (x2 : Int32) (x3 : Int32) (f : ac_hp) (Q : Int32 → ac_hp → Prop) (h : wp_X9_atom ki r0 x1 x2 x3 f Q) : ac_met l D ki y_X9_atom prog_11_method_12_code 4 (some .int) (ro_ 3 0 0) [.ref r0, .int x1, .int x2, .int x3] f (qr_I Q) 0 0 := by
  refine ac_enter (fun ki => wp_X9_atom ki r0 x1 x2 x3 f Q) (by decide) (Nat.le_of_ble_eq_true rfl) h ?_
  intro x hro hR hnm h
  unfold wp_X9_atom at h
  refine ac_aload_n 0 d_X9_atom_0 rfl rfl ?_
  refine ac_iconst (v := 0) d_X9_atom_1 rfl ?_
  obtain ⟨f1, hr, h⟩ := h
  refine ak_putf hr fp_X9_80 rfl rfl d_X9_atom_2 ?_
  refine ac_iload_n 1 d_X9_atom_5 rfl rfl ?_
  refine ac_iconst (v := 0) d_X9_atom_6 rfl ?_
  refine ac_bipush (v := 7) d_X9_atom_7 rfl ?_
  refine ac_callS0 cd_X9_in ml_X9_84 st_X9_in (c_X9_in _ _ _ x1 0 7 f1 _ h) rfl rfl (by rw [hro]; decide) rfl (rest := []) rfl (Nat.le_of_ble_eq_true rfl) (by rw [hro]; decide) d_X9_atom_9 (ac_I (fun v3 f2 h => ?_))
  refine ac_if_eq (tgt := 29) d_X9_atom_12 (by decide) (fun hc => ?_) (fun hc => ?_)
  · have h := h.1 hc
    refine ac_iconst (v := -1) d_X9_atom_29 rfl ?_
    exact ac_ireturn hR rfl ⟨_, rfl, h⟩ (by decide) (by decide) d_X9_atom_30
  · have h := h.2 hc
    refine ac_iload_n 2 d_X9_atom_15 rfl rfl ?_
    refine ac_callS0 cd_X9_isPlace ml_X9_99 st_X9_isPlace (c_X9_isPlace _ _ _ x2 f2 _ h) rfl rfl (by rw [hro]; decide) rfl (rest := []) rfl (Nat.le_of_ble_eq_true rfl) (by rw [hro]; decide) d_X9_atom_16 (ac_I (fun v5 f4 h => ?_))
    refine ac_if_eq (tgt := 29) d_X9_atom_19 (by decide) (fun hc => ?_) (fun hc => ?_)
    · have h := h.1 hc
      refine ac_iconst (v := -1) d_X9_atom_29 rfl ?_
      exact ac_ireturn hR rfl ⟨_, rfl, h⟩ (by decide) (by decide) d_X9_atom_30
    · have h := h.2 hc
      refine ac_iload_n 3 d_X9_atom_22 rfl rfl ?_
      refine ac_callS0 cd_X9_isPlace ml_X9_99 st_X9_isPlace (c_X9_isPlace _ _ _ x3 f4 _ h) rfl rfl (by rw [hro]; decide) rfl (rest := []) rfl (Nat.le_of_ble_eq_true rfl) (by rw [hro]; decide) d_X9_atom_23 (ac_I (fun v7 f6 h => ?_))
      refine ac_if_ne (tgt := 31) d_X9_atom_26 (by decide) (fun hc => ?_) (fun hc => ?_)
      · have h := h.1 hc
        refine ac_aload_n 0 d_X9_atom_31 rfl rfl ?_
        obtain ⟨v8, hr, h⟩ := h
        refine ak_getf hr fl_X9_103 d_X9_atom_32 ?_
        refine ac_iconst (v := 4) d_X9_atom_35 rfl ?_
        refine ac_icmp_ne (tgt := 42) d_X9_atom_36 (by decide) (fun hc => ?_) (fun hc => ?_)
        · have h := h.1 hc
          refine ac_aload_n 0 d_X9_atom_42 rfl rfl ?_
          obtain ⟨o9, hr, h⟩ := h
          refine ak_getf hr fl_X9_32 d_X9_atom_43 ?_
          refine ac_aload_n 0 d_X9_atom_46 rfl rfl ?_
          obtain ⟨v10, hr, h⟩ := h
          refine ak_getf hr fl_X9_103 d_X9_atom_47 ?_
          refine ac_iload_n 1 d_X9_atom_50 rfl rfl ?_
          obtain ⟨f11, hr, h⟩ := h
          refine ak_iast 0 hr rfl d_X9_atom_51 ?_
          refine ac_aload_n 0 d_X9_atom_52 rfl rfl ?_
          obtain ⟨o12, hr, h⟩ := h
          refine ak_getf hr fl_X9_35 d_X9_atom_53 ?_
          refine ac_iconst (v := 2) d_X9_atom_56 rfl ?_
          refine ac_aload_n 0 d_X9_atom_57 rfl rfl ?_
          obtain ⟨v13, hr, h⟩ := h
          refine ak_getf hr fl_X9_103 d_X9_atom_58 ?_
          refine ac_imul d_X9_atom_61 ?_
          refine ac_iload_n 2 d_X9_atom_62 rfl rfl ?_
          obtain ⟨f14, hr, h⟩ := h
          refine ak_iast 0 hr rfl d_X9_atom_63 ?_
          refine ac_aload_n 0 d_X9_atom_64 rfl rfl ?_
          obtain ⟨o15, hr, h⟩ := h
          refine ak_getf hr fl_X9_35 d_X9_atom_65 ?_
          refine ac_iconst (v := 2) d_X9_atom_68 rfl ?_
          refine ac_aload_n 0 d_X9_atom_69 rfl rfl ?_
          obtain ⟨v16, hr, h⟩ := h
          refine ak_getf hr fl_X9_103 d_X9_atom_70 ?_
          refine ac_imul d_X9_atom_73 ?_
          refine ac_iconst (v := 1) d_X9_atom_74 rfl ?_
          refine ac_iadd d_X9_atom_75 ?_
          refine ac_iload_n 3 d_X9_atom_76 rfl rfl ?_
          obtain ⟨f17, hr, h⟩ := h
          refine ak_iast 0 hr rfl d_X9_atom_77 ?_
          refine ac_aload_n 0 d_X9_atom_78 rfl rfl ?_
          refine ac_dup d_X9_atom_79 rfl ?_
          obtain ⟨v18, hr, h⟩ := h
          refine ak_getf hr fl_X9_103 d_X9_atom_80 ?_
          refine ac_iconst (v := 1) d_X9_atom_83 rfl ?_
          refine ac_iadd d_X9_atom_84 ?_
          obtain ⟨f19, hr, h⟩ := h
          refine ak_putf hr fp_X9_103 rfl rfl d_X9_atom_85 ?_
          refine ac_aload_n 0 d_X9_atom_88 rfl rfl ?_
          obtain ⟨v20, hr, h⟩ := h
          refine ak_getf hr fl_X9_103 d_X9_atom_89 ?_
          exact ac_ireturn hR rfl ⟨_, rfl, h⟩ (by decide) (by decide) d_X9_atom_92
        · have h := h.2 hc
          refine ac_bipush (v := -2) d_X9_atom_39 rfl ?_
          exact ac_ireturn hR rfl ⟨_, rfl, h⟩ (by decide) (by decide) d_X9_atom_41
      · have h := h.2 hc
        refine ac_iconst (v := -1) d_X9_atom_29 rfl ?_
        exact ac_ireturn hR rfl ⟨_, rfl, h⟩ (by decide) (by decide) d_X9_atom_30

def wp_X9_makeUnions_L9 (ki : Nat → ClassId) (r0 : Nat) (E30 : Int32 → ac_hp → Prop) : Nat → Int32 → Int32 → ac_hp → Prop
  | 0, _, _, _ => False
  | n + 1, x1, x2, f => ∃ v2 : Int32, hr_f f r0 9 9 (.int v2) ∧ ((v2 ≤ x2 → E30 x1 f) ∧ (¬ v2 ≤ x2 → ∃ v3 : Int32, hr_f f r0 9 4 (.int v3) ∧ ∀ v4 : Int32, v4 = x1 * v3 → ∀ v5 : Int32, v5 = x2 + 1 → wp_X9_makeUnions_L9 ki r0 E30 n v4 v5 f))

def wp_X9_makeUnions_L57 (ki : Nat → ClassId) (r0 : Nat) (x1 : Int32) (x2 : Int32) (E95 : ac_hp → Prop) : Nat → Int32 → Int32 → ac_hp → Prop
  | 0, _, _, _ => False
  | n + 1, x3, x4, f => ((x4 < 0 → E95  f) ∧ (¬ x4 < 0 → ∃ o12 : Nat, hr_f f r0 9 17 (.ref o12) ∧ ∃ v13 : Int32, hr_f f r0 9 16 (.int v13) ∧ ∃ v14 : Int32, hr_f f r0 9 4 (.int v14) ∧ (¬ v14 = 0) ∧ ∃ f15 : ac_hp, hw_i (ki 0) f o12 ((4 * v13) + x4) (x3 - x3 / v14 * v14) f15 ∧ ∃ v16 : Int32, hr_f f15 r0 9 4 (.int v16) ∧ (¬ v16 = 0) ∧ ∀ v17 : Int32, v17 = x3 / v16 → ∀ v18 : Int32, v18 = x4 + (-1) → wp_X9_makeUnions_L57 ki r0 x1 x2 E95 n v17 v18 f15))

def wp_X9_makeUnions_L32 (ki : Nat → ClassId) (r0 : Nat) (x1 : Int32) (E132 : ac_hp → Prop) : Nat → Int32 → ac_hp → Prop
  | 0, _, _ => False
  | n + 1, x2, f => ((x1 ≤ x2 → E132  f) ∧ (¬ x1 ≤ x2 → ∃ v9 : Int32, hr_f f r0 9 16 (.int v9) ∧ ((150 < v9 → E132  f) ∧ (¬ 150 < v9 → ∃ v10 : Int32, hr_f f r0 9 9 (.int v10) ∧ ∀ v11 : Int32, v11 = v10 - 1 → ∃ n19 : Nat, wp_X9_makeUnions_L57 ki r0 x1 x2 (fun f20 => ∃ v21 : Int32, hr_f f20 r0 9 16 (.int v21) ∧ hr_o f20 r0 9 ∧ wp_X9_canMeet ki r0 (4 * v21) f20 (fun v23 f22 => ((v23 = 0 → ∀ v24 : Int32, v24 = x2 + 1 → wp_X9_makeUnions_L32 ki r0 x1 E132 n v24 f22) ∧ (¬ v23 = 0 → ∃ v25 : Int32, hr_f f22 r0 9 16 (.int v25) ∧ hr_o f22 r0 9 ∧ wp_X9_giveSlots ki r0 v25 f22 (fun f26 => ∃ v27 : Int32, hr_f f26 r0 9 16 (.int v27) ∧ ∃ f28 : ac_hp, hw_f f26 r0 9 16 (.int (v27 + 1)) f28 ∧ ∀ v29 : Int32, v29 = x2 + 1 → wp_X9_makeUnions_L32 ki r0 x1 E132 n v29 f28))))) n19 x2 v11 f))))

def wp_X9_makeUnions (ki : Nat → ClassId) (r0 : Nat) (f : ac_hp) (Q : Int32 → ac_hp → Prop) : Prop := ∃ f1 : ac_hp, hw_f f r0 9 16 (.int 0) f1 ∧ ∃ n6 : Nat, wp_X9_makeUnions_L9 ki r0 (fun y7 f8 => ∃ n30 : Nat, wp_X9_makeUnions_L32 ki r0 y7 (fun f31 => ∃ v32 : Int32, hr_f f31 r0 9 16 (.int v32) ∧ ((150 < v32 → Q 0 f31) ∧ (¬ 150 < v32 → Q 1 f31))) n30 0 f8) n6 1 0 f1

set_option maxRecDepth 20000 in
set_option maxHeartbeats 4000000 in
theorem ok_X9_makeUnions_L9 {x : ac_X} (hro : ac_R x = (ro_ 3 0 0)) (r0 : Nat) (E30 : Int32 → ac_hp → Prop) (hE30 : ∀ (y1 : Int32) (f : ac_hp), E30 y1 f → ac_At (prog_11_method_18_code, 5, "VirtualRewriteModel") x 0 0 30 [(0, .ref r0), (1, .int y1)] [] f) : ∀ (n : Nat) (x1 : Int32) (x2 : Int32) (f : ac_hp), wp_X9_makeUnions_L9 (ac_ki x) r0 E30 n x1 x2 f → ac_At (prog_11_method_18_code, 5, "VirtualRewriteModel") x 0 0 9 [(0, .ref r0), (1, .int x1), (2, .int x2)] [] f := by
  intro n
  induction n with
  | zero => intro _ _ _ h; exact h.elim
  | succ n ih =>
    intro x1 x2 f h
    rw [wp_X9_makeUnions_L9] at h
    refine ac_iload_n 2 d_X9_makeUnions_9 rfl rfl ?_
    refine ac_aload_n 0 d_X9_makeUnions_10 rfl rfl ?_
    obtain ⟨v2, hr, h⟩ := h
    refine ak_getf hr fl_X9_103 d_X9_makeUnions_11 ?_
    refine ac_icmp_ge (tgt := 30) d_X9_makeUnions_14 (by decide) (fun hc => ?_) (fun hc => ?_)
    · have h := h.1 hc
      refine ac_weak [0, 1] rfl ?_
      exact hE30 x1 f h
    · have h := h.2 hc
      refine ac_iload_n 1 d_X9_makeUnions_17 rfl rfl ?_
      refine ac_aload_n 0 d_X9_makeUnions_18 rfl rfl ?_
      obtain ⟨v3, hr, h⟩ := h
      refine ak_getf hr fl_X9_92 d_X9_makeUnions_19 ?_
      refine ac_imul d_X9_makeUnions_22 ?_
      refine ak_topi (fun v4 ev4 => ?_)
      have h := h v4 ev4
      refine ac_istore_n (lv' := [(1, .int v4), (0, .ref r0), (2, .int x2)]) d_X9_makeUnions_23 rfl (by decide) rfl ?_
      obtain ⟨v5, ev5⟩ : ∃ y : Int32, y = x2 + 1 := ⟨_, rfl⟩
      have h := h v5 ev5
      refine ac_iinc (j := 2) (lv' := [(2, .int v5), (1, .int v4), (0, .ref r0)]) d_X9_makeUnions_24 rfl (by rw [ev5]; rfl) (by decide) rfl ?_
      refine ac_goto (tgt := 9) d_X9_makeUnions_27 (by decide) ?_
      refine ac_weak [2, 1, 0] rfl ?_
      exact ih v4 v5 f h

set_option maxRecDepth 20000 in
set_option maxHeartbeats 4000000 in
theorem ok_X9_makeUnions_L57 {x : ac_X} (hro : ac_R x = (ro_ 3 0 0)) (r0 : Nat) (x1 : Int32) (x2 : Int32) (E95 : ac_hp → Prop) (hE95 : ∀ (f : ac_hp), E95 f → ac_At (prog_11_method_18_code, 5, "VirtualRewriteModel") x 0 0 95 [(0, .ref r0), (1, .int x1), (2, .int x2)] [] f) : ∀ (n : Nat) (x3 : Int32) (x4 : Int32) (f : ac_hp), wp_X9_makeUnions_L57 (ac_ki x) r0 x1 x2 E95 n x3 x4 f → ac_At (prog_11_method_18_code, 5, "VirtualRewriteModel") x 0 0 57 [(0, .ref r0), (1, .int x1), (2, .int x2), (3, .int x3), (4, .int x4)] [] f := by
  intro n
  induction n with
  | zero => intro _ _ _ h; exact h.elim
  | succ n ih =>
    intro x3 x4 f h
    rw [wp_X9_makeUnions_L57] at h
    refine ac_iload 4 d_X9_makeUnions_57 rfl ?_
    refine ac_if_lt (tgt := 95) d_X9_makeUnions_59 (by decide) (fun hc => ?_) (fun hc => ?_)
    · have h := h.1 hc
      refine ac_weak [0, 1, 2] rfl ?_
      exact hE95  f h
    · have h := h.2 hc
      refine ac_aload_n 0 d_X9_makeUnions_62 rfl rfl ?_
      obtain ⟨o12, hr, h⟩ := h
      refine ak_getf hr fl_X9_47 d_X9_makeUnions_63 ?_
      refine ac_iconst (v := 4) d_X9_makeUnions_66 rfl ?_
      refine ac_aload_n 0 d_X9_makeUnions_67 rfl rfl ?_
      obtain ⟨v13, hr, h⟩ := h
      refine ak_getf hr fl_X9_112 d_X9_makeUnions_68 ?_
      refine ac_imul d_X9_makeUnions_71 ?_
      refine ac_iload 4 d_X9_makeUnions_72 rfl ?_
      refine ac_iadd d_X9_makeUnions_74 ?_
      refine ac_iload_n 3 d_X9_makeUnions_75 rfl rfl ?_
      refine ac_aload_n 0 d_X9_makeUnions_76 rfl rfl ?_
      obtain ⟨v14, hr, h⟩ := h
      refine ak_getf hr fl_X9_92 d_X9_makeUnions_77 ?_
      have hz := h.1
      have h := h.2
      refine ac_irem d_X9_makeUnions_80 hz ?_
      obtain ⟨f15, hr, h⟩ := h
      refine ak_iast 0 hr rfl d_X9_makeUnions_81 ?_
      refine ac_iload_n 3 d_X9_makeUnions_82 rfl rfl ?_
      refine ac_aload_n 0 d_X9_makeUnions_83 rfl rfl ?_
      obtain ⟨v16, hr, h⟩ := h
      refine ak_getf hr fl_X9_92 d_X9_makeUnions_84 ?_
      have hz := h.1
      have h := h.2
      refine ac_idiv d_X9_makeUnions_87 hz ?_
      refine ak_topi (fun v17 ev17 => ?_)
      have h := h v17 ev17
      refine ac_istore_n (lv' := [(3, .int v17), (0, .ref r0), (1, .int x1), (2, .int x2), (4, .int x4)]) d_X9_makeUnions_88 rfl (by decide) rfl ?_
      obtain ⟨v18, ev18⟩ : ∃ y : Int32, y = x4 + (-1) := ⟨_, rfl⟩
      have h := h v18 ev18
      refine ac_iinc (j := 4) (lv' := [(4, .int v18), (3, .int v17), (0, .ref r0), (1, .int x1), (2, .int x2)]) d_X9_makeUnions_89 rfl (by rw [ev18]; rfl) (by decide) rfl ?_
      refine ac_goto (tgt := 57) d_X9_makeUnions_92 (by decide) ?_
      refine ac_weak [2, 3, 4, 1, 0] rfl ?_
      exact ih v17 v18 f15 h

set_option maxRecDepth 20000 in
set_option maxHeartbeats 4000000 in
theorem ok_X9_makeUnions_L32 {x : ac_X} (hro : ac_R x = (ro_ 3 0 0)) (r0 : Nat) (x1 : Int32) (E132 : ac_hp → Prop) (hE132 : ∀ (f : ac_hp), E132 f → ac_At (prog_11_method_18_code, 5, "VirtualRewriteModel") x 0 0 132 [(0, .ref r0)] [] f) : ∀ (n : Nat) (x2 : Int32) (f : ac_hp), wp_X9_makeUnions_L32 (ac_ki x) r0 x1 E132 n x2 f → ac_At (prog_11_method_18_code, 5, "VirtualRewriteModel") x 0 0 32 [(0, .ref r0), (1, .int x1), (2, .int x2)] [] f := by
  intro n
  induction n with
  | zero => intro _ _ h; exact h.elim
  | succ n ih =>
    intro x2 f h
    rw [wp_X9_makeUnions_L32] at h
    refine ac_iload_n 2 d_X9_makeUnions_32 rfl rfl ?_
    refine ac_iload_n 1 d_X9_makeUnions_33 rfl rfl ?_
    refine ac_icmp_ge (tgt := 132) d_X9_makeUnions_34 (by decide) (fun hc => ?_) (fun hc => ?_)
    · have h := h.1 hc
      refine ac_weak [0] rfl ?_
      exact hE132  f h
    · have h := h.2 hc
      refine ac_aload_n 0 d_X9_makeUnions_37 rfl rfl ?_
      obtain ⟨v9, hr, h⟩ := h
      refine ak_getf hr fl_X9_112 d_X9_makeUnions_38 ?_
      refine ac_sipush (v := 150) d_X9_makeUnions_41 rfl ?_
      refine ac_icmp_gt (tgt := 132) d_X9_makeUnions_44 (by decide) (fun hc => ?_) (fun hc => ?_)
      · have h := h.1 hc
        refine ac_weak [0] rfl ?_
        exact hE132  f h
      · have h := h.2 hc
        refine ac_iload_n 2 d_X9_makeUnions_47 rfl rfl ?_
        refine ac_istore_n (lv' := [(3, .int x2), (0, .ref r0), (1, .int x1), (2, .int x2)]) d_X9_makeUnions_48 rfl (by decide) rfl ?_
        refine ac_aload_n 1 d_X9_makeUnions_49 rfl rfl ?_
        obtain ⟨v10, hr, h⟩ := h
        refine ak_getf hr fl_X9_103 d_X9_makeUnions_50 ?_
        refine ac_iconst (v := 1) d_X9_makeUnions_53 rfl ?_
        refine ac_isub d_X9_makeUnions_54 ?_
        refine ak_topi (fun v11 ev11 => ?_)
        have h := h v11 ev11
        refine ac_istore (lv' := [(4, .int v11), (3, .int x2), (0, .ref r0), (1, .int x1), (2, .int x2)]) d_X9_makeUnions_55 (by decide) rfl ?_
        obtain ⟨n19, h⟩ := h
        refine ac_weak [2, 3, 4, 1, 0] rfl ?_
        refine ok_X9_makeUnions_L57 hro r0 x1 x2 _ (fun f20 h => ?_) n19 x2 v11 f h
        · skip
          refine ac_aload_n 0 d_X9_makeUnions_95 rfl rfl ?_
          refine ac_iconst (v := 4) d_X9_makeUnions_96 rfl ?_
          refine ac_aload_n 0 d_X9_makeUnions_97 rfl rfl ?_
          obtain ⟨v21, hr, h⟩ := h
          refine ak_getf hr fl_X9_112 d_X9_makeUnions_98 ?_
          refine ac_imul d_X9_makeUnions_101 ?_
          obtain ⟨⟨fs, hb⟩, h⟩ := h
          refine ac_callV0 cd_X9_canMeet ml_X9_115 in_X9_canMeet se_X9_canMeet rfl hb (c_X9_canMeet _ _ _ r0 (4 * v21) f20 _ h) rfl rfl (by rw [hro]; decide) rfl (rest := []) rfl (Nat.le_of_ble_eq_true rfl) (by rw [hro]; decide) d_X9_makeUnions_102 (ac_I (fun v23 f22 h => ?_))
          refine ac_if_eq (tgt := 126) d_X9_makeUnions_105 (by decide) (fun hc => ?_) (fun hc => ?_)
          · have h := h.1 hc
            obtain ⟨v24, ev24⟩ : ∃ y : Int32, y = x2 + 1 := ⟨_, rfl⟩
            have h := h v24 ev24
            refine ac_iinc (j := 2) (lv' := [(2, .int v24), (0, .ref r0), (1, .int x1)]) d_X9_makeUnions_126 rfl (by rw [ev24]; rfl) (by decide) rfl ?_
            refine ac_goto (tgt := 32) d_X9_makeUnions_129 (by decide) ?_
            refine ac_weak [1, 2, 0] rfl ?_
            exact ih v24 f22 h
          · have h := h.2 hc
            refine ac_aload_n 0 d_X9_makeUnions_108 rfl rfl ?_
            refine ac_aload_n 0 d_X9_makeUnions_109 rfl rfl ?_
            obtain ⟨v25, hr, h⟩ := h
            refine ak_getf hr fl_X9_112 d_X9_makeUnions_110 ?_
            obtain ⟨⟨fs, hb⟩, h⟩ := h
            refine ac_callV0 cd_X9_giveSlots ml_X9_118 in_X9_giveSlots se_X9_giveSlots rfl hb (c_X9_giveSlots _ _ _ r0 v25 f22 _ h) rfl rfl (by rw [hro]; decide) rfl (rest := []) rfl (Nat.le_of_ble_eq_true rfl) (by rw [hro]; decide) d_X9_makeUnions_113 (ac_V (fun f26 h => ?_))
            refine ac_aload_n 0 d_X9_makeUnions_116 rfl rfl ?_
            refine ac_dup d_X9_makeUnions_117 rfl ?_
            obtain ⟨v27, hr, h⟩ := h
            refine ak_getf hr fl_X9_112 d_X9_makeUnions_118 ?_
            refine ac_iconst (v := 1) d_X9_makeUnions_121 rfl ?_
            refine ac_iadd d_X9_makeUnions_122 ?_
            obtain ⟨f28, hr, h⟩ := h
            refine ak_putf hr fp_X9_112 rfl rfl d_X9_makeUnions_123 ?_
            obtain ⟨v29, ev29⟩ : ∃ y : Int32, y = x2 + 1 := ⟨_, rfl⟩
            have h := h v29 ev29
            refine ac_iinc (j := 2) (lv' := [(2, .int v29), (0, .ref r0), (1, .int x1)]) d_X9_makeUnions_126 rfl (by rw [ev29]; rfl) (by decide) rfl ?_
            refine ac_goto (tgt := 32) d_X9_makeUnions_129 (by decide) ?_
            refine ac_weak [1, 2, 0] rfl ?_
            exact ih v29 f28 h

set_option maxRecDepth 20000 in
set_option maxHeartbeats 4000000 in
theorem c_X9_makeUnions (l : Launch) (D : va_G) (ki : Nat → ClassId) (r0 : Nat) (f : ac_hp) (Q : Int32 → ac_hp → Prop) (h : wp_X9_makeUnions ki r0 f Q) : ac_met l D ki y_X9_makeUnions prog_11_method_18_code 5 (some .boolean) (ro_ 3 0 0) [.ref r0] f (qr_I Q) 0 0 := by
  refine ac_enter (fun ki => wp_X9_makeUnions ki r0 f Q) (by decide) (Nat.le_of_ble_eq_true rfl) h ?_
  intro x hro hR hnm h
  unfold wp_X9_makeUnions at h
  refine ac_aload_n 0 d_X9_makeUnions_0 rfl rfl ?_
  refine ac_iconst (v := 0) d_X9_makeUnions_1 rfl ?_
  obtain ⟨f1, hr, h⟩ := h
  refine ak_putf hr fp_X9_112 rfl rfl d_X9_makeUnions_2 ?_
  refine ac_iconst (v := 1) d_X9_makeUnions_5 rfl ?_
  refine ac_istore_n (lv' := [(1, .int 1), (0, .ref r0)]) d_X9_makeUnions_6 rfl (by decide) rfl ?_
  refine ac_iconst (v := 0) d_X9_makeUnions_7 rfl ?_
  refine ac_istore_n (lv' := [(2, .int 0), (1, .int 1), (0, .ref r0)]) d_X9_makeUnions_8 rfl (by decide) rfl ?_
  obtain ⟨n6, h⟩ := h
  refine ac_weak [2, 1, 0] rfl ?_
  refine ok_X9_makeUnions_L9 hro r0 _ (fun y7 f8 h => ?_) n6 1 0 f1 h
  · skip
    refine ac_iconst (v := 0) d_X9_makeUnions_30 rfl ?_
    refine ac_istore_n (lv' := [(2, .int 0), (0, .ref r0), (1, .int y7)]) d_X9_makeUnions_31 rfl (by decide) rfl ?_
    obtain ⟨n30, h⟩ := h
    refine ac_weak [1, 2, 0] rfl ?_
    refine ok_X9_makeUnions_L32 hro r0 y7 _ (fun f31 h => ?_) n30 0 f8 h
    · skip
      refine ac_aload_n 0 d_X9_makeUnions_132 rfl rfl ?_
      obtain ⟨v32, hr, h⟩ := h
      refine ak_getf hr fl_X9_112 d_X9_makeUnions_133 ?_
      refine ac_sipush (v := 150) d_X9_makeUnions_136 rfl ?_
      refine ac_icmp_gt (tgt := 146) d_X9_makeUnions_139 (by decide) (fun hc => ?_) (fun hc => ?_)
      · have h := h.1 hc
        refine ac_iconst (v := 0) d_X9_makeUnions_146 rfl ?_
        exact ac_ireturn hR rfl ⟨_, rfl, h⟩ (by decide) (by decide) d_X9_makeUnions_147
      · have h := h.2 hc
        refine ac_iconst (v := 1) d_X9_makeUnions_142 rfl ?_
        refine ac_goto (tgt := 147) d_X9_makeUnions_143 (by decide) ?_
        exact ac_ireturn hR rfl ⟨_, rfl, h⟩ (by decide) (by decide) d_X9_makeUnions_147

def wp_X9_find_L17 (ki : Nat → ClassId) (r0 : Nat) (x1 : Int32) (E109 : ac_hp → Prop) : Nat → Int32 → ac_hp → Prop
  | 0, _, _ => False
  | n + 1, x3, f => ((x3 < 0 → E109  f) ∧ (¬ x3 < 0 → ∃ v5 : Int32, hr_f f r0 9 23 (.int v5) ∧ ((300 < v5 → E109  f) ∧ (¬ 300 < v5 → ∃ o6 : Nat, hr_f f r0 9 20 (.ref o6) ∧ ∃ v7 : Int32, hr_i (ki 0) f o6 x3 v7 ∧ ∃ f8 : ac_hp, hw_i (ki 0) f o6 x3 (v7 + 1) f8 ∧ ∃ o9 : Nat, hr_f f8 r0 9 20 (.ref o9) ∧ ∃ v10 : Int32, hr_i (ki 0) f8 o9 x3 v10 ∧ ∃ o11 : Nat, hr_f f8 r0 9 2 (.ref o11) ∧ hr_o f8 r0 9 ∧ wp_X9_tableOf ki r0 x1 x3 f8 (fun v13 f12 => ∃ v14 : Int32, hr_i (ki 0) f12 o11 v13 v14 ∧ ((v10 < v14 → hr_o f12 r0 9 ∧ wp_X9_agree ki r0 x1 x3 f12 (fun v16 f15 => ((v16 = 0 → wp_X9_find_L17 ki r0 x1 E109 n x3 f15) ∧ (¬ v16 = 0 → ∃ o17 : Nat, hr_f f15 r0 9 19 (.ref o17) ∧ ∃ v18 : Int32, hr_i (ki 0) f15 o17 x1 v18 ∧ ((¬ (x3 + 1) = v18 → ∀ v19 : Int32, v19 = x3 + 1 → ∃ o20 : Nat, hr_f f15 r0 9 20 (.ref o20) ∧ ∃ f21 : ac_hp, hw_i (ki 0) f15 o20 v19 (-1) f21 ∧ wp_X9_find_L17 ki r0 x1 E109 n v19 f21) ∧ ((x3 + 1) = v18 → hr_o f15 r0 9 ∧ wp_X9_keep ki r0 x1 f15 (fun f22 => wp_X9_find_L17 ki r0 x1 E109 n x3 f22))))))) ∧ (¬ v10 < v14 → ∀ v23 : Int32, v23 = x3 + (-1) → wp_X9_find_L17 ki r0 x1 E109 n v23 f12)))))))

def wp_X9_find (ki : Nat → ClassId) (r0 : Nat) (x1 : Int32) (f : ac_hp) (Q : ac_hp → Prop) : Prop := hr_o f r0 9 ∧ wp_X9_canMeet ki r0 (4 * x1) f (fun v2 f1 => ∃ o3 : Nat, hr_f f1 r0 9 20 (.ref o3) ∧ ∃ f4 : ac_hp, hw_i (ki 0) f1 o3 0 (-1) f4 ∧ ∃ n24 : Nat, wp_X9_find_L17 ki r0 x1 (fun f25 => Q f25) n24 0 f4)

set_option maxRecDepth 20000 in
set_option maxHeartbeats 4000000 in
theorem ok_X9_find_L17 {x : ac_X} (hro : ac_R x = (ro_ 3 0 0)) (r0 : Nat) (x1 : Int32) (E109 : ac_hp → Prop) (hE109 : ∀ (f : ac_hp), E109 f → ac_At (prog_11_method_26_code, 4, "VirtualRewriteModel") x 0 0 109 [] [] f) : ∀ (n : Nat) (x3 : Int32) (f : ac_hp), wp_X9_find_L17 (ac_ki x) r0 x1 E109 n x3 f → ac_At (prog_11_method_26_code, 4, "VirtualRewriteModel") x 0 0 17 [(0, .ref r0), (1, .int x1), (3, .int x3)] [] f := by
  intro n
  induction n with
  | zero => intro _ _ h; exact h.elim
  | succ n ih =>
    intro x3 f h
    rw [wp_X9_find_L17] at h
    refine ac_iload_n 2 d_X9_find_17 rfl rfl ?_
    refine ac_if_lt (tgt := 109) d_X9_find_18 (by decide) (fun hc => ?_) (fun hc => ?_)
    · have h := h.1 hc
      refine ac_weak [] rfl ?_
      exact hE109  f h
    · have h := h.2 hc
      refine ac_aload_n 0 d_X9_find_21 rfl rfl ?_
      obtain ⟨v5, hr, h⟩ := h
      refine ak_getf hr fl_X9_130 d_X9_find_22 ?_
      refine ac_sipush (v := 300) d_X9_find_25 rfl ?_
      refine ac_icmp_gt (tgt := 109) d_X9_find_28 (by decide) (fun hc => ?_) (fun hc => ?_)
      · have h := h.1 hc
        refine ac_weak [] rfl ?_
        exact hE109  f h
      · have h := h.2 hc
        refine ac_aload_n 0 d_X9_find_31 rfl rfl ?_
        obtain ⟨o6, hr, h⟩ := h
        refine ak_getf hr fl_X9_56 d_X9_find_32 ?_
        refine ac_iload_n 2 d_X9_find_35 rfl rfl ?_
        refine ac_dup2 d_X9_find_36 rfl rfl ?_
        obtain ⟨v7, hr, h⟩ := h
        refine ak_iald 0 hr rfl d_X9_find_37 ?_
        refine ac_iconst (v := 1) d_X9_find_38 rfl ?_
        refine ac_iadd d_X9_find_39 ?_
        obtain ⟨f8, hr, h⟩ := h
        refine ak_iast 0 hr rfl d_X9_find_40 ?_
        refine ac_aload_n 0 d_X9_find_41 rfl rfl ?_
        obtain ⟨o9, hr, h⟩ := h
        refine ak_getf hr fl_X9_56 d_X9_find_42 ?_
        refine ac_iload_n 2 d_X9_find_45 rfl rfl ?_
        obtain ⟨v10, hr, h⟩ := h
        refine ak_iald 0 hr rfl d_X9_find_46 ?_
        refine ac_aload_n 0 d_X9_find_47 rfl rfl ?_
        obtain ⟨o11, hr, h⟩ := h
        refine ak_getf hr fl_X9_13 d_X9_find_48 ?_
        refine ac_aload_n 0 d_X9_find_51 rfl rfl ?_
        refine ac_iload_n 1 d_X9_find_52 rfl rfl ?_
        refine ac_iload_n 2 d_X9_find_53 rfl rfl ?_
        obtain ⟨⟨fs, hb⟩, h⟩ := h
        refine ac_callV0 cd_X9_tableOf ml_X9_126 in_X9_tableOf se_X9_tableOf rfl hb (c_X9_tableOf _ _ _ r0 x1 x3 f8 _ h) rfl rfl (by rw [hro]; decide) rfl (rest := [.ref o11, .int v10]) rfl (Nat.le_of_ble_eq_true rfl) (by rw [hro]; decide) d_X9_find_54 (ac_I (fun v13 f12 h => ?_))
        obtain ⟨v14, hr, h⟩ := h
        refine ak_iald 0 hr rfl d_X9_find_57 ?_
        refine ac_icmp_lt (tgt := 67) d_X9_find_58 (by decide) (fun hc => ?_) (fun hc => ?_)
        · have h := h.1 hc
          refine ac_aload_n 0 d_X9_find_67 rfl rfl ?_
          refine ac_iload_n 1 d_X9_find_68 rfl rfl ?_
          refine ac_iload_n 2 d_X9_find_69 rfl rfl ?_
          obtain ⟨⟨fs, hb⟩, h⟩ := h
          refine ac_callV0 cd_X9_agree ml_X9_137 in_X9_agree se_X9_agree rfl hb (c_X9_agree _ _ _ r0 x1 x3 f12 _ h) rfl rfl (by rw [hro]; decide) rfl (rest := []) rfl (Nat.le_of_ble_eq_true rfl) (by rw [hro]; decide) d_X9_find_70 (ac_I (fun v16 f15 h => ?_))
          refine ac_if_eq (tgt := 17) d_X9_find_73 (by decide) (fun hc => ?_) (fun hc => ?_)
          · have h := h.1 hc
            refine ac_weak [0, 1, 2] rfl ?_
            exact ih x3 f15 h
          · have h := h.2 hc
            refine ac_iload_n 2 d_X9_find_76 rfl rfl ?_
            refine ac_iconst (v := 1) d_X9_find_77 rfl ?_
            refine ac_iadd d_X9_find_78 ?_
            refine ac_aload_n 0 d_X9_find_79 rfl rfl ?_
            obtain ⟨o17, hr, h⟩ := h
            refine ak_getf hr fl_X9_53 d_X9_find_80 ?_
            refine ac_iload_n 1 d_X9_find_83 rfl rfl ?_
            obtain ⟨v18, hr, h⟩ := h
            refine ak_iald 0 hr rfl d_X9_find_84 ?_
            refine ac_icmp_ne (tgt := 96) d_X9_find_85 (by decide) (fun hc => ?_) (fun hc => ?_)
            · have h := h.1 hc
              obtain ⟨v19, ev19⟩ : ∃ y : Int32, y = x3 + 1 := ⟨_, rfl⟩
              have h := h v19 ev19
              refine ac_iinc (j := 2) (lv' := [(3, .int v19), (0, .ref r0), (1, .int x1)]) d_X9_find_96 rfl (by rw [ev19]; rfl) (by decide) rfl ?_
              refine ac_aload_n 1 d_X9_find_99 rfl rfl ?_
              obtain ⟨o20, hr, h⟩ := h
              refine ak_getf hr fl_X9_56 d_X9_find_100 ?_
              refine ac_iload_n 0 d_X9_find_103 rfl rfl ?_
              refine ac_iconst (v := -1) d_X9_find_104 rfl ?_
              obtain ⟨f21, hr, h⟩ := h
              refine ak_iast 0 hr rfl d_X9_find_105 ?_
              refine ac_goto (tgt := 17) d_X9_find_106 (by decide) ?_
              refine ac_weak [1, 2, 0] rfl ?_
              exact ih v19 f21 h
            · have h := h.2 hc
              refine ac_aload_n 0 d_X9_find_88 rfl rfl ?_
              refine ac_iload_n 1 d_X9_find_89 rfl rfl ?_
              obtain ⟨⟨fs, hb⟩, h⟩ := h
              refine ac_callV0 cd_X9_keep ml_X9_141 in_X9_keep se_X9_keep rfl hb (c_X9_keep _ _ _ r0 x1 f15 _ h) rfl rfl (by rw [hro]; decide) rfl (rest := []) rfl (Nat.le_of_ble_eq_true rfl) (by rw [hro]; decide) d_X9_find_90 (ac_V (fun f22 h => ?_))
              refine ac_goto (tgt := 17) d_X9_find_93 (by decide) ?_
              refine ac_weak [0, 1, 2] rfl ?_
              exact ih x3 f22 h
        · have h := h.2 hc
          obtain ⟨v23, ev23⟩ : ∃ y : Int32, y = x3 + (-1) := ⟨_, rfl⟩
          have h := h v23 ev23
          refine ac_iinc (j := 2) (lv' := [(3, .int v23), (0, .ref r0), (1, .int x1)]) d_X9_find_61 rfl (by rw [ev23]; rfl) (by decide) rfl ?_
          refine ac_goto (tgt := 17) d_X9_find_64 (by decide) ?_
          refine ac_weak [1, 2, 0] rfl ?_
          exact ih v23 f12 h

set_option maxRecDepth 20000 in
set_option maxHeartbeats 4000000 in
theorem c_X9_find (l : Launch) (D : va_G) (ki : Nat → ClassId) (r0 : Nat) (x1 : Int32) (f : ac_hp) (Q : ac_hp → Prop) (h : wp_X9_find ki r0 x1 f Q) : ac_met l D ki y_X9_find prog_11_method_26_code 4 none (ro_ 3 0 0) [.ref r0, .int x1] f (qr_V Q) 0 0 := by
  refine ac_enter (fun ki => wp_X9_find ki r0 x1 f Q) (by decide) (Nat.le_of_ble_eq_true rfl) h ?_
  intro x hro hR hnm h
  unfold wp_X9_find at h
  refine ac_aload_n 0 d_X9_find_0 rfl rfl ?_
  refine ac_iconst (v := 4) d_X9_find_1 rfl ?_
  refine ac_iload_n 1 d_X9_find_2 rfl rfl ?_
  refine ac_imul d_X9_find_3 ?_
  obtain ⟨⟨fs, hb⟩, h⟩ := h
  refine ac_callV0 cd_X9_canMeet ml_X9_115 in_X9_canMeet se_X9_canMeet rfl hb (c_X9_canMeet _ _ _ r0 (4 * x1) f _ h) rfl rfl (by rw [hro]; decide) rfl (rest := []) rfl (Nat.le_of_ble_eq_true rfl) (by rw [hro]; decide) d_X9_find_4 (ac_I (fun v2 f1 h => ?_))
  refine ac_istore_n (lv' := [(2, .int v2), (0, .ref r0), (1, .int x1)]) d_X9_find_7 rfl (by decide) rfl ?_
  refine ac_iconst (v := 0) d_X9_find_8 rfl ?_
  refine ac_istore_n (lv' := [(3, .int 0), (2, .int v2), (0, .ref r0), (1, .int x1)]) d_X9_find_9 rfl (by decide) rfl ?_
  refine ac_aload_n 2 d_X9_find_10 rfl rfl ?_
  obtain ⟨o3, hr, h⟩ := h
  refine ak_getf hr fl_X9_56 d_X9_find_11 ?_
  refine ac_iconst (v := 0) d_X9_find_14 rfl ?_
  refine ac_iconst (v := -1) d_X9_find_15 rfl ?_
  obtain ⟨f4, hr, h⟩ := h
  refine ak_iast 0 hr rfl d_X9_find_16 ?_
  obtain ⟨n24, h⟩ := h
  refine ac_weak [2, 3, 0] rfl ?_
  refine ok_X9_find_L17 hro r0 x1 _ (fun f25 h => ?_) n24 0 f4 h
  · skip
    exact ac_vreturn hR ⟨rfl, h⟩ (by decide) (by decide) d_X9_find_109

