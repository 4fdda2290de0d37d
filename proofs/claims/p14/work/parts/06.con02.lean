def wp_X5_keep (ki : Nat → ClassId) (r0 : Nat) (f : ac_hp) (Q : ac_hp → Prop) : Prop := ∃ v1 : Int32, hr_f f r0 5 5 (.int v1) ∧ ((v1 < 150 → ∃ o2 : Nat, hr_f f r0 5 3 (.ref o2) ∧ ∃ o3 : Nat, hr_f f r0 5 2 (.ref o3) ∧ ∃ v4 : Int32, hr_f f r0 5 5 (.int v4) ∧ ∃ f5 : ac_hp, hw_c (ki 0) f o2 0 o3 (v4 * 4) 4 f5 ∧ ∃ v6 : Int32, hr_f f5 r0 5 5 (.int v6) ∧ ∃ f7 : ac_hp, hw_f f5 r0 5 5 (.int (v6 + 1)) f7 ∧ Q f7) ∧ (¬ v1 < 150 → ∃ f8 : ac_hp, hw_f f r0 5 6 (.int 1) f8 ∧ Q f8))

set_option maxRecDepth 20000 in
set_option maxHeartbeats 4000000 in
theorem c_X5_keep (l : Launch) (D : va_G) (ki : Nat → ClassId) (r0 : Nat) (f : ac_hp) (Q : ac_hp → Prop) (h : wp_X5_keep ki r0 f Q) : ac_met l D ki y_X5_keep prog_7_method_8_code 1 none (ro_ 1 0 0) [.ref r0] f (qr_V Q) 0 0 := by
  refine ac_enter (fun ki => wp_X5_keep ki r0 f Q) (by decide) (Nat.le_of_ble_eq_true rfl) h ?_
  intro x hro hR hnm h
  unfold wp_X5_keep at h
  refine ac_aload_n 0 d_X5_keep_0 rfl rfl ?_
  obtain ⟨v1, hr, h⟩ := h
  refine ak_getf hr fl_X5_21 d_X5_keep_1 ?_
  refine ac_sipush (v := 150) d_X5_keep_4 rfl ?_
  refine ac_icmp_lt (tgt := 16) d_X5_keep_7 (by decide) (fun hc => ?_) (fun hc => ?_)
  · have h := h.1 hc
    refine ac_aload_n 0 d_X5_keep_16 rfl rfl ?_
    obtain ⟨o2, hr, h⟩ := h
    refine ak_getf hr fl_X5_15 d_X5_keep_17 ?_
    refine ac_iconst (v := 0) d_X5_keep_20 rfl ?_
    refine ac_aload_n 0 d_X5_keep_21 rfl rfl ?_
    obtain ⟨o3, hr, h⟩ := h
    refine ak_getf hr fl_X5_9 d_X5_keep_22 ?_
    refine ac_aload_n 0 d_X5_keep_25 rfl rfl ?_
    obtain ⟨v4, hr, h⟩ := h
    refine ak_getf hr fl_X5_21 d_X5_keep_26 ?_
    refine ac_iconst (v := 4) d_X5_keep_29 rfl ?_
    refine ac_imul d_X5_keep_30 ?_
    refine ac_iconst (v := 4) d_X5_keep_31 rfl ?_
    obtain ⟨f5, hr, h⟩ := h
    refine ak_copyi 0 hr sc_X5_83 sc_nat sc_stat sc_ini rfl (by rw [hro]; decide) (by rw [hro]; decide) d_X5_keep_32 ?_
    refine ac_aload_n 0 d_X5_keep_35 rfl rfl ?_
    refine ac_dup d_X5_keep_36 rfl ?_
    obtain ⟨v6, hr, h⟩ := h
    refine ak_getf hr fl_X5_21 d_X5_keep_37 ?_
    refine ac_iconst (v := 1) d_X5_keep_40 rfl ?_
    refine ac_iadd d_X5_keep_41 ?_
    obtain ⟨f7, hr, h⟩ := h
    refine ak_putf hr fp_X5_21 rfl rfl d_X5_keep_42 ?_
    exact ac_vreturn hR ⟨rfl, h⟩ (by decide) (by decide) d_X5_keep_45
  · have h := h.2 hc
    refine ac_aload_n 0 d_X5_keep_10 rfl rfl ?_
    refine ac_iconst (v := 1) d_X5_keep_11 rfl ?_
    obtain ⟨f8, hr, h⟩ := h
    refine ak_putf hr fp_X5_25 rfl rfl d_X5_keep_12 ?_
    exact ac_vreturn hR ⟨rfl, h⟩ (by decide) (by decide) d_X5_keep_15

def wp_X4_told (ki : Nat → ClassId) (r0 : Nat) (x1 : Int32) (x2 : Int32) (f : ac_hp) (Q : Int32 → ac_hp → Prop) : Prop := ∃ o1 : Nat, hr_f f r0 4 1 (.ref o1) ∧ ∃ v2 : Int32, hr_i (ki 0) f o1 ((x1 * 2) + x2) v2 ∧ Q v2 f

set_option maxRecDepth 20000 in
set_option maxHeartbeats 4000000 in
theorem c_X4_told (l : Launch) (D : va_G) (ki : Nat → ClassId) (r0 : Nat) (x1 : Int32) (x2 : Int32) (f : ac_hp) (Q : Int32 → ac_hp → Prop) (h : wp_X4_told ki r0 x1 x2 f Q) : ac_met l D ki y_X4_told prog_6_method_5_code 3 (some .int) (ro_ 1 0 0) [.ref r0, .int x1, .int x2] f (qr_I Q) 0 0 := by
  refine ac_enter (fun ki => wp_X4_told ki r0 x1 x2 f Q) (by decide) (Nat.le_of_ble_eq_true rfl) h ?_
  intro x hro hR hnm h
  unfold wp_X4_told at h
  refine ac_aload_n 0 d_X4_told_0 rfl rfl ?_
  obtain ⟨o1, hr, h⟩ := h
  refine ak_getf hr fl_X4_15 d_X4_told_1 ?_
  refine ac_iload_n 1 d_X4_told_4 rfl rfl ?_
  refine ac_iconst (v := 2) d_X4_told_5 rfl ?_
  refine ac_imul d_X4_told_6 ?_
  refine ac_iload_n 2 d_X4_told_7 rfl rfl ?_
  refine ac_iadd d_X4_told_8 ?_
  obtain ⟨v2, hr, h⟩ := h
  refine ak_iald 0 hr rfl d_X4_told_9 ?_
  exact ac_ireturn hR rfl ⟨_, rfl, h⟩ (by decide) (by decide) d_X4_told_10

def wp_X0_isVariable (ki : Nat → ClassId) (x0 : Int32) (f : ac_hp) (Q : Int32 → ac_hp → Prop) : Prop := ((0 ≤ x0 → Q 0 f) ∧ (¬ 0 ≤ x0 → Q 1 f))

set_option maxRecDepth 20000 in
set_option maxHeartbeats 4000000 in
theorem c_X0_isVariable (l : Launch) (D : va_G) (ki : Nat → ClassId) (x0 : Int32) (f : ac_hp) (Q : Int32 → ac_hp → Prop) (h : wp_X0_isVariable ki x0 f Q) : ac_met l D ki y_X0_isVariable prog_1_method_20_code 1 (some .boolean) (ro_ 1 0 0) [.int x0] f (qr_I Q) 0 0 := by
  refine ac_enter (fun ki => wp_X0_isVariable ki x0 f Q) (by decide) (Nat.le_of_ble_eq_true rfl) h ?_
  intro x hro hR hnm h
  unfold wp_X0_isVariable at h
  refine ac_iload_n 0 d_X0_isVariable_0 rfl rfl ?_
  refine ac_if_ge (tgt := 8) d_X0_isVariable_1 (by decide) (fun hc => ?_) (fun hc => ?_)
  · have h := h.1 hc
    refine ac_iconst (v := 0) d_X0_isVariable_8 rfl ?_
    exact ac_ireturn hR rfl ⟨_, rfl, h⟩ (by decide) (by decide) d_X0_isVariable_9
  · have h := h.2 hc
    refine ac_iconst (v := 1) d_X0_isVariable_4 rfl ?_
    refine ac_goto (tgt := 9) d_X0_isVariable_5 (by decide) ?_
    exact ac_ireturn hR rfl ⟨_, rfl, h⟩ (by decide) (by decide) d_X0_isVariable_9

def wp_X0_variableOf (ki : Nat → ClassId) (x0 : Int32) (f : ac_hp) (Q : Int32 → ac_hp → Prop) : Prop := Q ((-1) - x0) f

set_option maxRecDepth 20000 in
set_option maxHeartbeats 4000000 in
theorem c_X0_variableOf (l : Launch) (D : va_G) (ki : Nat → ClassId) (x0 : Int32) (f : ac_hp) (Q : Int32 → ac_hp → Prop) (h : wp_X0_variableOf ki x0 f Q) : ac_met l D ki y_X0_variableOf prog_1_method_21_code 1 (some .int) (ro_ 1 0 0) [.int x0] f (qr_I Q) 0 0 := by
  refine ac_enter (fun ki => wp_X0_variableOf ki x0 f Q) (by decide) (Nat.le_of_ble_eq_true rfl) h ?_
  intro x hro hR hnm h
  unfold wp_X0_variableOf at h
  refine ac_iconst (v := -1) d_X0_variableOf_0 rfl ?_
  refine ac_iload_n 0 d_X0_variableOf_1 rfl rfl ?_
  refine ac_isub d_X0_variableOf_2 ?_
  exact ac_ireturn hR rfl ⟨_, rfl, h⟩ (by decide) (by decide) d_X0_variableOf_3

def wp_X0_has (ki : Nat → ClassId) (x0 : Int32) (x1 : Int32) (f : ac_hp) (Q : Int32 → ac_hp → Prop) : Prop := ((((x0 >>> (x1 &&& 31)) &&& 1) = 0 → Q 0 f) ∧ (¬ ((x0 >>> (x1 &&& 31)) &&& 1) = 0 → Q 1 f))

set_option maxRecDepth 20000 in
set_option maxHeartbeats 4000000 in
theorem c_X0_has (l : Launch) (D : va_G) (ki : Nat → ClassId) (x0 : Int32) (x1 : Int32) (f : ac_hp) (Q : Int32 → ac_hp → Prop) (h : wp_X0_has ki x0 x1 f Q) : ac_met l D ki y_X0_has prog_1_method_22_code 2 (some .boolean) (ro_ 1 0 0) [.int x0, .int x1] f (qr_I Q) 0 0 := by
  refine ac_enter (fun ki => wp_X0_has ki x0 x1 f Q) (by decide) (Nat.le_of_ble_eq_true rfl) h ?_
  intro x hro hR hnm h
  unfold wp_X0_has at h
  refine ac_iload_n 0 d_X0_has_0 rfl rfl ?_
  refine ac_iload_n 1 d_X0_has_1 rfl rfl ?_
  refine ac_ishr d_X0_has_2 ?_
  refine ac_iconst (v := 1) d_X0_has_3 rfl ?_
  refine ac_iand d_X0_has_4 ?_
  refine ac_if_eq (tgt := 12) d_X0_has_5 (by decide) (fun hc => ?_) (fun hc => ?_)
  · have h := h.1 hc
    refine ac_iconst (v := 0) d_X0_has_12 rfl ?_
    exact ac_ireturn hR rfl ⟨_, rfl, h⟩ (by decide) (by decide) d_X0_has_13
  · have h := h.2 hc
    refine ac_iconst (v := 1) d_X0_has_8 rfl ?_
    refine ac_goto (tgt := 13) d_X0_has_9 (by decide) ?_
    exact ac_ireturn hR rfl ⟨_, rfl, h⟩ (by decide) (by decide) d_X0_has_13

def wp_X0_with (ki : Nat → ClassId) (x0 : Int32) (x1 : Int32) (f : ac_hp) (Q : Int32 → ac_hp → Prop) : Prop := Q (x0 ||| ((1 : Int32) <<< (x1 &&& 31))) f

set_option maxRecDepth 20000 in
set_option maxHeartbeats 4000000 in
theorem c_X0_with (l : Launch) (D : va_G) (ki : Nat → ClassId) (x0 : Int32) (x1 : Int32) (f : ac_hp) (Q : Int32 → ac_hp → Prop) (h : wp_X0_with ki x0 x1 f Q) : ac_met l D ki y_X0_with prog_1_method_23_code 2 (some .int) (ro_ 1 0 0) [.int x0, .int x1] f (qr_I Q) 0 0 := by
  refine ac_enter (fun ki => wp_X0_with ki x0 x1 f Q) (by decide) (Nat.le_of_ble_eq_true rfl) h ?_
  intro x hro hR hnm h
  unfold wp_X0_with at h
  refine ac_iload_n 0 d_X0_with_0 rfl rfl ?_
  refine ac_iconst (v := 1) d_X0_with_1 rfl ?_
  refine ac_iload_n 1 d_X0_with_2 rfl rfl ?_
  refine ac_ishl d_X0_with_3 ?_
  refine ac_ior d_X0_with_4 ?_
  exact ac_ireturn hR rfl ⟨_, rfl, h⟩ (by decide) (by decide) d_X0_with_5

def wp_X5_chosen (ki : Nat → ClassId) (r0 : Nat) (x1 : Int32) (x2 : Int32) (f : ac_hp) (Q : Int32 → ac_hp → Prop) : Prop := ∃ o1 : Nat, hr_f f r0 5 2 (.ref o1) ∧ ∃ v2 : Int32, hr_i (ki 0) f o1 ((x1 * 4) + x2) v2 ∧ Q v2 f

set_option maxRecDepth 20000 in
set_option maxHeartbeats 4000000 in
theorem c_X5_chosen (l : Launch) (D : va_G) (ki : Nat → ClassId) (r0 : Nat) (x1 : Int32) (x2 : Int32) (f : ac_hp) (Q : Int32 → ac_hp → Prop) (h : wp_X5_chosen ki r0 x1 x2 f Q) : ac_met l D ki y_X5_chosen prog_7_method_2_code 3 (some .int) (ro_ 1 0 0) [.ref r0, .int x1, .int x2] f (qr_I Q) 0 0 := by
  refine ac_enter (fun ki => wp_X5_chosen ki r0 x1 x2 f Q) (by decide) (Nat.le_of_ble_eq_true rfl) h ?_
  intro x hro hR hnm h
  unfold wp_X5_chosen at h
  refine ac_aload_n 0 d_X5_chosen_0 rfl rfl ?_
  obtain ⟨o1, hr, h⟩ := h
  refine ak_getf hr fl_X5_9 d_X5_chosen_1 ?_
  refine ac_iload_n 1 d_X5_chosen_4 rfl rfl ?_
  refine ac_iconst (v := 4) d_X5_chosen_5 rfl ?_
  refine ac_imul d_X5_chosen_6 ?_
  refine ac_iload_n 2 d_X5_chosen_7 rfl rfl ?_
  refine ac_iadd d_X5_chosen_8 ?_
  obtain ⟨v2, hr, h⟩ := h
  refine ak_iald 0 hr rfl d_X5_chosen_9 ?_
  exact ac_ireturn hR rfl ⟨_, rfl, h⟩ (by decide) (by decide) d_X5_chosen_10

def wp_X7_begin (ki : Nat → ClassId) (r0 : Nat) (x1 : Int32) (f : ac_hp) (Q : ac_hp → Prop) : Prop := ∃ f1 : ac_hp, hw_f f r0 7 4 (.int 0) f1 ∧ ∃ f2 : ac_hp, hw_f f1 r0 7 5 (.int x1) f2 ∧ ∃ f3 : ac_hp, hw_f f2 r0 7 6 (.int 0) f3 ∧ Q f3

set_option maxRecDepth 20000 in
set_option maxHeartbeats 4000000 in
theorem c_X7_begin (l : Launch) (D : va_G) (ki : Nat → ClassId) (r0 : Nat) (x1 : Int32) (f : ac_hp) (Q : ac_hp → Prop) (h : wp_X7_begin ki r0 x1 f Q) : ac_met l D ki y_X7_begin prog_2_method_2_code 2 none (ro_ 1 0 0) [.ref r0, .int x1] f (qr_V Q) 0 0 := by
  refine ac_enter (fun ki => wp_X7_begin ki r0 x1 f Q) (by decide) (Nat.le_of_ble_eq_true rfl) h ?_
  intro x hro hR hnm h
  unfold wp_X7_begin at h
  refine ac_aload_n 0 d_X7_begin_0 rfl rfl ?_
  refine ac_iconst (v := 0) d_X7_begin_1 rfl ?_
  obtain ⟨f1, hr, h⟩ := h
  refine ak_putf hr fp_X7_24 rfl rfl d_X7_begin_2 ?_
  refine ac_aload_n 0 d_X7_begin_5 rfl rfl ?_
  refine ac_iload_n 1 d_X7_begin_6 rfl rfl ?_
  obtain ⟨f2, hr, h⟩ := h
  refine ak_putf hr fp_X7_28 rfl rfl d_X7_begin_7 ?_
  refine ac_aload_n 0 d_X7_begin_10 rfl rfl ?_
  refine ac_iconst (v := 0) d_X7_begin_11 rfl ?_
  obtain ⟨f3, hr, h⟩ := h
  refine ak_putf hr fp_X7_31 rfl rfl d_X7_begin_12 ?_
  exact ac_vreturn hR ⟨rfl, h⟩ (by decide) (by decide) d_X7_begin_15

def wp_X4_allows (ki : Nat → ClassId) (r0 : Nat) (x1 : Int32) (x2 : Int32) (f : ac_hp) (Q : Int32 → ac_hp → Prop) : Prop := ∃ o1 : Nat, hr_f f r0 4 2 (.ref o1) ∧ ∃ v2 : Int32, hr_i (ki 0) f o1 x1 v2 ∧ ((x2 < v2 → Q 0 f) ∧ (¬ x2 < v2 → ∃ o3 : Nat, hr_f f r0 4 3 (.ref o3) ∧ ∃ v4 : Int32, hr_i (ki 0) f o3 x1 v4 ∧ ((v4 < x2 → Q 0 f) ∧ (¬ v4 < x2 → Q 1 f))))

set_option maxRecDepth 20000 in
set_option maxHeartbeats 4000000 in
theorem c_X4_allows (l : Launch) (D : va_G) (ki : Nat → ClassId) (r0 : Nat) (x1 : Int32) (x2 : Int32) (f : ac_hp) (Q : Int32 → ac_hp → Prop) (h : wp_X4_allows ki r0 x1 x2 f Q) : ac_met l D ki y_X4_allows prog_6_method_6_code 3 (some .boolean) (ro_ 1 0 0) [.ref r0, .int x1, .int x2] f (qr_I Q) 0 0 := by
  refine ac_enter (fun ki => wp_X4_allows ki r0 x1 x2 f Q) (by decide) (Nat.le_of_ble_eq_true rfl) h ?_
  intro x hro hR hnm h
  unfold wp_X4_allows at h
  refine ac_iload_n 2 d_X4_allows_0 rfl rfl ?_
  refine ac_aload_n 0 d_X4_allows_1 rfl rfl ?_
  obtain ⟨o1, hr, h⟩ := h
  refine ak_getf hr fl_X4_18 d_X4_allows_2 ?_
  refine ac_iload_n 1 d_X4_allows_5 rfl rfl ?_
  obtain ⟨v2, hr, h⟩ := h
  refine ak_iald 0 hr rfl d_X4_allows_6 ?_
  refine ac_icmp_lt (tgt := 24) d_X4_allows_7 (by decide) (fun hc => ?_) (fun hc => ?_)
  · have h := h.1 hc
    refine ac_iconst (v := 0) d_X4_allows_24 rfl ?_
    exact ac_ireturn hR rfl ⟨_, rfl, h⟩ (by decide) (by decide) d_X4_allows_25
  · have h := h.2 hc
    refine ac_iload_n 2 d_X4_allows_10 rfl rfl ?_
    refine ac_aload_n 0 d_X4_allows_11 rfl rfl ?_
    obtain ⟨o3, hr, h⟩ := h
    refine ak_getf hr fl_X4_21 d_X4_allows_12 ?_
    refine ac_iload_n 1 d_X4_allows_15 rfl rfl ?_
    obtain ⟨v4, hr, h⟩ := h
    refine ak_iald 0 hr rfl d_X4_allows_16 ?_
    refine ac_icmp_gt (tgt := 24) d_X4_allows_17 (by decide) (fun hc => ?_) (fun hc => ?_)
    · have h := h.1 hc
      refine ac_iconst (v := 0) d_X4_allows_24 rfl ?_
      exact ac_ireturn hR rfl ⟨_, rfl, h⟩ (by decide) (by decide) d_X4_allows_25
    · have h := h.2 hc
      refine ac_iconst (v := 1) d_X4_allows_20 rfl ?_
      refine ac_goto (tgt := 25) d_X4_allows_21 (by decide) ?_
      exact ac_ireturn hR rfl ⟨_, rfl, h⟩ (by decide) (by decide) d_X4_allows_25

def wp_JInteger_bitCount (ki : Nat → ClassId) (x0 : Int32) (f : ac_hp) (Q : Int32 → ac_hp → Prop) : Prop := ∀ v1 : Int32, v1 = x0 - (((x0.toUInt32 >>> ((1 : Int32).toUInt32 &&& Int32.toUInt32 31)).toInt32) &&& 1431655765) → ∀ v2 : Int32, v2 = (v1 &&& 858993459) + (((v1.toUInt32 >>> ((2 : Int32).toUInt32 &&& Int32.toUInt32 31)).toInt32) &&& 858993459) → ∀ v3 : Int32, v3 = (v2 + ((v2.toUInt32 >>> ((4 : Int32).toUInt32 &&& Int32.toUInt32 31)).toInt32)) &&& 252645135 → ∀ v4 : Int32, v4 = v3 + ((v3.toUInt32 >>> ((8 : Int32).toUInt32 &&& Int32.toUInt32 31)).toInt32) → ∀ v5 : Int32, v5 = v4 + ((v4.toUInt32 >>> ((16 : Int32).toUInt32 &&& Int32.toUInt32 31)).toInt32) → Q (v5 &&& 63) f

set_option maxRecDepth 20000 in
set_option maxHeartbeats 4000000 in
theorem c_JInteger_bitCount (l : Launch) (D : va_G) (ki : Nat → ClassId) (x0 : Int32) (f : ac_hp) (Q : Int32 → ac_hp → Prop) (h : wp_JInteger_bitCount ki x0 f Q) : ac_met l D ki y_JInteger_bitCount prog_14_method_49_code 1 (some .int) (ro_ 1 0 0) [.int x0] f (qr_I Q) 0 0 := by
  refine ac_enterF (fun ki => wp_JInteger_bitCount ki x0 f Q) (by decide +kernel) (Nat.le_of_ble_eq_true rfl) h ?_
  intro x hro hR hnm h
  unfold wp_JInteger_bitCount at h
  refine ac_iload_n 0 d_JInteger_bitCount_0 rfl rfl ?_
  refine ac_iload_n 0 d_JInteger_bitCount_1 rfl rfl ?_
  refine ac_iconst (v := 1) d_JInteger_bitCount_2 rfl ?_
  refine ac_iushr d_JInteger_bitCount_3 ?_
  refine ac_ldcw (v := 1431655765) kc_JInteger_265 d_JInteger_bitCount_4 ?_
  refine ac_iand d_JInteger_bitCount_7 ?_
  refine ac_isub d_JInteger_bitCount_8 ?_
  refine ak_topi (fun v1 ev1 => ?_)
  have h := h v1 ev1
  refine ac_istore_n (lv' := [(0, .int v1)]) d_JInteger_bitCount_9 rfl (by decide) rfl ?_
  refine ac_iload_n 0 d_JInteger_bitCount_10 rfl rfl ?_
  refine ac_ldcw (v := 858993459) kc_JInteger_266 d_JInteger_bitCount_11 ?_
  refine ac_iand d_JInteger_bitCount_14 ?_
  refine ac_iload_n 0 d_JInteger_bitCount_15 rfl rfl ?_
  refine ac_iconst (v := 2) d_JInteger_bitCount_16 rfl ?_
  refine ac_iushr d_JInteger_bitCount_17 ?_
  refine ac_ldcw (v := 858993459) kc_JInteger_266 d_JInteger_bitCount_18 ?_
  refine ac_iand d_JInteger_bitCount_21 ?_
  refine ac_iadd d_JInteger_bitCount_22 ?_
  refine ak_topi (fun v2 ev2 => ?_)
  have h := h v2 ev2
  refine ac_istore_n (lv' := [(0, .int v2)]) d_JInteger_bitCount_23 rfl (by decide) rfl ?_
  refine ac_iload_n 0 d_JInteger_bitCount_24 rfl rfl ?_
  refine ac_iload_n 0 d_JInteger_bitCount_25 rfl rfl ?_
  refine ac_iconst (v := 4) d_JInteger_bitCount_26 rfl ?_
  refine ac_iushr d_JInteger_bitCount_27 ?_
  refine ac_iadd d_JInteger_bitCount_28 ?_
  refine ac_ldcw (v := 252645135) kc_JInteger_267 d_JInteger_bitCount_29 ?_
  refine ac_iand d_JInteger_bitCount_32 ?_
  refine ak_topi (fun v3 ev3 => ?_)
  have h := h v3 ev3
  refine ac_istore_n (lv' := [(0, .int v3)]) d_JInteger_bitCount_33 rfl (by decide) rfl ?_
  refine ac_iload_n 0 d_JInteger_bitCount_34 rfl rfl ?_
  refine ac_iload_n 0 d_JInteger_bitCount_35 rfl rfl ?_
  refine ac_bipush (v := 8) d_JInteger_bitCount_36 rfl ?_
  refine ac_iushr d_JInteger_bitCount_38 ?_
  refine ac_iadd d_JInteger_bitCount_39 ?_
  refine ak_topi (fun v4 ev4 => ?_)
  have h := h v4 ev4
  refine ac_istore_n (lv' := [(0, .int v4)]) d_JInteger_bitCount_40 rfl (by decide) rfl ?_
  refine ac_iload_n 0 d_JInteger_bitCount_41 rfl rfl ?_
  refine ac_iload_n 0 d_JInteger_bitCount_42 rfl rfl ?_
  refine ac_bipush (v := 16) d_JInteger_bitCount_43 rfl ?_
  refine ac_iushr d_JInteger_bitCount_45 ?_
  refine ac_iadd d_JInteger_bitCount_46 ?_
  refine ak_topi (fun v5 ev5 => ?_)
  have h := h v5 ev5
  refine ac_istore_n (lv' := [(0, .int v5)]) d_JInteger_bitCount_47 rfl (by decide) rfl ?_
  refine ac_iload_n 0 d_JInteger_bitCount_48 rfl rfl ?_
  refine ac_bipush (v := 63) d_JInteger_bitCount_49 rfl ?_
  refine ac_iand d_JInteger_bitCount_51 ?_
  exact ac_ireturn hR rfl ⟨_, rfl, h⟩ (by decide) (by decide) d_JInteger_bitCount_52

def wp_X7_code (ki : Nat → ClassId) (r0 : Nat) (x1 : Int32) (x2 : Int32) (f : ac_hp) (Q : Int32 → ac_hp → Prop) : Prop := ∃ o1 : Nat, hr_f f r0 7 0 (.ref o1) ∧ ∃ o2 : Nat, hr_f f r0 7 1 (.ref o2) ∧ ∃ v3 : Int32, hr_i (ki 0) f o2 x1 v3 ∧ ∃ v4 : Int32, hr_i (ki 0) f o1 ((v3 * 6) + x2) v4 ∧ Q v4 f

set_option maxRecDepth 20000 in
set_option maxHeartbeats 4000000 in
theorem c_X7_code (l : Launch) (D : va_G) (ki : Nat → ClassId) (r0 : Nat) (x1 : Int32) (x2 : Int32) (f : ac_hp) (Q : Int32 → ac_hp → Prop) (h : wp_X7_code ki r0 x1 x2 f Q) : ac_met l D ki y_X7_code prog_2_method_3_code 3 (some .int) (ro_ 1 0 0) [.ref r0, .int x1, .int x2] f (qr_I Q) 0 0 := by
  refine ac_enter (fun ki => wp_X7_code ki r0 x1 x2 f Q) (by decide) (Nat.le_of_ble_eq_true rfl) h ?_
  intro x hro hR hnm h
  unfold wp_X7_code at h
  refine ac_aload_n 0 d_X7_code_0 rfl rfl ?_
  obtain ⟨o1, hr, h⟩ := h
  refine ak_getf hr fl_X7_9 d_X7_code_1 ?_
  refine ac_aload_n 0 d_X7_code_4 rfl rfl ?_
  obtain ⟨o2, hr, h⟩ := h
  refine ak_getf hr fl_X7_15 d_X7_code_5 ?_
  refine ac_iload_n 1 d_X7_code_8 rfl rfl ?_
  obtain ⟨v3, hr, h⟩ := h
  refine ak_iald 0 hr rfl d_X7_code_9 ?_
  refine ac_bipush (v := 6) d_X7_code_10 rfl ?_
  refine ac_imul d_X7_code_12 ?_
  refine ac_iload_n 2 d_X7_code_13 rfl rfl ?_
  refine ac_iadd d_X7_code_14 ?_
  obtain ⟨v4, hr, h⟩ := h
  refine ak_iald 0 hr rfl d_X7_code_15 ?_
  exact ac_ireturn hR rfl ⟨_, rfl, h⟩ (by decide) (by decide) d_X7_code_16

def wp_X7_insert (ki : Nat → ClassId) (r0 : Nat) (x1 : Int32) (r2 : Nat) (x3 : Int32) (f : ac_hp) (Q : ac_hp → Prop) : Prop := ∃ o1 : Nat, hr_f f r0 7 0 (.ref o1) ∧ ∃ v2 : Int32, hr_f f r0 7 4 (.int v2) ∧ ∃ f3 : ac_hp, hw_c (ki 0) f r2 0 o1 (v2 * 6) 6 f3 ∧ ∃ o4 : Nat, hr_f f3 r0 7 2 (.ref o4) ∧ ∃ v5 : Int32, hr_f f3 r0 7 4 (.int v5) ∧ ∃ f6 : ac_hp, hw_i (ki 0) f3 o4 v5 1 f6 ∧ ∃ o7 : Nat, hr_f f6 r0 7 3 (.ref o7) ∧ ∃ v8 : Int32, hr_f f6 r0 7 4 (.int v8) ∧ ∃ f9 : ac_hp, hw_i (ki 0) f6 o7 v8 x3 f9 ∧ ∃ o10 : Nat, hr_f f9 r0 7 1 (.ref o10) ∧ ∃ o11 : Nat, hr_f f9 r0 7 1 (.ref o11) ∧ ∃ v12 : Int32, hr_f f9 r0 7 4 (.int v12) ∧ ∃ f13 : ac_hp, hw_c (ki 0) f9 o10 x1 o11 (x1 + 1) (v12 - x1) f13 ∧ ∃ o14 : Nat, hr_f f13 r0 7 1 (.ref o14) ∧ ∃ v15 : Int32, hr_f f13 r0 7 4 (.int v15) ∧ ∃ f16 : ac_hp, hw_i (ki 0) f13 o14 x1 v15 f16 ∧ ∃ v17 : Int32, hr_f f16 r0 7 4 (.int v17) ∧ ∃ f18 : ac_hp, hw_f f16 r0 7 4 (.int (v17 + 1)) f18 ∧ Q f18

set_option maxRecDepth 20000 in
set_option maxHeartbeats 4000000 in
theorem c_X7_insert (l : Launch) (D : va_G) (ki : Nat → ClassId) (r0 : Nat) (x1 : Int32) (r2 : Nat) (x3 : Int32) (f : ac_hp) (Q : ac_hp → Prop) (h : wp_X7_insert ki r0 x1 r2 x3 f Q) : ac_met l D ki y_X7_insert prog_2_method_7_code 4 none (ro_ 1 0 0) [.ref r0, .int x1, .ref r2, .int x3] f (qr_V Q) 0 0 := by
  refine ac_enter (fun ki => wp_X7_insert ki r0 x1 r2 x3 f Q) (by decide) (Nat.le_of_ble_eq_true rfl) h ?_
  intro x hro hR hnm h
  unfold wp_X7_insert at h
  refine ac_aload_n 2 d_X7_insert_0 rfl rfl ?_
  refine ac_iconst (v := 0) d_X7_insert_1 rfl ?_
  refine ac_aload_n 0 d_X7_insert_2 rfl rfl ?_
  obtain ⟨o1, hr, h⟩ := h
  refine ak_getf hr fl_X7_9 d_X7_insert_3 ?_
  refine ac_aload_n 0 d_X7_insert_6 rfl rfl ?_
  obtain ⟨v2, hr, h⟩ := h
  refine ak_getf hr fl_X7_24 d_X7_insert_7 ?_
  refine ac_bipush (v := 6) d_X7_insert_10 rfl ?_
  refine ac_imul d_X7_insert_12 ?_
  refine ac_bipush (v := 6) d_X7_insert_13 rfl ?_
  obtain ⟨f3, hr, h⟩ := h
  refine ak_copyi 0 hr sc_X7_47 sc_nat sc_stat sc_ini rfl (by rw [hro]; decide) (by rw [hro]; decide) d_X7_insert_15 ?_
  refine ac_aload_n 0 d_X7_insert_18 rfl rfl ?_
  obtain ⟨o4, hr, h⟩ := h
  refine ak_getf hr fl_X7_18 d_X7_insert_19 ?_
  refine ac_aload_n 0 d_X7_insert_22 rfl rfl ?_
  obtain ⟨v5, hr, h⟩ := h
  refine ak_getf hr fl_X7_24 d_X7_insert_23 ?_
  refine ac_iconst (v := 1) d_X7_insert_26 rfl ?_
  obtain ⟨f6, hr, h⟩ := h
  refine ak_iast 0 hr rfl d_X7_insert_27 ?_
  refine ac_aload_n 0 d_X7_insert_28 rfl rfl ?_
  obtain ⟨o7, hr, h⟩ := h
  refine ak_getf hr fl_X7_21 d_X7_insert_29 ?_
  refine ac_aload_n 0 d_X7_insert_32 rfl rfl ?_
  obtain ⟨v8, hr, h⟩ := h
  refine ak_getf hr fl_X7_24 d_X7_insert_33 ?_
  refine ac_iload_n 3 d_X7_insert_36 rfl rfl ?_
  obtain ⟨f9, hr, h⟩ := h
  refine ak_iast 0 hr rfl d_X7_insert_37 ?_
  refine ac_aload_n 0 d_X7_insert_38 rfl rfl ?_
  obtain ⟨o10, hr, h⟩ := h
  refine ak_getf hr fl_X7_15 d_X7_insert_39 ?_
  refine ac_iload_n 1 d_X7_insert_42 rfl rfl ?_
  refine ac_aload_n 0 d_X7_insert_43 rfl rfl ?_
  obtain ⟨o11, hr, h⟩ := h
  refine ak_getf hr fl_X7_15 d_X7_insert_44 ?_
  refine ac_iload_n 1 d_X7_insert_47 rfl rfl ?_
  refine ac_iconst (v := 1) d_X7_insert_48 rfl ?_
  refine ac_iadd d_X7_insert_49 ?_
  refine ac_aload_n 0 d_X7_insert_50 rfl rfl ?_
  obtain ⟨v12, hr, h⟩ := h
  refine ak_getf hr fl_X7_24 d_X7_insert_51 ?_
  refine ac_iload_n 1 d_X7_insert_54 rfl rfl ?_
  refine ac_isub d_X7_insert_55 ?_
  obtain ⟨f13, hr, h⟩ := h
  refine ak_copyi 0 hr sc_X7_47 sc_nat sc_stat sc_ini rfl (by rw [hro]; decide) (by rw [hro]; decide) d_X7_insert_56 ?_
  refine ac_aload_n 0 d_X7_insert_59 rfl rfl ?_
  obtain ⟨o14, hr, h⟩ := h
  refine ak_getf hr fl_X7_15 d_X7_insert_60 ?_
  refine ac_iload_n 1 d_X7_insert_63 rfl rfl ?_
  refine ac_aload_n 0 d_X7_insert_64 rfl rfl ?_
  obtain ⟨v15, hr, h⟩ := h
  refine ak_getf hr fl_X7_24 d_X7_insert_65 ?_
  obtain ⟨f16, hr, h⟩ := h
  refine ak_iast 0 hr rfl d_X7_insert_68 ?_
  refine ac_aload_n 0 d_X7_insert_69 rfl rfl ?_
  refine ac_dup d_X7_insert_70 rfl ?_
  obtain ⟨v17, hr, h⟩ := h
  refine ak_getf hr fl_X7_24 d_X7_insert_71 ?_
  refine ac_iconst (v := 1) d_X7_insert_74 rfl ?_
  refine ac_iadd d_X7_insert_75 ?_
  obtain ⟨f18, hr, h⟩ := h
  refine ak_putf hr fp_X7_24 rfl rfl d_X7_insert_76 ?_
  exact ac_vreturn hR ⟨rfl, h⟩ (by decide) (by decide) d_X7_insert_79

def wp_X7_finders (ki : Nat → ClassId) (r0 : Nat) (x1 : Int32) (f : ac_hp) (Q : Int32 → ac_hp → Prop) : Prop := ∃ o1 : Nat, hr_f f r0 7 2 (.ref o1) ∧ ∃ o2 : Nat, hr_f f r0 7 1 (.ref o2) ∧ ∃ v3 : Int32, hr_i (ki 0) f o2 x1 v3 ∧ ∃ v4 : Int32, hr_i (ki 0) f o1 v3 v4 ∧ Q v4 f

set_option maxRecDepth 20000 in
set_option maxHeartbeats 4000000 in
theorem c_X7_finders (l : Launch) (D : va_G) (ki : Nat → ClassId) (r0 : Nat) (x1 : Int32) (f : ac_hp) (Q : Int32 → ac_hp → Prop) (h : wp_X7_finders ki r0 x1 f Q) : ac_met l D ki y_X7_finders prog_2_method_4_code 2 (some .int) (ro_ 1 0 0) [.ref r0, .int x1] f (qr_I Q) 0 0 := by
  refine ac_enter (fun ki => wp_X7_finders ki r0 x1 f Q) (by decide) (Nat.le_of_ble_eq_true rfl) h ?_
  intro x hro hR hnm h
  unfold wp_X7_finders at h
  refine ac_aload_n 0 d_X7_finders_0 rfl rfl ?_
  obtain ⟨o1, hr, h⟩ := h
  refine ak_getf hr fl_X7_18 d_X7_finders_1 ?_
  refine ac_aload_n 0 d_X7_finders_4 rfl rfl ?_
  obtain ⟨o2, hr, h⟩ := h
  refine ak_getf hr fl_X7_15 d_X7_finders_5 ?_
  refine ac_iload_n 1 d_X7_finders_8 rfl rfl ?_
  obtain ⟨v3, hr, h⟩ := h
  refine ak_iald 0 hr rfl d_X7_finders_9 ?_
  obtain ⟨v4, hr, h⟩ := h
  refine ak_iald 0 hr rfl d_X7_finders_10 ?_
  exact ac_ireturn hR rfl ⟨_, rfl, h⟩ (by decide) (by decide) d_X7_finders_11

def wp_X7_firstFinder (ki : Nat → ClassId) (r0 : Nat) (x1 : Int32) (f : ac_hp) (Q : Int32 → ac_hp → Prop) : Prop := ∃ o1 : Nat, hr_f f r0 7 3 (.ref o1) ∧ ∃ o2 : Nat, hr_f f r0 7 1 (.ref o2) ∧ ∃ v3 : Int32, hr_i (ki 0) f o2 x1 v3 ∧ ∃ v4 : Int32, hr_i (ki 0) f o1 v3 v4 ∧ Q v4 f

set_option maxRecDepth 20000 in
set_option maxHeartbeats 4000000 in
theorem c_X7_firstFinder (l : Launch) (D : va_G) (ki : Nat → ClassId) (r0 : Nat) (x1 : Int32) (f : ac_hp) (Q : Int32 → ac_hp → Prop) (h : wp_X7_firstFinder ki r0 x1 f Q) : ac_met l D ki y_X7_firstFinder prog_2_method_5_code 2 (some .int) (ro_ 1 0 0) [.ref r0, .int x1] f (qr_I Q) 0 0 := by
  refine ac_enter (fun ki => wp_X7_firstFinder ki r0 x1 f Q) (by decide) (Nat.le_of_ble_eq_true rfl) h ?_
  intro x hro hR hnm h
  unfold wp_X7_firstFinder at h
  refine ac_aload_n 0 d_X7_firstFinder_0 rfl rfl ?_
  obtain ⟨o1, hr, h⟩ := h
  refine ak_getf hr fl_X7_21 d_X7_firstFinder_1 ?_
  refine ac_aload_n 0 d_X7_firstFinder_4 rfl rfl ?_
  obtain ⟨o2, hr, h⟩ := h
  refine ak_getf hr fl_X7_15 d_X7_firstFinder_5 ?_
  refine ac_iload_n 1 d_X7_firstFinder_8 rfl rfl ?_
  obtain ⟨v3, hr, h⟩ := h
  refine ak_iald 0 hr rfl d_X7_firstFinder_9 ?_
  obtain ⟨v4, hr, h⟩ := h
  refine ak_iald 0 hr rfl d_X7_firstFinder_10 ?_
  exact ac_ireturn hR rfl ⟨_, rfl, h⟩ (by decide) (by decide) d_X7_firstFinder_11

def wp_X1_init_L42 (ki : Nat → ClassId) (r0 : Nat) (E66 : Nat → Nat → ac_hp → Prop) : Nat → Int32 → Nat → Nat → ac_hp → Prop
  | 0, _, _, _, _ => False
  | n + 1, x1, kc, ks, f => ((4 ≤ x1 → E66 kc ks f) ∧ (¬ 4 ≤ x1 → ∃ o12 : Nat, hr_f f r0 1 0 (.ref o12) ∧ (kc + 1 ≤ 51 ∧ ks + 3 ≤ 616) ∧ ∀ q13 : Nat, f q13 = none → ∀ f14 : ac_hp, f14 = ac_up f q13 (.inr (2, [.null, .null, .int 0])) → (kc + 1 + 2 ≤ 51 ∧ ks + 3 + 63 ≤ 616) ∧ wp_X2_init ki q13 f14 (fun f15 => ∃ f16 : ac_hp, hw_q (ki 3) 2 f15 o12 x1 q13 f16 ∧ ∀ v17 : Int32, v17 = x1 + 1 → wp_X1_init_L42 ki r0 E66 n v17 (kc + 1 + 2) (ks + 3 + 63) f16)))

def wp_X1_init_L68 (ki : Nat → ClassId) (r0 : Nat) (E93 : Nat → Nat → ac_hp → Prop) : Nat → Int32 → Nat → Nat → ac_hp → Prop
  | 0, _, _, _, _ => False
  | n + 1, x1, kc, ks, f => ((12 ≤ x1 → E93 kc ks f) ∧ (¬ 12 ≤ x1 → ∃ o22 : Nat, hr_f f r0 1 1 (.ref o22) ∧ (kc + 1 ≤ 51 ∧ ks + 4 ≤ 616) ∧ ∀ q23 : Nat, f q23 = none → ∀ f24 : ac_hp, f24 = ac_up f q23 (.inr (3, [.null, .null, .int 0, .int 0])) → (kc + 1 + 2 ≤ 51 ∧ ks + 4 + 4 ≤ 616) ∧ wp_X3_init ki q23 f24 (fun f25 => ∃ f26 : ac_hp, hw_q (ki 4) 3 f25 o22 x1 q23 f26 ∧ ∀ v27 : Int32, v27 = x1 + 1 → wp_X1_init_L68 ki r0 E93 n v27 (kc + 1 + 2) (ks + 4 + 4) f26)))

def wp_X1_init (ki : Nat → ClassId) (r0 : Nat) (f : ac_hp) (Q : ac_hp → Prop) : Prop := ((0 : Nat) + 1 ≤ 51 ∧ (0 : Nat) + 4 ≤ 616) ∧ ∀ q1 : Nat, f q1 = none → ∀ f2 : ac_hp, f2 = ac_up f q1 (.inl (ki 3, 4, .inr (.inr (.inr (.inr (fun _ => none)))))) → ∃ f3 : ac_hp, hw_f f2 r0 1 0 (.ref q1) f3 ∧ ((1 : Nat) + 1 ≤ 51 ∧ (4 : Nat) + 12 ≤ 616) ∧ ∀ q4 : Nat, f3 q4 = none → ∀ f5 : ac_hp, f5 = ac_up f3 q4 (.inl (ki 4, 12, .inr (.inr (.inr (.inr (fun _ => none)))))) → ∃ f6 : ac_hp, hw_f f5 r0 1 1 (.ref q4) f6 ∧ ((2 : Nat) + 1 ≤ 51 ∧ (16 : Nat) + 240 ≤ 616) ∧ ∀ q7 : Nat, f6 q7 = none → ∀ f8 : ac_hp, f8 = ac_up f6 q7 (.inl (ki 2, 240, .inr (.inl (fun _ => 0)))) → ∃ f9 : ac_hp, hw_f f8 r0 1 2 (.ref q7) f9 ∧ ∃ f10 : ac_hp, hw_f f9 r0 1 3 (.int 0) f10 ∧ ∃ f11 : ac_hp, hw_f f10 r0 1 4 (.int 0) f11 ∧ ∃ n18 : Nat, wp_X1_init_L42 ki r0 (fun kc20 ks21 f19 => ∃ n28 : Nat, wp_X1_init_L68 ki r0 (fun kc30 ks31 f29 => (kc30 ≤ 51 ∧ ks31 ≤ 616) ∧ Q f29) n28 0 kc20 ks21 f19) n18 0 3 256 f11

set_option maxRecDepth 20000 in
set_option maxHeartbeats 4000000 in
theorem ok_X1_init_L42 {x : ac_X} (hro : ac_R x = (ro_ 2 51 616)) (hnm : (ac_meth x).name = "<init>") (r0 : Nat) (E66 : Nat → Nat → ac_hp → Prop) (hE66 : ∀ (kc ks : Nat) (f : ac_hp), E66 kc ks f → ac_At (prog_3_method_1_code, 2, "VirtualRewrite$Catalog") x kc ks 66 [(0, .ref r0)] [] f) : ∀ (n : Nat) (x1 : Int32) (kc ks : Nat) (f : ac_hp), wp_X1_init_L42 (ac_ki x) r0 E66 n x1 kc ks f → ac_At (prog_3_method_1_code, 2, "VirtualRewrite$Catalog") x kc ks 42 [(0, .ref r0), (1, .int x1)] [] f := by
  intro n
  induction n with
  | zero => intro _ _ _ _ h; exact h.elim
  | succ n ih =>
    intro x1 kc ks f h
    rw [wp_X1_init_L42] at h
    refine ac_iload_n 1 d_X1_init_42 rfl rfl ?_
    refine ac_iconst (v := 4) d_X1_init_43 rfl ?_
    refine ac_icmp_ge (tgt := 66) d_X1_init_44 (by decide) (fun hc => ?_) (fun hc => ?_)
    · have h := h.1 hc
      refine ac_weak [0] rfl ?_
      exact hE66 kc ks f h
    · have h := h.2 hc
      refine ac_aload_n 0 d_X1_init_47 rfl rfl ?_
      obtain ⟨o12, hr, h⟩ := h
      refine ak_getf hr fl_X1_11 d_X1_init_48 ?_
      refine ac_iload_n 1 d_X1_init_51 rfl rfl ?_
      have hk := h.1
      have h := h.2
      refine ac_newo cn_X1_9 (by rw [hro]; exact hk.1) (by rw [hro]; exact hk.2) d_X1_init_52 (fun q13 hq => ?_)
      have h := h q13 hq
      obtain ⟨f14, ef14⟩ : ∃ z, z = ac_up f q13 (.inr (2, [.null, .null, .int 0])) := ⟨_, rfl⟩
      have h := h f14 ef14
      rw [← ef14]
      refine ac_dup d_X1_init_55 rfl ?_
      have hk := h.1
      have h := h.2
      refine ac_callIN cd_X2_init ml_X1_34 in_X2_init rfl (c_X2_init _ _ _ q13 f14 _ h) rfl rfl (by rw [hro]; constructor <;> simp only [ro_] <;> omega) rfl (rest := [.ref q13, .int x1, .ref o12]) rfl (Nat.le_of_ble_eq_true rfl) (by rw [hro]; exact hk) d_X1_init_56 (ac_V (fun f15 h => ?_))
      obtain ⟨f16, hr, h⟩ := h
      refine ak_aast 3 hr rfl rfl d_X1_init_59 ?_
      obtain ⟨v17, ev17⟩ : ∃ y : Int32, y = x1 + 1 := ⟨_, rfl⟩
      have h := h v17 ev17
      refine ac_iinc (j := 1) (lv' := [(1, .int v17), (0, .ref r0)]) d_X1_init_60 rfl (by rw [ev17]; rfl) (by decide) rfl ?_
      refine ac_goto (tgt := 42) d_X1_init_63 (by decide) ?_
      refine ac_weak [1, 0] rfl ?_
      exact ih v17 (kc + 1 + 2) (ks + 3 + 63) f16 h

set_option maxRecDepth 20000 in
set_option maxHeartbeats 4000000 in
theorem ok_X1_init_L68 {x : ac_X} (hro : ac_R x = (ro_ 2 51 616)) (hnm : (ac_meth x).name = "<init>") (r0 : Nat) (E93 : Nat → Nat → ac_hp → Prop) (hE93 : ∀ (kc ks : Nat) (f : ac_hp), E93 kc ks f → ac_At (prog_3_method_1_code, 2, "VirtualRewrite$Catalog") x kc ks 93 [] [] f) : ∀ (n : Nat) (x1 : Int32) (kc ks : Nat) (f : ac_hp), wp_X1_init_L68 (ac_ki x) r0 E93 n x1 kc ks f → ac_At (prog_3_method_1_code, 2, "VirtualRewrite$Catalog") x kc ks 68 [(0, .ref r0), (1, .int x1)] [] f := by
  intro n
  induction n with
  | zero => intro _ _ _ _ h; exact h.elim
  | succ n ih =>
    intro x1 kc ks f h
    rw [wp_X1_init_L68] at h
    refine ac_iload_n 1 d_X1_init_68 rfl rfl ?_
    refine ac_bipush (v := 12) d_X1_init_69 rfl ?_
    refine ac_icmp_ge (tgt := 93) d_X1_init_71 (by decide) (fun hc => ?_) (fun hc => ?_)
    · have h := h.1 hc
      refine ac_weak [] rfl ?_
      exact hE93 kc ks f h
    · have h := h.2 hc
      refine ac_aload_n 0 d_X1_init_74 rfl rfl ?_
      obtain ⟨o22, hr, h⟩ := h
      refine ak_getf hr fl_X1_19 d_X1_init_75 ?_
      refine ac_iload_n 1 d_X1_init_78 rfl rfl ?_
      have hk := h.1
      have h := h.2
      refine ac_newo cn_X1_17 (by rw [hro]; exact hk.1) (by rw [hro]; exact hk.2) d_X1_init_79 (fun q23 hq => ?_)
      have h := h q23 hq
      obtain ⟨f24, ef24⟩ : ∃ z, z = ac_up f q23 (.inr (3, [.null, .null, .int 0, .int 0])) := ⟨_, rfl⟩
      have h := h f24 ef24
      rw [← ef24]
      refine ac_dup d_X1_init_82 rfl ?_
      have hk := h.1
      have h := h.2
      refine ac_callIN cd_X3_init ml_X1_35 in_X3_init rfl (c_X3_init _ _ _ q23 f24 _ h) rfl rfl (by rw [hro]; constructor <;> simp only [ro_] <;> omega) rfl (rest := [.ref q23, .int x1, .ref o22]) rfl (Nat.le_of_ble_eq_true rfl) (by rw [hro]; exact hk) d_X1_init_83 (ac_V (fun f25 h => ?_))
      obtain ⟨f26, hr, h⟩ := h
      refine ak_aast 4 hr rfl rfl d_X1_init_86 ?_
      obtain ⟨v27, ev27⟩ : ∃ y : Int32, y = x1 + 1 := ⟨_, rfl⟩
      have h := h v27 ev27
      refine ac_iinc (j := 1) (lv' := [(1, .int v27), (0, .ref r0)]) d_X1_init_87 rfl (by rw [ev27]; rfl) (by decide) rfl ?_
      refine ac_goto (tgt := 68) d_X1_init_90 (by decide) ?_
      refine ac_weak [1, 0] rfl ?_
      exact ih v27 (kc + 1 + 2) (ks + 4 + 4) f26 h

set_option maxRecDepth 20000 in
set_option maxHeartbeats 4000000 in
theorem c_X1_init (l : Launch) (D : va_G) (ki : Nat → ClassId) (r0 : Nat) (f : ac_hp) (Q : ac_hp → Prop) (h : wp_X1_init ki r0 f Q) : ac_met l D ki y_X1_init prog_3_method_1_code 2 none (ro_ 2 51 616) [.ref r0] f (qr_V Q) 51 616 := by
  refine ac_enter (fun ki => wp_X1_init ki r0 f Q) (by decide) (Nat.le_of_ble_eq_true rfl) h ?_
  intro x hro hR hnm h
  unfold wp_X1_init at h
  refine ac_aload_n 0 d_X1_init_0 rfl rfl ?_
  refine ac_objInit oi_X1_3 oi_inst oi_code (by rw [hro]; decide) (by rw [hro]; decide) d_X1_init_1 ?_
  refine ac_aload_n 0 d_X1_init_4 rfl rfl ?_
  refine ac_iconst (v := 4) d_X1_init_5 rfl ?_
  have hk := h.1
  have h := h.2
  refine ac_newq (N := 4) (t0 := 3) cq_X1_9 (by decide) rfl (by decide) (by decide) (by decide) (by rw [hro]; exact hk.1) (by rw [hro]; exact hk.2) d_X1_init_6 (fun q1 hq => ?_)
  have h := h q1 hq
  obtain ⟨f2, ef2⟩ : ∃ z, z = ac_up f q1 (.inl (ac_ki x 3, 4, .inr (.inr (.inr (.inr (fun _ => none)))))) := ⟨_, rfl⟩
  have h := h f2 ef2
  rw [← ef2]
  obtain ⟨f3, hr, h⟩ := h
  refine ak_putF hr fp_X1_11 hnm rfl rfl d_X1_init_9 ?_
  refine ac_aload_n 0 d_X1_init_12 rfl rfl ?_
  refine ac_bipush (v := 12) d_X1_init_13 rfl ?_
  have hk := h.1
  have h := h.2
  refine ac_newq (N := 12) (t0 := 4) cq_X1_17 (by decide) rfl (by decide) (by decide) (by decide) (by rw [hro]; exact hk.1) (by rw [hro]; exact hk.2) d_X1_init_15 (fun q4 hq => ?_)
  have h := h q4 hq
  obtain ⟨f5, ef5⟩ : ∃ z, z = ac_up f3 q4 (.inl (ac_ki x 4, 12, .inr (.inr (.inr (.inr (fun _ => none)))))) := ⟨_, rfl⟩
  have h := h f5 ef5
  rw [← ef5]
  obtain ⟨f6, hr, h⟩ := h
  refine ak_putF hr fp_X1_19 hnm rfl rfl d_X1_init_18 ?_
  refine ac_aload_n 0 d_X1_init_21 rfl rfl ?_
  refine ac_sipush (v := 240) d_X1_init_22 rfl ?_
  have hk := h.1
  have h := h.2
  refine ac_newa (a0 := (240, .inr (.inl (fun _ => 0)))) (t0 := 2) ka_J rfl rfl (fun _ => rfl) (by decide) (by decide) (by decide) (by rw [hro]; exact hk.1) (by rw [hro]; exact hk.2) d_X1_init_25 (fun q7 hq => ?_)
  have h := h q7 hq
  obtain ⟨f8, ef8⟩ : ∃ z, z = ac_up f6 q7 (.inl (ac_ki x 2, 240, .inr (.inl (fun _ => 0)))) := ⟨_, rfl⟩
  have h := h f8 ef8
  rw [← ef8]
  obtain ⟨f9, hr, h⟩ := h
  refine ak_putF hr fp_X1_23 hnm rfl rfl d_X1_init_27 ?_
  refine ac_aload_n 0 d_X1_init_30 rfl rfl ?_
  refine ac_iconst (v := 0) d_X1_init_31 rfl ?_
  obtain ⟨f10, hr, h⟩ := h
  refine ak_putf hr fp_X1_27 rfl rfl d_X1_init_32 ?_
  refine ac_aload_n 0 d_X1_init_35 rfl rfl ?_
  refine ac_iconst (v := 0) d_X1_init_36 rfl ?_
  obtain ⟨f11, hr, h⟩ := h
  refine ak_putf hr fp_X1_31 rfl rfl d_X1_init_37 ?_
  refine ac_iconst (v := 0) d_X1_init_40 rfl ?_
  refine ac_istore_n (lv' := [(1, .int 0), (0, .ref r0)]) d_X1_init_41 rfl (by decide) rfl ?_
  obtain ⟨n18, h⟩ := h
  refine ac_weak [1, 0] rfl ?_
  refine ok_X1_init_L42 hro hnm r0 _ (fun kc20 ks21 f19 h => ?_) n18 0 3 256 f11 h
  · skip
    refine ac_iconst (v := 0) d_X1_init_66 rfl ?_
    refine ac_istore_n (lv' := [(1, .int 0), (0, .ref r0)]) d_X1_init_67 rfl (by decide) rfl ?_
    obtain ⟨n28, h⟩ := h
    refine ac_weak [1, 0] rfl ?_
    refine ok_X1_init_L68 hro hnm r0 _ (fun kc30 ks31 f29 h => ?_) n28 0 kc20 ks21 f19 h
    · skip
      have hk := h.1
      have h := h.2
      exact ac_vreturn hR ⟨rfl, h⟩ hk.1 hk.2 d_X1_init_93

