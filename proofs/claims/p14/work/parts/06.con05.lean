def wp_X0_found (ki : Nat → ClassId) (r0 : Nat) (x1 : Int32) (x2 : Int32) (f : ac_hp) (Q : Int32 → ac_hp → Prop) : Prop := ∃ o1 : Nat, hr_f f r0 0 4 (.ref o1) ∧ ∃ v2 : Int32, hr_f f o1 7 4 (.int v2) ∧ wp_X0_isBelow ki x1 v2 f (fun v4 f3 => ((v4 = 0 → Q (-1) f3) ∧ (¬ v4 = 0 → wp_X0_isBelow ki x2 2 f3 (fun v6 f5 => ((¬ v6 = 0 → ((¬ x2 = 0 → ∃ o7 : Nat, hr_f f5 r0 0 4 (.ref o7) ∧ hr_o f5 o7 7 ∧ wp_X7_firstFinder ki o7 x1 f5 (fun v9 f8 => Q v9 f8)) ∧ (x2 = 0 → ∃ o10 : Nat, hr_f f5 r0 0 4 (.ref o10) ∧ hr_o f5 o10 7 ∧ wp_X7_finders ki o10 x1 f5 (fun v12 f11 => Q v12 f11)))) ∧ (v6 = 0 → Q (-1) f5))))))

set_option maxRecDepth 20000 in
set_option maxHeartbeats 4000000 in
theorem c_X0_found (l : Launch) (D : va_G) (ki : Nat → ClassId) (r0 : Nat) (x1 : Int32) (x2 : Int32) (f : ac_hp) (Q : Int32 → ac_hp → Prop) (h : wp_X0_found ki r0 x1 x2 f Q) : ac_met l D ki y_X0_found prog_1_method_15_code 3 (some .int) (ro_ 2 0 0) [.ref r0, .int x1, .int x2] f (qr_I Q) 0 0 := by
  refine ac_enter (fun ki => wp_X0_found ki r0 x1 x2 f Q) (by decide) (Nat.le_of_ble_eq_true rfl) h ?_
  intro x hro hR hnm h
  unfold wp_X0_found at h
  refine ac_iload_n 1 d_X0_found_0 rfl rfl ?_
  refine ac_aload_n 0 d_X0_found_1 rfl rfl ?_
  obtain ⟨o1, hr, h⟩ := h
  refine ak_getf hr fl_X0_44 d_X0_found_2 ?_
  obtain ⟨v2, hr, h⟩ := h
  refine ak_getf hr fl_X0_171 d_X0_found_5 ?_
  refine ac_callS0 cd_X0_isBelow ml_X0_57 st_X0_isBelow (c_X0_isBelow _ _ _ x1 v2 f _ h) rfl rfl (by rw [hro]; decide) rfl (rest := []) rfl (Nat.le_of_ble_eq_true rfl) (by rw [hro]; decide) d_X0_found_8 (ac_I (fun v4 f3 h => ?_))
  refine ac_if_eq (tgt := 22) d_X0_found_11 (by decide) (fun hc => ?_) (fun hc => ?_)
  · have h := h.1 hc
    refine ac_iconst (v := -1) d_X0_found_22 rfl ?_
    exact ac_ireturn hR rfl ⟨_, rfl, h⟩ (by decide) (by decide) d_X0_found_23
  · have h := h.2 hc
    refine ac_iload_n 2 d_X0_found_14 rfl rfl ?_
    refine ac_iconst (v := 2) d_X0_found_15 rfl ?_
    refine ac_callS0 cd_X0_isBelow ml_X0_57 st_X0_isBelow (c_X0_isBelow _ _ _ x2 2 f3 _ h) rfl rfl (by rw [hro]; decide) rfl (rest := []) rfl (Nat.le_of_ble_eq_true rfl) (by rw [hro]; decide) d_X0_found_16 (ac_I (fun v6 f5 h => ?_))
    refine ac_if_ne (tgt := 24) d_X0_found_19 (by decide) (fun hc => ?_) (fun hc => ?_)
    · have h := h.1 hc
      refine ac_iload_n 2 d_X0_found_24 rfl rfl ?_
      refine ac_if_ne (tgt := 39) d_X0_found_25 (by decide) (fun hc => ?_) (fun hc => ?_)
      · have h := h.1 hc
        refine ac_aload_n 0 d_X0_found_39 rfl rfl ?_
        obtain ⟨o7, hr, h⟩ := h
        refine ak_getf hr fl_X0_44 d_X0_found_40 ?_
        refine ac_iload_n 1 d_X0_found_43 rfl rfl ?_
        obtain ⟨⟨fs, hb⟩, h⟩ := h
        refine ac_callV0 cd_X7_firstFinder ml_X0_190 in_X7_firstFinder se_X7_firstFinder rfl hb (c_X7_firstFinder _ _ _ o7 x1 f5 _ h) rfl rfl (by rw [hro]; decide) rfl (rest := []) rfl (Nat.le_of_ble_eq_true rfl) (by rw [hro]; decide) d_X0_found_44 (ac_I (fun v9 f8 h => ?_))
        exact ac_ireturn hR rfl ⟨_, rfl, h⟩ (by decide) (by decide) d_X0_found_47
      · have h := h.2 hc
        refine ac_aload_n 0 d_X0_found_28 rfl rfl ?_
        obtain ⟨o10, hr, h⟩ := h
        refine ak_getf hr fl_X0_44 d_X0_found_29 ?_
        refine ac_iload_n 1 d_X0_found_32 rfl rfl ?_
        obtain ⟨⟨fs, hb⟩, h⟩ := h
        refine ac_callV0 cd_X7_finders ml_X0_187 in_X7_finders se_X7_finders rfl hb (c_X7_finders _ _ _ o10 x1 f5 _ h) rfl rfl (by rw [hro]; decide) rfl (rest := []) rfl (Nat.le_of_ble_eq_true rfl) (by rw [hro]; decide) d_X0_found_33 (ac_I (fun v12 f11 h => ?_))
        refine ac_goto (tgt := 47) d_X0_found_36 (by decide) ?_
        exact ac_ireturn hR rfl ⟨_, rfl, h⟩ (by decide) (by decide) d_X0_found_47
    · have h := h.2 hc
      refine ac_iconst (v := -1) d_X0_found_22 rfl ?_
      exact ac_ireturn hR rfl ⟨_, rfl, h⟩ (by decide) (by decide) d_X0_found_23

def wp_X0_value (ki : Nat → ClassId) (r0 : Nat) (x1 : Int32) (x2 : Int32) (f : ac_hp) (Q : Int32 → ac_hp → Prop) : Prop := ∃ o1 : Nat, hr_f f r0 0 4 (.ref o1) ∧ ∃ v2 : Int32, hr_f f o1 7 4 (.int v2) ∧ wp_X0_isBelow ki x1 v2 f (fun v4 f3 => ((v4 = 0 → Q (-1) f3) ∧ (¬ v4 = 0 → wp_X0_isBelow ki x2 6 f3 (fun v6 f5 => ((¬ v6 = 0 → ∃ o7 : Nat, hr_f f5 r0 0 4 (.ref o7) ∧ ∃ v8 : Int32, hr_f f5 o7 7 5 (.int v8) ∧ wp_X0_has ki v8 x2 f5 (fun v10 f9 => ((¬ v10 = 0 → ∃ o11 : Nat, hr_f f9 r0 0 4 (.ref o11) ∧ hr_o f9 o11 7 ∧ wp_X7_code ki o11 x1 x2 f9 (fun v13 f12 => Q v13 f12)) ∧ (v10 = 0 → False)))) ∧ (v6 = 0 → Q (-1) f5))))))

set_option maxRecDepth 20000 in
set_option maxHeartbeats 4000000 in
theorem c_X0_value (l : Launch) (D : va_G) (ki : Nat → ClassId) (r0 : Nat) (x1 : Int32) (x2 : Int32) (f : ac_hp) (Q : Int32 → ac_hp → Prop) (h : wp_X0_value ki r0 x1 x2 f Q) : ac_met l D ki y_X0_value prog_1_method_14_code 3 (some .int) (ro_ 2 0 0) [.ref r0, .int x1, .int x2] f (qr_I Q) 0 0 := by
  refine ac_enter (fun ki => wp_X0_value ki r0 x1 x2 f Q) (by decide) (Nat.le_of_ble_eq_true rfl) h ?_
  intro x hro hR hnm h
  unfold wp_X0_value at h
  refine ac_iload_n 1 d_X0_value_0 rfl rfl ?_
  refine ac_aload_n 0 d_X0_value_1 rfl rfl ?_
  obtain ⟨o1, hr, h⟩ := h
  refine ak_getf hr fl_X0_44 d_X0_value_2 ?_
  obtain ⟨v2, hr, h⟩ := h
  refine ak_getf hr fl_X0_171 d_X0_value_5 ?_
  refine ac_callS0 cd_X0_isBelow ml_X0_57 st_X0_isBelow (c_X0_isBelow _ _ _ x1 v2 f _ h) rfl rfl (by rw [hro]; decide) rfl (rest := []) rfl (Nat.le_of_ble_eq_true rfl) (by rw [hro]; decide) d_X0_value_8 (ac_I (fun v4 f3 h => ?_))
  refine ac_if_eq (tgt := 23) d_X0_value_11 (by decide) (fun hc => ?_) (fun hc => ?_)
  · have h := h.1 hc
    refine ac_iconst (v := -1) d_X0_value_23 rfl ?_
    exact ac_ireturn hR rfl ⟨_, rfl, h⟩ (by decide) (by decide) d_X0_value_24
  · have h := h.2 hc
    refine ac_iload_n 2 d_X0_value_14 rfl rfl ?_
    refine ac_bipush (v := 6) d_X0_value_15 rfl ?_
    refine ac_callS0 cd_X0_isBelow ml_X0_57 st_X0_isBelow (c_X0_isBelow _ _ _ x2 6 f3 _ h) rfl rfl (by rw [hro]; decide) rfl (rest := []) rfl (Nat.le_of_ble_eq_true rfl) (by rw [hro]; decide) d_X0_value_17 (ac_I (fun v6 f5 h => ?_))
    refine ac_if_ne (tgt := 25) d_X0_value_20 (by decide) (fun hc => ?_) (fun hc => ?_)
    · have h := h.1 hc
      refine ac_aload_n 0 d_X0_value_25 rfl rfl ?_
      obtain ⟨o7, hr, h⟩ := h
      refine ak_getf hr fl_X0_44 d_X0_value_26 ?_
      obtain ⟨v8, hr, h⟩ := h
      refine ak_getf hr fl_X0_172 d_X0_value_29 ?_
      refine ac_iload_n 2 d_X0_value_32 rfl rfl ?_
      refine ac_callS0 cd_X0_has ml_X0_174 st_X0_has (c_X0_has _ _ _ v8 x2 f5 _ h) rfl rfl (by rw [hro]; decide) rfl (rest := []) rfl (Nat.le_of_ble_eq_true rfl) (by rw [hro]; decide) d_X0_value_33 (ac_I (fun v10 f9 h => ?_))
      refine ac_if_ne (tgt := 49) d_X0_value_36 (by decide) (fun hc => ?_) (fun hc => ?_)
      · have h := h.1 hc
        refine ac_aload_n 0 d_X0_value_49 rfl rfl ?_
        obtain ⟨o11, hr, h⟩ := h
        refine ak_getf hr fl_X0_44 d_X0_value_50 ?_
        refine ac_iload_n 1 d_X0_value_53 rfl rfl ?_
        refine ac_iload_n 2 d_X0_value_54 rfl rfl ?_
        obtain ⟨⟨fs, hb⟩, h⟩ := h
        refine ac_callV0 cd_X7_code ml_X0_184 in_X7_code se_X7_code rfl hb (c_X7_code _ _ _ o11 x1 x2 f9 _ h) rfl rfl (by rw [hro]; decide) rfl (rest := []) rfl (Nat.le_of_ble_eq_true rfl) (by rw [hro]; decide) d_X0_value_55 (ac_I (fun v13 f12 h => ?_))
        exact ac_ireturn hR rfl ⟨_, rfl, h⟩ (by decide) (by decide) d_X0_value_58
      · have h := h.2 hc
        exact h.elim
    · have h := h.2 hc
      refine ac_iconst (v := -1) d_X0_value_23 rfl ?_
      exact ac_ireturn hR rfl ⟨_, rfl, h⟩ (by decide) (by decide) d_X0_value_24

def wp_X0_init (ki : Nat → ClassId) (r0 : Nat) (f : ac_hp) (Q : ac_hp → Prop) : Prop := ((0 : Nat) + 1 ≤ 77 ∧ (0 : Nat) + 5 ≤ 4130) ∧ ∀ q1 : Nat, f q1 = none → ∀ f2 : ac_hp, f2 = ac_up f q1 (.inr (1, [.null, .null, .null, .int 0, .int 0])) → ((1 : Nat) + 51 ≤ 77 ∧ (5 : Nat) + 616 ≤ 4130) ∧ wp_X1_init ki q1 f2 (fun f3 => ∃ f4 : ac_hp, hw_f f3 r0 0 0 (.ref q1) f4 ∧ ((52 : Nat) + 1 ≤ 77 ∧ (621 : Nat) + 6 ≤ 4130) ∧ ∀ q5 : Nat, f4 q5 = none → ∀ f6 : ac_hp, f6 = ac_up f4 q5 (.inr (4, [.null, .null, .null, .null, .int 0, .int 0])) → ((53 : Nat) + 4 ≤ 77 ∧ (627 : Nat) + 24 ≤ 4130) ∧ wp_X4_init ki q5 f6 (fun f7 => ∃ f8 : ac_hp, hw_f f7 r0 0 1 (.ref q5) f8 ∧ ((57 : Nat) + 1 ≤ 77 ∧ (651 : Nat) + 8 ≤ 4130) ∧ ∀ q9 : Nat, f8 q9 = none → ∀ f10 : ac_hp, f10 = ac_up f8 q9 (.inr (5, [.null, .null, .null, .null, .null, .int 0, .int 0, .int 0])) → ∃ o11 : Nat, hr_f f10 r0 0 0 (.ref o11) ∧ ∃ o12 : Nat, hr_f f10 r0 0 1 (.ref o12) ∧ ((58 : Nat) + 3 ≤ 77 ∧ (659 : Nat) + 610 ≤ 4130) ∧ wp_X5_init ki q9 o11 o12 f10 (fun f13 => ∃ f14 : ac_hp, hw_f f13 r0 0 2 (.ref q9) f14 ∧ ((61 : Nat) + 1 ≤ 77 ∧ (1269 : Nat) + 5 ≤ 4130) ∧ ∀ q15 : Nat, f14 q15 = none → ∀ f16 : ac_hp, f16 = ac_up f14 q15 (.inr (6, [.null, .null, .null, .null, .int 0])) → ∃ o17 : Nat, hr_f f16 r0 0 0 (.ref o17) ∧ ∃ o18 : Nat, hr_f f16 r0 0 1 (.ref o18) ∧ ∃ o19 : Nat, hr_f f16 r0 0 2 (.ref o19) ∧ ((62 : Nat) + 1 ≤ 77 ∧ (1274 : Nat) + 4 ≤ 4130) ∧ wp_X6_init ki q15 o17 o18 o19 f16 (fun f20 => ∃ f21 : ac_hp, hw_f f20 r0 0 3 (.ref q15) f21 ∧ ((63 : Nat) + 1 ≤ 77 ∧ (1278 : Nat) + 7 ≤ 4130) ∧ ∀ q22 : Nat, f21 q22 = none → ∀ f23 : ac_hp, f23 = ac_up f21 q22 (.inr (7, [.null, .null, .null, .null, .int 0, .int 0, .int 0])) → ((64 : Nat) + 4 ≤ 77 ∧ (1285 : Nat) + 2700 ≤ 4130) ∧ wp_X7_init ki q22 f23 (fun f24 => ∃ f25 : ac_hp, hw_f f24 r0 0 4 (.ref q22) f25 ∧ ((68 : Nat) + 1 ≤ 77 ∧ (3985 : Nat) + 13 ≤ 4130) ∧ ∀ q26 : Nat, f25 q26 = none → ∀ f27 : ac_hp, f27 = ac_up f25 q26 (.inr (8, [.null, .null, .null, .null, .null, .null, .null, .null, .null, .null, .null, .null, .int 0])) → ∃ o28 : Nat, hr_f f27 r0 0 1 (.ref o28) ∧ ∃ o29 : Nat, hr_f f27 r0 0 2 (.ref o29) ∧ ∃ o30 : Nat, hr_f f27 r0 0 3 (.ref o30) ∧ ∃ o31 : Nat, hr_f f27 r0 0 4 (.ref o31) ∧ ((69 : Nat) + 8 ≤ 77 ∧ (3998 : Nat) + 132 ≤ 4130) ∧ wp_X8_init ki q26 o28 o29 o30 o31 f27 (fun f32 => ∃ f33 : ac_hp, hw_f f32 r0 0 5 (.ref q26) f33 ∧ ((77 : Nat) ≤ 77 ∧ (4130 : Nat) ≤ 4130) ∧ Q f33))))))

set_option maxRecDepth 20000 in
set_option maxHeartbeats 4000000 in
theorem c_X0_init (l : Launch) (D : va_G) (ki : Nat → ClassId) (r0 : Nat) (f : ac_hp) (Q : ac_hp → Prop) (h : wp_X0_init ki r0 f Q) : ac_met l D ki y_X0_init prog_1_method_1_code 1 none (ro_ 3 77 4130) [.ref r0] f (qr_V Q) 77 4130 := by
  refine ac_enter (fun ki => wp_X0_init ki r0 f Q) (by decide) (Nat.le_of_ble_eq_true rfl) h ?_
  intro x hro hR hnm h
  unfold wp_X0_init at h
  refine ac_aload_n 0 d_X0_init_0 rfl rfl ?_
  refine ac_objInit oi_X0_3 oi_inst oi_code (by rw [hro]; decide) (by rw [hro]; decide) d_X0_init_1 ?_
  refine ac_aload_n 0 d_X0_init_4 rfl rfl ?_
  have hk := h.1
  have h := h.2
  refine ac_newo cn_X0_9 (by rw [hro]; exact hk.1) (by rw [hro]; exact hk.2) d_X0_init_5 (fun q1 hq => ?_)
  have h := h q1 hq
  obtain ⟨f2, ef2⟩ : ∃ z, z = ac_up f q1 (.inr (1, [.null, .null, .null, .int 0, .int 0])) := ⟨_, rfl⟩
  have h := h f2 ef2
  rw [← ef2]
  refine ac_dup d_X0_init_8 rfl ?_
  have hk := h.1
  have h := h.2
  refine ac_callI cd_X1_init ml_X0_11 in_X1_init rfl (c_X1_init _ _ _ q1 f2 _ h) rfl rfl (by rw [hro]; constructor <;> simp only [ro_] <;> omega) rfl (rest := [.ref q1, .ref r0]) rfl (Nat.le_of_ble_eq_true rfl) (by rw [hro]; exact hk) d_X0_init_9 (ac_V (fun f3 h => ?_))
  obtain ⟨f4, hr, h⟩ := h
  refine ak_putF hr fp_X0_12 hnm rfl rfl d_X0_init_12 ?_
  refine ac_aload_n 0 d_X0_init_15 rfl rfl ?_
  have hk := h.1
  have h := h.2
  refine ac_newo cn_X0_16 (by rw [hro]; exact hk.1) (by rw [hro]; exact hk.2) d_X0_init_16 (fun q5 hq => ?_)
  have h := h q5 hq
  obtain ⟨f6, ef6⟩ : ∃ z, z = ac_up f4 q5 (.inr (4, [.null, .null, .null, .null, .int 0, .int 0])) := ⟨_, rfl⟩
  have h := h f6 ef6
  rw [← ef6]
  refine ac_dup d_X0_init_19 rfl ?_
  have hk := h.1
  have h := h.2
  refine ac_callI cd_X4_init ml_X0_18 in_X4_init rfl (c_X4_init _ _ _ q5 f6 _ h) rfl rfl (by rw [hro]; constructor <;> simp only [ro_] <;> omega) rfl (rest := [.ref q5, .ref r0]) rfl (Nat.le_of_ble_eq_true rfl) (by rw [hro]; exact hk) d_X0_init_20 (ac_V (fun f7 h => ?_))
  obtain ⟨f8, hr, h⟩ := h
  refine ak_putF hr fp_X0_19 hnm rfl rfl d_X0_init_23 ?_
  refine ac_aload_n 0 d_X0_init_26 rfl rfl ?_
  have hk := h.1
  have h := h.2
  refine ac_newo cn_X0_23 (by rw [hro]; exact hk.1) (by rw [hro]; exact hk.2) d_X0_init_27 (fun q9 hq => ?_)
  have h := h q9 hq
  obtain ⟨f10, ef10⟩ : ∃ z, z = ac_up f8 q9 (.inr (5, [.null, .null, .null, .null, .null, .int 0, .int 0, .int 0])) := ⟨_, rfl⟩
  have h := h f10 ef10
  rw [← ef10]
  refine ac_dup d_X0_init_30 rfl ?_
  refine ac_aload_n 0 d_X0_init_31 rfl rfl ?_
  obtain ⟨o11, hr, h⟩ := h
  refine ak_getf hr fl_X0_12 d_X0_init_32 ?_
  refine ac_aload_n 0 d_X0_init_35 rfl rfl ?_
  obtain ⟨o12, hr, h⟩ := h
  refine ak_getf hr fl_X0_19 d_X0_init_36 ?_
  have hk := h.1
  have h := h.2
  refine ac_callI cd_X5_init ml_X0_25 in_X5_init rfl (c_X5_init _ _ _ q9 o11 o12 f10 _ h) rfl rfl (by rw [hro]; constructor <;> simp only [ro_] <;> omega) rfl (rest := [.ref q9, .ref r0]) rfl (Nat.le_of_ble_eq_true rfl) (by rw [hro]; exact hk) d_X0_init_39 (ac_V (fun f13 h => ?_))
  obtain ⟨f14, hr, h⟩ := h
  refine ak_putF hr fp_X0_28 hnm rfl rfl d_X0_init_42 ?_
  refine ac_aload_n 0 d_X0_init_45 rfl rfl ?_
  have hk := h.1
  have h := h.2
  refine ac_newo cn_X0_32 (by rw [hro]; exact hk.1) (by rw [hro]; exact hk.2) d_X0_init_46 (fun q15 hq => ?_)
  have h := h q15 hq
  obtain ⟨f16, ef16⟩ : ∃ z, z = ac_up f14 q15 (.inr (6, [.null, .null, .null, .null, .int 0])) := ⟨_, rfl⟩
  have h := h f16 ef16
  rw [← ef16]
  refine ac_dup d_X0_init_49 rfl ?_
  refine ac_aload_n 0 d_X0_init_50 rfl rfl ?_
  obtain ⟨o17, hr, h⟩ := h
  refine ak_getf hr fl_X0_12 d_X0_init_51 ?_
  refine ac_aload_n 0 d_X0_init_54 rfl rfl ?_
  obtain ⟨o18, hr, h⟩ := h
  refine ak_getf hr fl_X0_19 d_X0_init_55 ?_
  refine ac_aload_n 0 d_X0_init_58 rfl rfl ?_
  obtain ⟨o19, hr, h⟩ := h
  refine ak_getf hr fl_X0_28 d_X0_init_59 ?_
  have hk := h.1
  have h := h.2
  refine ac_callI cd_X6_init ml_X0_34 in_X6_init rfl (c_X6_init _ _ _ q15 o17 o18 o19 f16 _ h) rfl rfl (by rw [hro]; constructor <;> simp only [ro_] <;> omega) rfl (rest := [.ref q15, .ref r0]) rfl (Nat.le_of_ble_eq_true rfl) (by rw [hro]; exact hk) d_X0_init_62 (ac_V (fun f20 h => ?_))
  obtain ⟨f21, hr, h⟩ := h
  refine ak_putF hr fp_X0_37 hnm rfl rfl d_X0_init_65 ?_
  refine ac_aload_n 0 d_X0_init_68 rfl rfl ?_
  have hk := h.1
  have h := h.2
  refine ac_newo cn_X0_41 (by rw [hro]; exact hk.1) (by rw [hro]; exact hk.2) d_X0_init_69 (fun q22 hq => ?_)
  have h := h q22 hq
  obtain ⟨f23, ef23⟩ : ∃ z, z = ac_up f21 q22 (.inr (7, [.null, .null, .null, .null, .int 0, .int 0, .int 0])) := ⟨_, rfl⟩
  have h := h f23 ef23
  rw [← ef23]
  refine ac_dup d_X0_init_72 rfl ?_
  have hk := h.1
  have h := h.2
  refine ac_callIN cd_X7_init ml_X0_43 in_X7_init rfl (c_X7_init _ _ _ q22 f23 _ h) rfl rfl (by rw [hro]; constructor <;> simp only [ro_] <;> omega) rfl (rest := [.ref q22, .ref r0]) rfl (Nat.le_of_ble_eq_true rfl) (by rw [hro]; exact hk) d_X0_init_73 (ac_V (fun f24 h => ?_))
  obtain ⟨f25, hr, h⟩ := h
  refine ak_putF hr fp_X0_44 hnm rfl rfl d_X0_init_76 ?_
  refine ac_aload_n 0 d_X0_init_79 rfl rfl ?_
  have hk := h.1
  have h := h.2
  refine ac_newo cn_X0_48 (by rw [hro]; exact hk.1) (by rw [hro]; exact hk.2) d_X0_init_80 (fun q26 hq => ?_)
  have h := h q26 hq
  obtain ⟨f27, ef27⟩ : ∃ z, z = ac_up f25 q26 (.inr (8, [.null, .null, .null, .null, .null, .null, .null, .null, .null, .null, .null, .null, .int 0])) := ⟨_, rfl⟩
  have h := h f27 ef27
  rw [← ef27]
  refine ac_dup d_X0_init_83 rfl ?_
  refine ac_aload_n 0 d_X0_init_84 rfl rfl ?_
  obtain ⟨o28, hr, h⟩ := h
  refine ak_getf hr fl_X0_19 d_X0_init_85 ?_
  refine ac_aload_n 0 d_X0_init_88 rfl rfl ?_
  obtain ⟨o29, hr, h⟩ := h
  refine ak_getf hr fl_X0_28 d_X0_init_89 ?_
  refine ac_aload_n 0 d_X0_init_92 rfl rfl ?_
  obtain ⟨o30, hr, h⟩ := h
  refine ak_getf hr fl_X0_37 d_X0_init_93 ?_
  refine ac_aload_n 0 d_X0_init_96 rfl rfl ?_
  obtain ⟨o31, hr, h⟩ := h
  refine ak_getf hr fl_X0_44 d_X0_init_97 ?_
  have hk := h.1
  have h := h.2
  refine ac_callI cd_X8_init ml_X0_50 in_X8_init rfl (c_X8_init _ _ _ q26 o28 o29 o30 o31 f27 _ h) rfl rfl (by rw [hro]; constructor <;> simp only [ro_] <;> omega) rfl (rest := [.ref q26, .ref r0]) rfl (Nat.le_of_ble_eq_true rfl) (by rw [hro]; exact hk) d_X0_init_100 (ac_V (fun f32 h => ?_))
  obtain ⟨f33, hr, h⟩ := h
  refine ak_putF hr fp_X0_53 hnm rfl rfl d_X0_init_103 ?_
  have hk := h.1
  have h := h.2
  exact ac_vreturn hR ⟨rfl, h⟩ hk.1 hk.2 d_X0_init_106

def wp_X2_repeats_L2 (ki : Nat → ClassId) (r0 : Nat) (x1 : Int32) (Q : Int32 → ac_hp → Prop) (E33 : ac_hp → Prop) : Nat → Int32 → ac_hp → Prop
  | 0, _, _ => False
  | n + 1, x2, f => ∃ v1 : Int32, hr_f f r0 2 2 (.int v1) ∧ ((v1 ≤ x2 → E33  f) ∧ (¬ v1 ≤ x2 → hr_o f r0 2 ∧ wp_X2_cell ki r0 x2 x1 f (fun v3 f2 => hr_o f2 r0 2 ∧ wp_X2_holds ki r0 x1 v3 x2 f2 (fun v5 f4 => ((v5 = 0 → ∀ v6 : Int32, v6 = x2 + 1 → wp_X2_repeats_L2 ki r0 x1 Q E33 n v6 f4) ∧ (¬ v5 = 0 → Q 1 f4))))))

def wp_X2_repeats (ki : Nat → ClassId) (r0 : Nat) (x1 : Int32) (f : ac_hp) (Q : Int32 → ac_hp → Prop) : Prop := ∃ n7 : Nat, wp_X2_repeats_L2 ki r0 x1 Q (fun f8 => Q 0 f8) n7 1 f

set_option maxRecDepth 20000 in
set_option maxHeartbeats 4000000 in
theorem ok_X2_repeats_L2 {x : ac_X} (hro : ac_R x = (ro_ 3 0 0)) (r0 : Nat) (x1 : Int32) (Q : Int32 → ac_hp → Prop) (hR : ac_rt x (some .boolean) (qr_I Q) 0 0) (E33 : ac_hp → Prop) (hE33 : ∀ (f : ac_hp), E33 f → ac_At (prog_9_method_4_code, 3, "VirtualRewrite$Table") x 0 0 33 [] [] f) : ∀ (n : Nat) (x2 : Int32) (f : ac_hp), wp_X2_repeats_L2 (ac_ki x) r0 x1 Q E33 n x2 f → ac_At (prog_9_method_4_code, 3, "VirtualRewrite$Table") x 0 0 2 [(0, .ref r0), (1, .int x1), (2, .int x2)] [] f := by
  intro n
  induction n with
  | zero => intro _ _ h; exact h.elim
  | succ n ih =>
    intro x2 f h
    rw [wp_X2_repeats_L2] at h
    refine ac_iload_n 2 d_X2_repeats_2 rfl rfl ?_
    refine ac_aload_n 0 d_X2_repeats_3 rfl rfl ?_
    obtain ⟨v1, hr, h⟩ := h
    refine ak_getf hr fl_X2_19 d_X2_repeats_4 ?_
    refine ac_icmp_ge (tgt := 33) d_X2_repeats_7 (by decide) (fun hc => ?_) (fun hc => ?_)
    · have h := h.1 hc
      refine ac_weak [] rfl ?_
      exact hE33  f h
    · have h := h.2 hc
      refine ac_aload_n 0 d_X2_repeats_10 rfl rfl ?_
      refine ac_iload_n 1 d_X2_repeats_11 rfl rfl ?_
      refine ac_aload_n 0 d_X2_repeats_12 rfl rfl ?_
      refine ac_iload_n 2 d_X2_repeats_13 rfl rfl ?_
      refine ac_iload_n 1 d_X2_repeats_14 rfl rfl ?_
      obtain ⟨⟨fs, hb⟩, h⟩ := h
      refine ac_callV0 cd_X2_cell ml_X2_23 in_X2_cell se_X2_cell rfl hb (c_X2_cell _ _ _ r0 x2 x1 f _ h) rfl rfl (by rw [hro]; decide) rfl (rest := [.int x1, .ref r0]) rfl (Nat.le_of_ble_eq_true rfl) (by rw [hro]; decide) d_X2_repeats_15 (ac_I (fun v3 f2 h => ?_))
      refine ac_iload_n 2 d_X2_repeats_18 rfl rfl ?_
      obtain ⟨⟨fs, hb⟩, h⟩ := h
      refine ac_callV0 cd_X2_holds ml_X2_27 in_X2_holds se_X2_holds rfl hb (c_X2_holds _ _ _ r0 x1 v3 x2 f2 _ h) rfl rfl (by rw [hro]; decide) rfl (rest := []) rfl (Nat.le_of_ble_eq_true rfl) (by rw [hro]; decide) d_X2_repeats_19 (ac_I (fun v5 f4 h => ?_))
      refine ac_if_eq (tgt := 27) d_X2_repeats_22 (by decide) (fun hc => ?_) (fun hc => ?_)
      · have h := h.1 hc
        obtain ⟨v6, ev6⟩ : ∃ y : Int32, y = x2 + 1 := ⟨_, rfl⟩
        have h := h v6 ev6
        refine ac_iinc (j := 2) (lv' := [(2, .int v6), (0, .ref r0), (1, .int x1)]) d_X2_repeats_27 rfl (by rw [ev6]; rfl) (by decide) rfl ?_
        refine ac_goto (tgt := 2) d_X2_repeats_30 (by decide) ?_
        refine ac_weak [1, 2, 0] rfl ?_
        exact ih v6 f4 h
      · have h := h.2 hc
        refine ac_iconst (v := 1) d_X2_repeats_25 rfl ?_
        exact ac_ireturn hR rfl ⟨_, rfl, h⟩ (by decide) (by decide) d_X2_repeats_26

set_option maxRecDepth 20000 in
set_option maxHeartbeats 4000000 in
theorem c_X2_repeats (l : Launch) (D : va_G) (ki : Nat → ClassId) (r0 : Nat) (x1 : Int32) (f : ac_hp) (Q : Int32 → ac_hp → Prop) (h : wp_X2_repeats ki r0 x1 f Q) : ac_met l D ki y_X2_repeats prog_9_method_4_code 3 (some .boolean) (ro_ 3 0 0) [.ref r0, .int x1] f (qr_I Q) 0 0 := by
  refine ac_enter (fun ki => wp_X2_repeats ki r0 x1 f Q) (by decide) (Nat.le_of_ble_eq_true rfl) h ?_
  intro x hro hR hnm h
  unfold wp_X2_repeats at h
  refine ac_iconst (v := 1) d_X2_repeats_0 rfl ?_
  refine ac_istore_n (lv' := [(2, .int 1), (0, .ref r0), (1, .int x1)]) d_X2_repeats_1 rfl (by decide) rfl ?_
  obtain ⟨n7, h⟩ := h
  refine ac_weak [1, 2, 0] rfl ?_
  refine ok_X2_repeats_L2 hro r0 x1 Q hR _ (fun f8 h => ?_) n7 1 f h
  · skip
    refine ac_iconst (v := 0) d_X2_repeats_33 rfl ?_
    exact ac_ireturn hR rfl ⟨_, rfl, h⟩ (by decide) (by decide) d_X2_repeats_34

def wp_X2_refuses (ki : Nat → ClassId) (r0 : Nat) (x1 : Int32) (x2 : Int32) (f : ac_hp) (Q : Int32 → ac_hp → Prop) : Prop := ∃ o1 : Nat, hr_f f r0 2 1 (.ref o1) ∧ ∃ v2 : Int32, hr_i (ki 1) f o1 x1 v2 ∧ ((v2 = 0 → Q 0 f) ∧ (¬ v2 = 0 → ∃ v3 : Int32, hr_f f r0 2 2 (.int v3) ∧ hr_o f r0 2 ∧ wp_X2_holds ki r0 x1 x2 v3 f (fun v5 f4 => ((v5 = 0 → Q 0 f4) ∧ (¬ v5 = 0 → Q 1 f4)))))

set_option maxRecDepth 20000 in
set_option maxHeartbeats 4000000 in
theorem c_X2_refuses (l : Launch) (D : va_G) (ki : Nat → ClassId) (r0 : Nat) (x1 : Int32) (x2 : Int32) (f : ac_hp) (Q : Int32 → ac_hp → Prop) (h : wp_X2_refuses ki r0 x1 x2 f Q) : ac_met l D ki y_X2_refuses prog_9_method_5_code 3 (some .boolean) (ro_ 3 0 0) [.ref r0, .int x1, .int x2] f (qr_I Q) 0 0 := by
  refine ac_enter (fun ki => wp_X2_refuses ki r0 x1 x2 f Q) (by decide) (Nat.le_of_ble_eq_true rfl) h ?_
  intro x hro hR hnm h
  unfold wp_X2_refuses at h
  refine ac_aload_n 0 d_X2_refuses_0 rfl rfl ?_
  obtain ⟨o1, hr, h⟩ := h
  refine ak_getf hr fl_X2_15 d_X2_refuses_1 ?_
  refine ac_iload_n 1 d_X2_refuses_4 rfl rfl ?_
  obtain ⟨v2, hr, h⟩ := h
  refine ak_zald 1 hr rfl d_X2_refuses_5 ?_
  refine ac_if_eq (tgt := 26) d_X2_refuses_6 (by decide) (fun hc => ?_) (fun hc => ?_)
  · have h := h.1 hc
    refine ac_iconst (v := 0) d_X2_refuses_26 rfl ?_
    exact ac_ireturn hR rfl ⟨_, rfl, h⟩ (by decide) (by decide) d_X2_refuses_27
  · have h := h.2 hc
    refine ac_aload_n 0 d_X2_refuses_9 rfl rfl ?_
    refine ac_iload_n 1 d_X2_refuses_10 rfl rfl ?_
    refine ac_iload_n 2 d_X2_refuses_11 rfl rfl ?_
    refine ac_aload_n 0 d_X2_refuses_12 rfl rfl ?_
    obtain ⟨v3, hr, h⟩ := h
    refine ak_getf hr fl_X2_19 d_X2_refuses_13 ?_
    obtain ⟨⟨fs, hb⟩, h⟩ := h
    refine ac_callV0 cd_X2_holds ml_X2_27 in_X2_holds se_X2_holds rfl hb (c_X2_holds _ _ _ r0 x1 x2 v3 f _ h) rfl rfl (by rw [hro]; decide) rfl (rest := []) rfl (Nat.le_of_ble_eq_true rfl) (by rw [hro]; decide) d_X2_refuses_16 (ac_I (fun v5 f4 h => ?_))
    refine ac_if_eq (tgt := 26) d_X2_refuses_19 (by decide) (fun hc => ?_) (fun hc => ?_)
    · have h := h.1 hc
      refine ac_iconst (v := 0) d_X2_refuses_26 rfl ?_
      exact ac_ireturn hR rfl ⟨_, rfl, h⟩ (by decide) (by decide) d_X2_refuses_27
    · have h := h.2 hc
      refine ac_iconst (v := 1) d_X2_refuses_22 rfl ?_
      refine ac_goto (tgt := 27) d_X2_refuses_23 (by decide) ?_
      exact ac_ireturn hR rfl ⟨_, rfl, h⟩ (by decide) (by decide) d_X2_refuses_27

def wp_X1_countTriples_L31 (ki : Nat → ClassId) (r0 : Nat) (x1 : Int32) (x2 : Int32) (E57 : ac_hp → Prop) : Nat → Int32 → ac_hp → Prop
  | 0, _, _ => False
  | n + 1, x3, f => ((x2 ≤ x3 → E57  f) ∧ (¬ x2 ≤ x3 → ∃ o8 : Nat, hr_f f r0 1 1 (.ref o8) ∧ ∃ o9 : Nat, hr_q (ki 4) f o8 x1 o9 ∧ hr_o f r0 1 ∧ wp_X1_packedTriple ki r0 o9 x3 f (fun v11 f10 => hr_o f10 r0 1 ∧ wp_X1_keepTriple ki r0 v11 f10 (fun f12 => ∀ v13 : Int32, v13 = x3 + 1 → wp_X1_countTriples_L31 ki r0 x1 x2 E57 n v13 f12))))

def wp_X1_countTriples_L7 (ki : Nat → ClassId) (r0 : Nat) (E63 : ac_hp → Prop) : Nat → Int32 → ac_hp → Prop
  | 0, _, _ => False
  | n + 1, x1, f => ∃ v2 : Int32, hr_f f r0 1 3 (.int v2) ∧ ((v2 ≤ x1 → E63  f) ∧ (¬ v2 ≤ x1 → ∃ o3 : Nat, hr_f f r0 1 1 (.ref o3) ∧ ∃ o4 : Nat, hr_q (ki 4) f o3 x1 o4 ∧ hr_o f r0 1 ∧ wp_X1_tableOf ki r0 o4 f (fun o6 f5 => ∃ v7 : Int32, hr_f f5 o6 2 2 (.int v7) ∧ ∃ n14 : Nat, wp_X1_countTriples_L31 ki r0 x1 v7 (fun f15 => ∀ v16 : Int32, v16 = x1 + 1 → wp_X1_countTriples_L7 ki r0 E63 n v16 f15) n14 0 f5)))

def wp_X1_countTriples (ki : Nat → ClassId) (r0 : Nat) (f : ac_hp) (Q : Int32 → ac_hp → Prop) : Prop := ∃ f1 : ac_hp, hw_f f r0 1 4 (.int 0) f1 ∧ ∃ n17 : Nat, wp_X1_countTriples_L7 ki r0 (fun f18 => ∃ v19 : Int32, hr_f f18 r0 1 4 (.int v19) ∧ Q v19 f18) n17 0 f1

set_option maxRecDepth 20000 in
set_option maxHeartbeats 4000000 in
theorem ok_X1_countTriples_L31 {x : ac_X} (hro : ac_R x = (ro_ 3 0 0)) (r0 : Nat) (x1 : Int32) (x2 : Int32) (E57 : ac_hp → Prop) (hE57 : ∀ (f : ac_hp), E57 f → ac_At (prog_3_method_3_code, 4, "VirtualRewrite$Catalog") x 0 0 57 [(0, .ref r0), (1, .int x1)] [] f) : ∀ (n : Nat) (x3 : Int32) (f : ac_hp), wp_X1_countTriples_L31 (ac_ki x) r0 x1 x2 E57 n x3 f → ac_At (prog_3_method_3_code, 4, "VirtualRewrite$Catalog") x 0 0 31 [(0, .ref r0), (1, .int x1), (2, .int x2), (3, .int x3)] [] f := by
  intro n
  induction n with
  | zero => intro _ _ h; exact h.elim
  | succ n ih =>
    intro x3 f h
    rw [wp_X1_countTriples_L31] at h
    refine ac_iload_n 3 d_X1_countTriples_31 rfl rfl ?_
    refine ac_iload_n 2 d_X1_countTriples_32 rfl rfl ?_
    refine ac_icmp_ge (tgt := 57) d_X1_countTriples_33 (by decide) (fun hc => ?_) (fun hc => ?_)
    · have h := h.1 hc
      refine ac_weak [0, 1] rfl ?_
      exact hE57  f h
    · have h := h.2 hc
      refine ac_aload_n 0 d_X1_countTriples_36 rfl rfl ?_
      refine ac_aload_n 0 d_X1_countTriples_37 rfl rfl ?_
      refine ac_aload_n 0 d_X1_countTriples_38 rfl rfl ?_
      obtain ⟨o8, hr, h⟩ := h
      refine ak_getf hr fl_X1_19 d_X1_countTriples_39 ?_
      refine ac_iload_n 1 d_X1_countTriples_42 rfl rfl ?_
      obtain ⟨o9, hr, h⟩ := h
      refine ak_aald 4 hr rfl d_X1_countTriples_43 ?_
      refine ac_iload_n 3 d_X1_countTriples_44 rfl rfl ?_
      obtain ⟨⟨fs, hb⟩, h⟩ := h
      refine ac_callV0 cd_X1_packedTriple ml_X1_44 in_X1_packedTriple se_X1_packedTriple rfl hb (c_X1_packedTriple _ _ _ r0 o9 x3 f _ h) rfl rfl (by rw [hro]; decide) rfl (rest := [.ref r0]) rfl (Nat.le_of_ble_eq_true rfl) (by rw [hro]; decide) d_X1_countTriples_45 (ac_J (fun v11 f10 h => ?_))
      obtain ⟨⟨fs, hb⟩, h⟩ := h
      refine ac_callV0 cd_X1_keepTriple ml_X1_48 in_X1_keepTriple se_X1_keepTriple rfl hb (c_X1_keepTriple _ _ _ r0 v11 f10 _ h) rfl rfl (by rw [hro]; decide) rfl (rest := []) rfl (Nat.le_of_ble_eq_true rfl) (by rw [hro]; decide) d_X1_countTriples_48 (ac_V (fun f12 h => ?_))
      obtain ⟨v13, ev13⟩ : ∃ y : Int32, y = x3 + 1 := ⟨_, rfl⟩
      have h := h v13 ev13
      refine ac_iinc (j := 3) (lv' := [(3, .int v13), (0, .ref r0), (1, .int x1), (2, .int x2)]) d_X1_countTriples_51 rfl (by rw [ev13]; rfl) (by decide) rfl ?_
      refine ac_goto (tgt := 31) d_X1_countTriples_54 (by decide) ?_
      refine ac_weak [1, 2, 3, 0] rfl ?_
      exact ih v13 f12 h

set_option maxRecDepth 20000 in
set_option maxHeartbeats 4000000 in
theorem ok_X1_countTriples_L7 {x : ac_X} (hro : ac_R x = (ro_ 3 0 0)) (r0 : Nat) (E63 : ac_hp → Prop) (hE63 : ∀ (f : ac_hp), E63 f → ac_At (prog_3_method_3_code, 4, "VirtualRewrite$Catalog") x 0 0 63 [(0, .ref r0)] [] f) : ∀ (n : Nat) (x1 : Int32) (f : ac_hp), wp_X1_countTriples_L7 (ac_ki x) r0 E63 n x1 f → ac_At (prog_3_method_3_code, 4, "VirtualRewrite$Catalog") x 0 0 7 [(0, .ref r0), (1, .int x1)] [] f := by
  intro n
  induction n with
  | zero => intro _ _ h; exact h.elim
  | succ n ih =>
    intro x1 f h
    rw [wp_X1_countTriples_L7] at h
    refine ac_iload_n 1 d_X1_countTriples_7 rfl rfl ?_
    refine ac_aload_n 0 d_X1_countTriples_8 rfl rfl ?_
    obtain ⟨v2, hr, h⟩ := h
    refine ak_getf hr fl_X1_27 d_X1_countTriples_9 ?_
    refine ac_icmp_ge (tgt := 63) d_X1_countTriples_12 (by decide) (fun hc => ?_) (fun hc => ?_)
    · have h := h.1 hc
      refine ac_weak [0] rfl ?_
      exact hE63  f h
    · have h := h.2 hc
      refine ac_aload_n 0 d_X1_countTriples_15 rfl rfl ?_
      refine ac_aload_n 0 d_X1_countTriples_16 rfl rfl ?_
      obtain ⟨o3, hr, h⟩ := h
      refine ak_getf hr fl_X1_19 d_X1_countTriples_17 ?_
      refine ac_iload_n 1 d_X1_countTriples_20 rfl rfl ?_
      obtain ⟨o4, hr, h⟩ := h
      refine ak_aald 4 hr rfl d_X1_countTriples_21 ?_
      obtain ⟨⟨fs, hb⟩, h⟩ := h
      refine ac_callV0 cd_X1_tableOf ml_X1_39 in_X1_tableOf se_X1_tableOf rfl hb (c_X1_tableOf _ _ _ r0 o4 f _ h) rfl rfl (by rw [hro]; decide) rfl (rest := []) rfl (Nat.le_of_ble_eq_true rfl) (by rw [hro]; decide) d_X1_countTriples_22 (ac_Rf (fun o6 f5 h => ?_))
      obtain ⟨v7, hr, h⟩ := h
      refine ak_getf hr fl_X1_43 d_X1_countTriples_25 ?_
      refine ac_istore_n (lv' := [(2, .int v7), (0, .ref r0), (1, .int x1)]) d_X1_countTriples_28 rfl (by decide) rfl ?_
      refine ac_iconst (v := 0) d_X1_countTriples_29 rfl ?_
      refine ac_istore_n (lv' := [(3, .int 0), (2, .int v7), (0, .ref r0), (1, .int x1)]) d_X1_countTriples_30 rfl (by decide) rfl ?_
      obtain ⟨n14, h⟩ := h
      refine ac_weak [2, 3, 1, 0] rfl ?_
      refine ok_X1_countTriples_L31 hro r0 x1 v7 _ (fun f15 h => ?_) n14 0 f5 h
      · skip
        obtain ⟨v16, ev16⟩ : ∃ y : Int32, y = x1 + 1 := ⟨_, rfl⟩
        have h := h v16 ev16
        refine ac_iinc (j := 1) (lv' := [(1, .int v16), (0, .ref r0)]) d_X1_countTriples_57 rfl (by rw [ev16]; rfl) (by decide) rfl ?_
        refine ac_goto (tgt := 7) d_X1_countTriples_60 (by decide) ?_
        refine ac_weak [1, 0] rfl ?_
        exact ih v16 f15 h

set_option maxRecDepth 20000 in
set_option maxHeartbeats 4000000 in
theorem c_X1_countTriples (l : Launch) (D : va_G) (ki : Nat → ClassId) (r0 : Nat) (f : ac_hp) (Q : Int32 → ac_hp → Prop) (h : wp_X1_countTriples ki r0 f Q) : ac_met l D ki y_X1_countTriples prog_3_method_3_code 4 (some .int) (ro_ 3 0 0) [.ref r0] f (qr_I Q) 0 0 := by
  refine ac_enter (fun ki => wp_X1_countTriples ki r0 f Q) (by decide) (Nat.le_of_ble_eq_true rfl) h ?_
  intro x hro hR hnm h
  unfold wp_X1_countTriples at h
  refine ac_aload_n 0 d_X1_countTriples_0 rfl rfl ?_
  refine ac_iconst (v := 0) d_X1_countTriples_1 rfl ?_
  obtain ⟨f1, hr, h⟩ := h
  refine ak_putf hr fp_X1_31 rfl rfl d_X1_countTriples_2 ?_
  refine ac_iconst (v := 0) d_X1_countTriples_5 rfl ?_
  refine ac_istore_n (lv' := [(1, .int 0), (0, .ref r0)]) d_X1_countTriples_6 rfl (by decide) rfl ?_
  obtain ⟨n17, h⟩ := h
  refine ac_weak [1, 0] rfl ?_
  refine ok_X1_countTriples_L7 hro r0 _ (fun f18 h => ?_) n17 0 f1 h
  · skip
    refine ac_aload_n 0 d_X1_countTriples_63 rfl rfl ?_
    obtain ⟨v19, hr, h⟩ := h
    refine ak_getf hr fl_X1_31 d_X1_countTriples_64 ?_
    exact ac_ireturn hR rfl ⟨_, rfl, h⟩ (by decide) (by decide) d_X1_countTriples_67

def wp_X0_span (ki : Nat → ClassId) (r0 : Nat) (x1 : Int32) (x2 : Int32) (x3 : Int32) (f : ac_hp) (Q : Int32 → ac_hp → Prop) : Prop := wp_X0_isBelow ki x1 6 f (fun v2 f1 => ((¬ v2 = 0 → ∃ o3 : Nat, hr_f f1 r0 0 1 (.ref o3) ∧ ∃ v4 : Int32, hr_f f1 o3 4 5 (.int v4) ∧ ((v4 < 4 → ∃ o5 : Nat, hr_f f1 r0 0 1 (.ref o5) ∧ hr_o f1 o5 4 ∧ wp_X4_narrow ki o5 x1 x2 x3 f1 (fun f6 => ∃ o7 : Nat, hr_f f6 r0 0 1 (.ref o7) ∧ ∃ v8 : Int32, hr_f f6 o7 4 5 (.int v8) ∧ Q v8 f6)) ∧ (¬ v4 < 4 → Q (-2) f1))) ∧ (v2 = 0 → Q (-1) f1)))

set_option maxRecDepth 20000 in
set_option maxHeartbeats 4000000 in
theorem c_X0_span (l : Launch) (D : va_G) (ki : Nat → ClassId) (r0 : Nat) (x1 : Int32) (x2 : Int32) (x3 : Int32) (f : ac_hp) (Q : Int32 → ac_hp → Prop) (h : wp_X0_span ki r0 x1 x2 x3 f Q) : ac_met l D ki y_X0_span prog_1_method_8_code 4 (some .int) (ro_ 3 0 0) [.ref r0, .int x1, .int x2, .int x3] f (qr_I Q) 0 0 := by
  refine ac_enter (fun ki => wp_X0_span ki r0 x1 x2 x3 f Q) (by decide) (Nat.le_of_ble_eq_true rfl) h ?_
  intro x hro hR hnm h
  unfold wp_X0_span at h
  refine ac_iload_n 1 d_X0_span_0 rfl rfl ?_
  refine ac_bipush (v := 6) d_X0_span_1 rfl ?_
  refine ac_callS0 cd_X0_isBelow ml_X0_57 st_X0_isBelow (c_X0_isBelow _ _ _ x1 6 f _ h) rfl rfl (by rw [hro]; decide) rfl (rest := []) rfl (Nat.le_of_ble_eq_true rfl) (by rw [hro]; decide) d_X0_span_3 (ac_I (fun v2 f1 h => ?_))
  refine ac_if_ne (tgt := 11) d_X0_span_6 (by decide) (fun hc => ?_) (fun hc => ?_)
  · have h := h.1 hc
    refine ac_aload_n 0 d_X0_span_11 rfl rfl ?_
    obtain ⟨o3, hr, h⟩ := h
    refine ak_getf hr fl_X0_19 d_X0_span_12 ?_
    obtain ⟨v4, hr, h⟩ := h
    refine ak_getf hr fl_X0_120 d_X0_span_15 ?_
    refine ac_iconst (v := 4) d_X0_span_18 rfl ?_
    refine ac_icmp_lt (tgt := 25) d_X0_span_19 (by decide) (fun hc => ?_) (fun hc => ?_)
    · have h := h.1 hc
      refine ac_aload_n 0 d_X0_span_25 rfl rfl ?_
      obtain ⟨o5, hr, h⟩ := h
      refine ak_getf hr fl_X0_19 d_X0_span_26 ?_
      refine ac_iload_n 1 d_X0_span_29 rfl rfl ?_
      refine ac_iload_n 2 d_X0_span_30 rfl rfl ?_
      refine ac_iload_n 3 d_X0_span_31 rfl rfl ?_
      obtain ⟨⟨fs, hb⟩, h⟩ := h
      refine ac_callV0 cd_X4_narrow ml_X0_123 in_X4_narrow se_X4_narrow rfl hb (c_X4_narrow _ _ _ o5 x1 x2 x3 f1 _ h) rfl rfl (by rw [hro]; decide) rfl (rest := []) rfl (Nat.le_of_ble_eq_true rfl) (by rw [hro]; decide) d_X0_span_32 (ac_V (fun f6 h => ?_))
      refine ac_aload_n 0 d_X0_span_35 rfl rfl ?_
      obtain ⟨o7, hr, h⟩ := h
      refine ak_getf hr fl_X0_19 d_X0_span_36 ?_
      obtain ⟨v8, hr, h⟩ := h
      refine ak_getf hr fl_X0_120 d_X0_span_39 ?_
      exact ac_ireturn hR rfl ⟨_, rfl, h⟩ (by decide) (by decide) d_X0_span_42
    · have h := h.2 hc
      refine ac_bipush (v := -2) d_X0_span_22 rfl ?_
      exact ac_ireturn hR rfl ⟨_, rfl, h⟩ (by decide) (by decide) d_X0_span_24
  · have h := h.2 hc
    refine ac_iconst (v := -1) d_X0_span_9 rfl ?_
    exact ac_ireturn hR rfl ⟨_, rfl, h⟩ (by decide) (by decide) d_X0_span_10

def wp_X5_extend_L18 (ki : Nat → ClassId) (r0 : Nat) (x1 : Int32) (x2 : Int32) (E105 : ac_hp → Prop) (rec : Nat → Int32 → Int32 → ac_hp → (ac_hp → Prop) → Prop) : Nat → Int32 → ac_hp → Prop
  | 0, _, _ => False
  | n + 1, x3, f => ∃ o3 : Nat, hr_f f r0 5 0 (.ref o3) ∧ ∃ v4 : Int32, hr_f f o3 1 3 (.int v4) ∧ ((v4 ≤ x3 → E105  f) ∧ (¬ v4 ≤ x3 → ∃ v5 : Int32, hr_f f r0 5 6 (.int v5) ∧ ((¬ v5 = 0 → E105  f) ∧ (v5 = 0 → ∃ o6 : Nat, hr_f f r0 5 0 (.ref o6) ∧ ∃ o7 : Nat, hr_f f o6 1 1 (.ref o7) ∧ ∃ o8 : Nat, hr_q (ki 4) f o7 x3 o8 ∧ ∃ v9 : Int32, hr_f f o8 3 3 (.int v9) ∧ ∃ o10 : Nat, hr_f f r0 5 1 (.ref o10) ∧ ∃ o11 : Nat, hr_f f o10 4 0 (.ref o11) ∧ ∃ v12 : Int32, hr_i (ki 0) f o11 x1 v12 ∧ ((¬ v9 = v12 → ∀ v13 : Int32, v13 = x3 + 1 → wp_X5_extend_L18 ki r0 x1 x2 E105 rec n v13 f) ∧ (v9 = v12 → ∃ o14 : Nat, hr_f f r0 5 0 (.ref o14) ∧ ∃ o15 : Nat, hr_f f o14 1 1 (.ref o15) ∧ ∃ o16 : Nat, hr_q (ki 4) f o15 x3 o16 ∧ hr_o f r0 5 ∧ wp_X5_settle ki r0 x1 o16 x2 f (fun v18 f17 => ((v18 = (-1) → ∀ v19 : Int32, v19 = x3 + 1 → wp_X5_extend_L18 ki r0 x1 x2 E105 rec n v19 f17) ∧ (¬ v18 = (-1) → ∃ o20 : Nat, hr_f f17 r0 5 3 (.ref o20) ∧ ∃ f21 : ac_hp, hw_i (ki 0) f17 o20 x1 x3 f21 ∧ hr_o f21 r0 5 ∧ rec r0 (x1 + 1) v18 f21 (fun f22 => ∀ v23 : Int32, v23 = x3 + 1 → wp_X5_extend_L18 ki r0 x1 x2 E105 rec n v23 f22))))))))))

def wp_X5_extend (ki : Nat → ClassId) : Nat → Nat → Int32 → Int32 → ac_hp → (ac_hp → Prop) → Prop
  | 0, _, _, _, _, _ => False
  | d + 1, r0, x1, x2, f, Q => ∃ o1 : Nat, hr_f f r0 5 1 (.ref o1) ∧ ∃ v2 : Int32, hr_f f o1 4 4 (.int v2) ∧ ((x1 < v2 → ∃ n24 : Nat, wp_X5_extend_L18 ki r0 x1 x2 (fun f25 => Q f25) (wp_X5_extend ki d) n24 0 f) ∧ (¬ x1 < v2 → hr_o f r0 5 ∧ wp_X5_keep ki r0 f (fun f26 => Q f26)))

set_option maxRecDepth 20000 in
set_option maxHeartbeats 4000000 in
theorem ok_X5_extend_L18 {x : ac_X} {d : Nat} (hro : ac_R x = (ro_ (3 + (d + 1)) 0 0)) (r0 : Nat) (x1 : Int32) (x2 : Int32) (E105 : ac_hp → Prop) (hE105 : ∀ (f : ac_hp), E105 f → ac_At (prog_7_method_7_code, 5, "VirtualRewrite$Rewriting") x 0 0 105 [] [] f) (rec : Nat → Int32 → Int32 → ac_hp → (ac_hp → Prop) → Prop) (hrec : ∀ (r0 : Nat) (x1 : Int32) (x2 : Int32) (f : ac_hp) (Q : ac_hp → Prop), rec r0 x1 x2 f Q → ac_met (ac_l x) (ac_D x) (ac_ki x) y_X5_extend prog_7_method_7_code 5 none (ro_ (3 + d) 0 0) [.ref r0, .int x1, .int x2] f (qr_V Q) 0 0) : ∀ (n : Nat) (x3 : Int32) (f : ac_hp), wp_X5_extend_L18 (ac_ki x) r0 x1 x2 E105 rec n x3 f → ac_At (prog_7_method_7_code, 5, "VirtualRewrite$Rewriting") x 0 0 18 [(0, .ref r0), (1, .int x1), (2, .int x2), (3, .int x3)] [] f := by
  intro n
  induction n with
  | zero => intro _ _ h; exact h.elim
  | succ n ih =>
    intro x3 f h
    rw [wp_X5_extend_L18] at h
    refine ac_iload_n 3 d_X5_extend_18 rfl rfl ?_
    refine ac_aload_n 0 d_X5_extend_19 rfl rfl ?_
    obtain ⟨o3, hr, h⟩ := h
    refine ak_getf hr fl_X5_32 d_X5_extend_20 ?_
    obtain ⟨v4, hr, h⟩ := h
    refine ak_getf hr fl_X5_70 d_X5_extend_23 ?_
    refine ac_icmp_ge (tgt := 105) d_X5_extend_26 (by decide) (fun hc => ?_) (fun hc => ?_)
    · have h := h.1 hc
      refine ac_weak [] rfl ?_
      exact hE105  f h
    · have h := h.2 hc
      refine ac_aload_n 0 d_X5_extend_29 rfl rfl ?_
      obtain ⟨v5, hr, h⟩ := h
      refine ak_getf hr fl_X5_25 d_X5_extend_30 ?_
      refine ac_if_ne (tgt := 105) d_X5_extend_33 (by decide) (fun hc => ?_) (fun hc => ?_)
      · have h := h.1 hc
        refine ac_weak [] rfl ?_
        exact hE105  f h
      · have h := h.2 hc
        refine ac_aload_n 0 d_X5_extend_36 rfl rfl ?_
        obtain ⟨o6, hr, h⟩ := h
        refine ak_getf hr fl_X5_32 d_X5_extend_37 ?_
        obtain ⟨o7, hr, h⟩ := h
        refine ak_getf hr fl_X5_40 d_X5_extend_40 ?_
        refine ac_iload_n 3 d_X5_extend_43 rfl rfl ?_
        obtain ⟨o8, hr, h⟩ := h
        refine ak_aald 4 hr rfl d_X5_extend_44 ?_
        obtain ⟨v9, hr, h⟩ := h
        refine ak_getf hr fl_X5_71 d_X5_extend_45 ?_
        refine ac_aload_n 0 d_X5_extend_48 rfl rfl ?_
        obtain ⟨o10, hr, h⟩ := h
        refine ak_getf hr fl_X5_36 d_X5_extend_49 ?_
        obtain ⟨o11, hr, h⟩ := h
        refine ak_getf hr fl_X5_76 d_X5_extend_52 ?_
        refine ac_iload_n 1 d_X5_extend_55 rfl rfl ?_
        obtain ⟨v12, hr, h⟩ := h
        refine ak_iald 0 hr rfl d_X5_extend_56 ?_
        refine ac_icmp_ne (tgt := 99) d_X5_extend_57 (by decide) (fun hc => ?_) (fun hc => ?_)
        · have h := h.1 hc
          obtain ⟨v13, ev13⟩ : ∃ y : Int32, y = x3 + 1 := ⟨_, rfl⟩
          have h := h v13 ev13
          refine ac_iinc (j := 3) (lv' := [(3, .int v13), (0, .ref r0), (1, .int x1), (2, .int x2)]) d_X5_extend_99 rfl (by rw [ev13]; rfl) (by decide) rfl ?_
          refine ac_goto (tgt := 18) d_X5_extend_102 (by decide) ?_
          refine ac_weak [1, 2, 3, 0] rfl ?_
          exact ih v13 f h
        · have h := h.2 hc
          refine ac_aload_n 0 d_X5_extend_60 rfl rfl ?_
          refine ac_iload_n 1 d_X5_extend_61 rfl rfl ?_
          refine ac_aload_n 0 d_X5_extend_62 rfl rfl ?_
          obtain ⟨o14, hr, h⟩ := h
          refine ak_getf hr fl_X5_32 d_X5_extend_63 ?_
          obtain ⟨o15, hr, h⟩ := h
          refine ak_getf hr fl_X5_40 d_X5_extend_66 ?_
          refine ac_iload_n 3 d_X5_extend_69 rfl rfl ?_
          obtain ⟨o16, hr, h⟩ := h
          refine ak_aald 4 hr rfl d_X5_extend_70 ?_
          refine ac_iload_n 2 d_X5_extend_71 rfl rfl ?_
          obtain ⟨⟨fs, hb⟩, h⟩ := h
          refine ac_callV0 cd_X5_settle ml_X5_79 in_X5_settle se_X5_settle rfl hb (c_X5_settle _ _ _ r0 x1 o16 x2 f _ h) rfl rfl (by rw [hro]; constructor <;> simp only [ro_] <;> omega) rfl (rest := []) rfl (Nat.le_of_ble_eq_true rfl) (by rw [hro]; constructor <;> simp only [ro_] <;> omega) d_X5_extend_72 (ac_I (fun v18 f17 h => ?_))
          refine ac_istore (lv' := [(4, .int v18), (0, .ref r0), (1, .int x1), (2, .int x2), (3, .int x3)]) d_X5_extend_75 (by decide) rfl ?_
          refine ac_iload 0 d_X5_extend_77 rfl ?_
          refine ac_iconst (v := -1) d_X5_extend_79 rfl ?_
          refine ac_icmp_eq (tgt := 99) d_X5_extend_80 (by decide) (fun hc => ?_) (fun hc => ?_)
          · have h := h.1 hc
            obtain ⟨v19, ev19⟩ : ∃ y : Int32, y = x3 + 1 := ⟨_, rfl⟩
            have h := h v19 ev19
            refine ac_iinc (j := 4) (lv' := [(3, .int v19), (4, .int v18), (0, .ref r0), (1, .int x1), (2, .int x2)]) d_X5_extend_99 rfl (by rw [ev19]; rfl) (by decide) rfl ?_
            refine ac_goto (tgt := 18) d_X5_extend_102 (by decide) ?_
            refine ac_weak [2, 3, 4, 0] rfl ?_
            exact ih v19 f17 h
          · have h := h.2 hc
            refine ac_aload_n 1 d_X5_extend_83 rfl rfl ?_
            obtain ⟨o20, hr, h⟩ := h
            refine ak_getf hr fl_X5_15 d_X5_extend_84 ?_
            refine ac_iload_n 2 d_X5_extend_87 rfl rfl ?_
            refine ac_iload_n 4 d_X5_extend_88 rfl rfl ?_
            obtain ⟨f21, hr, h⟩ := h
            refine ak_iast 0 hr rfl d_X5_extend_89 ?_
            refine ac_aload_n 1 d_X5_extend_90 rfl rfl ?_
            refine ac_iload_n 2 d_X5_extend_91 rfl rfl ?_
            refine ac_iconst (v := 1) d_X5_extend_92 rfl ?_
            refine ac_iadd d_X5_extend_93 ?_
            refine ac_iload 0 d_X5_extend_94 rfl ?_
            obtain ⟨⟨fs, hb⟩, h⟩ := h
            refine ac_callV0 cd_X5_extend ml_X5_58 in_X5_extend se_X5_extend rfl hb (hrec r0 (x1 + 1) v18 f21 _ h) rfl rfl (by rw [hro]; constructor <;> simp only [ro_] <;> omega) rfl (rest := []) rfl (Nat.le_of_ble_eq_true rfl) (by rw [hro]; constructor <;> simp only [ro_] <;> omega) d_X5_extend_96 (ac_V (fun f22 h => ?_))
            obtain ⟨v23, ev23⟩ : ∃ y : Int32, y = x3 + 1 := ⟨_, rfl⟩
            have h := h v23 ev23
            refine ac_iinc (j := 4) (lv' := [(3, .int v23), (4, .int v18), (0, .ref r0), (1, .int x1), (2, .int x2)]) d_X5_extend_99 rfl (by rw [ev23]; rfl) (by decide) rfl ?_
            refine ac_goto (tgt := 18) d_X5_extend_102 (by decide) ?_
            refine ac_weak [2, 3, 4, 0] rfl ?_
            exact ih v23 f22 h

set_option maxRecDepth 20000 in
set_option maxHeartbeats 4000000 in
theorem c_X5_extend : ∀ (d : Nat) (l : Launch) (D : va_G) (ki : Nat → ClassId) (r0 : Nat) (x1 : Int32) (x2 : Int32) (f : ac_hp) (Q : ac_hp → Prop) (h : wp_X5_extend ki d r0 x1 x2 f Q), ac_met l D ki y_X5_extend prog_7_method_7_code 5 none (ro_ (3 + d) 0 0) [.ref r0, .int x1, .int x2] f (qr_V Q) 0 0 := by
  intro d
  induction d with
  | zero => intro _ _ _ _ _ _ _ _ h; exact h.elim
  | succ d ihd =>
    intro l D ki r0 x1 x2 f Q h
    refine ac_enter (fun ki => wp_X5_extend ki (d + 1) r0 x1 x2 f Q) (by decide) (Nat.le_of_ble_eq_true rfl) h ?_
    intro x hro hR hnm h
    have hrec := ihd (ac_l x) (ac_D x) (ac_ki x)
    rw [wp_X5_extend] at h
    refine ac_iload_n 1 d_X5_extend_0 rfl rfl ?_
    refine ac_aload_n 0 d_X5_extend_1 rfl rfl ?_
    obtain ⟨o1, hr, h⟩ := h
    refine ak_getf hr fl_X5_36 d_X5_extend_2 ?_
    obtain ⟨v2, hr, h⟩ := h
    refine ak_getf hr fl_X5_62 d_X5_extend_5 ?_
    refine ac_icmp_lt (tgt := 16) d_X5_extend_8 (by decide) (fun hc => ?_) (fun hc => ?_)
    · have h := h.1 hc
      refine ac_iconst (v := 0) d_X5_extend_16 rfl ?_
      refine ac_istore_n (lv' := [(3, .int 0), (0, .ref r0), (1, .int x1), (2, .int x2)]) d_X5_extend_17 rfl (by decide) rfl ?_
      obtain ⟨n24, h⟩ := h
      refine ac_weak [1, 2, 3, 0] rfl ?_
      refine ok_X5_extend_L18 hro r0 x1 x2 _ (fun f25 h => ?_) _ hrec n24 0 f h
      · skip
        exact ac_vreturn hR ⟨rfl, h⟩ (by decide) (by decide) d_X5_extend_105
    · have h := h.2 hc
      refine ac_aload_n 0 d_X5_extend_11 rfl rfl ?_
      obtain ⟨⟨fs, hb⟩, h⟩ := h
      refine ac_callV0 cd_X5_keep ml_X5_67 in_X5_keep se_X5_keep rfl hb (c_X5_keep _ _ _ r0 f _ h) rfl rfl (by rw [hro]; constructor <;> simp only [ro_] <;> omega) rfl (rest := []) rfl (Nat.le_of_ble_eq_true rfl) (by rw [hro]; constructor <;> simp only [ro_] <;> omega) d_X5_extend_12 (ac_V (fun f26 h => ?_))
      exact ac_vreturn hR ⟨rfl, h⟩ (by decide) (by decide) d_X5_extend_15

