def wp_XL_value (ki : Nat → ClassId) (r0 : Nat) (x1 : Int32) (x2 : Int32) (r3 : Nat) (f : ac_hp) (Q : Int32 → ac_hp → Prop) : Prop := hr_o f r0 0 ∧ wp_X0_value ki r0 x1 x2 f (fun v2 f1 => ∃ f3 : ac_hp, hw_l (ki 2) f1 r3 0 (v2.toInt64) f3 ∧ Q 0 f3)
set_option maxRecDepth 20000 in
set_option maxHeartbeats 4000000 in
theorem c_XL_value (l : Launch) (D : va_G) (ki : Nat → ClassId) (r0 : Nat) (x1 : Int32) (x2 : Int32) (r3 : Nat) (f : ac_hp) (Q : Int32 → ac_hp → Prop) (h : wp_XL_value ki r0 x1 x2 r3 f Q) : ac_metW l D ki y_XL_value method_3_code 5 (some .int) [(0, 10, 13, 13)] (ro_ 8 1 6) [.ref r0, .int x1, .int x2, .ref r3] f (qr_I Q) 1 6 := by
  refine ac_enterW (fun ki => wp_XL_value ki r0 x1 x2 r3 f Q) (by decide) (Nat.le_of_ble_eq_true rfl) h ?_
  intro x hro hR hnm h
  unfold wp_XL_value at h
  refine ac_aload_n 3 d_XL_value_0 rfl rfl ?_
  refine ac_iconst (v := 0) d_XL_value_1 rfl ?_
  refine ac_aload_n 0 d_XL_value_2 rfl rfl ?_
  refine ac_iload_n 1 d_XL_value_3 rfl rfl ?_
  refine ac_iload_n 2 d_XL_value_4 rfl rfl ?_
  obtain ⟨⟨fs, hb⟩, h⟩ := h
  refine ac_callV0 cd_X0_value ml_XL_7 in_X0_value se_X0_value rfl hb (c_X0_value _ _ _ r0 x1 x2 f _ h) rfl rfl (by rw [hro]; decide) rfl (rest := [.int 0, .ref r3]) rfl (Nat.le_of_ble_eq_true rfl) (by rw [hro]; decide) d_XL_value_5 (ac_I (fun v2 f1 h => ?_))
  refine ac_i2l d_XL_value_8 ?_
  obtain ⟨f3, hr, h⟩ := h
  refine ak_last 2 hr rfl d_XL_value_9 ?_
  refine ac_goto (tgt := 17) d_XL_value_10 (by decide) ?_
  refine ac_iconst (v := 0) d_XL_value_17 rfl ?_
  exact ac_ireturn hR rfl ⟨_, rfl, h⟩ (by decide) (by decide) d_XL_value_18
