def wp_X7_firstNotBefore_L7 (ki : Nat → ClassId) (r0 : Nat) (r1 : Nat) (E43 : Int32 → ac_hp → Prop) : Nat → Int32 → Int32 → ac_hp → Prop
  | 0, _, _, _ => False
  | n + 1, x2, x3, f => ((x3 ≤ x2 → E43 x2 f) ∧ (¬ x3 ≤ x2 → ∀ v2 : Int32, v2 = ((x2 + x3).toUInt32 >>> ((1 : Int32).toUInt32 &&& Int32.toUInt32 31)).toInt32 → hr_o f r0 7 ∧ wp_X7_compare ki r0 v2 r1 f (fun v4 f3 => ((0 ≤ v4 → wp_X7_firstNotBefore_L7 ki r0 r1 E43 n x2 v2 f3) ∧ (¬ 0 ≤ v4 → ∀ v5 : Int32, v5 = v2 + 1 → wp_X7_firstNotBefore_L7 ki r0 r1 E43 n v5 x3 f3)))))

def wp_X7_firstNotBefore (ki : Nat → ClassId) (r0 : Nat) (r1 : Nat) (f : ac_hp) (Q : Int32 → ac_hp → Prop) : Prop := ∃ v1 : Int32, hr_f f r0 7 4 (.int v1) ∧ ∃ n6 : Nat, wp_X7_firstNotBefore_L7 ki r0 r1 (fun y7 f8 => Q y7 f8) n6 0 v1 f

set_option maxRecDepth 20000 in
set_option maxHeartbeats 4000000 in
theorem ok_X7_firstNotBefore_L7 {x : ac_X} (hro : ac_R x = (ro_ 3 0 0)) (r0 : Nat) (r1 : Nat) (E43 : Int32 → ac_hp → Prop) (hE43 : ∀ (y2 : Int32) (f : ac_hp), E43 y2 f → ac_At (prog_2_method_8_code, 5, "VirtualRewrite$Answers") x 0 0 43 [(2, .int y2)] [] f) : ∀ (n : Nat) (x2 : Int32) (x3 : Int32) (f : ac_hp), wp_X7_firstNotBefore_L7 (ac_ki x) r0 r1 E43 n x2 x3 f → ac_At (prog_2_method_8_code, 5, "VirtualRewrite$Answers") x 0 0 7 [(0, .ref r0), (1, .ref r1), (2, .int x2), (3, .int x3)] [] f := by
  intro n
  induction n with
  | zero => intro _ _ _ h; exact h.elim
  | succ n ih =>
    intro x2 x3 f h
    rw [wp_X7_firstNotBefore_L7] at h
    refine ac_iload_n 2 d_X7_firstNotBefore_7 rfl rfl ?_
    refine ac_iload_n 3 d_X7_firstNotBefore_8 rfl rfl ?_
    refine ac_icmp_ge (tgt := 43) d_X7_firstNotBefore_9 (by decide) (fun hc => ?_) (fun hc => ?_)
    · have h := h.1 hc
      refine ac_weak [2] rfl ?_
      exact hE43 x2 f h
    · have h := h.2 hc
      refine ac_iload_n 2 d_X7_firstNotBefore_12 rfl rfl ?_
      refine ac_iload_n 3 d_X7_firstNotBefore_13 rfl rfl ?_
      refine ac_iadd d_X7_firstNotBefore_14 ?_
      refine ac_iconst (v := 1) d_X7_firstNotBefore_15 rfl ?_
      refine ac_iushr d_X7_firstNotBefore_16 ?_
      refine ak_topi (fun v2 ev2 => ?_)
      have h := h v2 ev2
      refine ac_istore (lv' := [(4, .int v2), (0, .ref r0), (1, .ref r1), (2, .int x2), (3, .int x3)]) d_X7_firstNotBefore_17 (by decide) rfl ?_
      refine ac_aload_n 1 d_X7_firstNotBefore_19 rfl rfl ?_
      refine ac_iload 0 d_X7_firstNotBefore_20 rfl ?_
      refine ac_aload_n 2 d_X7_firstNotBefore_22 rfl rfl ?_
      obtain ⟨⟨fs, hb⟩, h⟩ := h
      refine ac_callV0 cd_X7_compare ml_X7_39 in_X7_compare se_X7_compare rfl hb (c_X7_compare _ _ _ r0 v2 r1 f _ h) rfl rfl (by rw [hro]; decide) rfl (rest := []) rfl (Nat.le_of_ble_eq_true rfl) (by rw [hro]; decide) d_X7_firstNotBefore_23 (ac_I (fun v4 f3 h => ?_))
      refine ac_if_ge (tgt := 37) d_X7_firstNotBefore_26 (by decide) (fun hc => ?_) (fun hc => ?_)
      · have h := h.1 hc
        refine ac_iload 0 d_X7_firstNotBefore_37 rfl ?_
        refine ac_istore_n (lv' := [(3, .int v2), (4, .int v2), (0, .ref r0), (1, .ref r1), (2, .int x2)]) d_X7_firstNotBefore_39 rfl (by decide) rfl ?_
        refine ac_goto (tgt := 7) d_X7_firstNotBefore_40 (by decide) ?_
        refine ac_weak [2, 3, 4, 0] rfl ?_
        exact ih x2 v2 f3 h
      · have h := h.2 hc
        refine ac_iload 0 d_X7_firstNotBefore_29 rfl ?_
        refine ac_iconst (v := 1) d_X7_firstNotBefore_31 rfl ?_
        refine ac_iadd d_X7_firstNotBefore_32 ?_
        refine ak_topi (fun v5 ev5 => ?_)
        have h := h v5 ev5
        refine ac_istore_n (lv' := [(2, .int v5), (4, .int v2), (0, .ref r0), (1, .ref r1), (3, .int x3)]) d_X7_firstNotBefore_33 rfl (by decide) rfl ?_
        refine ac_goto (tgt := 40) d_X7_firstNotBefore_34 (by decide) ?_
        refine ac_goto (tgt := 7) d_X7_firstNotBefore_40 (by decide) ?_
        refine ac_weak [2, 3, 0, 4] rfl ?_
        exact ih v5 x3 f3 h

set_option maxRecDepth 20000 in
set_option maxHeartbeats 4000000 in
theorem c_X7_firstNotBefore (l : Launch) (D : va_G) (ki : Nat → ClassId) (r0 : Nat) (r1 : Nat) (f : ac_hp) (Q : Int32 → ac_hp → Prop) (h : wp_X7_firstNotBefore ki r0 r1 f Q) : ac_met l D ki y_X7_firstNotBefore prog_2_method_8_code 5 (some .int) (ro_ 3 0 0) [.ref r0, .ref r1] f (qr_I Q) 0 0 := by
  refine ac_enter (fun ki => wp_X7_firstNotBefore ki r0 r1 f Q) (by decide) (Nat.le_of_ble_eq_true rfl) h ?_
  intro x hro hR hnm h
  unfold wp_X7_firstNotBefore at h
  refine ac_iconst (v := 0) d_X7_firstNotBefore_0 rfl ?_
  refine ac_istore_n (lv' := [(2, .int 0), (0, .ref r0), (1, .ref r1)]) d_X7_firstNotBefore_1 rfl (by decide) rfl ?_
  refine ac_aload_n 1 d_X7_firstNotBefore_2 rfl rfl ?_
  obtain ⟨v1, hr, h⟩ := h
  refine ak_getf hr fl_X7_24 d_X7_firstNotBefore_3 ?_
  refine ac_istore_n (lv' := [(3, .int v1), (2, .int 0), (0, .ref r0), (1, .ref r1)]) d_X7_firstNotBefore_6 rfl (by decide) rfl ?_
  obtain ⟨n6, h⟩ := h
  refine ac_weak [2, 3, 1, 0] rfl ?_
  refine ok_X7_firstNotBefore_L7 hro r0 r1 _ (fun y7 f8 h => ?_) n6 0 v1 f h
  · skip
    refine ac_iload_n 0 d_X7_firstNotBefore_43 rfl rfl ?_
    exact ac_ireturn hR rfl ⟨_, rfl, h⟩ (by decide) (by decide) d_X7_firstNotBefore_44

def wp_X0_key (ki : Nat → ClassId) (r0 : Nat) (x1 : Int32) (x2 : Int32) (x3 : Int32) (f : ac_hp) (Q : Int32 → ac_hp → Prop) : Prop := wp_X0_isBelow ki x1 4 f (fun v2 f1 => ((v2 = 0 → Q (-1) f1) ∧ (¬ v2 = 0 → wp_X0_isBelow ki x2 3 f1 (fun v4 f3 => ((¬ v4 = 0 → ∃ o5 : Nat, hr_f f3 r0 0 0 (.ref o5) ∧ ∃ o6 : Nat, hr_f f3 o5 1 0 (.ref o6) ∧ ∃ o7 : Nat, hr_q (ki 3) f3 o6 x1 o7 ∧ ∃ o8 : Nat, hr_f f3 o7 2 1 (.ref o8) ∧ ∃ v9 : Int32, hr_i (ki 1) f3 o8 x2 v9 ∧ ((¬ v9 = x3 → ((x3 = 0 → ∃ o10 : Nat, hr_f f3 o7 2 1 (.ref o10) ∧ ∃ f11 : ac_hp, hw_i (ki 1) f3 o10 x2 (vp_nar .boolean x3) f11 ∧ Q 1 f11) ∧ (¬ x3 = 0 → hr_o f3 o7 2 ∧ wp_X2_repeats ki o7 x2 f3 (fun v13 f12 => ((v13 = 0 → ∃ o14 : Nat, hr_f f12 o7 2 1 (.ref o14) ∧ ∃ f15 : ac_hp, hw_i (ki 1) f12 o14 x2 (vp_nar .boolean x3) f15 ∧ Q 1 f15) ∧ (¬ v13 = 0 → Q (-4) f12)))))) ∧ (v9 = x3 → Q 0 f3))) ∧ (v4 = 0 → Q (-1) f3))))))

set_option maxRecDepth 20000 in
set_option maxHeartbeats 4000000 in
theorem c_X0_key (l : Launch) (D : va_G) (ki : Nat → ClassId) (r0 : Nat) (x1 : Int32) (x2 : Int32) (x3 : Int32) (f : ac_hp) (Q : Int32 → ac_hp → Prop) (h : wp_X0_key ki r0 x1 x2 x3 f Q) : ac_met l D ki y_X0_key prog_1_method_2_code 5 (some .int) (ro_ 4 0 0) [.ref r0, .int x1, .int x2, .int x3] f (qr_I Q) 0 0 := by
  refine ac_enter (fun ki => wp_X0_key ki r0 x1 x2 x3 f Q) (by decide) (Nat.le_of_ble_eq_true rfl) h ?_
  intro x hro hR hnm h
  unfold wp_X0_key at h
  refine ac_iload_n 1 d_X0_key_0 rfl rfl ?_
  refine ac_iconst (v := 4) d_X0_key_1 rfl ?_
  refine ac_callS0 cd_X0_isBelow ml_X0_57 st_X0_isBelow (c_X0_isBelow _ _ _ x1 4 f _ h) rfl rfl (by rw [hro]; decide) rfl (rest := []) rfl (Nat.le_of_ble_eq_true rfl) (by rw [hro]; decide) d_X0_key_2 (ac_I (fun v2 f1 h => ?_))
  refine ac_if_eq (tgt := 16) d_X0_key_5 (by decide) (fun hc => ?_) (fun hc => ?_)
  · have h := h.1 hc
    refine ac_iconst (v := -1) d_X0_key_16 rfl ?_
    exact ac_ireturn hR rfl ⟨_, rfl, h⟩ (by decide) (by decide) d_X0_key_17
  · have h := h.2 hc
    refine ac_iload_n 2 d_X0_key_8 rfl rfl ?_
    refine ac_iconst (v := 3) d_X0_key_9 rfl ?_
    refine ac_callS0 cd_X0_isBelow ml_X0_57 st_X0_isBelow (c_X0_isBelow _ _ _ x2 3 f1 _ h) rfl rfl (by rw [hro]; decide) rfl (rest := []) rfl (Nat.le_of_ble_eq_true rfl) (by rw [hro]; decide) d_X0_key_10 (ac_I (fun v4 f3 h => ?_))
    refine ac_if_ne (tgt := 18) d_X0_key_13 (by decide) (fun hc => ?_) (fun hc => ?_)
    · have h := h.1 hc
      refine ac_aload_n 0 d_X0_key_18 rfl rfl ?_
      obtain ⟨o5, hr, h⟩ := h
      refine ak_getf hr fl_X0_12 d_X0_key_19 ?_
      obtain ⟨o6, hr, h⟩ := h
      refine ak_getf hr fl_X0_61 d_X0_key_22 ?_
      refine ac_iload_n 1 d_X0_key_25 rfl rfl ?_
      obtain ⟨o7, hr, h⟩ := h
      refine ak_aald 3 hr rfl d_X0_key_26 ?_
      refine ac_astore (lv' := [(4, .ref o7), (0, .ref r0), (1, .int x1), (2, .int x2), (3, .int x3)]) d_X0_key_27 (by decide) rfl ?_
      refine ac_aload 0 d_X0_key_29 rfl ?_
      obtain ⟨o8, hr, h⟩ := h
      refine ak_getf hr fl_X0_65 d_X0_key_31 ?_
      refine ac_iload_n 3 d_X0_key_34 rfl rfl ?_
      obtain ⟨v9, hr, h⟩ := h
      refine ak_zald 1 hr rfl d_X0_key_35 ?_
      refine ac_iload_n 4 d_X0_key_36 rfl rfl ?_
      refine ac_icmp_ne (tgt := 42) d_X0_key_37 (by decide) (fun hc => ?_) (fun hc => ?_)
      · have h := h.1 hc
        refine ac_iload_n 4 d_X0_key_42 rfl rfl ?_
        refine ac_if_eq (tgt := 58) d_X0_key_43 (by decide) (fun hc => ?_) (fun hc => ?_)
        · have h := h.1 hc
          refine ac_aload 0 d_X0_key_58 rfl ?_
          obtain ⟨o10, hr, h⟩ := h
          refine ak_getf hr fl_X0_65 d_X0_key_60 ?_
          refine ac_iload_n 3 d_X0_key_63 rfl rfl ?_
          refine ac_iload_n 4 d_X0_key_64 rfl rfl ?_
          obtain ⟨f11, hr, h⟩ := h
          refine ak_zast 1 hr rfl d_X0_key_65 ?_
          refine ac_iconst (v := 1) d_X0_key_66 rfl ?_
          exact ac_ireturn hR rfl ⟨_, rfl, h⟩ (by decide) (by decide) d_X0_key_67
        · have h := h.2 hc
          refine ac_aload 0 d_X0_key_46 rfl ?_
          refine ac_iload_n 3 d_X0_key_48 rfl rfl ?_
          obtain ⟨⟨fs, hb⟩, h⟩ := h
          refine ac_callV0 cd_X2_repeats ml_X0_71 in_X2_repeats se_X2_repeats rfl hb (c_X2_repeats _ _ _ o7 x2 f3 _ h) rfl rfl (by rw [hro]; decide) rfl (rest := []) rfl (Nat.le_of_ble_eq_true rfl) (by rw [hro]; decide) d_X0_key_49 (ac_I (fun v13 f12 h => ?_))
          refine ac_if_eq (tgt := 58) d_X0_key_52 (by decide) (fun hc => ?_) (fun hc => ?_)
          · have h := h.1 hc
            refine ac_aload 0 d_X0_key_58 rfl ?_
            obtain ⟨o14, hr, h⟩ := h
            refine ak_getf hr fl_X0_65 d_X0_key_60 ?_
            refine ac_iload_n 3 d_X0_key_63 rfl rfl ?_
            refine ac_iload_n 4 d_X0_key_64 rfl rfl ?_
            obtain ⟨f15, hr, h⟩ := h
            refine ak_zast 1 hr rfl d_X0_key_65 ?_
            refine ac_iconst (v := 1) d_X0_key_66 rfl ?_
            exact ac_ireturn hR rfl ⟨_, rfl, h⟩ (by decide) (by decide) d_X0_key_67
          · have h := h.2 hc
            refine ac_bipush (v := -4) d_X0_key_55 rfl ?_
            exact ac_ireturn hR rfl ⟨_, rfl, h⟩ (by decide) (by decide) d_X0_key_57
      · have h := h.2 hc
        refine ac_iconst (v := 0) d_X0_key_40 rfl ?_
        exact ac_ireturn hR rfl ⟨_, rfl, h⟩ (by decide) (by decide) d_X0_key_41
    · have h := h.2 hc
      refine ac_iconst (v := -1) d_X0_key_16 rfl ?_
      exact ac_ireturn hR rfl ⟨_, rfl, h⟩ (by decide) (by decide) d_X0_key_17

def wp_X0_row (ki : Nat → ClassId) (r0 : Nat) (x1 : Int32) (x2 : Int32) (x3 : Int32) (x4 : Int32) (f : ac_hp) (Q : Int32 → ac_hp → Prop) : Prop := wp_X0_isBelow ki x1 4 f (fun v2 f1 => ((v2 = 0 → Q (-1) f1) ∧ (¬ v2 = 0 → wp_X0_isBelow ki x2 10000 f1 (fun v4 f3 => ((v4 = 0 → Q (-1) f3) ∧ (¬ v4 = 0 → wp_X0_isBelow ki x3 10000 f3 (fun v6 f5 => ((v6 = 0 → Q (-1) f5) ∧ (¬ v6 = 0 → wp_X0_isBelow ki x4 10000 f5 (fun v8 f7 => ((¬ v8 = 0 → ∃ o9 : Nat, hr_f f7 r0 0 0 (.ref o9) ∧ ∃ o10 : Nat, hr_f f7 o9 1 0 (.ref o10) ∧ ∃ o11 : Nat, hr_q (ki 3) f7 o10 x1 o11 ∧ hr_o f7 o11 2 ∧ wp_X2_refuses ki o11 0 x2 f7 (fun v13 f12 => ((¬ v13 = 0 → Q (-4) f12) ∧ (v13 = 0 → hr_o f12 o11 2 ∧ wp_X2_refuses ki o11 1 x3 f12 (fun v15 f14 => ((¬ v15 = 0 → Q (-4) f14) ∧ (v15 = 0 → hr_o f14 o11 2 ∧ wp_X2_refuses ki o11 2 x4 f14 (fun v17 f16 => ((v17 = 0 → ∃ v18 : Int32, hr_f f16 o11 2 2 (.int v18) ∧ ((v18 < 20 → hr_o f16 o11 2 ∧ wp_X2_append ki o11 x2 x3 x4 f16 (fun f19 => ∃ v20 : Int32, hr_f f19 o11 2 2 (.int v20) ∧ Q v20 f19)) ∧ (¬ v18 < 20 → Q (-2) f16))) ∧ (¬ v17 = 0 → Q (-4) f16)))))))))) ∧ (v8 = 0 → Q (-1) f7))))))))))))

set_option maxRecDepth 20000 in
set_option maxHeartbeats 4000000 in
theorem c_X0_row (l : Launch) (D : va_G) (ki : Nat → ClassId) (r0 : Nat) (x1 : Int32) (x2 : Int32) (x3 : Int32) (x4 : Int32) (f : ac_hp) (Q : Int32 → ac_hp → Prop) (h : wp_X0_row ki r0 x1 x2 x3 x4 f Q) : ac_met l D ki y_X0_row prog_1_method_3_code 6 (some .int) (ro_ 4 0 0) [.ref r0, .int x1, .int x2, .int x3, .int x4] f (qr_I Q) 0 0 := by
  refine ac_enter (fun ki => wp_X0_row ki r0 x1 x2 x3 x4 f Q) (by decide) (Nat.le_of_ble_eq_true rfl) h ?_
  intro x hro hR hnm h
  unfold wp_X0_row at h
  refine ac_iload_n 1 d_X0_row_0 rfl rfl ?_
  refine ac_iconst (v := 4) d_X0_row_1 rfl ?_
  refine ac_callS0 cd_X0_isBelow ml_X0_57 st_X0_isBelow (c_X0_isBelow _ _ _ x1 4 f _ h) rfl rfl (by rw [hro]; decide) rfl (rest := []) rfl (Nat.le_of_ble_eq_true rfl) (by rw [hro]; decide) d_X0_row_2 (ac_I (fun v2 f1 h => ?_))
  refine ac_if_eq (tgt := 39) d_X0_row_5 (by decide) (fun hc => ?_) (fun hc => ?_)
  · have h := h.1 hc
    refine ac_iconst (v := -1) d_X0_row_39 rfl ?_
    exact ac_ireturn hR rfl ⟨_, rfl, h⟩ (by decide) (by decide) d_X0_row_40
  · have h := h.2 hc
    refine ac_iload_n 2 d_X0_row_8 rfl rfl ?_
    refine ac_sipush (v := 10000) d_X0_row_9 rfl ?_
    refine ac_callS0 cd_X0_isBelow ml_X0_57 st_X0_isBelow (c_X0_isBelow _ _ _ x2 10000 f1 _ h) rfl rfl (by rw [hro]; decide) rfl (rest := []) rfl (Nat.le_of_ble_eq_true rfl) (by rw [hro]; decide) d_X0_row_12 (ac_I (fun v4 f3 h => ?_))
    refine ac_if_eq (tgt := 39) d_X0_row_15 (by decide) (fun hc => ?_) (fun hc => ?_)
    · have h := h.1 hc
      refine ac_iconst (v := -1) d_X0_row_39 rfl ?_
      exact ac_ireturn hR rfl ⟨_, rfl, h⟩ (by decide) (by decide) d_X0_row_40
    · have h := h.2 hc
      refine ac_iload_n 3 d_X0_row_18 rfl rfl ?_
      refine ac_sipush (v := 10000) d_X0_row_19 rfl ?_
      refine ac_callS0 cd_X0_isBelow ml_X0_57 st_X0_isBelow (c_X0_isBelow _ _ _ x3 10000 f3 _ h) rfl rfl (by rw [hro]; decide) rfl (rest := []) rfl (Nat.le_of_ble_eq_true rfl) (by rw [hro]; decide) d_X0_row_22 (ac_I (fun v6 f5 h => ?_))
      refine ac_if_eq (tgt := 39) d_X0_row_25 (by decide) (fun hc => ?_) (fun hc => ?_)
      · have h := h.1 hc
        refine ac_iconst (v := -1) d_X0_row_39 rfl ?_
        exact ac_ireturn hR rfl ⟨_, rfl, h⟩ (by decide) (by decide) d_X0_row_40
      · have h := h.2 hc
        refine ac_iload 4 d_X0_row_28 rfl ?_
        refine ac_sipush (v := 10000) d_X0_row_30 rfl ?_
        refine ac_callS0 cd_X0_isBelow ml_X0_57 st_X0_isBelow (c_X0_isBelow _ _ _ x4 10000 f5 _ h) rfl rfl (by rw [hro]; decide) rfl (rest := []) rfl (Nat.le_of_ble_eq_true rfl) (by rw [hro]; decide) d_X0_row_33 (ac_I (fun v8 f7 h => ?_))
        refine ac_if_ne (tgt := 41) d_X0_row_36 (by decide) (fun hc => ?_) (fun hc => ?_)
        · have h := h.1 hc
          refine ac_aload_n 0 d_X0_row_41 rfl rfl ?_
          obtain ⟨o9, hr, h⟩ := h
          refine ak_getf hr fl_X0_12 d_X0_row_42 ?_
          obtain ⟨o10, hr, h⟩ := h
          refine ak_getf hr fl_X0_61 d_X0_row_45 ?_
          refine ac_iload_n 1 d_X0_row_48 rfl rfl ?_
          obtain ⟨o11, hr, h⟩ := h
          refine ak_aald 3 hr rfl d_X0_row_49 ?_
          refine ac_astore (lv' := [(5, .ref o11), (0, .ref r0), (1, .int x1), (2, .int x2), (3, .int x3), (4, .int x4)]) d_X0_row_50 (by decide) rfl ?_
          refine ac_aload 0 d_X0_row_52 rfl ?_
          refine ac_iconst (v := 0) d_X0_row_54 rfl ?_
          refine ac_iload_n 3 d_X0_row_55 rfl rfl ?_
          obtain ⟨⟨fs, hb⟩, h⟩ := h
          refine ac_callV0 cd_X2_refuses ml_X0_75 in_X2_refuses se_X2_refuses rfl hb (c_X2_refuses _ _ _ o11 0 x2 f7 _ h) rfl rfl (by rw [hro]; decide) rfl (rest := []) rfl (Nat.le_of_ble_eq_true rfl) (by rw [hro]; decide) d_X0_row_56 (ac_I (fun v13 f12 h => ?_))
          refine ac_if_ne (tgt := 83) d_X0_row_59 (by decide) (fun hc => ?_) (fun hc => ?_)
          · have h := h.1 hc
            refine ac_bipush (v := -4) d_X0_row_83 rfl ?_
            exact ac_ireturn hR rfl ⟨_, rfl, h⟩ (by decide) (by decide) d_X0_row_85
          · have h := h.2 hc
            refine ac_aload 0 d_X0_row_62 rfl ?_
            refine ac_iconst (v := 1) d_X0_row_64 rfl ?_
            refine ac_iload_n 4 d_X0_row_65 rfl rfl ?_
            obtain ⟨⟨fs, hb⟩, h⟩ := h
            refine ac_callV0 cd_X2_refuses ml_X0_75 in_X2_refuses se_X2_refuses rfl hb (c_X2_refuses _ _ _ o11 1 x3 f12 _ h) rfl rfl (by rw [hro]; decide) rfl (rest := []) rfl (Nat.le_of_ble_eq_true rfl) (by rw [hro]; decide) d_X0_row_66 (ac_I (fun v15 f14 h => ?_))
            refine ac_if_ne (tgt := 83) d_X0_row_69 (by decide) (fun hc => ?_) (fun hc => ?_)
            · have h := h.1 hc
              refine ac_bipush (v := -4) d_X0_row_83 rfl ?_
              exact ac_ireturn hR rfl ⟨_, rfl, h⟩ (by decide) (by decide) d_X0_row_85
            · have h := h.2 hc
              refine ac_aload 0 d_X0_row_72 rfl ?_
              refine ac_iconst (v := 2) d_X0_row_74 rfl ?_
              refine ac_iload 5 d_X0_row_75 rfl ?_
              obtain ⟨⟨fs, hb⟩, h⟩ := h
              refine ac_callV0 cd_X2_refuses ml_X0_75 in_X2_refuses se_X2_refuses rfl hb (c_X2_refuses _ _ _ o11 2 x4 f14 _ h) rfl rfl (by rw [hro]; decide) rfl (rest := []) rfl (Nat.le_of_ble_eq_true rfl) (by rw [hro]; decide) d_X0_row_77 (ac_I (fun v17 f16 h => ?_))
              refine ac_if_eq (tgt := 86) d_X0_row_80 (by decide) (fun hc => ?_) (fun hc => ?_)
              · have h := h.1 hc
                refine ac_aload 0 d_X0_row_86 rfl ?_
                obtain ⟨v18, hr, h⟩ := h
                refine ak_getf hr fl_X0_78 d_X0_row_88 ?_
                refine ac_bipush (v := 20) d_X0_row_91 rfl ?_
                refine ac_icmp_lt (tgt := 99) d_X0_row_93 (by decide) (fun hc => ?_) (fun hc => ?_)
                · have h := h.1 hc
                  refine ac_aload 0 d_X0_row_99 rfl ?_
                  refine ac_iload_n 3 d_X0_row_101 rfl rfl ?_
                  refine ac_iload_n 4 d_X0_row_102 rfl rfl ?_
                  refine ac_iload 5 d_X0_row_103 rfl ?_
                  obtain ⟨⟨fs, hb⟩, h⟩ := h
                  refine ac_callV0 cd_X2_append ml_X0_82 in_X2_append se_X2_append rfl hb (c_X2_append _ _ _ o11 x2 x3 x4 f16 _ h) rfl rfl (by rw [hro]; decide) rfl (rest := []) rfl (Nat.le_of_ble_eq_true rfl) (by rw [hro]; decide) d_X0_row_105 (ac_V (fun f19 h => ?_))
                  refine ac_aload 0 d_X0_row_108 rfl ?_
                  obtain ⟨v20, hr, h⟩ := h
                  refine ak_getf hr fl_X0_78 d_X0_row_110 ?_
                  exact ac_ireturn hR rfl ⟨_, rfl, h⟩ (by decide) (by decide) d_X0_row_113
                · have h := h.2 hc
                  refine ac_bipush (v := -2) d_X0_row_96 rfl ?_
                  exact ac_ireturn hR rfl ⟨_, rfl, h⟩ (by decide) (by decide) d_X0_row_98
              · have h := h.2 hc
                refine ac_bipush (v := -4) d_X0_row_83 rfl ?_
                exact ac_ireturn hR rfl ⟨_, rfl, h⟩ (by decide) (by decide) d_X0_row_85
        · have h := h.2 hc
          refine ac_iconst (v := -1) d_X0_row_39 rfl ?_
          exact ac_ireturn hR rfl ⟨_, rfl, h⟩ (by decide) (by decide) d_X0_row_40

def wp_X0_triples (ki : Nat → ClassId) (r0 : Nat) (f : ac_hp) (Q : Int32 → ac_hp → Prop) : Prop := ∃ o1 : Nat, hr_f f r0 0 0 (.ref o1) ∧ hr_o f o1 1 ∧ wp_X1_countTriples ki o1 f (fun v3 f2 => Q v3 f2)

set_option maxRecDepth 20000 in
set_option maxHeartbeats 4000000 in
theorem c_X0_triples (l : Launch) (D : va_G) (ki : Nat → ClassId) (r0 : Nat) (f : ac_hp) (Q : Int32 → ac_hp → Prop) (h : wp_X0_triples ki r0 f Q) : ac_met l D ki y_X0_triples prog_1_method_6_code 1 (some .int) (ro_ 4 0 0) [.ref r0] f (qr_I Q) 0 0 := by
  refine ac_enter (fun ki => wp_X0_triples ki r0 f Q) (by decide) (Nat.le_of_ble_eq_true rfl) h ?_
  intro x hro hR hnm h
  unfold wp_X0_triples at h
  refine ac_aload_n 0 d_X0_triples_0 rfl rfl ?_
  obtain ⟨o1, hr, h⟩ := h
  refine ak_getf hr fl_X0_12 d_X0_triples_1 ?_
  obtain ⟨⟨fs, hb⟩, h⟩ := h
  refine ac_callV0 cd_X1_countTriples ml_X0_109 in_X1_countTriples se_X1_countTriples rfl hb (c_X1_countTriples _ _ _ o1 f _ h) rfl rfl (by rw [hro]; decide) rfl (rest := []) rfl (Nat.le_of_ble_eq_true rfl) (by rw [hro]; decide) d_X0_triples_4 (ac_I (fun v3 f2 h => ?_))
  exact ac_ireturn hR rfl ⟨_, rfl, h⟩ (by decide) (by decide) d_X0_triples_7

def wp_X6_leastOfOneRow_L2 (ki : Nat → ClassId) (r0 : Nat) (x1 : Int32) (x2 : Int32) (Q : Int32 → ac_hp → Prop) (E25 : ac_hp → Prop) : Nat → Int32 → ac_hp → Prop
  | 0, _, _ => False
  | n + 1, x3, f => ((x2 ≤ x3 → E25  f) ∧ (¬ x2 ≤ x3 → hr_o f r0 6 ∧ wp_X6_areOfOneRow ki r0 x1 x3 x2 f (fun v2 f1 => ((v2 = 0 → ∀ v3 : Int32, v3 = x3 + 1 → wp_X6_leastOfOneRow_L2 ki r0 x1 x2 Q E25 n v3 f1) ∧ (¬ v2 = 0 → Q x3 f1)))))

def wp_X6_leastOfOneRow (ki : Nat → ClassId) (r0 : Nat) (x1 : Int32) (x2 : Int32) (f : ac_hp) (Q : Int32 → ac_hp → Prop) : Prop := ∃ n4 : Nat, wp_X6_leastOfOneRow_L2 ki r0 x1 x2 Q (fun f5 => Q x2 f5) n4 0 f

set_option maxRecDepth 20000 in
set_option maxHeartbeats 4000000 in
theorem ok_X6_leastOfOneRow_L2 {x : ac_X} (hro : ac_R x = (ro_ 4 0 0)) (r0 : Nat) (x1 : Int32) (x2 : Int32) (Q : Int32 → ac_hp → Prop) (hR : ac_rt x (some .int) (qr_I Q) 0 0) (E25 : ac_hp → Prop) (hE25 : ∀ (f : ac_hp), E25 f → ac_At (prog_8_method_3_code, 4, "VirtualRewrite$Slots") x 0 0 25 [(2, .int x2)] [] f) : ∀ (n : Nat) (x3 : Int32) (f : ac_hp), wp_X6_leastOfOneRow_L2 (ac_ki x) r0 x1 x2 Q E25 n x3 f → ac_At (prog_8_method_3_code, 4, "VirtualRewrite$Slots") x 0 0 2 [(0, .ref r0), (1, .int x1), (2, .int x2), (3, .int x3)] [] f := by
  intro n
  induction n with
  | zero => intro _ _ h; exact h.elim
  | succ n ih =>
    intro x3 f h
    rw [wp_X6_leastOfOneRow_L2] at h
    refine ac_iload_n 3 d_X6_leastOfOneRow_2 rfl rfl ?_
    refine ac_iload_n 2 d_X6_leastOfOneRow_3 rfl rfl ?_
    refine ac_icmp_ge (tgt := 25) d_X6_leastOfOneRow_4 (by decide) (fun hc => ?_) (fun hc => ?_)
    · have h := h.1 hc
      refine ac_weak [2] rfl ?_
      exact hE25  f h
    · have h := h.2 hc
      refine ac_aload_n 0 d_X6_leastOfOneRow_7 rfl rfl ?_
      refine ac_iload_n 1 d_X6_leastOfOneRow_8 rfl rfl ?_
      refine ac_iload_n 3 d_X6_leastOfOneRow_9 rfl rfl ?_
      refine ac_iload_n 2 d_X6_leastOfOneRow_10 rfl rfl ?_
      obtain ⟨⟨fs, hb⟩, h⟩ := h
      refine ac_callV0 cd_X6_areOfOneRow ml_X6_40 in_X6_areOfOneRow se_X6_areOfOneRow rfl hb (c_X6_areOfOneRow _ _ _ r0 x1 x3 x2 f _ h) rfl rfl (by rw [hro]; decide) rfl (rest := []) rfl (Nat.le_of_ble_eq_true rfl) (by rw [hro]; decide) d_X6_leastOfOneRow_11 (ac_I (fun v2 f1 h => ?_))
      refine ac_if_eq (tgt := 19) d_X6_leastOfOneRow_14 (by decide) (fun hc => ?_) (fun hc => ?_)
      · have h := h.1 hc
        obtain ⟨v3, ev3⟩ : ∃ y : Int32, y = x3 + 1 := ⟨_, rfl⟩
        have h := h v3 ev3
        refine ac_iinc (j := 3) (lv' := [(3, .int v3), (0, .ref r0), (1, .int x1), (2, .int x2)]) d_X6_leastOfOneRow_19 rfl (by rw [ev3]; rfl) (by decide) rfl ?_
        refine ac_goto (tgt := 2) d_X6_leastOfOneRow_22 (by decide) ?_
        refine ac_weak [1, 2, 3, 0] rfl ?_
        exact ih v3 f1 h
      · have h := h.2 hc
        refine ac_iload_n 3 d_X6_leastOfOneRow_17 rfl rfl ?_
        exact ac_ireturn hR rfl ⟨_, rfl, h⟩ (by decide) (by decide) d_X6_leastOfOneRow_18

set_option maxRecDepth 20000 in
set_option maxHeartbeats 4000000 in
theorem c_X6_leastOfOneRow (l : Launch) (D : va_G) (ki : Nat → ClassId) (r0 : Nat) (x1 : Int32) (x2 : Int32) (f : ac_hp) (Q : Int32 → ac_hp → Prop) (h : wp_X6_leastOfOneRow ki r0 x1 x2 f Q) : ac_met l D ki y_X6_leastOfOneRow prog_8_method_3_code 4 (some .int) (ro_ 4 0 0) [.ref r0, .int x1, .int x2] f (qr_I Q) 0 0 := by
  refine ac_enter (fun ki => wp_X6_leastOfOneRow ki r0 x1 x2 f Q) (by decide) (Nat.le_of_ble_eq_true rfl) h ?_
  intro x hro hR hnm h
  unfold wp_X6_leastOfOneRow at h
  refine ac_iconst (v := 0) d_X6_leastOfOneRow_0 rfl ?_
  refine ac_istore_n (lv' := [(3, .int 0), (0, .ref r0), (1, .int x1), (2, .int x2)]) d_X6_leastOfOneRow_1 rfl (by decide) rfl ?_
  obtain ⟨n4, h⟩ := h
  refine ac_weak [1, 2, 3, 0] rfl ?_
  refine ok_X6_leastOfOneRow_L2 hro r0 x1 x2 Q hR _ (fun f5 h => ?_) n4 0 f h
  · skip
    refine ac_iload_n 0 d_X6_leastOfOneRow_25 rfl rfl ?_
    exact ac_ireturn hR rfl ⟨_, rfl, h⟩ (by decide) (by decide) d_X6_leastOfOneRow_26

def wp_X6_productOfRows_L7 (ki : Nat → ClassId) (r0 : Nat) (x1 : Int32) (E55 : Int32 → ac_hp → Prop) : Nat → Int32 → Int32 → Int32 → ac_hp → Prop
  | 0, _, _, _, _ => False
  | n + 1, x2, x3, x4, f => ∃ o1 : Nat, hr_f f r0 6 1 (.ref o1) ∧ ∃ v2 : Int32, hr_f f o1 4 4 (.int v2) ∧ ((v2 ≤ x4 → E55 x2 f) ∧ (¬ v2 ≤ x4 → ∃ o3 : Nat, hr_f f r0 6 3 (.ref o3) ∧ ∃ v4 : Int32, hr_i (ki 0) f o3 x4 v4 ∧ ((¬ v4 = x3 → ∀ v5 : Int32, v5 = x4 + 1 → wp_X6_productOfRows_L7 ki r0 x1 E55 n x2 x3 v5 f) ∧ (v4 = x3 → ∃ o6 : Nat, hr_f f r0 6 2 (.ref o6) ∧ hr_o f o6 5 ∧ wp_X5_tableOf ki o6 x1 x4 f (fun o8 f7 => ∃ v9 : Int32, hr_f f7 o8 2 2 (.int v9) ∧ ∀ v10 : Int32, v10 = x2 * v9 → ∀ v11 : Int32, v11 = x3 + 1 → ∀ v12 : Int32, v12 = x4 + 1 → wp_X6_productOfRows_L7 ki r0 x1 E55 n v10 v11 v12 f7)))))

def wp_X6_productOfRows (ki : Nat → ClassId) (r0 : Nat) (x1 : Int32) (f : ac_hp) (Q : Int32 → ac_hp → Prop) : Prop := ∃ n13 : Nat, wp_X6_productOfRows_L7 ki r0 x1 (fun y14 f15 => Q y14 f15) n13 1 0 0 f

set_option maxRecDepth 20000 in
set_option maxHeartbeats 4000000 in
theorem ok_X6_productOfRows_L7 {x : ac_X} (hro : ac_R x = (ro_ 4 0 0)) (r0 : Nat) (x1 : Int32) (E55 : Int32 → ac_hp → Prop) (hE55 : ∀ (y2 : Int32) (f : ac_hp), E55 y2 f → ac_At (prog_8_method_5_code, 5, "VirtualRewrite$Slots") x 0 0 55 [(2, .int y2)] [] f) : ∀ (n : Nat) (x2 : Int32) (x3 : Int32) (x4 : Int32) (f : ac_hp), wp_X6_productOfRows_L7 (ac_ki x) r0 x1 E55 n x2 x3 x4 f → ac_At (prog_8_method_5_code, 5, "VirtualRewrite$Slots") x 0 0 7 [(0, .ref r0), (1, .int x1), (2, .int x2), (3, .int x3), (4, .int x4)] [] f := by
  intro n
  induction n with
  | zero => intro _ _ _ _ h; exact h.elim
  | succ n ih =>
    intro x2 x3 x4 f h
    rw [wp_X6_productOfRows_L7] at h
    refine ac_iload 4 d_X6_productOfRows_7 rfl ?_
    refine ac_aload_n 0 d_X6_productOfRows_9 rfl rfl ?_
    obtain ⟨o1, hr, h⟩ := h
    refine ak_getf hr fl_X6_23 d_X6_productOfRows_10 ?_
    obtain ⟨v2, hr, h⟩ := h
    refine ak_getf hr fl_X6_31 d_X6_productOfRows_13 ?_
    refine ac_icmp_ge (tgt := 55) d_X6_productOfRows_16 (by decide) (fun hc => ?_) (fun hc => ?_)
    · have h := h.1 hc
      refine ac_weak [2] rfl ?_
      exact hE55 x2 f h
    · have h := h.2 hc
      refine ac_aload_n 0 d_X6_productOfRows_19 rfl rfl ?_
      obtain ⟨o3, hr, h⟩ := h
      refine ak_getf hr fl_X6_9 d_X6_productOfRows_20 ?_
      refine ac_iload 4 d_X6_productOfRows_23 rfl ?_
      obtain ⟨v4, hr, h⟩ := h
      refine ak_iald 0 hr rfl d_X6_productOfRows_25 ?_
      refine ac_iload_n 3 d_X6_productOfRows_26 rfl rfl ?_
      refine ac_icmp_ne (tgt := 49) d_X6_productOfRows_27 (by decide) (fun hc => ?_) (fun hc => ?_)
      · have h := h.1 hc
        obtain ⟨v5, ev5⟩ : ∃ y : Int32, y = x4 + 1 := ⟨_, rfl⟩
        have h := h v5 ev5
        refine ac_iinc (j := 4) (lv' := [(4, .int v5), (0, .ref r0), (1, .int x1), (2, .int x2), (3, .int x3)]) d_X6_productOfRows_49 rfl (by rw [ev5]; rfl) (by decide) rfl ?_
        refine ac_goto (tgt := 7) d_X6_productOfRows_52 (by decide) ?_
        refine ac_weak [1, 2, 3, 4, 0] rfl ?_
        exact ih x2 x3 v5 f h
      · have h := h.2 hc
        refine ac_iload_n 2 d_X6_productOfRows_30 rfl rfl ?_
        refine ac_aload_n 0 d_X6_productOfRows_31 rfl rfl ?_
        obtain ⟨o6, hr, h⟩ := h
        refine ak_getf hr fl_X6_27 d_X6_productOfRows_32 ?_
        refine ac_iload_n 1 d_X6_productOfRows_35 rfl rfl ?_
        refine ac_iload 4 d_X6_productOfRows_36 rfl ?_
        obtain ⟨⟨fs, hb⟩, h⟩ := h
        refine ac_callV0 cd_X5_tableOf ml_X6_73 in_X5_tableOf se_X5_tableOf rfl hb (c_X5_tableOf _ _ _ o6 x1 x4 f _ h) rfl rfl (by rw [hro]; decide) rfl (rest := [.int x2]) rfl (Nat.le_of_ble_eq_true rfl) (by rw [hro]; decide) d_X6_productOfRows_38 (ac_Rf (fun o8 f7 h => ?_))
        obtain ⟨v9, hr, h⟩ := h
        refine ak_getf hr fl_X6_76 d_X6_productOfRows_41 ?_
        refine ac_imul d_X6_productOfRows_44 ?_
        refine ak_topi (fun v10 ev10 => ?_)
        have h := h v10 ev10
        refine ac_istore_n (lv' := [(2, .int v10), (0, .ref r0), (1, .int x1), (3, .int x3), (4, .int x4)]) d_X6_productOfRows_45 rfl (by decide) rfl ?_
        obtain ⟨v11, ev11⟩ : ∃ y : Int32, y = x3 + 1 := ⟨_, rfl⟩
        have h := h v11 ev11
        refine ac_iinc (j := 3) (lv' := [(3, .int v11), (2, .int v10), (0, .ref r0), (1, .int x1), (4, .int x4)]) d_X6_productOfRows_46 rfl (by rw [ev11]; rfl) (by decide) rfl ?_
        obtain ⟨v12, ev12⟩ : ∃ y : Int32, y = x4 + 1 := ⟨_, rfl⟩
        have h := h v12 ev12
        refine ac_iinc (j := 4) (lv' := [(4, .int v12), (3, .int v11), (2, .int v10), (0, .ref r0), (1, .int x1)]) d_X6_productOfRows_49 rfl (by rw [ev12]; rfl) (by decide) rfl ?_
        refine ac_goto (tgt := 7) d_X6_productOfRows_52 (by decide) ?_
        refine ac_weak [3, 4, 2, 1, 0] rfl ?_
        exact ih v10 v11 v12 f7 h

set_option maxRecDepth 20000 in
set_option maxHeartbeats 4000000 in
theorem c_X6_productOfRows (l : Launch) (D : va_G) (ki : Nat → ClassId) (r0 : Nat) (x1 : Int32) (f : ac_hp) (Q : Int32 → ac_hp → Prop) (h : wp_X6_productOfRows ki r0 x1 f Q) : ac_met l D ki y_X6_productOfRows prog_8_method_5_code 5 (some .int) (ro_ 4 0 0) [.ref r0, .int x1] f (qr_I Q) 0 0 := by
  refine ac_enter (fun ki => wp_X6_productOfRows ki r0 x1 f Q) (by decide) (Nat.le_of_ble_eq_true rfl) h ?_
  intro x hro hR hnm h
  unfold wp_X6_productOfRows at h
  refine ac_iconst (v := 1) d_X6_productOfRows_0 rfl ?_
  refine ac_istore_n (lv' := [(2, .int 1), (0, .ref r0), (1, .int x1)]) d_X6_productOfRows_1 rfl (by decide) rfl ?_
  refine ac_iconst (v := 0) d_X6_productOfRows_2 rfl ?_
  refine ac_istore_n (lv' := [(3, .int 0), (2, .int 1), (0, .ref r0), (1, .int x1)]) d_X6_productOfRows_3 rfl (by decide) rfl ?_
  refine ac_iconst (v := 0) d_X6_productOfRows_4 rfl ?_
  refine ac_istore (lv' := [(4, .int 0), (3, .int 0), (2, .int 1), (0, .ref r0), (1, .int x1)]) d_X6_productOfRows_5 (by decide) rfl ?_
  obtain ⟨n13, h⟩ := h
  refine ac_weak [3, 4, 2, 1, 0] rfl ?_
  refine ok_X6_productOfRows_L7 hro r0 x1 _ (fun y14 f15 h => ?_) n13 1 0 0 f h
  · skip
    refine ac_iload_n 0 d_X6_productOfRows_55 rfl rfl ?_
    exact ac_ireturn hR rfl ⟨_, rfl, h⟩ (by decide) (by decide) d_X6_productOfRows_56

def wp_X8_layOut_L2 (ki : Nat → ClassId) (r0 : Nat) (E21 : ac_hp → Prop) : Nat → Int32 → ac_hp → Prop
  | 0, _, _ => False
  | n + 1, x1, f => ((6 ≤ x1 → E21  f) ∧ (¬ 6 ≤ x1 → ∃ o1 : Nat, hr_f f r0 8 11 (.ref o1) ∧ ∃ f2 : ac_hp, hw_i (ki 0) f o1 x1 0 f2 ∧ ∀ v3 : Int32, v3 = x1 + 1 → wp_X8_layOut_L2 ki r0 E21 n v3 f2))

def wp_X8_layOut_L23 (ki : Nat → ClassId) (r0 : Nat) (E42 : ac_hp → Prop) : Nat → Int32 → ac_hp → Prop
  | 0, _, _ => False
  | n + 1, x1, f => ((24 ≤ x1 → E42  f) ∧ (¬ 24 ≤ x1 → ∃ o6 : Nat, hr_f f r0 8 6 (.ref o6) ∧ ∃ f7 : ac_hp, hw_i (ki 0) f o6 x1 (-1) f7 ∧ ∀ v8 : Int32, v8 = x1 + 1 → wp_X8_layOut_L23 ki r0 E42 n v8 f7))

def wp_X8_layOut_L44 (ki : Nat → ClassId) (r0 : Nat) (E62 : ac_hp → Prop) : Nat → Int32 → ac_hp → Prop
  | 0, _, _ => False
  | n + 1, x1, f => ((4 ≤ x1 → E62  f) ∧ (¬ 4 ≤ x1 → ∃ o11 : Nat, hr_f f r0 8 5 (.ref o11) ∧ ∃ f12 : ac_hp, hw_i (ki 0) f o11 x1 0 f12 ∧ ∀ v13 : Int32, v13 = x1 + 1 → wp_X8_layOut_L44 ki r0 E62 n v13 f12))

def wp_X8_layOut_L92 (ki : Nat → ClassId) (r0 : Nat) (x1 : Int32) (E124 : ac_hp → Prop) : Nat → Int32 → ac_hp → Prop
  | 0, _, _ => False
  | n + 1, x2, f => ((2 ≤ x2 → E124  f) ∧ (¬ 2 ≤ x2 → ∃ o23 : Nat, hr_f f r0 8 0 (.ref o23) ∧ hr_o f o23 4 ∧ wp_X4_told ki o23 x1 x2 f (fun v25 f24 => wp_X0_isVariable ki v25 f24 (fun v27 f26 => ((v27 = 0 → ∀ v28 : Int32, v28 = x2 + 1 → wp_X8_layOut_L92 ki r0 x1 E124 n v28 f26) ∧ (¬ v27 = 0 → hr_o f26 r0 8 ∧ wp_X8_layOutVariable ki r0 x1 x2 f26 (fun f29 => ∀ v30 : Int32, v30 = x2 + 1 → wp_X8_layOut_L92 ki r0 x1 E124 n v30 f29)))))))

def wp_X8_layOut_L64 (ki : Nat → ClassId) (r0 : Nat) (E130 : ac_hp → Prop) : Nat → Int32 → ac_hp → Prop
  | 0, _, _ => False
  | n + 1, x1, f => ∃ o16 : Nat, hr_f f r0 8 0 (.ref o16) ∧ ∃ v17 : Int32, hr_f f o16 4 4 (.int v17) ∧ ((v17 ≤ x1 → E130  f) ∧ (¬ v17 ≤ x1 → ∃ o18 : Nat, hr_f f r0 8 4 (.ref o18) ∧ ∃ o19 : Nat, hr_f f r0 8 2 (.ref o19) ∧ ∃ o20 : Nat, hr_f f o19 6 3 (.ref o20) ∧ ∃ v21 : Int32, hr_i (ki 0) f o20 x1 v21 ∧ ∃ f22 : ac_hp, hw_i (ki 0) f o18 v21 x1 f22 ∧ ∃ n31 : Nat, wp_X8_layOut_L92 ki r0 x1 (fun f32 => ∀ v33 : Int32, v33 = x1 + 1 → wp_X8_layOut_L64 ki r0 E130 n v33 f32) n31 0 f22))

def wp_X8_layOut (ki : Nat → ClassId) (r0 : Nat) (f : ac_hp) (Q : ac_hp → Prop) : Prop := ∃ n4 : Nat, wp_X8_layOut_L2 ki r0 (fun f5 => ∃ n9 : Nat, wp_X8_layOut_L23 ki r0 (fun f10 => ∃ n14 : Nat, wp_X8_layOut_L44 ki r0 (fun f15 => ∃ n34 : Nat, wp_X8_layOut_L64 ki r0 (fun f35 => Q f35) n34 0 f15) n14 0 f10) n9 0 f5) n4 0 f

set_option maxRecDepth 20000 in
set_option maxHeartbeats 4000000 in
theorem ok_X8_layOut_L2 {x : ac_X} (hro : ac_R x = (ro_ 4 0 0)) (r0 : Nat) (E21 : ac_hp → Prop) (hE21 : ∀ (f : ac_hp), E21 f → ac_At (prog_4_method_3_code, 3, "VirtualRewrite$Finder") x 0 0 21 [(0, .ref r0)] [] f) : ∀ (n : Nat) (x1 : Int32) (f : ac_hp), wp_X8_layOut_L2 (ac_ki x) r0 E21 n x1 f → ac_At (prog_4_method_3_code, 3, "VirtualRewrite$Finder") x 0 0 2 [(0, .ref r0), (1, .int x1)] [] f := by
  intro n
  induction n with
  | zero => intro _ _ h; exact h.elim
  | succ n ih =>
    intro x1 f h
    rw [wp_X8_layOut_L2] at h
    refine ac_iload_n 1 d_X8_layOut_2 rfl rfl ?_
    refine ac_bipush (v := 6) d_X8_layOut_3 rfl ?_
    refine ac_icmp_ge (tgt := 21) d_X8_layOut_5 (by decide) (fun hc => ?_) (fun hc => ?_)
    · have h := h.1 hc
      refine ac_weak [0] rfl ?_
      exact hE21  f h
    · have h := h.2 hc
      refine ac_aload_n 0 d_X8_layOut_8 rfl rfl ?_
      obtain ⟨o1, hr, h⟩ := h
      refine ak_getf hr fl_X8_33 d_X8_layOut_9 ?_
      refine ac_iload_n 1 d_X8_layOut_12 rfl rfl ?_
      refine ac_iconst (v := 0) d_X8_layOut_13 rfl ?_
      obtain ⟨f2, hr, h⟩ := h
      refine ak_iast 0 hr rfl d_X8_layOut_14 ?_
      obtain ⟨v3, ev3⟩ : ∃ y : Int32, y = x1 + 1 := ⟨_, rfl⟩
      have h := h v3 ev3
      refine ac_iinc (j := 1) (lv' := [(1, .int v3), (0, .ref r0)]) d_X8_layOut_15 rfl (by rw [ev3]; rfl) (by decide) rfl ?_
      refine ac_goto (tgt := 2) d_X8_layOut_18 (by decide) ?_
      refine ac_weak [1, 0] rfl ?_
      exact ih v3 f2 h

set_option maxRecDepth 20000 in
set_option maxHeartbeats 4000000 in
theorem ok_X8_layOut_L23 {x : ac_X} (hro : ac_R x = (ro_ 4 0 0)) (r0 : Nat) (E42 : ac_hp → Prop) (hE42 : ∀ (f : ac_hp), E42 f → ac_At (prog_4_method_3_code, 3, "VirtualRewrite$Finder") x 0 0 42 [(0, .ref r0)] [] f) : ∀ (n : Nat) (x1 : Int32) (f : ac_hp), wp_X8_layOut_L23 (ac_ki x) r0 E42 n x1 f → ac_At (prog_4_method_3_code, 3, "VirtualRewrite$Finder") x 0 0 23 [(0, .ref r0), (1, .int x1)] [] f := by
  intro n
  induction n with
  | zero => intro _ _ h; exact h.elim
  | succ n ih =>
    intro x1 f h
    rw [wp_X8_layOut_L23] at h
    refine ac_iload_n 1 d_X8_layOut_23 rfl rfl ?_
    refine ac_bipush (v := 24) d_X8_layOut_24 rfl ?_
    refine ac_icmp_ge (tgt := 42) d_X8_layOut_26 (by decide) (fun hc => ?_) (fun hc => ?_)
    · have h := h.1 hc
      refine ac_weak [0] rfl ?_
      exact hE42  f h
    · have h := h.2 hc
      refine ac_aload_n 0 d_X8_layOut_29 rfl rfl ?_
      obtain ⟨o6, hr, h⟩ := h
      refine ak_getf hr fl_X8_18 d_X8_layOut_30 ?_
      refine ac_iload_n 1 d_X8_layOut_33 rfl rfl ?_
      refine ac_iconst (v := -1) d_X8_layOut_34 rfl ?_
      obtain ⟨f7, hr, h⟩ := h
      refine ak_iast 0 hr rfl d_X8_layOut_35 ?_
      obtain ⟨v8, ev8⟩ : ∃ y : Int32, y = x1 + 1 := ⟨_, rfl⟩
      have h := h v8 ev8
      refine ac_iinc (j := 1) (lv' := [(1, .int v8), (0, .ref r0)]) d_X8_layOut_36 rfl (by rw [ev8]; rfl) (by decide) rfl ?_
      refine ac_goto (tgt := 23) d_X8_layOut_39 (by decide) ?_
      refine ac_weak [1, 0] rfl ?_
      exact ih v8 f7 h

set_option maxRecDepth 20000 in
set_option maxHeartbeats 4000000 in
theorem ok_X8_layOut_L44 {x : ac_X} (hro : ac_R x = (ro_ 4 0 0)) (r0 : Nat) (E62 : ac_hp → Prop) (hE62 : ∀ (f : ac_hp), E62 f → ac_At (prog_4_method_3_code, 3, "VirtualRewrite$Finder") x 0 0 62 [(0, .ref r0)] [] f) : ∀ (n : Nat) (x1 : Int32) (f : ac_hp), wp_X8_layOut_L44 (ac_ki x) r0 E62 n x1 f → ac_At (prog_4_method_3_code, 3, "VirtualRewrite$Finder") x 0 0 44 [(0, .ref r0), (1, .int x1)] [] f := by
  intro n
  induction n with
  | zero => intro _ _ h; exact h.elim
  | succ n ih =>
    intro x1 f h
    rw [wp_X8_layOut_L44] at h
    refine ac_iload_n 1 d_X8_layOut_44 rfl rfl ?_
    refine ac_iconst (v := 4) d_X8_layOut_45 rfl ?_
    refine ac_icmp_ge (tgt := 62) d_X8_layOut_46 (by decide) (fun hc => ?_) (fun hc => ?_)
    · have h := h.1 hc
      refine ac_weak [0] rfl ?_
      exact hE62  f h
    · have h := h.2 hc
      refine ac_aload_n 0 d_X8_layOut_49 rfl rfl ?_
      obtain ⟨o11, hr, h⟩ := h
      refine ak_getf hr fl_X8_15 d_X8_layOut_50 ?_
      refine ac_iload_n 1 d_X8_layOut_53 rfl rfl ?_
      refine ac_iconst (v := 0) d_X8_layOut_54 rfl ?_
      obtain ⟨f12, hr, h⟩ := h
      refine ak_iast 0 hr rfl d_X8_layOut_55 ?_
      obtain ⟨v13, ev13⟩ : ∃ y : Int32, y = x1 + 1 := ⟨_, rfl⟩
      have h := h v13 ev13
      refine ac_iinc (j := 1) (lv' := [(1, .int v13), (0, .ref r0)]) d_X8_layOut_56 rfl (by rw [ev13]; rfl) (by decide) rfl ?_
      refine ac_goto (tgt := 44) d_X8_layOut_59 (by decide) ?_
      refine ac_weak [1, 0] rfl ?_
      exact ih v13 f12 h

set_option maxRecDepth 20000 in
set_option maxHeartbeats 4000000 in
theorem ok_X8_layOut_L92 {x : ac_X} (hro : ac_R x = (ro_ 4 0 0)) (r0 : Nat) (x1 : Int32) (E124 : ac_hp → Prop) (hE124 : ∀ (f : ac_hp), E124 f → ac_At (prog_4_method_3_code, 3, "VirtualRewrite$Finder") x 0 0 124 [(0, .ref r0), (1, .int x1)] [] f) : ∀ (n : Nat) (x2 : Int32) (f : ac_hp), wp_X8_layOut_L92 (ac_ki x) r0 x1 E124 n x2 f → ac_At (prog_4_method_3_code, 3, "VirtualRewrite$Finder") x 0 0 92 [(0, .ref r0), (1, .int x1), (2, .int x2)] [] f := by
  intro n
  induction n with
  | zero => intro _ _ h; exact h.elim
  | succ n ih =>
    intro x2 f h
    rw [wp_X8_layOut_L92] at h
    refine ac_iload_n 2 d_X8_layOut_92 rfl rfl ?_
    refine ac_iconst (v := 2) d_X8_layOut_93 rfl ?_
    refine ac_icmp_ge (tgt := 124) d_X8_layOut_94 (by decide) (fun hc => ?_) (fun hc => ?_)
    · have h := h.1 hc
      refine ac_weak [0, 1] rfl ?_
      exact hE124  f h
    · have h := h.2 hc
      refine ac_aload_n 0 d_X8_layOut_97 rfl rfl ?_
      obtain ⟨o23, hr, h⟩ := h
      refine ak_getf hr fl_X8_40 d_X8_layOut_98 ?_
      refine ac_iload_n 1 d_X8_layOut_101 rfl rfl ?_
      refine ac_iload_n 2 d_X8_layOut_102 rfl rfl ?_
      obtain ⟨⟨fs, hb⟩, h⟩ := h
      refine ac_callV0 cd_X4_told ml_X8_86 in_X4_told se_X4_told rfl hb (c_X4_told _ _ _ o23 x1 x2 f _ h) rfl rfl (by rw [hro]; decide) rfl (rest := []) rfl (Nat.le_of_ble_eq_true rfl) (by rw [hro]; decide) d_X8_layOut_103 (ac_I (fun v25 f24 h => ?_))
      refine ac_callSN0 cd_X0_isVariable ml_X8_89 st_X0_isVariable (c_X0_isVariable _ _ _ v25 f24 _ h) rfl rfl (by rw [hro]; decide) rfl (rest := []) rfl (Nat.le_of_ble_eq_true rfl) (by rw [hro]; decide) d_X8_layOut_106 (ac_I (fun v27 f26 h => ?_))
      refine ac_if_eq (tgt := 118) d_X8_layOut_109 (by decide) (fun hc => ?_) (fun hc => ?_)
      · have h := h.1 hc
        obtain ⟨v28, ev28⟩ : ∃ y : Int32, y = x2 + 1 := ⟨_, rfl⟩
        have h := h v28 ev28
        refine ac_iinc (j := 2) (lv' := [(2, .int v28), (0, .ref r0), (1, .int x1)]) d_X8_layOut_118 rfl (by rw [ev28]; rfl) (by decide) rfl ?_
        refine ac_goto (tgt := 92) d_X8_layOut_121 (by decide) ?_
        refine ac_weak [1, 2, 0] rfl ?_
        exact ih v28 f26 h
      · have h := h.2 hc
        refine ac_aload_n 0 d_X8_layOut_112 rfl rfl ?_
        refine ac_iload_n 1 d_X8_layOut_113 rfl rfl ?_
        refine ac_iload_n 2 d_X8_layOut_114 rfl rfl ?_
        obtain ⟨⟨fs, hb⟩, h⟩ := h
        refine ac_callV0 cd_X8_layOutVariable ml_X8_93 in_X8_layOutVariable se_X8_layOutVariable rfl hb (c_X8_layOutVariable _ _ _ r0 x1 x2 f26 _ h) rfl rfl (by rw [hro]; decide) rfl (rest := []) rfl (Nat.le_of_ble_eq_true rfl) (by rw [hro]; decide) d_X8_layOut_115 (ac_V (fun f29 h => ?_))
        obtain ⟨v30, ev30⟩ : ∃ y : Int32, y = x2 + 1 := ⟨_, rfl⟩
        have h := h v30 ev30
        refine ac_iinc (j := 2) (lv' := [(2, .int v30), (0, .ref r0), (1, .int x1)]) d_X8_layOut_118 rfl (by rw [ev30]; rfl) (by decide) rfl ?_
        refine ac_goto (tgt := 92) d_X8_layOut_121 (by decide) ?_
        refine ac_weak [1, 2, 0] rfl ?_
        exact ih v30 f29 h

set_option maxRecDepth 20000 in
set_option maxHeartbeats 4000000 in
theorem ok_X8_layOut_L64 {x : ac_X} (hro : ac_R x = (ro_ 4 0 0)) (r0 : Nat) (E130 : ac_hp → Prop) (hE130 : ∀ (f : ac_hp), E130 f → ac_At (prog_4_method_3_code, 3, "VirtualRewrite$Finder") x 0 0 130 [] [] f) : ∀ (n : Nat) (x1 : Int32) (f : ac_hp), wp_X8_layOut_L64 (ac_ki x) r0 E130 n x1 f → ac_At (prog_4_method_3_code, 3, "VirtualRewrite$Finder") x 0 0 64 [(0, .ref r0), (1, .int x1)] [] f := by
  intro n
  induction n with
  | zero => intro _ _ h; exact h.elim
  | succ n ih =>
    intro x1 f h
    rw [wp_X8_layOut_L64] at h
    refine ac_iload_n 1 d_X8_layOut_64 rfl rfl ?_
    refine ac_aload_n 0 d_X8_layOut_65 rfl rfl ?_
    obtain ⟨o16, hr, h⟩ := h
    refine ak_getf hr fl_X8_40 d_X8_layOut_66 ?_
    obtain ⟨v17, hr, h⟩ := h
    refine ak_getf hr fl_X8_78 d_X8_layOut_69 ?_
    refine ac_icmp_ge (tgt := 130) d_X8_layOut_72 (by decide) (fun hc => ?_) (fun hc => ?_)
    · have h := h.1 hc
      refine ac_weak [] rfl ?_
      exact hE130  f h
    · have h := h.2 hc
      refine ac_aload_n 0 d_X8_layOut_75 rfl rfl ?_
      obtain ⟨o18, hr, h⟩ := h
      refine ak_getf hr fl_X8_9 d_X8_layOut_76 ?_
      refine ac_aload_n 0 d_X8_layOut_79 rfl rfl ?_
      obtain ⟨o19, hr, h⟩ := h
      refine ak_getf hr fl_X8_48 d_X8_layOut_80 ?_
      obtain ⟨o20, hr, h⟩ := h
      refine ak_getf hr fl_X8_83 d_X8_layOut_83 ?_
      refine ac_iload_n 1 d_X8_layOut_86 rfl rfl ?_
      obtain ⟨v21, hr, h⟩ := h
      refine ak_iald 0 hr rfl d_X8_layOut_87 ?_
      refine ac_iload_n 1 d_X8_layOut_88 rfl rfl ?_
      obtain ⟨f22, hr, h⟩ := h
      refine ak_iast 0 hr rfl d_X8_layOut_89 ?_
      refine ac_iconst (v := 0) d_X8_layOut_90 rfl ?_
      refine ac_istore_n (lv' := [(2, .int 0), (0, .ref r0), (1, .int x1)]) d_X8_layOut_91 rfl (by decide) rfl ?_
      obtain ⟨n31, h⟩ := h
      refine ac_weak [1, 2, 0] rfl ?_
      refine ok_X8_layOut_L92 hro r0 x1 _ (fun f32 h => ?_) n31 0 f22 h
      · skip
        obtain ⟨v33, ev33⟩ : ∃ y : Int32, y = x1 + 1 := ⟨_, rfl⟩
        have h := h v33 ev33
        refine ac_iinc (j := 1) (lv' := [(1, .int v33), (0, .ref r0)]) d_X8_layOut_124 rfl (by rw [ev33]; rfl) (by decide) rfl ?_
        refine ac_goto (tgt := 64) d_X8_layOut_127 (by decide) ?_
        refine ac_weak [1, 0] rfl ?_
        exact ih v33 f32 h

set_option maxRecDepth 20000 in
set_option maxHeartbeats 4000000 in
theorem c_X8_layOut (l : Launch) (D : va_G) (ki : Nat → ClassId) (r0 : Nat) (f : ac_hp) (Q : ac_hp → Prop) (h : wp_X8_layOut ki r0 f Q) : ac_met l D ki y_X8_layOut prog_4_method_3_code 3 none (ro_ 4 0 0) [.ref r0] f (qr_V Q) 0 0 := by
  refine ac_enter (fun ki => wp_X8_layOut ki r0 f Q) (by decide) (Nat.le_of_ble_eq_true rfl) h ?_
  intro x hro hR hnm h
  unfold wp_X8_layOut at h
  refine ac_iconst (v := 0) d_X8_layOut_0 rfl ?_
  refine ac_istore_n (lv' := [(1, .int 0), (0, .ref r0)]) d_X8_layOut_1 rfl (by decide) rfl ?_
  obtain ⟨n4, h⟩ := h
  refine ac_weak [1, 0] rfl ?_
  refine ok_X8_layOut_L2 hro r0 _ (fun f5 h => ?_) n4 0 f h
  · skip
    refine ac_iconst (v := 0) d_X8_layOut_21 rfl ?_
    refine ac_istore_n (lv' := [(1, .int 0), (0, .ref r0)]) d_X8_layOut_22 rfl (by decide) rfl ?_
    obtain ⟨n9, h⟩ := h
    refine ac_weak [1, 0] rfl ?_
    refine ok_X8_layOut_L23 hro r0 _ (fun f10 h => ?_) n9 0 f5 h
    · skip
      refine ac_iconst (v := 0) d_X8_layOut_42 rfl ?_
      refine ac_istore_n (lv' := [(1, .int 0), (0, .ref r0)]) d_X8_layOut_43 rfl (by decide) rfl ?_
      obtain ⟨n14, h⟩ := h
      refine ac_weak [1, 0] rfl ?_
      refine ok_X8_layOut_L44 hro r0 _ (fun f15 h => ?_) n14 0 f10 h
      · skip
        refine ac_iconst (v := 0) d_X8_layOut_62 rfl ?_
        refine ac_istore_n (lv' := [(1, .int 0), (0, .ref r0)]) d_X8_layOut_63 rfl (by decide) rfl ?_
        obtain ⟨n34, h⟩ := h
        refine ac_weak [1, 0] rfl ?_
        refine ok_X8_layOut_L64 hro r0 _ (fun f35 h => ?_) n34 0 f15 h
        · skip
          exact ac_vreturn hR ⟨rfl, h⟩ (by decide) (by decide) d_X8_layOut_130

