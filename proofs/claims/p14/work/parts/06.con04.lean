def wp_X0_isAsked (ki : Nat → ClassId) (r0 : Nat) (x1 : Int32) (f : ac_hp) (Q : Int32 → ac_hp → Prop) : Prop := ((¬ x1 = 8 → wp_X0_isBelow ki x1 8 f (fun v2 f1 => ((v2 = 0 → Q 0 f1) ∧ (¬ v2 = 0 → ∃ o3 : Nat, hr_f f1 r0 0 1 (.ref o3) ∧ ∃ v4 : Int32, hr_f f1 o3 4 4 (.int v4) ∧ ((v4 ≤ (x1 - x1 / 4 * 4) → Q 0 f1) ∧ (¬ v4 ≤ (x1 - x1 / 4 * 4) → Q 1 f1)))))) ∧ (x1 = 8 → Q 1 f))

set_option maxRecDepth 20000 in
set_option maxHeartbeats 4000000 in
theorem c_X0_isAsked (l : Launch) (D : va_G) (ki : Nat → ClassId) (r0 : Nat) (x1 : Int32) (f : ac_hp) (Q : Int32 → ac_hp → Prop) (h : wp_X0_isAsked ki r0 x1 f Q) : ac_met l D ki y_X0_isAsked prog_1_method_16_code 2 (some .boolean) (ro_ 2 0 0) [.ref r0, .int x1] f (qr_I Q) 0 0 := by
  refine ac_enter (fun ki => wp_X0_isAsked ki r0 x1 f Q) (by decide) (Nat.le_of_ble_eq_true rfl) h ?_
  intro x hro hR hnm h
  unfold wp_X0_isAsked at h
  refine ac_iload_n 1 d_X0_isAsked_0 rfl rfl ?_
  refine ac_bipush (v := 8) d_X0_isAsked_1 rfl ?_
  refine ac_icmp_ne (tgt := 8) d_X0_isAsked_3 (by decide) (fun hc => ?_) (fun hc => ?_)
  · have h := h.1 hc
    refine ac_iload_n 1 d_X0_isAsked_8 rfl rfl ?_
    refine ac_bipush (v := 8) d_X0_isAsked_9 rfl ?_
    refine ac_callS0 cd_X0_isBelow ml_X0_57 st_X0_isBelow (c_X0_isBelow _ _ _ x1 8 f _ h) rfl rfl (by rw [hro]; decide) rfl (rest := []) rfl (Nat.le_of_ble_eq_true rfl) (by rw [hro]; decide) d_X0_isAsked_11 (ac_I (fun v2 f1 h => ?_))
    refine ac_if_eq (tgt := 34) d_X0_isAsked_14 (by decide) (fun hc => ?_) (fun hc => ?_)
    · have h := h.1 hc
      refine ac_iconst (v := 0) d_X0_isAsked_34 rfl ?_
      exact ac_ireturn hR rfl ⟨_, rfl, h⟩ (by decide) (by decide) d_X0_isAsked_35
    · have h := h.2 hc
      refine ac_iload_n 1 d_X0_isAsked_17 rfl rfl ?_
      refine ac_iconst (v := 4) d_X0_isAsked_18 rfl ?_
      refine ac_irem d_X0_isAsked_19 (by decide) ?_
      refine ac_aload_n 0 d_X0_isAsked_20 rfl rfl ?_
      obtain ⟨o3, hr, h⟩ := h
      refine ak_getf hr fl_X0_19 d_X0_isAsked_21 ?_
      obtain ⟨v4, hr, h⟩ := h
      refine ak_getf hr fl_X0_116 d_X0_isAsked_24 ?_
      refine ac_icmp_ge (tgt := 34) d_X0_isAsked_27 (by decide) (fun hc => ?_) (fun hc => ?_)
      · have h := h.1 hc
        refine ac_iconst (v := 0) d_X0_isAsked_34 rfl ?_
        exact ac_ireturn hR rfl ⟨_, rfl, h⟩ (by decide) (by decide) d_X0_isAsked_35
      · have h := h.2 hc
        refine ac_iconst (v := 1) d_X0_isAsked_30 rfl ?_
        refine ac_goto (tgt := 35) d_X0_isAsked_31 (by decide) ?_
        exact ac_ireturn hR rfl ⟨_, rfl, h⟩ (by decide) (by decide) d_X0_isAsked_35
  · have h := h.2 hc
    refine ac_iconst (v := 1) d_X0_isAsked_6 rfl ?_
    exact ac_ireturn hR rfl ⟨_, rfl, h⟩ (by decide) (by decide) d_X0_isAsked_7

def wp_X5_mappingOf (ki : Nat → ClassId) (r0 : Nat) (x1 : Int32) (x2 : Int32) (f : ac_hp) (Q : Nat → ac_hp → Prop) : Prop := ∃ o1 : Nat, hr_f f r0 5 0 (.ref o1) ∧ ∃ o2 : Nat, hr_f f o1 1 1 (.ref o2) ∧ hr_o f r0 5 ∧ wp_X5_chosen ki r0 x1 x2 f (fun v4 f3 => ∃ o5 : Nat, hr_q (ki 4) f3 o2 v4 o5 ∧ Q o5 f3)

set_option maxRecDepth 20000 in
set_option maxHeartbeats 4000000 in
theorem c_X5_mappingOf (l : Launch) (D : va_G) (ki : Nat → ClassId) (r0 : Nat) (x1 : Int32) (x2 : Int32) (f : ac_hp) (Q : Nat → ac_hp → Prop) (h : wp_X5_mappingOf ki r0 x1 x2 f Q) : ac_met l D ki y_X5_mappingOf prog_7_method_3_code 3 (some (.object "VirtualRewrite$Mapping")) (ro_ 2 0 0) [.ref r0, .int x1, .int x2] f (qr_R Q) 0 0 := by
  refine ac_enter (fun ki => wp_X5_mappingOf ki r0 x1 x2 f Q) (by decide) (Nat.le_of_ble_eq_true rfl) h ?_
  intro x hro hR hnm h
  unfold wp_X5_mappingOf at h
  refine ac_aload_n 0 d_X5_mappingOf_0 rfl rfl ?_
  obtain ⟨o1, hr, h⟩ := h
  refine ak_getf hr fl_X5_32 d_X5_mappingOf_1 ?_
  obtain ⟨o2, hr, h⟩ := h
  refine ak_getf hr fl_X5_40 d_X5_mappingOf_4 ?_
  refine ac_aload_n 0 d_X5_mappingOf_7 rfl rfl ?_
  refine ac_iload_n 1 d_X5_mappingOf_8 rfl rfl ?_
  refine ac_iload_n 2 d_X5_mappingOf_9 rfl rfl ?_
  obtain ⟨⟨fs, hb⟩, h⟩ := h
  refine ac_callV0 cd_X5_chosen ml_X5_46 in_X5_chosen se_X5_chosen rfl hb (c_X5_chosen _ _ _ r0 x1 x2 f _ h) rfl rfl (by rw [hro]; decide) rfl (rest := [.ref o2]) rfl (Nat.le_of_ble_eq_true rfl) (by rw [hro]; decide) d_X5_mappingOf_10 (ac_I (fun v4 f3 h => ?_))
  obtain ⟨o5, hr, h⟩ := h
  refine ak_aald 4 hr rfl d_X5_mappingOf_13 ?_
  exact ac_areturn hR (Or.inl ⟨_, rfl⟩) ⟨_, rfl, h⟩ (by decide) (by decide) d_X5_mappingOf_14

def wp_X4_variables_L4 (ki : Nat → ClassId) (r0 : Nat) (E46 : Int32 → ac_hp → Prop) : Nat → Int32 → Int32 → ac_hp → Prop
  | 0, _, _, _ => False
  | n + 1, x1, x2, f => ∃ v1 : Int32, hr_f f r0 4 4 (.int v1) ∧ (((v1 * 2) ≤ x2 → E46 x1 f) ∧ (¬ (v1 * 2) ≤ x2 → ∃ o2 : Nat, hr_f f r0 4 1 (.ref o2) ∧ ∃ v3 : Int32, hr_i (ki 0) f o2 x2 v3 ∧ wp_X0_isVariable ki v3 f (fun v5 f4 => ((v5 = 0 → ∀ v6 : Int32, v6 = x2 + 1 → wp_X4_variables_L4 ki r0 E46 n x1 v6 f4) ∧ (¬ v5 = 0 → ∃ o7 : Nat, hr_f f4 r0 4 1 (.ref o7) ∧ ∃ v8 : Int32, hr_i (ki 0) f4 o7 x2 v8 ∧ wp_X0_variableOf ki v8 f4 (fun v10 f9 => wp_X0_with ki x1 v10 f9 (fun v12 f11 => ∀ v13 : Int32, v13 = x2 + 1 → wp_X4_variables_L4 ki r0 E46 n v12 v13 f11)))))))

def wp_X4_variables (ki : Nat → ClassId) (r0 : Nat) (f : ac_hp) (Q : Int32 → ac_hp → Prop) : Prop := ∃ n14 : Nat, wp_X4_variables_L4 ki r0 (fun y15 f16 => Q y15 f16) n14 0 0 f

set_option maxRecDepth 20000 in
set_option maxHeartbeats 4000000 in
theorem ok_X4_variables_L4 {x : ac_X} (hro : ac_R x = (ro_ 2 0 0)) (r0 : Nat) (E46 : Int32 → ac_hp → Prop) (hE46 : ∀ (y1 : Int32) (f : ac_hp), E46 y1 f → ac_At (prog_6_method_7_code, 3, "VirtualRewrite$Question") x 0 0 46 [(1, .int y1)] [] f) : ∀ (n : Nat) (x1 : Int32) (x2 : Int32) (f : ac_hp), wp_X4_variables_L4 (ac_ki x) r0 E46 n x1 x2 f → ac_At (prog_6_method_7_code, 3, "VirtualRewrite$Question") x 0 0 4 [(0, .ref r0), (1, .int x1), (2, .int x2)] [] f := by
  intro n
  induction n with
  | zero => intro _ _ _ h; exact h.elim
  | succ n ih =>
    intro x1 x2 f h
    rw [wp_X4_variables_L4] at h
    refine ac_iload_n 2 d_X4_variables_4 rfl rfl ?_
    refine ac_aload_n 0 d_X4_variables_5 rfl rfl ?_
    obtain ⟨v1, hr, h⟩ := h
    refine ak_getf hr fl_X4_24 d_X4_variables_6 ?_
    refine ac_iconst (v := 2) d_X4_variables_9 rfl ?_
    refine ac_imul d_X4_variables_10 ?_
    refine ac_icmp_ge (tgt := 46) d_X4_variables_11 (by decide) (fun hc => ?_) (fun hc => ?_)
    · have h := h.1 hc
      refine ac_weak [1] rfl ?_
      exact hE46 x1 f h
    · have h := h.2 hc
      refine ac_aload_n 0 d_X4_variables_14 rfl rfl ?_
      obtain ⟨o2, hr, h⟩ := h
      refine ak_getf hr fl_X4_15 d_X4_variables_15 ?_
      refine ac_iload_n 2 d_X4_variables_18 rfl rfl ?_
      obtain ⟨v3, hr, h⟩ := h
      refine ak_iald 0 hr rfl d_X4_variables_19 ?_
      refine ac_callSN0 cd_X0_isVariable ml_X4_40 st_X0_isVariable (c_X0_isVariable _ _ _ v3 f _ h) rfl rfl (by rw [hro]; decide) rfl (rest := []) rfl (Nat.le_of_ble_eq_true rfl) (by rw [hro]; decide) d_X4_variables_20 (ac_I (fun v5 f4 h => ?_))
      refine ac_if_eq (tgt := 40) d_X4_variables_23 (by decide) (fun hc => ?_) (fun hc => ?_)
      · have h := h.1 hc
        obtain ⟨v6, ev6⟩ : ∃ y : Int32, y = x2 + 1 := ⟨_, rfl⟩
        have h := h v6 ev6
        refine ac_iinc (j := 2) (lv' := [(2, .int v6), (0, .ref r0), (1, .int x1)]) d_X4_variables_40 rfl (by rw [ev6]; rfl) (by decide) rfl ?_
        refine ac_goto (tgt := 4) d_X4_variables_43 (by decide) ?_
        refine ac_weak [1, 2, 0] rfl ?_
        exact ih x1 v6 f4 h
      · have h := h.2 hc
        refine ac_iload_n 1 d_X4_variables_26 rfl rfl ?_
        refine ac_aload_n 0 d_X4_variables_27 rfl rfl ?_
        obtain ⟨o7, hr, h⟩ := h
        refine ak_getf hr fl_X4_15 d_X4_variables_28 ?_
        refine ac_iload_n 2 d_X4_variables_31 rfl rfl ?_
        obtain ⟨v8, hr, h⟩ := h
        refine ak_iald 0 hr rfl d_X4_variables_32 ?_
        refine ac_callSN0 cd_X0_variableOf ml_X4_44 st_X0_variableOf (c_X0_variableOf _ _ _ v8 f4 _ h) rfl rfl (by rw [hro]; decide) rfl (rest := [.int x1]) rfl (Nat.le_of_ble_eq_true rfl) (by rw [hro]; decide) d_X4_variables_33 (ac_I (fun v10 f9 h => ?_))
        refine ac_callSN0 cd_X0_with ml_X4_48 st_X0_with (c_X0_with _ _ _ x1 v10 f9 _ h) rfl rfl (by rw [hro]; decide) rfl (rest := []) rfl (Nat.le_of_ble_eq_true rfl) (by rw [hro]; decide) d_X4_variables_36 (ac_I (fun v12 f11 h => ?_))
        refine ac_istore_n (lv' := [(1, .int v12), (0, .ref r0), (2, .int x2)]) d_X4_variables_39 rfl (by decide) rfl ?_
        obtain ⟨v13, ev13⟩ : ∃ y : Int32, y = x2 + 1 := ⟨_, rfl⟩
        have h := h v13 ev13
        refine ac_iinc (j := 2) (lv' := [(2, .int v13), (1, .int v12), (0, .ref r0)]) d_X4_variables_40 rfl (by rw [ev13]; rfl) (by decide) rfl ?_
        refine ac_goto (tgt := 4) d_X4_variables_43 (by decide) ?_
        refine ac_weak [2, 1, 0] rfl ?_
        exact ih v12 v13 f11 h

set_option maxRecDepth 20000 in
set_option maxHeartbeats 4000000 in
theorem c_X4_variables (l : Launch) (D : va_G) (ki : Nat → ClassId) (r0 : Nat) (f : ac_hp) (Q : Int32 → ac_hp → Prop) (h : wp_X4_variables ki r0 f Q) : ac_met l D ki y_X4_variables prog_6_method_7_code 3 (some .int) (ro_ 2 0 0) [.ref r0] f (qr_I Q) 0 0 := by
  refine ac_enter (fun ki => wp_X4_variables ki r0 f Q) (by decide) (Nat.le_of_ble_eq_true rfl) h ?_
  intro x hro hR hnm h
  unfold wp_X4_variables at h
  refine ac_iconst (v := 0) d_X4_variables_0 rfl ?_
  refine ac_istore_n (lv' := [(1, .int 0), (0, .ref r0)]) d_X4_variables_1 rfl (by decide) rfl ?_
  refine ac_iconst (v := 0) d_X4_variables_2 rfl ?_
  refine ac_istore_n (lv' := [(2, .int 0), (1, .int 0), (0, .ref r0)]) d_X4_variables_3 rfl (by decide) rfl ?_
  obtain ⟨n14, h⟩ := h
  refine ac_weak [2, 1, 0] rfl ?_
  refine ok_X4_variables_L4 hro r0 _ (fun y15 f16 h => ?_) n14 0 0 f h
  · skip
    refine ac_iload_n 0 d_X4_variables_46 rfl rfl ?_
    exact ac_ireturn hR rfl ⟨_, rfl, h⟩ (by decide) (by decide) d_X4_variables_47

def wp_X8_areAlike_L3 (ki : Nat → ClassId) (r0 : Nat) (x1 : Int32) (r2 : Nat) (x3 : Int32) (x4 : Int32) (Q : Int32 → ac_hp → Prop) (E56 : ac_hp → Prop) : Nat → Int32 → ac_hp → Prop
  | 0, _, _ => False
  | n + 1, x5, f => ((6 ≤ x5 → E56  f) ∧ (¬ 6 ≤ x5 → ∃ o1 : Nat, hr_f f r0 8 6 (.ref o1) ∧ ∃ v2 : Int32, hr_i (ki 0) f o1 ((x1 * 6) + x5) v2 ∧ ((v2 = (-1) → ∀ v3 : Int32, v3 = x5 + 1 → wp_X8_areAlike_L3 ki r0 x1 r2 x3 x4 Q E56 n v3 f) ∧ (¬ v2 = (-1) → hr_o f r2 2 ∧ wp_X2_cell ki r2 x3 v2 f (fun v5 f4 => hr_o f4 r2 2 ∧ wp_X2_cell ki r2 x4 v2 f4 (fun v7 f6 => ((v5 = v7 → ∀ v8 : Int32, v8 = x5 + 1 → wp_X8_areAlike_L3 ki r0 x1 r2 x3 x4 Q E56 n v8 f6) ∧ (¬ v5 = v7 → Q 0 f6))))))))

def wp_X8_areAlike (ki : Nat → ClassId) (r0 : Nat) (x1 : Int32) (r2 : Nat) (x3 : Int32) (x4 : Int32) (f : ac_hp) (Q : Int32 → ac_hp → Prop) : Prop := ∃ n9 : Nat, wp_X8_areAlike_L3 ki r0 x1 r2 x3 x4 Q (fun f10 => Q 1 f10) n9 0 f

set_option maxRecDepth 20000 in
set_option maxHeartbeats 4000000 in
theorem ok_X8_areAlike_L3 {x : ac_X} (hro : ac_R x = (ro_ 2 0 0)) (r0 : Nat) (x1 : Int32) (r2 : Nat) (x3 : Int32) (x4 : Int32) (Q : Int32 → ac_hp → Prop) (hR : ac_rt x (some .boolean) (qr_I Q) 0 0) (E56 : ac_hp → Prop) (hE56 : ∀ (f : ac_hp), E56 f → ac_At (prog_4_method_10_code, 7, "VirtualRewrite$Finder") x 0 0 56 [] [] f) : ∀ (n : Nat) (x5 : Int32) (f : ac_hp), wp_X8_areAlike_L3 (ac_ki x) r0 x1 r2 x3 x4 Q E56 n x5 f → ac_At (prog_4_method_10_code, 7, "VirtualRewrite$Finder") x 0 0 3 [(0, .ref r0), (1, .int x1), (2, .ref r2), (3, .int x3), (4, .int x4), (5, .int x5)] [] f := by
  intro n
  induction n with
  | zero => intro _ _ h; exact h.elim
  | succ n ih =>
    intro x5 f h
    rw [wp_X8_areAlike_L3] at h
    refine ac_iload 5 d_X8_areAlike_3 rfl ?_
    refine ac_bipush (v := 6) d_X8_areAlike_5 rfl ?_
    refine ac_icmp_ge (tgt := 56) d_X8_areAlike_7 (by decide) (fun hc => ?_) (fun hc => ?_)
    · have h := h.1 hc
      refine ac_weak [] rfl ?_
      exact hE56  f h
    · have h := h.2 hc
      refine ac_aload_n 0 d_X8_areAlike_10 rfl rfl ?_
      obtain ⟨o1, hr, h⟩ := h
      refine ak_getf hr fl_X8_18 d_X8_areAlike_11 ?_
      refine ac_iload_n 1 d_X8_areAlike_14 rfl rfl ?_
      refine ac_bipush (v := 6) d_X8_areAlike_15 rfl ?_
      refine ac_imul d_X8_areAlike_17 ?_
      refine ac_iload 5 d_X8_areAlike_18 rfl ?_
      refine ac_iadd d_X8_areAlike_20 ?_
      obtain ⟨v2, hr, h⟩ := h
      refine ak_iald 0 hr rfl d_X8_areAlike_21 ?_
      refine ac_istore (lv' := [(6, .int v2), (0, .ref r0), (1, .int x1), (2, .ref r2), (3, .int x3), (4, .int x4), (5, .int x5)]) d_X8_areAlike_22 (by decide) rfl ?_
      refine ac_iload 0 d_X8_areAlike_24 rfl ?_
      refine ac_iconst (v := -1) d_X8_areAlike_26 rfl ?_
      refine ac_icmp_eq (tgt := 50) d_X8_areAlike_27 (by decide) (fun hc => ?_) (fun hc => ?_)
      · have h := h.1 hc
        obtain ⟨v3, ev3⟩ : ∃ y : Int32, y = x5 + 1 := ⟨_, rfl⟩
        have h := h v3 ev3
        refine ac_iinc (j := 6) (lv' := [(5, .int v3), (6, .int v2), (0, .ref r0), (1, .int x1), (2, .ref r2), (3, .int x3), (4, .int x4)]) d_X8_areAlike_50 rfl (by rw [ev3]; rfl) (by decide) rfl ?_
        refine ac_goto (tgt := 3) d_X8_areAlike_53 (by decide) ?_
        refine ac_weak [2, 3, 4, 5, 6, 0] rfl ?_
        exact ih v3 f h
      · have h := h.2 hc
        refine ac_aload_n 3 d_X8_areAlike_30 rfl rfl ?_
        refine ac_iload_n 4 d_X8_areAlike_31 rfl rfl ?_
        refine ac_iload 0 d_X8_areAlike_32 rfl ?_
        obtain ⟨⟨fs, hb⟩, h⟩ := h
        refine ac_callV0 cd_X2_cell ml_X8_137 in_X2_cell se_X2_cell rfl hb (c_X2_cell _ _ _ r2 x3 v2 f _ h) rfl rfl (by rw [hro]; decide) rfl (rest := []) rfl (Nat.le_of_ble_eq_true rfl) (by rw [hro]; decide) d_X8_areAlike_34 (ac_I (fun v5 f4 h => ?_))
        refine ac_aload_n 3 d_X8_areAlike_37 rfl rfl ?_
        refine ac_iload 5 d_X8_areAlike_38 rfl ?_
        refine ac_iload 0 d_X8_areAlike_40 rfl ?_
        obtain ⟨⟨fs, hb⟩, h⟩ := h
        refine ac_callV0 cd_X2_cell ml_X8_137 in_X2_cell se_X2_cell rfl hb (c_X2_cell _ _ _ r2 x4 v2 f4 _ h) rfl rfl (by rw [hro]; decide) rfl (rest := [.int v5]) rfl (Nat.le_of_ble_eq_true rfl) (by rw [hro]; decide) d_X8_areAlike_42 (ac_I (fun v7 f6 h => ?_))
        refine ac_icmp_eq (tgt := 50) d_X8_areAlike_45 (by decide) (fun hc => ?_) (fun hc => ?_)
        · have h := h.1 hc
          obtain ⟨v8, ev8⟩ : ∃ y : Int32, y = x5 + 1 := ⟨_, rfl⟩
          have h := h v8 ev8
          refine ac_iinc (j := 6) (lv' := [(5, .int v8), (6, .int v2), (0, .ref r0), (1, .int x1), (2, .ref r2), (3, .int x3), (4, .int x4)]) d_X8_areAlike_50 rfl (by rw [ev8]; rfl) (by decide) rfl ?_
          refine ac_goto (tgt := 3) d_X8_areAlike_53 (by decide) ?_
          refine ac_weak [2, 3, 4, 5, 6, 0] rfl ?_
          exact ih v8 f6 h
        · have h := h.2 hc
          refine ac_iconst (v := 0) d_X8_areAlike_48 rfl ?_
          exact ac_ireturn hR rfl ⟨_, rfl, h⟩ (by decide) (by decide) d_X8_areAlike_49

set_option maxRecDepth 20000 in
set_option maxHeartbeats 4000000 in
theorem c_X8_areAlike (l : Launch) (D : va_G) (ki : Nat → ClassId) (r0 : Nat) (x1 : Int32) (r2 : Nat) (x3 : Int32) (x4 : Int32) (f : ac_hp) (Q : Int32 → ac_hp → Prop) (h : wp_X8_areAlike ki r0 x1 r2 x3 x4 f Q) : ac_met l D ki y_X8_areAlike prog_4_method_10_code 7 (some .boolean) (ro_ 2 0 0) [.ref r0, .int x1, .ref r2, .int x3, .int x4] f (qr_I Q) 0 0 := by
  refine ac_enter (fun ki => wp_X8_areAlike ki r0 x1 r2 x3 x4 f Q) (by decide) (Nat.le_of_ble_eq_true rfl) h ?_
  intro x hro hR hnm h
  unfold wp_X8_areAlike at h
  refine ac_iconst (v := 0) d_X8_areAlike_0 rfl ?_
  refine ac_istore (lv' := [(5, .int 0), (0, .ref r0), (1, .int x1), (2, .ref r2), (3, .int x3), (4, .int x4)]) d_X8_areAlike_1 (by decide) rfl ?_
  obtain ⟨n9, h⟩ := h
  refine ac_weak [1, 2, 3, 4, 5, 0] rfl ?_
  refine ok_X8_areAlike_L3 hro r0 x1 r2 x3 x4 Q hR _ (fun f10 h => ?_) n9 0 f h
  · skip
    refine ac_iconst (v := 1) d_X8_areAlike_56 rfl ?_
    exact ac_ireturn hR rfl ⟨_, rfl, h⟩ (by decide) (by decide) d_X8_areAlike_57

def wp_X8_isBetter (ki : Nat → ClassId) (r0 : Nat) (x1 : Int32) (x2 : Int32) (x3 : Int32) (f : ac_hp) (Q : Int32 → ac_hp → Prop) : Prop := ∃ o1 : Nat, hr_f f r0 8 5 (.ref o1) ∧ ∃ v2 : Int32, hr_i (ki 0) f o1 x1 v2 ∧ wp_JInteger_bitCount ki (v2 &&& x3) f (fun v4 f3 => ∃ o5 : Nat, hr_f f3 r0 8 5 (.ref o5) ∧ ∃ v6 : Int32, hr_i (ki 0) f3 o5 x2 v6 ∧ wp_JInteger_bitCount ki (v6 &&& x3) f3 (fun v8 f7 => ((v4 = v8 → ∃ o9 : Nat, hr_f f7 r0 8 8 (.ref o9) ∧ ∃ v10 : Int32, hr_i (ki 0) f7 o9 x1 v10 ∧ ∃ o11 : Nat, hr_f f7 r0 8 8 (.ref o11) ∧ ∃ v12 : Int32, hr_i (ki 0) f7 o11 x2 v12 ∧ ((v12 ≤ v10 → Q 0 f7) ∧ (¬ v12 ≤ v10 → Q 1 f7))) ∧ (¬ v4 = v8 → ((v4 ≤ v8 → Q 0 f7) ∧ (¬ v4 ≤ v8 → Q 1 f7))))))

set_option maxRecDepth 20000 in
set_option maxHeartbeats 4000000 in
theorem c_X8_isBetter (l : Launch) (D : va_G) (ki : Nat → ClassId) (r0 : Nat) (x1 : Int32) (x2 : Int32) (x3 : Int32) (f : ac_hp) (Q : Int32 → ac_hp → Prop) (h : wp_X8_isBetter ki r0 x1 x2 x3 f Q) : ac_met l D ki y_X8_isBetter prog_4_method_12_code 6 (some .boolean) (ro_ 2 0 0) [.ref r0, .int x1, .int x2, .int x3] f (qr_I Q) 0 0 := by
  refine ac_enter (fun ki => wp_X8_isBetter ki r0 x1 x2 x3 f Q) (by decide) (Nat.le_of_ble_eq_true rfl) h ?_
  intro x hro hR hnm h
  unfold wp_X8_isBetter at h
  refine ac_aload_n 0 d_X8_isBetter_0 rfl rfl ?_
  obtain ⟨o1, hr, h⟩ := h
  refine ak_getf hr fl_X8_15 d_X8_isBetter_1 ?_
  refine ac_iload_n 1 d_X8_isBetter_4 rfl rfl ?_
  obtain ⟨v2, hr, h⟩ := h
  refine ak_iald 0 hr rfl d_X8_isBetter_5 ?_
  refine ac_iload_n 3 d_X8_isBetter_6 rfl rfl ?_
  refine ac_iand d_X8_isBetter_7 ?_
  refine ac_callS0 cd_JInteger_bitCount ml_X8_151 st_JInteger_bitCount (c_JInteger_bitCount _ _ _ (v2 &&& x3) f _ h) rfl rfl (by rw [hro]; decide) rfl (rest := []) rfl (Nat.le_of_ble_eq_true rfl) (by rw [hro]; decide) d_X8_isBetter_8 (ac_I (fun v4 f3 h => ?_))
  refine ac_istore (lv' := [(4, .int v4), (0, .ref r0), (1, .int x1), (2, .int x2), (3, .int x3)]) d_X8_isBetter_11 (by decide) rfl ?_
  refine ac_aload_n 1 d_X8_isBetter_13 rfl rfl ?_
  obtain ⟨o5, hr, h⟩ := h
  refine ak_getf hr fl_X8_15 d_X8_isBetter_14 ?_
  refine ac_iload_n 3 d_X8_isBetter_17 rfl rfl ?_
  obtain ⟨v6, hr, h⟩ := h
  refine ak_iald 0 hr rfl d_X8_isBetter_18 ?_
  refine ac_iload_n 4 d_X8_isBetter_19 rfl rfl ?_
  refine ac_iand d_X8_isBetter_20 ?_
  refine ac_callS0 cd_JInteger_bitCount ml_X8_151 st_JInteger_bitCount (c_JInteger_bitCount _ _ _ (v6 &&& x3) f3 _ h) rfl rfl (by rw [hro]; decide) rfl (rest := []) rfl (Nat.le_of_ble_eq_true rfl) (by rw [hro]; decide) d_X8_isBetter_21 (ac_I (fun v8 f7 h => ?_))
  refine ac_istore (lv' := [(5, .int v8), (4, .int v4), (0, .ref r0), (1, .int x1), (2, .int x2), (3, .int x3)]) d_X8_isBetter_24 (by decide) rfl ?_
  refine ac_iload 1 d_X8_isBetter_26 rfl ?_
  refine ac_iload 0 d_X8_isBetter_28 rfl ?_
  refine ac_icmp_eq (tgt := 48) d_X8_isBetter_30 (by decide) (fun hc => ?_) (fun hc => ?_)
  · have h := h.1 hc
    refine ac_aload_n 2 d_X8_isBetter_48 rfl rfl ?_
    obtain ⟨o9, hr, h⟩ := h
    refine ak_getf hr fl_X8_24 d_X8_isBetter_49 ?_
    refine ac_iload_n 3 d_X8_isBetter_52 rfl rfl ?_
    obtain ⟨v10, hr, h⟩ := h
    refine ak_iald 0 hr rfl d_X8_isBetter_53 ?_
    refine ac_aload_n 2 d_X8_isBetter_54 rfl rfl ?_
    obtain ⟨o11, hr, h⟩ := h
    refine ak_getf hr fl_X8_24 d_X8_isBetter_55 ?_
    refine ac_iload_n 4 d_X8_isBetter_58 rfl rfl ?_
    obtain ⟨v12, hr, h⟩ := h
    refine ak_iald 0 hr rfl d_X8_isBetter_59 ?_
    refine ac_icmp_ge (tgt := 67) d_X8_isBetter_60 (by decide) (fun hc => ?_) (fun hc => ?_)
    · have h := h.1 hc
      refine ac_iconst (v := 0) d_X8_isBetter_67 rfl ?_
      exact ac_ireturn hR rfl ⟨_, rfl, h⟩ (by decide) (by decide) d_X8_isBetter_68
    · have h := h.2 hc
      refine ac_iconst (v := 1) d_X8_isBetter_63 rfl ?_
      refine ac_goto (tgt := 68) d_X8_isBetter_64 (by decide) ?_
      exact ac_ireturn hR rfl ⟨_, rfl, h⟩ (by decide) (by decide) d_X8_isBetter_68
  · have h := h.2 hc
    refine ac_iload 1 d_X8_isBetter_33 rfl ?_
    refine ac_iload 0 d_X8_isBetter_35 rfl ?_
    refine ac_icmp_le (tgt := 44) d_X8_isBetter_37 (by decide) (fun hc => ?_) (fun hc => ?_)
    · have h := h.1 hc
      refine ac_iconst (v := 0) d_X8_isBetter_44 rfl ?_
      refine ac_goto (tgt := 68) d_X8_isBetter_45 (by decide) ?_
      exact ac_ireturn hR rfl ⟨_, rfl, h⟩ (by decide) (by decide) d_X8_isBetter_68
    · have h := h.2 hc
      refine ac_iconst (v := 1) d_X8_isBetter_40 rfl ?_
      refine ac_goto (tgt := 68) d_X8_isBetter_41 (by decide) ?_
      exact ac_ireturn hR rfl ⟨_, rfl, h⟩ (by decide) (by decide) d_X8_isBetter_68

def wp_X7_compare_L2 (ki : Nat → ClassId) (r0 : Nat) (x1 : Int32) (r2 : Nat) (Q : Int32 → ac_hp → Prop) (E34 : ac_hp → Prop) : Nat → Int32 → ac_hp → Prop
  | 0, _, _ => False
  | n + 1, x3, f => ((6 ≤ x3 → E34  f) ∧ (¬ 6 ≤ x3 → hr_o f r0 7 ∧ wp_X7_code ki r0 x1 x3 f (fun v2 f1 => ∃ v3 : Int32, hr_i (ki 0) f1 r2 x3 v3 ∧ ∀ v4 : Int32, v4 = v2 - v3 → ((v4 = 0 → ∀ v5 : Int32, v5 = x3 + 1 → wp_X7_compare_L2 ki r0 x1 r2 Q E34 n v5 f1) ∧ (¬ v4 = 0 → Q v4 f1)))))

def wp_X7_compare (ki : Nat → ClassId) (r0 : Nat) (x1 : Int32) (r2 : Nat) (f : ac_hp) (Q : Int32 → ac_hp → Prop) : Prop := ∃ n6 : Nat, wp_X7_compare_L2 ki r0 x1 r2 Q (fun f7 => Q 0 f7) n6 0 f

set_option maxRecDepth 20000 in
set_option maxHeartbeats 4000000 in
theorem ok_X7_compare_L2 {x : ac_X} (hro : ac_R x = (ro_ 2 0 0)) (r0 : Nat) (x1 : Int32) (r2 : Nat) (Q : Int32 → ac_hp → Prop) (hR : ac_rt x (some .int) (qr_I Q) 0 0) (E34 : ac_hp → Prop) (hE34 : ∀ (f : ac_hp), E34 f → ac_At (prog_2_method_9_code, 5, "VirtualRewrite$Answers") x 0 0 34 [] [] f) : ∀ (n : Nat) (x3 : Int32) (f : ac_hp), wp_X7_compare_L2 (ac_ki x) r0 x1 r2 Q E34 n x3 f → ac_At (prog_2_method_9_code, 5, "VirtualRewrite$Answers") x 0 0 2 [(0, .ref r0), (1, .int x1), (2, .ref r2), (3, .int x3)] [] f := by
  intro n
  induction n with
  | zero => intro _ _ h; exact h.elim
  | succ n ih =>
    intro x3 f h
    rw [wp_X7_compare_L2] at h
    refine ac_iload_n 3 d_X7_compare_2 rfl rfl ?_
    refine ac_bipush (v := 6) d_X7_compare_3 rfl ?_
    refine ac_icmp_ge (tgt := 34) d_X7_compare_5 (by decide) (fun hc => ?_) (fun hc => ?_)
    · have h := h.1 hc
      refine ac_weak [] rfl ?_
      exact hE34  f h
    · have h := h.2 hc
      refine ac_aload_n 0 d_X7_compare_8 rfl rfl ?_
      refine ac_iload_n 1 d_X7_compare_9 rfl rfl ?_
      refine ac_iload_n 3 d_X7_compare_10 rfl rfl ?_
      obtain ⟨⟨fs, hb⟩, h⟩ := h
      refine ac_callV0 cd_X7_code ml_X7_53 in_X7_code se_X7_code rfl hb (c_X7_code _ _ _ r0 x1 x3 f _ h) rfl rfl (by rw [hro]; decide) rfl (rest := []) rfl (Nat.le_of_ble_eq_true rfl) (by rw [hro]; decide) d_X7_compare_11 (ac_I (fun v2 f1 h => ?_))
      refine ac_aload_n 2 d_X7_compare_14 rfl rfl ?_
      refine ac_iload_n 3 d_X7_compare_15 rfl rfl ?_
      obtain ⟨v3, hr, h⟩ := h
      refine ak_iald 0 hr rfl d_X7_compare_16 ?_
      refine ac_isub d_X7_compare_17 ?_
      refine ak_topi (fun v4 ev4 => ?_)
      have h := h v4 ev4
      refine ac_istore (lv' := [(4, .int v4), (0, .ref r0), (1, .int x1), (2, .ref r2), (3, .int x3)]) d_X7_compare_18 (by decide) rfl ?_
      refine ac_iload 0 d_X7_compare_20 rfl ?_
      refine ac_if_eq (tgt := 28) d_X7_compare_22 (by decide) (fun hc => ?_) (fun hc => ?_)
      · have h := h.1 hc
        obtain ⟨v5, ev5⟩ : ∃ y : Int32, y = x3 + 1 := ⟨_, rfl⟩
        have h := h v5 ev5
        refine ac_iinc (j := 4) (lv' := [(3, .int v5), (4, .int v4), (0, .ref r0), (1, .int x1), (2, .ref r2)]) d_X7_compare_28 rfl (by rw [ev5]; rfl) (by decide) rfl ?_
        refine ac_goto (tgt := 2) d_X7_compare_31 (by decide) ?_
        refine ac_weak [2, 3, 4, 0] rfl ?_
        exact ih v5 f1 h
      · have h := h.2 hc
        refine ac_iload 0 d_X7_compare_25 rfl ?_
        exact ac_ireturn hR rfl ⟨_, rfl, h⟩ (by decide) (by decide) d_X7_compare_27

set_option maxRecDepth 20000 in
set_option maxHeartbeats 4000000 in
theorem c_X7_compare (l : Launch) (D : va_G) (ki : Nat → ClassId) (r0 : Nat) (x1 : Int32) (r2 : Nat) (f : ac_hp) (Q : Int32 → ac_hp → Prop) (h : wp_X7_compare ki r0 x1 r2 f Q) : ac_met l D ki y_X7_compare prog_2_method_9_code 5 (some .int) (ro_ 2 0 0) [.ref r0, .int x1, .ref r2] f (qr_I Q) 0 0 := by
  refine ac_enter (fun ki => wp_X7_compare ki r0 x1 r2 f Q) (by decide) (Nat.le_of_ble_eq_true rfl) h ?_
  intro x hro hR hnm h
  unfold wp_X7_compare at h
  refine ac_iconst (v := 0) d_X7_compare_0 rfl ?_
  refine ac_istore_n (lv' := [(3, .int 0), (0, .ref r0), (1, .int x1), (2, .ref r2)]) d_X7_compare_1 rfl (by decide) rfl ?_
  obtain ⟨n6, h⟩ := h
  refine ac_weak [1, 2, 3, 0] rfl ?_
  refine ok_X7_compare_L2 hro r0 x1 r2 Q hR _ (fun f7 h => ?_) n6 0 f h
  · skip
    refine ac_iconst (v := 0) d_X7_compare_34 rfl ?_
    exact ac_ireturn hR rfl ⟨_, rfl, h⟩ (by decide) (by decide) d_X7_compare_35

def wp_X8_agrees_L3 (ki : Nat → ClassId) (r0 : Nat) (x1 : Int32) (r2 : Nat) (x3 : Int32) (x4 : Int32) (Q : Int32 → ac_hp → Prop) (E69 : ac_hp → Prop) : Nat → Int32 → ac_hp → Prop
  | 0, _, _ => False
  | n + 1, x5, f => ((6 ≤ x5 → E69  f) ∧ (¬ 6 ≤ x5 → ∃ o1 : Nat, hr_f f r0 8 6 (.ref o1) ∧ ∃ v2 : Int32, hr_i (ki 0) f o1 ((x1 * 6) + x5) v2 ∧ ((v2 = (-1) → ∀ v3 : Int32, v3 = x5 + 1 → wp_X8_agrees_L3 ki r0 x1 r2 x3 x4 Q E69 n v3 f) ∧ (¬ v2 = (-1) → wp_X0_has ki x4 x5 f (fun v5 f4 => ((v5 = 0 → ∀ v6 : Int32, v6 = x5 + 1 → wp_X8_agrees_L3 ki r0 x1 r2 x3 x4 Q E69 n v6 f4) ∧ (¬ v5 = 0 → ∃ o7 : Nat, hr_f f4 r0 8 11 (.ref o7) ∧ ∃ v8 : Int32, hr_i (ki 0) f4 o7 x5 v8 ∧ hr_o f4 r2 2 ∧ wp_X2_cell ki r2 x3 v2 f4 (fun v10 f9 => (((v8 - v8 / 10000 * 10000) = v10 → ∀ v11 : Int32, v11 = x5 + 1 → wp_X8_agrees_L3 ki r0 x1 r2 x3 x4 Q E69 n v11 f9) ∧ (¬ (v8 - v8 / 10000 * 10000) = v10 → Q 0 f9))))))))))

def wp_X8_agrees (ki : Nat → ClassId) (r0 : Nat) (x1 : Int32) (r2 : Nat) (x3 : Int32) (x4 : Int32) (f : ac_hp) (Q : Int32 → ac_hp → Prop) : Prop := ∃ n12 : Nat, wp_X8_agrees_L3 ki r0 x1 r2 x3 x4 Q (fun f13 => Q 1 f13) n12 0 f

set_option maxRecDepth 20000 in
set_option maxHeartbeats 4000000 in
theorem ok_X8_agrees_L3 {x : ac_X} (hro : ac_R x = (ro_ 2 0 0)) (r0 : Nat) (x1 : Int32) (r2 : Nat) (x3 : Int32) (x4 : Int32) (Q : Int32 → ac_hp → Prop) (hR : ac_rt x (some .boolean) (qr_I Q) 0 0) (E69 : ac_hp → Prop) (hE69 : ∀ (f : ac_hp), E69 f → ac_At (prog_4_method_14_code, 7, "VirtualRewrite$Finder") x 0 0 69 [] [] f) : ∀ (n : Nat) (x5 : Int32) (f : ac_hp), wp_X8_agrees_L3 (ac_ki x) r0 x1 r2 x3 x4 Q E69 n x5 f → ac_At (prog_4_method_14_code, 7, "VirtualRewrite$Finder") x 0 0 3 [(0, .ref r0), (1, .int x1), (2, .ref r2), (3, .int x3), (4, .int x4), (5, .int x5)] [] f := by
  intro n
  induction n with
  | zero => intro _ _ h; exact h.elim
  | succ n ih =>
    intro x5 f h
    rw [wp_X8_agrees_L3] at h
    refine ac_iload 5 d_X8_agrees_3 rfl ?_
    refine ac_bipush (v := 6) d_X8_agrees_5 rfl ?_
    refine ac_icmp_ge (tgt := 69) d_X8_agrees_7 (by decide) (fun hc => ?_) (fun hc => ?_)
    · have h := h.1 hc
      refine ac_weak [] rfl ?_
      exact hE69  f h
    · have h := h.2 hc
      refine ac_aload_n 0 d_X8_agrees_10 rfl rfl ?_
      obtain ⟨o1, hr, h⟩ := h
      refine ak_getf hr fl_X8_18 d_X8_agrees_11 ?_
      refine ac_iload_n 1 d_X8_agrees_14 rfl rfl ?_
      refine ac_bipush (v := 6) d_X8_agrees_15 rfl ?_
      refine ac_imul d_X8_agrees_17 ?_
      refine ac_iload 5 d_X8_agrees_18 rfl ?_
      refine ac_iadd d_X8_agrees_20 ?_
      obtain ⟨v2, hr, h⟩ := h
      refine ak_iald 0 hr rfl d_X8_agrees_21 ?_
      refine ac_istore (lv' := [(6, .int v2), (0, .ref r0), (1, .int x1), (2, .ref r2), (3, .int x3), (4, .int x4), (5, .int x5)]) d_X8_agrees_22 (by decide) rfl ?_
      refine ac_iload 0 d_X8_agrees_24 rfl ?_
      refine ac_iconst (v := -1) d_X8_agrees_26 rfl ?_
      refine ac_icmp_eq (tgt := 63) d_X8_agrees_27 (by decide) (fun hc => ?_) (fun hc => ?_)
      · have h := h.1 hc
        obtain ⟨v3, ev3⟩ : ∃ y : Int32, y = x5 + 1 := ⟨_, rfl⟩
        have h := h v3 ev3
        refine ac_iinc (j := 6) (lv' := [(5, .int v3), (6, .int v2), (0, .ref r0), (1, .int x1), (2, .ref r2), (3, .int x3), (4, .int x4)]) d_X8_agrees_63 rfl (by rw [ev3]; rfl) (by decide) rfl ?_
        refine ac_goto (tgt := 3) d_X8_agrees_66 (by decide) ?_
        refine ac_weak [2, 3, 4, 5, 6, 0] rfl ?_
        exact ih v3 f h
      · have h := h.2 hc
        refine ac_iload 5 d_X8_agrees_30 rfl ?_
        refine ac_iload 6 d_X8_agrees_32 rfl ?_
        refine ac_callSN0 cd_X0_has ml_X8_173 st_X0_has (c_X0_has _ _ _ x4 x5 f _ h) rfl rfl (by rw [hro]; decide) rfl (rest := []) rfl (Nat.le_of_ble_eq_true rfl) (by rw [hro]; decide) d_X8_agrees_34 (ac_I (fun v5 f4 h => ?_))
        refine ac_if_eq (tgt := 63) d_X8_agrees_37 (by decide) (fun hc => ?_) (fun hc => ?_)
        · have h := h.1 hc
          obtain ⟨v6, ev6⟩ : ∃ y : Int32, y = x5 + 1 := ⟨_, rfl⟩
          have h := h v6 ev6
          refine ac_iinc (j := 6) (lv' := [(5, .int v6), (6, .int v2), (0, .ref r0), (1, .int x1), (2, .ref r2), (3, .int x3), (4, .int x4)]) d_X8_agrees_63 rfl (by rw [ev6]; rfl) (by decide) rfl ?_
          refine ac_goto (tgt := 3) d_X8_agrees_66 (by decide) ?_
          refine ac_weak [2, 3, 4, 5, 6, 0] rfl ?_
          exact ih v6 f4 h
        · have h := h.2 hc
          refine ac_aload_n 1 d_X8_agrees_40 rfl rfl ?_
          obtain ⟨o7, hr, h⟩ := h
          refine ak_getf hr fl_X8_33 d_X8_agrees_41 ?_
          refine ac_iload 6 d_X8_agrees_44 rfl ?_
          obtain ⟨v8, hr, h⟩ := h
          refine ak_iald 0 hr rfl d_X8_agrees_46 ?_
          refine ac_sipush (v := 10000) d_X8_agrees_47 rfl ?_
          refine ac_irem d_X8_agrees_50 (by decide) ?_
          refine ac_aload_n 3 d_X8_agrees_51 rfl rfl ?_
          refine ac_iload_n 4 d_X8_agrees_52 rfl rfl ?_
          refine ac_iload 0 d_X8_agrees_53 rfl ?_
          obtain ⟨⟨fs, hb⟩, h⟩ := h
          refine ac_callV0 cd_X2_cell ml_X8_137 in_X2_cell se_X2_cell rfl hb (c_X2_cell _ _ _ r2 x3 v2 f4 _ h) rfl rfl (by rw [hro]; decide) rfl (rest := [.int (v8 - v8 / 10000 * 10000)]) rfl (Nat.le_of_ble_eq_true rfl) (by rw [hro]; decide) d_X8_agrees_55 (ac_I (fun v10 f9 h => ?_))
          refine ac_icmp_eq (tgt := 63) d_X8_agrees_58 (by decide) (fun hc => ?_) (fun hc => ?_)
          · have h := h.1 hc
            obtain ⟨v11, ev11⟩ : ∃ y : Int32, y = x5 + 1 := ⟨_, rfl⟩
            have h := h v11 ev11
            refine ac_iinc (j := 6) (lv' := [(5, .int v11), (6, .int v2), (0, .ref r0), (1, .int x1), (2, .ref r2), (3, .int x3), (4, .int x4)]) d_X8_agrees_63 rfl (by rw [ev11]; rfl) (by decide) rfl ?_
            refine ac_goto (tgt := 3) d_X8_agrees_66 (by decide) ?_
            refine ac_weak [2, 3, 4, 5, 6, 0] rfl ?_
            exact ih v11 f9 h
          · have h := h.2 hc
            refine ac_iconst (v := 0) d_X8_agrees_61 rfl ?_
            exact ac_ireturn hR rfl ⟨_, rfl, h⟩ (by decide) (by decide) d_X8_agrees_62

set_option maxRecDepth 20000 in
set_option maxHeartbeats 4000000 in
theorem c_X8_agrees (l : Launch) (D : va_G) (ki : Nat → ClassId) (r0 : Nat) (x1 : Int32) (r2 : Nat) (x3 : Int32) (x4 : Int32) (f : ac_hp) (Q : Int32 → ac_hp → Prop) (h : wp_X8_agrees ki r0 x1 r2 x3 x4 f Q) : ac_met l D ki y_X8_agrees prog_4_method_14_code 7 (some .boolean) (ro_ 2 0 0) [.ref r0, .int x1, .ref r2, .int x3, .int x4] f (qr_I Q) 0 0 := by
  refine ac_enter (fun ki => wp_X8_agrees ki r0 x1 r2 x3 x4 f Q) (by decide) (Nat.le_of_ble_eq_true rfl) h ?_
  intro x hro hR hnm h
  unfold wp_X8_agrees at h
  refine ac_iconst (v := 0) d_X8_agrees_0 rfl ?_
  refine ac_istore (lv' := [(5, .int 0), (0, .ref r0), (1, .int x1), (2, .ref r2), (3, .int x3), (4, .int x4)]) d_X8_agrees_1 (by decide) rfl ?_
  obtain ⟨n12, h⟩ := h
  refine ac_weak [1, 2, 3, 4, 5, 0] rfl ?_
  refine ok_X8_agrees_L3 hro r0 x1 r2 x3 x4 Q hR _ (fun f13 h => ?_) n12 0 f h
  · skip
    refine ac_iconst (v := 1) d_X8_agrees_69 rfl ?_
    exact ac_ireturn hR rfl ⟨_, rfl, h⟩ (by decide) (by decide) d_X8_agrees_70

def wp_X8_settleVariables_L3 (ki : Nat → ClassId) (r0 : Nat) (x1 : Int32) (r2 : Nat) (x3 : Int32) (E62 : ac_hp → Prop) : Nat → Int32 → ac_hp → Prop
  | 0, _, _ => False
  | n + 1, x4, f => ((6 ≤ x4 → E62  f) ∧ (¬ 6 ≤ x4 → ∃ o1 : Nat, hr_f f r0 8 6 (.ref o1) ∧ ∃ v2 : Int32, hr_i (ki 0) f o1 ((x1 * 6) + x4) v2 ∧ ((v2 = (-1) → ∀ v3 : Int32, v3 = x4 + 1 → wp_X8_settleVariables_L3 ki r0 x1 r2 x3 E62 n v3 f) ∧ (¬ v2 = (-1) → ∃ o4 : Nat, hr_f f r0 8 11 (.ref o4) ∧ ∃ o5 : Nat, hr_f f r0 8 10 (.ref o5) ∧ ∃ v6 : Int32, hr_i (ki 0) f o5 x4 v6 ∧ hr_o f r2 2 ∧ wp_X2_cell ki r2 x3 v2 f (fun v8 f7 => ∃ f9 : ac_hp, hw_i (ki 0) f7 o4 x4 ((v6 * 10000) + v8) f9 ∧ ∀ v10 : Int32, v10 = x4 + 1 → wp_X8_settleVariables_L3 ki r0 x1 r2 x3 E62 n v10 f9)))))

def wp_X8_settleVariables (ki : Nat → ClassId) (r0 : Nat) (x1 : Int32) (r2 : Nat) (x3 : Int32) (f : ac_hp) (Q : ac_hp → Prop) : Prop := ∃ n11 : Nat, wp_X8_settleVariables_L3 ki r0 x1 r2 x3 (fun f12 => Q f12) n11 0 f

set_option maxRecDepth 20000 in
set_option maxHeartbeats 4000000 in
theorem ok_X8_settleVariables_L3 {x : ac_X} (hro : ac_R x = (ro_ 2 0 0)) (r0 : Nat) (x1 : Int32) (r2 : Nat) (x3 : Int32) (E62 : ac_hp → Prop) (hE62 : ∀ (f : ac_hp), E62 f → ac_At (prog_4_method_15_code, 6, "VirtualRewrite$Finder") x 0 0 62 [] [] f) : ∀ (n : Nat) (x4 : Int32) (f : ac_hp), wp_X8_settleVariables_L3 (ac_ki x) r0 x1 r2 x3 E62 n x4 f → ac_At (prog_4_method_15_code, 6, "VirtualRewrite$Finder") x 0 0 3 [(0, .ref r0), (1, .int x1), (2, .ref r2), (3, .int x3), (4, .int x4)] [] f := by
  intro n
  induction n with
  | zero => intro _ _ h; exact h.elim
  | succ n ih =>
    intro x4 f h
    rw [wp_X8_settleVariables_L3] at h
    refine ac_iload 4 d_X8_settleVariables_3 rfl ?_
    refine ac_bipush (v := 6) d_X8_settleVariables_5 rfl ?_
    refine ac_icmp_ge (tgt := 62) d_X8_settleVariables_7 (by decide) (fun hc => ?_) (fun hc => ?_)
    · have h := h.1 hc
      refine ac_weak [] rfl ?_
      exact hE62  f h
    · have h := h.2 hc
      refine ac_aload_n 0 d_X8_settleVariables_10 rfl rfl ?_
      obtain ⟨o1, hr, h⟩ := h
      refine ak_getf hr fl_X8_18 d_X8_settleVariables_11 ?_
      refine ac_iload_n 1 d_X8_settleVariables_14 rfl rfl ?_
      refine ac_bipush (v := 6) d_X8_settleVariables_15 rfl ?_
      refine ac_imul d_X8_settleVariables_17 ?_
      refine ac_iload 4 d_X8_settleVariables_18 rfl ?_
      refine ac_iadd d_X8_settleVariables_20 ?_
      obtain ⟨v2, hr, h⟩ := h
      refine ak_iald 0 hr rfl d_X8_settleVariables_21 ?_
      refine ac_istore (lv' := [(5, .int v2), (0, .ref r0), (1, .int x1), (2, .ref r2), (3, .int x3), (4, .int x4)]) d_X8_settleVariables_22 (by decide) rfl ?_
      refine ac_iload 0 d_X8_settleVariables_24 rfl ?_
      refine ac_iconst (v := -1) d_X8_settleVariables_26 rfl ?_
      refine ac_icmp_eq (tgt := 56) d_X8_settleVariables_27 (by decide) (fun hc => ?_) (fun hc => ?_)
      · have h := h.1 hc
        obtain ⟨v3, ev3⟩ : ∃ y : Int32, y = x4 + 1 := ⟨_, rfl⟩
        have h := h v3 ev3
        refine ac_iinc (j := 5) (lv' := [(4, .int v3), (5, .int v2), (0, .ref r0), (1, .int x1), (2, .ref r2), (3, .int x3)]) d_X8_settleVariables_56 rfl (by rw [ev3]; rfl) (by decide) rfl ?_
        refine ac_goto (tgt := 3) d_X8_settleVariables_59 (by decide) ?_
        refine ac_weak [2, 3, 4, 5, 0] rfl ?_
        exact ih v3 f h
      · have h := h.2 hc
        refine ac_aload_n 1 d_X8_settleVariables_30 rfl rfl ?_
        obtain ⟨o4, hr, h⟩ := h
        refine ak_getf hr fl_X8_33 d_X8_settleVariables_31 ?_
        refine ac_iload 5 d_X8_settleVariables_34 rfl ?_
        refine ac_aload_n 1 d_X8_settleVariables_36 rfl rfl ?_
        obtain ⟨o5, hr, h⟩ := h
        refine ak_getf hr fl_X8_30 d_X8_settleVariables_37 ?_
        refine ac_iload 5 d_X8_settleVariables_40 rfl ?_
        obtain ⟨v6, hr, h⟩ := h
        refine ak_iald 0 hr rfl d_X8_settleVariables_42 ?_
        refine ac_sipush (v := 10000) d_X8_settleVariables_43 rfl ?_
        refine ac_imul d_X8_settleVariables_46 ?_
        refine ac_aload_n 3 d_X8_settleVariables_47 rfl rfl ?_
        refine ac_iload_n 4 d_X8_settleVariables_48 rfl rfl ?_
        refine ac_iload 0 d_X8_settleVariables_49 rfl ?_
        obtain ⟨⟨fs, hb⟩, h⟩ := h
        refine ac_callV0 cd_X2_cell ml_X8_137 in_X2_cell se_X2_cell rfl hb (c_X2_cell _ _ _ r2 x3 v2 f _ h) rfl rfl (by rw [hro]; decide) rfl (rest := [.int (v6 * 10000), .int x4, .ref o4]) rfl (Nat.le_of_ble_eq_true rfl) (by rw [hro]; decide) d_X8_settleVariables_51 (ac_I (fun v8 f7 h => ?_))
        refine ac_iadd d_X8_settleVariables_54 ?_
        obtain ⟨f9, hr, h⟩ := h
        refine ak_iast 0 hr rfl d_X8_settleVariables_55 ?_
        obtain ⟨v10, ev10⟩ : ∃ y : Int32, y = x4 + 1 := ⟨_, rfl⟩
        have h := h v10 ev10
        refine ac_iinc (j := 5) (lv' := [(4, .int v10), (5, .int v2), (0, .ref r0), (1, .int x1), (2, .ref r2), (3, .int x3)]) d_X8_settleVariables_56 rfl (by rw [ev10]; rfl) (by decide) rfl ?_
        refine ac_goto (tgt := 3) d_X8_settleVariables_59 (by decide) ?_
        refine ac_weak [2, 3, 4, 5, 0] rfl ?_
        exact ih v10 f9 h

set_option maxRecDepth 20000 in
set_option maxHeartbeats 4000000 in
theorem c_X8_settleVariables (l : Launch) (D : va_G) (ki : Nat → ClassId) (r0 : Nat) (x1 : Int32) (r2 : Nat) (x3 : Int32) (f : ac_hp) (Q : ac_hp → Prop) (h : wp_X8_settleVariables ki r0 x1 r2 x3 f Q) : ac_met l D ki y_X8_settleVariables prog_4_method_15_code 6 none (ro_ 2 0 0) [.ref r0, .int x1, .ref r2, .int x3] f (qr_V Q) 0 0 := by
  refine ac_enter (fun ki => wp_X8_settleVariables ki r0 x1 r2 x3 f Q) (by decide) (Nat.le_of_ble_eq_true rfl) h ?_
  intro x hro hR hnm h
  unfold wp_X8_settleVariables at h
  refine ac_iconst (v := 0) d_X8_settleVariables_0 rfl ?_
  refine ac_istore (lv' := [(4, .int 0), (0, .ref r0), (1, .int x1), (2, .ref r2), (3, .int x3)]) d_X8_settleVariables_1 (by decide) rfl ?_
  obtain ⟨n11, h⟩ := h
  refine ac_weak [1, 2, 3, 4, 0] rfl ?_
  refine ok_X8_settleVariables_L3 hro r0 x1 r2 x3 _ (fun f12 h => ?_) n11 0 f h
  · skip
    exact ac_vreturn hR ⟨rfl, h⟩ (by decide) (by decide) d_X8_settleVariables_62

