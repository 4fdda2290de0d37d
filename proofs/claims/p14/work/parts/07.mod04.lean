def wp_X9_isPlace (ki : Nat → ClassId) (x0 : Int32) (f : ac_hp) (Q : Int32 → ac_hp → Prop) : Prop := wp_X9_in ki x0 (-6) 59999 f (fun v2 f1 => narrow .boolean (.int v2) = .int v2 ∧ Q v2 f1)

set_option maxRecDepth 20000 in
set_option maxHeartbeats 4000000 in
theorem c_X9_isPlace (l : Launch) (D : va_G) (ki : Nat → ClassId) (x0 : Int32) (f : ac_hp) (Q : Int32 → ac_hp → Prop) (h : wp_X9_isPlace ki x0 f Q) : ac_met l D ki y_X9_isPlace prog_11_method_11_code 1 (some .boolean) (ro_ 2 0 0) [.int x0] f (qr_I Q) 0 0 := by
  refine ac_enter (fun ki => wp_X9_isPlace ki x0 f Q) (by decide) (Nat.le_of_ble_eq_true rfl) h ?_
  intro x hro hR hnm h
  unfold wp_X9_isPlace at h
  refine ac_iload_n 0 d_X9_isPlace_0 rfl rfl ?_
  refine ac_bipush (v := -6) d_X9_isPlace_1 rfl ?_
  refine ac_ldc (v := 59999) kc_X9_98 d_X9_isPlace_3 ?_
  refine ac_callS0 cd_X9_in ml_X9_84 st_X9_in (c_X9_in _ _ _ x0 (-6) 59999 f _ h) rfl rfl (by rw [hro]; decide) rfl (rest := []) rfl (Nat.le_of_ble_eq_true rfl) (by rw [hro]; decide) d_X9_isPlace_5 (ac_I (fun v2 f1 h => ?_))
  have hz := h.1
  have h := h.2
  exact ac_ireturn hR hz ⟨_, rfl, h⟩ (by decide) (by decide) d_X9_isPlace_8

def wp_X9_span (ki : Nat → ClassId) (r0 : Nat) (x1 : Int32) (x2 : Int32) (x3 : Int32) (f : ac_hp) (Q : Int32 → ac_hp → Prop) : Prop := ∃ f1 : ac_hp, hw_f f r0 9 0 (.int 0) f1 ∧ wp_X9_in ki x1 0 5 f1 (fun v3 f2 => ((¬ v3 = 0 → ∃ v4 : Int32, hr_f f2 r0 9 12 (.int v4) ∧ ((¬ v4 = 4 → ∃ o5 : Nat, hr_f f2 r0 9 13 (.ref o5) ∧ ∃ v6 : Int32, hr_f f2 r0 9 12 (.int v6) ∧ ∃ f7 : ac_hp, hw_i (ki 0) f2 o5 v6 x1 f7 ∧ ∃ o8 : Nat, hr_f f7 r0 9 14 (.ref o8) ∧ ∃ v9 : Int32, hr_f f7 r0 9 12 (.int v9) ∧ ∃ f10 : ac_hp, hw_i (ki 0) f7 o8 v9 x2 f10 ∧ ∃ o11 : Nat, hr_f f10 r0 9 15 (.ref o11) ∧ ∃ v12 : Int32, hr_f f10 r0 9 12 (.int v12) ∧ ∃ f13 : ac_hp, hw_i (ki 0) f10 o11 v12 x3 f13 ∧ ∃ v14 : Int32, hr_f f13 r0 9 12 (.int v14) ∧ ∃ f15 : ac_hp, hw_f f13 r0 9 12 (.int (v14 + 1)) f15 ∧ ∃ v16 : Int32, hr_f f15 r0 9 12 (.int v16) ∧ Q v16 f15) ∧ (v4 = 4 → Q (-2) f2))) ∧ (v3 = 0 → Q (-1) f2)))

set_option maxRecDepth 20000 in
set_option maxHeartbeats 4000000 in
theorem c_X9_span (l : Launch) (D : va_G) (ki : Nat → ClassId) (r0 : Nat) (x1 : Int32) (x2 : Int32) (x3 : Int32) (f : ac_hp) (Q : Int32 → ac_hp → Prop) (h : wp_X9_span ki r0 x1 x2 x3 f Q) : ac_met l D ki y_X9_span prog_11_method_13_code 4 (some .int) (ro_ 2 0 0) [.ref r0, .int x1, .int x2, .int x3] f (qr_I Q) 0 0 := by
  refine ac_enter (fun ki => wp_X9_span ki r0 x1 x2 x3 f Q) (by decide) (Nat.le_of_ble_eq_true rfl) h ?_
  intro x hro hR hnm h
  unfold wp_X9_span at h
  refine ac_aload_n 0 d_X9_span_0 rfl rfl ?_
  refine ac_iconst (v := 0) d_X9_span_1 rfl ?_
  obtain ⟨f1, hr, h⟩ := h
  refine ak_putf hr fp_X9_80 rfl rfl d_X9_span_2 ?_
  refine ac_iload_n 1 d_X9_span_5 rfl rfl ?_
  refine ac_iconst (v := 0) d_X9_span_6 rfl ?_
  refine ac_iconst (v := 5) d_X9_span_7 rfl ?_
  refine ac_callS0 cd_X9_in ml_X9_84 st_X9_in (c_X9_in _ _ _ x1 0 5 f1 _ h) rfl rfl (by rw [hro]; decide) rfl (rest := []) rfl (Nat.le_of_ble_eq_true rfl) (by rw [hro]; decide) d_X9_span_8 (ac_I (fun v3 f2 h => ?_))
  refine ac_if_ne (tgt := 16) d_X9_span_11 (by decide) (fun hc => ?_) (fun hc => ?_)
  · have h := h.1 hc
    refine ac_aload_n 0 d_X9_span_16 rfl rfl ?_
    obtain ⟨v4, hr, h⟩ := h
    refine ak_getf hr fl_X9_106 d_X9_span_17 ?_
    refine ac_iconst (v := 4) d_X9_span_20 rfl ?_
    refine ac_icmp_ne (tgt := 27) d_X9_span_21 (by decide) (fun hc => ?_) (fun hc => ?_)
    · have h := h.1 hc
      refine ac_aload_n 0 d_X9_span_27 rfl rfl ?_
      obtain ⟨o5, hr, h⟩ := h
      refine ak_getf hr fl_X9_38 d_X9_span_28 ?_
      refine ac_aload_n 0 d_X9_span_31 rfl rfl ?_
      obtain ⟨v6, hr, h⟩ := h
      refine ak_getf hr fl_X9_106 d_X9_span_32 ?_
      refine ac_iload_n 1 d_X9_span_35 rfl rfl ?_
      obtain ⟨f7, hr, h⟩ := h
      refine ak_iast 0 hr rfl d_X9_span_36 ?_
      refine ac_aload_n 0 d_X9_span_37 rfl rfl ?_
      obtain ⟨o8, hr, h⟩ := h
      refine ak_getf hr fl_X9_41 d_X9_span_38 ?_
      refine ac_aload_n 0 d_X9_span_41 rfl rfl ?_
      obtain ⟨v9, hr, h⟩ := h
      refine ak_getf hr fl_X9_106 d_X9_span_42 ?_
      refine ac_iload_n 2 d_X9_span_45 rfl rfl ?_
      obtain ⟨f10, hr, h⟩ := h
      refine ak_iast 0 hr rfl d_X9_span_46 ?_
      refine ac_aload_n 0 d_X9_span_47 rfl rfl ?_
      obtain ⟨o11, hr, h⟩ := h
      refine ak_getf hr fl_X9_44 d_X9_span_48 ?_
      refine ac_aload_n 0 d_X9_span_51 rfl rfl ?_
      obtain ⟨v12, hr, h⟩ := h
      refine ak_getf hr fl_X9_106 d_X9_span_52 ?_
      refine ac_iload_n 3 d_X9_span_55 rfl rfl ?_
      obtain ⟨f13, hr, h⟩ := h
      refine ak_iast 0 hr rfl d_X9_span_56 ?_
      refine ac_aload_n 0 d_X9_span_57 rfl rfl ?_
      refine ac_dup d_X9_span_58 rfl ?_
      obtain ⟨v14, hr, h⟩ := h
      refine ak_getf hr fl_X9_106 d_X9_span_59 ?_
      refine ac_iconst (v := 1) d_X9_span_62 rfl ?_
      refine ac_iadd d_X9_span_63 ?_
      obtain ⟨f15, hr, h⟩ := h
      refine ak_putf hr fp_X9_106 rfl rfl d_X9_span_64 ?_
      refine ac_aload_n 0 d_X9_span_67 rfl rfl ?_
      obtain ⟨v16, hr, h⟩ := h
      refine ak_getf hr fl_X9_106 d_X9_span_68 ?_
      exact ac_ireturn hR rfl ⟨_, rfl, h⟩ (by decide) (by decide) d_X9_span_71
    · have h := h.2 hc
      refine ac_bipush (v := -2) d_X9_span_24 rfl ?_
      exact ac_ireturn hR rfl ⟨_, rfl, h⟩ (by decide) (by decide) d_X9_span_26
  · have h := h.2 hc
    refine ac_iconst (v := -1) d_X9_span_14 rfl ?_
    exact ac_ireturn hR rfl ⟨_, rfl, h⟩ (by decide) (by decide) d_X9_span_15

def wp_X9_giveSlots_L29 (ki : Nat → ClassId) (r0 : Nat) (x1 : Int32) (x2 : Int32) (x3 : Int32) (E67 : Int32 → ac_hp → Prop) : Nat → Int32 → Int32 → ac_hp → Prop
  | 0, _, _, _ => False
  | n + 1, x4, x5, f => ((x5 < 0 → E67 x4 f) ∧ (¬ x5 < 0 → hr_o f r0 9 ∧ wp_X9_isOneRow ki r0 x2 x5 x3 f (fun v7 f6 => ((v7 = 0 → ∀ v8 : Int32, v8 = x5 + (-1) → wp_X9_giveSlots_L29 ki r0 x1 x2 x3 E67 n x4 v8 f6) ∧ (¬ v7 = 0 → ∃ o9 : Nat, hr_f f6 r0 9 18 (.ref o9) ∧ ∃ v10 : Int32, hr_i (ki 0) f6 o9 (x2 + x5) v10 ∧ ∀ v11 : Int32, v11 = x5 + (-1) → wp_X9_giveSlots_L29 ki r0 x1 x2 x3 E67 n v10 v11 f6)))))

def wp_X9_giveSlots_L13 (ki : Nat → ClassId) (r0 : Nat) (x1 : Int32) (x2 : Int32) (E116 : ac_hp → Prop) : Nat → Int32 → ac_hp → Prop
  | 0, _, _ => False
  | n + 1, x3, f => ∃ v4 : Int32, hr_f f r0 9 9 (.int v4) ∧ ((v4 ≤ x3 → E116  f) ∧ (¬ v4 ≤ x3 → ∀ v5 : Int32, v5 = x3 - 1 → ∃ n12 : Nat, wp_X9_giveSlots_L29 ki r0 x1 x2 x3 (fun y13 f14 => ∃ o15 : Nat, hr_f f14 r0 9 18 (.ref o15) ∧ ((0 ≤ y13 → ∃ f16 : ac_hp, hw_i (ki 0) f14 o15 (x2 + x3) y13 f16 ∧ ∃ o17 : Nat, hr_f f16 r0 9 19 (.ref o17) ∧ ∃ v18 : Int32, hr_i (ki 0) f16 o17 x1 v18 ∧ ((0 ≤ y13 → ∃ f19 : ac_hp, hw_i (ki 0) f16 o17 x1 (v18 + 0) f19 ∧ ∀ v20 : Int32, v20 = x3 + 1 → wp_X9_giveSlots_L13 ki r0 x1 x2 E116 n v20 f19) ∧ (¬ 0 ≤ y13 → ∃ f21 : ac_hp, hw_i (ki 0) f16 o17 x1 (v18 + 1) f21 ∧ ∀ v22 : Int32, v22 = x3 + 1 → wp_X9_giveSlots_L13 ki r0 x1 x2 E116 n v22 f21))) ∧ (¬ 0 ≤ y13 → ∃ o23 : Nat, hr_f f14 r0 9 19 (.ref o23) ∧ ∃ v24 : Int32, hr_i (ki 0) f14 o23 x1 v24 ∧ ∃ f25 : ac_hp, hw_i (ki 0) f14 o15 (x2 + x3) v24 f25 ∧ ∃ o26 : Nat, hr_f f25 r0 9 19 (.ref o26) ∧ ∃ v27 : Int32, hr_i (ki 0) f25 o26 x1 v27 ∧ ((0 ≤ y13 → ∃ f28 : ac_hp, hw_i (ki 0) f25 o26 x1 (v27 + 0) f28 ∧ ∀ v29 : Int32, v29 = x3 + 1 → wp_X9_giveSlots_L13 ki r0 x1 x2 E116 n v29 f28) ∧ (¬ 0 ≤ y13 → ∃ f30 : ac_hp, hw_i (ki 0) f25 o26 x1 (v27 + 1) f30 ∧ ∀ v31 : Int32, v31 = x3 + 1 → wp_X9_giveSlots_L13 ki r0 x1 x2 E116 n v31 f30))))) n12 (-1) v5 f))

def wp_X9_giveSlots (ki : Nat → ClassId) (r0 : Nat) (x1 : Int32) (f : ac_hp) (Q : ac_hp → Prop) : Prop := ∀ v1 : Int32, v1 = 4 * x1 → ∃ o2 : Nat, hr_f f r0 9 19 (.ref o2) ∧ ∃ f3 : ac_hp, hw_i (ki 0) f o2 x1 0 f3 ∧ ∃ n32 : Nat, wp_X9_giveSlots_L13 ki r0 x1 v1 (fun f33 => Q f33) n32 0 f3

set_option maxRecDepth 20000 in
set_option maxHeartbeats 4000000 in
theorem ok_X9_giveSlots_L29 {x : ac_X} (hro : ac_R x = (ro_ 2 0 0)) (r0 : Nat) (x1 : Int32) (x2 : Int32) (x3 : Int32) (E67 : Int32 → ac_hp → Prop) (hE67 : ∀ (y4 : Int32) (f : ac_hp), E67 y4 f → ac_At (prog_11_method_17_code, 6, "VirtualRewriteModel") x 0 0 67 [(0, .ref r0), (1, .int x1), (2, .int x2), (3, .int x3), (4, .int y4)] [] f) : ∀ (n : Nat) (x4 : Int32) (x5 : Int32) (f : ac_hp), wp_X9_giveSlots_L29 (ac_ki x) r0 x1 x2 x3 E67 n x4 x5 f → ac_At (prog_11_method_17_code, 6, "VirtualRewriteModel") x 0 0 29 [(0, .ref r0), (1, .int x1), (2, .int x2), (3, .int x3), (4, .int x4), (5, .int x5)] [] f := by
  intro n
  induction n with
  | zero => intro _ _ _ h; exact h.elim
  | succ n ih =>
    intro x4 x5 f h
    rw [wp_X9_giveSlots_L29] at h
    refine ac_iload 5 d_X9_giveSlots_29 rfl ?_
    refine ac_if_lt (tgt := 67) d_X9_giveSlots_31 (by decide) (fun hc => ?_) (fun hc => ?_)
    · have h := h.1 hc
      refine ac_weak [0, 1, 2, 3, 4] rfl ?_
      exact hE67 x4 f h
    · have h := h.2 hc
      refine ac_aload_n 0 d_X9_giveSlots_34 rfl rfl ?_
      refine ac_iload_n 2 d_X9_giveSlots_35 rfl rfl ?_
      refine ac_iload 5 d_X9_giveSlots_36 rfl ?_
      refine ac_iload_n 3 d_X9_giveSlots_38 rfl rfl ?_
      obtain ⟨⟨fs, hb⟩, h⟩ := h
      refine ac_callV0 cd_X9_isOneRow ml_X9_109 in_X9_isOneRow se_X9_isOneRow rfl hb (c_X9_isOneRow _ _ _ r0 x2 x5 x3 f _ h) rfl rfl (by rw [hro]; decide) rfl (rest := []) rfl (Nat.le_of_ble_eq_true rfl) (by rw [hro]; decide) d_X9_giveSlots_39 (ac_I (fun v7 f6 h => ?_))
      refine ac_if_eq (tgt := 57) d_X9_giveSlots_42 (by decide) (fun hc => ?_) (fun hc => ?_)
      · have h := h.1 hc
        refine ac_iload 4 d_X9_giveSlots_57 rfl ?_
        refine ac_istore (lv' := [(4, .int x4), (0, .ref r0), (1, .int x1), (2, .int x2), (3, .int x3), (5, .int x5)]) d_X9_giveSlots_59 (by decide) rfl ?_
        obtain ⟨v8, ev8⟩ : ∃ y : Int32, y = x5 + (-1) := ⟨_, rfl⟩
        have h := h v8 ev8
        refine ac_iinc (j := 5) (lv' := [(5, .int v8), (4, .int x4), (0, .ref r0), (1, .int x1), (2, .int x2), (3, .int x3)]) d_X9_giveSlots_61 rfl (by rw [ev8]; rfl) (by decide) rfl ?_
        refine ac_goto (tgt := 29) d_X9_giveSlots_64 (by decide) ?_
        refine ac_weak [2, 3, 4, 5, 1, 0] rfl ?_
        exact ih x4 v8 f6 h
      · have h := h.2 hc
        refine ac_aload_n 0 d_X9_giveSlots_45 rfl rfl ?_
        obtain ⟨o9, hr, h⟩ := h
        refine ak_getf hr fl_X9_50 d_X9_giveSlots_46 ?_
        refine ac_iload_n 2 d_X9_giveSlots_49 rfl rfl ?_
        refine ac_iload 5 d_X9_giveSlots_50 rfl ?_
        refine ac_iadd d_X9_giveSlots_52 ?_
        obtain ⟨v10, hr, h⟩ := h
        refine ak_iald 0 hr rfl d_X9_giveSlots_53 ?_
        refine ac_goto (tgt := 59) d_X9_giveSlots_54 (by decide) ?_
        refine ac_istore (lv' := [(4, .int v10), (0, .ref r0), (1, .int x1), (2, .int x2), (3, .int x3), (5, .int x5)]) d_X9_giveSlots_59 (by decide) rfl ?_
        obtain ⟨v11, ev11⟩ : ∃ y : Int32, y = x5 + (-1) := ⟨_, rfl⟩
        have h := h v11 ev11
        refine ac_iinc (j := 5) (lv' := [(5, .int v11), (4, .int v10), (0, .ref r0), (1, .int x1), (2, .int x2), (3, .int x3)]) d_X9_giveSlots_61 rfl (by rw [ev11]; rfl) (by decide) rfl ?_
        refine ac_goto (tgt := 29) d_X9_giveSlots_64 (by decide) ?_
        refine ac_weak [2, 3, 4, 5, 1, 0] rfl ?_
        exact ih v10 v11 f6 h

set_option maxRecDepth 20000 in
set_option maxHeartbeats 4000000 in
theorem ok_X9_giveSlots_L13 {x : ac_X} (hro : ac_R x = (ro_ 2 0 0)) (r0 : Nat) (x1 : Int32) (x2 : Int32) (E116 : ac_hp → Prop) (hE116 : ∀ (f : ac_hp), E116 f → ac_At (prog_11_method_17_code, 6, "VirtualRewriteModel") x 0 0 116 [] [] f) : ∀ (n : Nat) (x3 : Int32) (f : ac_hp), wp_X9_giveSlots_L13 (ac_ki x) r0 x1 x2 E116 n x3 f → ac_At (prog_11_method_17_code, 6, "VirtualRewriteModel") x 0 0 13 [(0, .ref r0), (1, .int x1), (2, .int x2), (3, .int x3)] [] f := by
  intro n
  induction n with
  | zero => intro _ _ h; exact h.elim
  | succ n ih =>
    intro x3 f h
    rw [wp_X9_giveSlots_L13] at h
    refine ac_iload_n 3 d_X9_giveSlots_13 rfl rfl ?_
    refine ac_aload_n 0 d_X9_giveSlots_14 rfl rfl ?_
    obtain ⟨v4, hr, h⟩ := h
    refine ak_getf hr fl_X9_103 d_X9_giveSlots_15 ?_
    refine ac_icmp_ge (tgt := 116) d_X9_giveSlots_18 (by decide) (fun hc => ?_) (fun hc => ?_)
    · have h := h.1 hc
      refine ac_weak [] rfl ?_
      exact hE116  f h
    · have h := h.2 hc
      refine ac_iconst (v := -1) d_X9_giveSlots_21 rfl ?_
      refine ac_istore (lv' := [(4, .int (-1)), (0, .ref r0), (1, .int x1), (2, .int x2), (3, .int x3)]) d_X9_giveSlots_22 (by decide) rfl ?_
      refine ac_iload_n 4 d_X9_giveSlots_24 rfl rfl ?_
      refine ac_iconst (v := 1) d_X9_giveSlots_25 rfl ?_
      refine ac_isub d_X9_giveSlots_26 ?_
      refine ak_topi (fun v5 ev5 => ?_)
      have h := h v5 ev5
      refine ac_istore (lv' := [(5, .int v5), (4, .int (-1)), (0, .ref r0), (1, .int x1), (2, .int x2), (3, .int x3)]) d_X9_giveSlots_27 (by decide) rfl ?_
      obtain ⟨n12, h⟩ := h
      refine ac_weak [2, 3, 4, 5, 1, 0] rfl ?_
      refine ok_X9_giveSlots_L29 hro r0 x1 x2 x3 _ (fun y13 f14 h => ?_) n12 (-1) v5 f h
      · skip
        refine ac_aload_n 0 d_X9_giveSlots_67 rfl rfl ?_
        obtain ⟨o15, hr, h⟩ := h
        refine ak_getf hr fl_X9_50 d_X9_giveSlots_68 ?_
        refine ac_iload_n 2 d_X9_giveSlots_71 rfl rfl ?_
        refine ac_iload_n 3 d_X9_giveSlots_72 rfl rfl ?_
        refine ac_iadd d_X9_giveSlots_73 ?_
        refine ac_iload 4 d_X9_giveSlots_74 rfl ?_
        refine ac_if_ge (tgt := 88) d_X9_giveSlots_76 (by decide) (fun hc => ?_) (fun hc => ?_)
        · have h := h.1 hc
          refine ac_iload 4 d_X9_giveSlots_88 rfl ?_
          obtain ⟨f16, hr, h⟩ := h
          refine ak_iast 0 hr rfl d_X9_giveSlots_90 ?_
          refine ac_aload_n 0 d_X9_giveSlots_91 rfl rfl ?_
          obtain ⟨o17, hr, h⟩ := h
          refine ak_getf hr fl_X9_53 d_X9_giveSlots_92 ?_
          refine ac_iload_n 1 d_X9_giveSlots_95 rfl rfl ?_
          refine ac_dup2 d_X9_giveSlots_96 rfl rfl ?_
          obtain ⟨v18, hr, h⟩ := h
          refine ak_iald 0 hr rfl d_X9_giveSlots_97 ?_
          refine ac_iload 4 d_X9_giveSlots_98 rfl ?_
          refine ac_if_ge (tgt := 107) d_X9_giveSlots_100 (by decide) (fun hc => ?_) (fun hc => ?_)
          · have h := h.1 hc
            refine ac_iconst (v := 0) d_X9_giveSlots_107 rfl ?_
            refine ac_iadd d_X9_giveSlots_108 ?_
            obtain ⟨f19, hr, h⟩ := h
            refine ak_iast 0 hr rfl d_X9_giveSlots_109 ?_
            obtain ⟨v20, ev20⟩ : ∃ y : Int32, y = x3 + 1 := ⟨_, rfl⟩
            have h := h v20 ev20
            refine ac_iinc (j := 3) (lv' := [(3, .int v20), (0, .ref r0), (1, .int x1), (2, .int x2), (4, .int y13)]) d_X9_giveSlots_110 rfl (by rw [ev20]; rfl) (by decide) rfl ?_
            refine ac_goto (tgt := 13) d_X9_giveSlots_113 (by decide) ?_
            refine ac_weak [1, 2, 3, 0] rfl ?_
            exact ih v20 f19 h
          · have h := h.2 hc
            refine ac_iconst (v := 1) d_X9_giveSlots_103 rfl ?_
            refine ac_goto (tgt := 108) d_X9_giveSlots_104 (by decide) ?_
            refine ac_iadd d_X9_giveSlots_108 ?_
            obtain ⟨f21, hr, h⟩ := h
            refine ak_iast 0 hr rfl d_X9_giveSlots_109 ?_
            obtain ⟨v22, ev22⟩ : ∃ y : Int32, y = x3 + 1 := ⟨_, rfl⟩
            have h := h v22 ev22
            refine ac_iinc (j := 3) (lv' := [(3, .int v22), (0, .ref r0), (1, .int x1), (2, .int x2), (4, .int y13)]) d_X9_giveSlots_110 rfl (by rw [ev22]; rfl) (by decide) rfl ?_
            refine ac_goto (tgt := 13) d_X9_giveSlots_113 (by decide) ?_
            refine ac_weak [1, 2, 3, 0] rfl ?_
            exact ih v22 f21 h
        · have h := h.2 hc
          refine ac_aload_n 0 d_X9_giveSlots_79 rfl rfl ?_
          obtain ⟨o23, hr, h⟩ := h
          refine ak_getf hr fl_X9_53 d_X9_giveSlots_80 ?_
          refine ac_iload_n 1 d_X9_giveSlots_83 rfl rfl ?_
          obtain ⟨v24, hr, h⟩ := h
          refine ak_iald 0 hr rfl d_X9_giveSlots_84 ?_
          refine ac_goto (tgt := 90) d_X9_giveSlots_85 (by decide) ?_
          obtain ⟨f25, hr, h⟩ := h
          refine ak_iast 0 hr rfl d_X9_giveSlots_90 ?_
          refine ac_aload_n 0 d_X9_giveSlots_91 rfl rfl ?_
          obtain ⟨o26, hr, h⟩ := h
          refine ak_getf hr fl_X9_53 d_X9_giveSlots_92 ?_
          refine ac_iload_n 1 d_X9_giveSlots_95 rfl rfl ?_
          refine ac_dup2 d_X9_giveSlots_96 rfl rfl ?_
          obtain ⟨v27, hr, h⟩ := h
          refine ak_iald 0 hr rfl d_X9_giveSlots_97 ?_
          refine ac_iload 4 d_X9_giveSlots_98 rfl ?_
          refine ac_if_ge (tgt := 107) d_X9_giveSlots_100 (by decide) (fun hc => ?_) (fun hc => ?_)
          · have h := h.1 hc
            refine ac_iconst (v := 0) d_X9_giveSlots_107 rfl ?_
            refine ac_iadd d_X9_giveSlots_108 ?_
            obtain ⟨f28, hr, h⟩ := h
            refine ak_iast 0 hr rfl d_X9_giveSlots_109 ?_
            obtain ⟨v29, ev29⟩ : ∃ y : Int32, y = x3 + 1 := ⟨_, rfl⟩
            have h := h v29 ev29
            refine ac_iinc (j := 3) (lv' := [(3, .int v29), (0, .ref r0), (1, .int x1), (2, .int x2), (4, .int y13)]) d_X9_giveSlots_110 rfl (by rw [ev29]; rfl) (by decide) rfl ?_
            refine ac_goto (tgt := 13) d_X9_giveSlots_113 (by decide) ?_
            refine ac_weak [1, 2, 3, 0] rfl ?_
            exact ih v29 f28 h
          · have h := h.2 hc
            refine ac_iconst (v := 1) d_X9_giveSlots_103 rfl ?_
            refine ac_goto (tgt := 108) d_X9_giveSlots_104 (by decide) ?_
            refine ac_iadd d_X9_giveSlots_108 ?_
            obtain ⟨f30, hr, h⟩ := h
            refine ak_iast 0 hr rfl d_X9_giveSlots_109 ?_
            obtain ⟨v31, ev31⟩ : ∃ y : Int32, y = x3 + 1 := ⟨_, rfl⟩
            have h := h v31 ev31
            refine ac_iinc (j := 3) (lv' := [(3, .int v31), (0, .ref r0), (1, .int x1), (2, .int x2), (4, .int y13)]) d_X9_giveSlots_110 rfl (by rw [ev31]; rfl) (by decide) rfl ?_
            refine ac_goto (tgt := 13) d_X9_giveSlots_113 (by decide) ?_
            refine ac_weak [1, 2, 3, 0] rfl ?_
            exact ih v31 f30 h

set_option maxRecDepth 20000 in
set_option maxHeartbeats 4000000 in
theorem c_X9_giveSlots (l : Launch) (D : va_G) (ki : Nat → ClassId) (r0 : Nat) (x1 : Int32) (f : ac_hp) (Q : ac_hp → Prop) (h : wp_X9_giveSlots ki r0 x1 f Q) : ac_met l D ki y_X9_giveSlots prog_11_method_17_code 6 none (ro_ 2 0 0) [.ref r0, .int x1] f (qr_V Q) 0 0 := by
  refine ac_enter (fun ki => wp_X9_giveSlots ki r0 x1 f Q) (by decide) (Nat.le_of_ble_eq_true rfl) h ?_
  intro x hro hR hnm h
  unfold wp_X9_giveSlots at h
  refine ac_iconst (v := 4) d_X9_giveSlots_0 rfl ?_
  refine ac_iload_n 1 d_X9_giveSlots_1 rfl rfl ?_
  refine ac_imul d_X9_giveSlots_2 ?_
  refine ak_topi (fun v1 ev1 => ?_)
  have h := h v1 ev1
  refine ac_istore_n (lv' := [(2, .int v1), (0, .ref r0), (1, .int x1)]) d_X9_giveSlots_3 rfl (by decide) rfl ?_
  refine ac_aload_n 1 d_X9_giveSlots_4 rfl rfl ?_
  obtain ⟨o2, hr, h⟩ := h
  refine ak_getf hr fl_X9_53 d_X9_giveSlots_5 ?_
  refine ac_iload_n 2 d_X9_giveSlots_8 rfl rfl ?_
  refine ac_iconst (v := 0) d_X9_giveSlots_9 rfl ?_
  obtain ⟨f3, hr, h⟩ := h
  refine ak_iast 0 hr rfl d_X9_giveSlots_10 ?_
  refine ac_iconst (v := 0) d_X9_giveSlots_11 rfl ?_
  refine ac_istore_n (lv' := [(3, .int 0), (2, .int v1), (0, .ref r0), (1, .int x1)]) d_X9_giveSlots_12 rfl (by decide) rfl ?_
  obtain ⟨n32, h⟩ := h
  refine ac_weak [2, 3, 1, 0] rfl ?_
  refine ok_X9_giveSlots_L13 hro r0 x1 v1 _ (fun f33 h => ?_) n32 0 f3 h
  · skip
    exact ac_vreturn hR ⟨rfl, h⟩ (by decide) (by decide) d_X9_giveSlots_116

def wp_X9_keep_L2 (ki : Nat → ClassId) (r0 : Nat) (x1 : Int32) (E24 : Int32 → ac_hp → Prop) : Nat → Int32 → ac_hp → Prop
  | 0, _, _ => False
  | n + 1, x2, f => ∃ v1 : Int32, hr_f f r0 9 23 (.int v1) ∧ ((v1 ≤ x2 → E24 x2 f) ∧ (¬ v1 ≤ x2 → hr_o f r0 9 ∧ wp_X9_compare ki r0 x2 f (fun v3 f2 => ((v3 ≤ 0 → E24 x2 f2) ∧ (¬ v3 ≤ 0 → ∀ v4 : Int32, v4 = x2 + 1 → wp_X9_keep_L2 ki r0 x1 E24 n v4 f2)))))

def wp_X9_keep_L85 (ki : Nat → ClassId) (r0 : Nat) (x1 : Int32) (x2 : Int32) (x3 : Int32) (E125 : ac_hp → Prop) : Nat → Int32 → ac_hp → Prop
  | 0, _, _ => False
  | n + 1, x4, f => ((6 ≤ x4 → E125  f) ∧ (¬ 6 ≤ x4 → ∃ o10 : Nat, hr_f f r0 9 25 (.ref o10) ∧ ∃ o11 : Nat, hr_f f r0 9 25 (.ref o11) ∧ ∃ v12 : Int32, hr_i (ki 0) f o11 (((6 * x3) - 6) + x4) v12 ∧ ∃ f13 : ac_hp, hw_i (ki 0) f o10 ((6 * x3) + x4) v12 f13 ∧ ∀ v14 : Int32, v14 = x4 + 1 → wp_X9_keep_L85 ki r0 x1 x2 x3 E125 n v14 f13))

def wp_X9_keep_L77 (ki : Nat → ClassId) (r0 : Nat) (x1 : Int32) (x2 : Int32) (E173 : ac_hp → Prop) : Nat → Int32 → ac_hp → Prop
  | 0, _, _ => False
  | n + 1, x3, f => ((x3 ≤ x2 → E173  f) ∧ (¬ x3 ≤ x2 → ∃ n15 : Nat, wp_X9_keep_L85 ki r0 x1 x2 x3 (fun f16 => ∃ o17 : Nat, hr_f f16 r0 9 26 (.ref o17) ∧ ∃ o18 : Nat, hr_f f16 r0 9 26 (.ref o18) ∧ ∃ v19 : Int32, hr_i (ki 0) f16 o18 (x3 - 1) v19 ∧ ∃ f20 : ac_hp, hw_i (ki 0) f16 o17 x3 v19 f20 ∧ ∃ o21 : Nat, hr_f f20 r0 9 27 (.ref o21) ∧ ∃ o22 : Nat, hr_f f20 r0 9 27 (.ref o22) ∧ ∃ v23 : Int32, hr_i (ki 0) f20 o22 (x3 - 1) v23 ∧ ∃ f24 : ac_hp, hw_i (ki 0) f20 o21 x3 v23 f24 ∧ ∃ o25 : Nat, hr_f f24 r0 9 28 (.ref o25) ∧ ∃ o26 : Nat, hr_f f24 r0 9 28 (.ref o26) ∧ ∃ v27 : Int32, hr_i (ki 0) f24 o26 (x3 - 1) v27 ∧ ∃ f28 : ac_hp, hw_i (ki 0) f24 o25 x3 v27 f28 ∧ ∀ v29 : Int32, v29 = x3 + (-1) → wp_X9_keep_L77 ki r0 x1 x2 E173 n v29 f28) n15 0 f))

def wp_X9_keep_L175 (ki : Nat → ClassId) (r0 : Nat) (x1 : Int32) (x2 : Int32) (E228 : ac_hp → Prop) : Nat → Int32 → ac_hp → Prop
  | 0, _, _ => False
  | n + 1, x3, f => ((6 ≤ x3 → E228  f) ∧ (¬ 6 ≤ x3 → ∃ o32 : Nat, hr_f f r0 9 25 (.ref o32) ∧ ∃ o33 : Nat, hr_f f r0 9 21 (.ref o33) ∧ ∃ v34 : Int32, hr_i (ki 0) f o33 x3 v34 ∧ ((0 ≤ v34 → ∃ o35 : Nat, hr_f f r0 9 22 (.ref o35) ∧ ∃ v36 : Int32, hr_i (ki 0) f o35 x3 v36 ∧ ∃ o37 : Nat, hr_f f r0 9 21 (.ref o37) ∧ ∃ v38 : Int32, hr_i (ki 0) f o37 x3 v38 ∧ ∃ f39 : ac_hp, hw_i (ki 0) f o32 ((6 * x2) + x3) ((10000 * v36) + v38) f39 ∧ ∀ v40 : Int32, v40 = x3 + 1 → wp_X9_keep_L175 ki r0 x1 x2 E228 n v40 f39) ∧ (¬ 0 ≤ v34 → ∃ f41 : ac_hp, hw_i (ki 0) f o32 ((6 * x2) + x3) (-1) f41 ∧ ∀ v42 : Int32, v42 = x3 + 1 → wp_X9_keep_L175 ki r0 x1 x2 E228 n v42 f41))))

def wp_X9_keep (ki : Nat → ClassId) (r0 : Nat) (x1 : Int32) (f : ac_hp) (Q : ac_hp → Prop) : Prop := ∃ n5 : Nat, wp_X9_keep_L2 ki r0 x1 (fun y6 f7 => ∃ v8 : Int32, hr_f f7 r0 9 23 (.int v8) ∧ ((v8 ≤ y6 → ∃ v9 : Int32, hr_f f7 r0 9 23 (.int v9) ∧ ∃ n30 : Nat, wp_X9_keep_L77 ki r0 x1 y6 (fun f31 => ∃ n43 : Nat, wp_X9_keep_L175 ki r0 x1 y6 (fun f44 => ∃ o45 : Nat, hr_f f44 r0 9 26 (.ref o45) ∧ ∃ f46 : ac_hp, hw_i (ki 0) f44 o45 y6 1 f46 ∧ ∃ o47 : Nat, hr_f f46 r0 9 27 (.ref o47) ∧ ∃ f48 : ac_hp, hw_i (ki 0) f46 o47 y6 x1 f48 ∧ ∃ o49 : Nat, hr_f f48 r0 9 28 (.ref o49) ∧ ∃ f50 : ac_hp, hw_i (ki 0) f48 o49 y6 x1 f50 ∧ ∃ v51 : Int32, hr_f f50 r0 9 23 (.int v51) ∧ ∃ f52 : ac_hp, hw_f f50 r0 9 23 (.int (v51 + 1)) f52 ∧ Q f52) n43 0 f31) n30 v9 f7) ∧ (¬ v8 ≤ y6 → hr_o f7 r0 9 ∧ wp_X9_compare ki r0 y6 f7 (fun v54 f53 => ((¬ v54 = 0 → ∃ v55 : Int32, hr_f f53 r0 9 23 (.int v55) ∧ ∃ n56 : Nat, wp_X9_keep_L77 ki r0 x1 y6 (fun f57 => ∃ n58 : Nat, wp_X9_keep_L175 ki r0 x1 y6 (fun f59 => ∃ o60 : Nat, hr_f f59 r0 9 26 (.ref o60) ∧ ∃ f61 : ac_hp, hw_i (ki 0) f59 o60 y6 1 f61 ∧ ∃ o62 : Nat, hr_f f61 r0 9 27 (.ref o62) ∧ ∃ f63 : ac_hp, hw_i (ki 0) f61 o62 y6 x1 f63 ∧ ∃ o64 : Nat, hr_f f63 r0 9 28 (.ref o64) ∧ ∃ f65 : ac_hp, hw_i (ki 0) f63 o64 y6 x1 f65 ∧ ∃ v66 : Int32, hr_f f65 r0 9 23 (.int v66) ∧ ∃ f67 : ac_hp, hw_f f65 r0 9 23 (.int (v66 + 1)) f67 ∧ Q f67) n58 0 f57) n56 v55 f53) ∧ (v54 = 0 → ∃ o68 : Nat, hr_f f53 r0 9 26 (.ref o68) ∧ ∃ v69 : Int32, hr_i (ki 0) f53 o68 y6 v69 ∧ ∃ o70 : Nat, hr_f f53 r0 9 28 (.ref o70) ∧ ∃ v71 : Int32, hr_i (ki 0) f53 o70 y6 v71 ∧ ((¬ v71 = x1 → ∃ f72 : ac_hp, hw_i (ki 0) f53 o68 y6 (v69 + 1) f72 ∧ ∃ o73 : Nat, hr_f f72 r0 9 28 (.ref o73) ∧ ∃ f74 : ac_hp, hw_i (ki 0) f72 o73 y6 x1 f74 ∧ Q f74) ∧ (v71 = x1 → ∃ f75 : ac_hp, hw_i (ki 0) f53 o68 y6 (v69 + 0) f75 ∧ ∃ o76 : Nat, hr_f f75 r0 9 28 (.ref o76) ∧ ∃ f77 : ac_hp, hw_i (ki 0) f75 o76 y6 x1 f77 ∧ Q f77)))))))) n5 0 f

set_option maxRecDepth 20000 in
set_option maxHeartbeats 4000000 in
theorem ok_X9_keep_L2 {x : ac_X} (hro : ac_R x = (ro_ 2 0 0)) (r0 : Nat) (x1 : Int32) (E24 : Int32 → ac_hp → Prop) (hE24 : ∀ (y2 : Int32) (f : ac_hp), E24 y2 f → ac_At (prog_11_method_25_code, 5, "VirtualRewriteModel") x 0 0 24 [(0, .ref r0), (1, .int x1), (2, .int y2)] [] f) : ∀ (n : Nat) (x2 : Int32) (f : ac_hp), wp_X9_keep_L2 (ac_ki x) r0 x1 E24 n x2 f → ac_At (prog_11_method_25_code, 5, "VirtualRewriteModel") x 0 0 2 [(0, .ref r0), (1, .int x1), (2, .int x2)] [] f := by
  intro n
  induction n with
  | zero => intro _ _ h; exact h.elim
  | succ n ih =>
    intro x2 f h
    rw [wp_X9_keep_L2] at h
    refine ac_iload_n 2 d_X9_keep_2 rfl rfl ?_
    refine ac_aload_n 0 d_X9_keep_3 rfl rfl ?_
    obtain ⟨v1, hr, h⟩ := h
    refine ak_getf hr fl_X9_130 d_X9_keep_4 ?_
    refine ac_icmp_ge (tgt := 24) d_X9_keep_7 (by decide) (fun hc => ?_) (fun hc => ?_)
    · have h := h.1 hc
      refine ac_weak [0, 1, 2] rfl ?_
      exact hE24 x2 f h
    · have h := h.2 hc
      refine ac_aload_n 0 d_X9_keep_10 rfl rfl ?_
      refine ac_iload_n 2 d_X9_keep_11 rfl rfl ?_
      obtain ⟨⟨fs, hb⟩, h⟩ := h
      refine ac_callV0 cd_X9_compare ml_X9_133 in_X9_compare se_X9_compare rfl hb (c_X9_compare _ _ _ r0 x2 f _ h) rfl rfl (by rw [hro]; decide) rfl (rest := []) rfl (Nat.le_of_ble_eq_true rfl) (by rw [hro]; decide) d_X9_keep_12 (ac_I (fun v3 f2 h => ?_))
      refine ac_if_le (tgt := 24) d_X9_keep_15 (by decide) (fun hc => ?_) (fun hc => ?_)
      · have h := h.1 hc
        refine ac_weak [0, 1, 2] rfl ?_
        exact hE24 x2 f2 h
      · have h := h.2 hc
        obtain ⟨v4, ev4⟩ : ∃ y : Int32, y = x2 + 1 := ⟨_, rfl⟩
        have h := h v4 ev4
        refine ac_iinc (j := 2) (lv' := [(2, .int v4), (0, .ref r0), (1, .int x1)]) d_X9_keep_18 rfl (by rw [ev4]; rfl) (by decide) rfl ?_
        refine ac_goto (tgt := 2) d_X9_keep_21 (by decide) ?_
        refine ac_weak [1, 2, 0] rfl ?_
        exact ih v4 f2 h

set_option maxRecDepth 20000 in
set_option maxHeartbeats 4000000 in
theorem ok_X9_keep_L85 {x : ac_X} (hro : ac_R x = (ro_ 2 0 0)) (r0 : Nat) (x1 : Int32) (x2 : Int32) (x3 : Int32) (E125 : ac_hp → Prop) (hE125 : ∀ (f : ac_hp), E125 f → ac_At (prog_11_method_25_code, 5, "VirtualRewriteModel") x 0 0 125 [(0, .ref r0), (1, .int x1), (2, .int x2), (3, .int x3)] [] f) : ∀ (n : Nat) (x4 : Int32) (f : ac_hp), wp_X9_keep_L85 (ac_ki x) r0 x1 x2 x3 E125 n x4 f → ac_At (prog_11_method_25_code, 5, "VirtualRewriteModel") x 0 0 85 [(0, .ref r0), (1, .int x1), (2, .int x2), (3, .int x3), (4, .int x4)] [] f := by
  intro n
  induction n with
  | zero => intro _ _ h; exact h.elim
  | succ n ih =>
    intro x4 f h
    rw [wp_X9_keep_L85] at h
    refine ac_iload 4 d_X9_keep_85 rfl ?_
    refine ac_bipush (v := 6) d_X9_keep_87 rfl ?_
    refine ac_icmp_ge (tgt := 125) d_X9_keep_89 (by decide) (fun hc => ?_) (fun hc => ?_)
    · have h := h.1 hc
      refine ac_weak [0, 1, 2, 3] rfl ?_
      exact hE125  f h
    · have h := h.2 hc
      refine ac_aload_n 0 d_X9_keep_92 rfl rfl ?_
      obtain ⟨o10, hr, h⟩ := h
      refine ak_getf hr fl_X9_68 d_X9_keep_93 ?_
      refine ac_bipush (v := 6) d_X9_keep_96 rfl ?_
      refine ac_iload_n 3 d_X9_keep_98 rfl rfl ?_
      refine ac_imul d_X9_keep_99 ?_
      refine ac_iload 4 d_X9_keep_100 rfl ?_
      refine ac_iadd d_X9_keep_102 ?_
      refine ac_aload_n 0 d_X9_keep_103 rfl rfl ?_
      obtain ⟨o11, hr, h⟩ := h
      refine ak_getf hr fl_X9_68 d_X9_keep_104 ?_
      refine ac_bipush (v := 6) d_X9_keep_107 rfl ?_
      refine ac_iload_n 3 d_X9_keep_109 rfl rfl ?_
      refine ac_imul d_X9_keep_110 ?_
      refine ac_bipush (v := 6) d_X9_keep_111 rfl ?_
      refine ac_isub d_X9_keep_113 ?_
      refine ac_iload 4 d_X9_keep_114 rfl ?_
      refine ac_iadd d_X9_keep_116 ?_
      obtain ⟨v12, hr, h⟩ := h
      refine ak_iald 0 hr rfl d_X9_keep_117 ?_
      obtain ⟨f13, hr, h⟩ := h
      refine ak_iast 0 hr rfl d_X9_keep_118 ?_
      obtain ⟨v14, ev14⟩ : ∃ y : Int32, y = x4 + 1 := ⟨_, rfl⟩
      have h := h v14 ev14
      refine ac_iinc (j := 4) (lv' := [(4, .int v14), (0, .ref r0), (1, .int x1), (2, .int x2), (3, .int x3)]) d_X9_keep_119 rfl (by rw [ev14]; rfl) (by decide) rfl ?_
      refine ac_goto (tgt := 85) d_X9_keep_122 (by decide) ?_
      refine ac_weak [1, 2, 3, 4, 0] rfl ?_
      exact ih v14 f13 h

set_option maxRecDepth 20000 in
set_option maxHeartbeats 4000000 in
theorem ok_X9_keep_L77 {x : ac_X} (hro : ac_R x = (ro_ 2 0 0)) (r0 : Nat) (x1 : Int32) (x2 : Int32) (E173 : ac_hp → Prop) (hE173 : ∀ (f : ac_hp), E173 f → ac_At (prog_11_method_25_code, 5, "VirtualRewriteModel") x 0 0 173 [(0, .ref r0), (1, .int x1), (2, .int x2)] [] f) : ∀ (n : Nat) (x3 : Int32) (f : ac_hp), wp_X9_keep_L77 (ac_ki x) r0 x1 x2 E173 n x3 f → ac_At (prog_11_method_25_code, 5, "VirtualRewriteModel") x 0 0 77 [(0, .ref r0), (1, .int x1), (2, .int x2), (3, .int x3)] [] f := by
  intro n
  induction n with
  | zero => intro _ _ h; exact h.elim
  | succ n ih =>
    intro x3 f h
    rw [wp_X9_keep_L77] at h
    refine ac_iload_n 3 d_X9_keep_77 rfl rfl ?_
    refine ac_iload_n 2 d_X9_keep_78 rfl rfl ?_
    refine ac_icmp_le (tgt := 173) d_X9_keep_79 (by decide) (fun hc => ?_) (fun hc => ?_)
    · have h := h.1 hc
      refine ac_weak [0, 1, 2] rfl ?_
      exact hE173  f h
    · have h := h.2 hc
      refine ac_iconst (v := 0) d_X9_keep_82 rfl ?_
      refine ac_istore (lv' := [(4, .int 0), (0, .ref r0), (1, .int x1), (2, .int x2), (3, .int x3)]) d_X9_keep_83 (by decide) rfl ?_
      obtain ⟨n15, h⟩ := h
      refine ac_weak [1, 2, 3, 4, 0] rfl ?_
      refine ok_X9_keep_L85 hro r0 x1 x2 x3 _ (fun f16 h => ?_) n15 0 f h
      · skip
        refine ac_aload_n 0 d_X9_keep_125 rfl rfl ?_
        obtain ⟨o17, hr, h⟩ := h
        refine ak_getf hr fl_X9_71 d_X9_keep_126 ?_
        refine ac_iload_n 3 d_X9_keep_129 rfl rfl ?_
        refine ac_aload_n 0 d_X9_keep_130 rfl rfl ?_
        obtain ⟨o18, hr, h⟩ := h
        refine ak_getf hr fl_X9_71 d_X9_keep_131 ?_
        refine ac_iload_n 3 d_X9_keep_134 rfl rfl ?_
        refine ac_iconst (v := 1) d_X9_keep_135 rfl ?_
        refine ac_isub d_X9_keep_136 ?_
        obtain ⟨v19, hr, h⟩ := h
        refine ak_iald 0 hr rfl d_X9_keep_137 ?_
        obtain ⟨f20, hr, h⟩ := h
        refine ak_iast 0 hr rfl d_X9_keep_138 ?_
        refine ac_aload_n 0 d_X9_keep_139 rfl rfl ?_
        obtain ⟨o21, hr, h⟩ := h
        refine ak_getf hr fl_X9_74 d_X9_keep_140 ?_
        refine ac_iload_n 3 d_X9_keep_143 rfl rfl ?_
        refine ac_aload_n 0 d_X9_keep_144 rfl rfl ?_
        obtain ⟨o22, hr, h⟩ := h
        refine ak_getf hr fl_X9_74 d_X9_keep_145 ?_
        refine ac_iload_n 3 d_X9_keep_148 rfl rfl ?_
        refine ac_iconst (v := 1) d_X9_keep_149 rfl ?_
        refine ac_isub d_X9_keep_150 ?_
        obtain ⟨v23, hr, h⟩ := h
        refine ak_iald 0 hr rfl d_X9_keep_151 ?_
        obtain ⟨f24, hr, h⟩ := h
        refine ak_iast 0 hr rfl d_X9_keep_152 ?_
        refine ac_aload_n 0 d_X9_keep_153 rfl rfl ?_
        obtain ⟨o25, hr, h⟩ := h
        refine ak_getf hr fl_X9_77 d_X9_keep_154 ?_
        refine ac_iload_n 3 d_X9_keep_157 rfl rfl ?_
        refine ac_aload_n 0 d_X9_keep_158 rfl rfl ?_
        obtain ⟨o26, hr, h⟩ := h
        refine ak_getf hr fl_X9_77 d_X9_keep_159 ?_
        refine ac_iload_n 3 d_X9_keep_162 rfl rfl ?_
        refine ac_iconst (v := 1) d_X9_keep_163 rfl ?_
        refine ac_isub d_X9_keep_164 ?_
        obtain ⟨v27, hr, h⟩ := h
        refine ak_iald 0 hr rfl d_X9_keep_165 ?_
        obtain ⟨f28, hr, h⟩ := h
        refine ak_iast 0 hr rfl d_X9_keep_166 ?_
        obtain ⟨v29, ev29⟩ : ∃ y : Int32, y = x3 + (-1) := ⟨_, rfl⟩
        have h := h v29 ev29
        refine ac_iinc (j := 3) (lv' := [(3, .int v29), (0, .ref r0), (1, .int x1), (2, .int x2)]) d_X9_keep_167 rfl (by rw [ev29]; rfl) (by decide) rfl ?_
        refine ac_goto (tgt := 77) d_X9_keep_170 (by decide) ?_
        refine ac_weak [1, 2, 3, 0] rfl ?_
        exact ih v29 f28 h

set_option maxRecDepth 20000 in
set_option maxHeartbeats 4000000 in
theorem ok_X9_keep_L175 {x : ac_X} (hro : ac_R x = (ro_ 2 0 0)) (r0 : Nat) (x1 : Int32) (x2 : Int32) (E228 : ac_hp → Prop) (hE228 : ∀ (f : ac_hp), E228 f → ac_At (prog_11_method_25_code, 5, "VirtualRewriteModel") x 0 0 228 [(0, .ref r0), (1, .int x1), (2, .int x2)] [] f) : ∀ (n : Nat) (x3 : Int32) (f : ac_hp), wp_X9_keep_L175 (ac_ki x) r0 x1 x2 E228 n x3 f → ac_At (prog_11_method_25_code, 5, "VirtualRewriteModel") x 0 0 175 [(0, .ref r0), (1, .int x1), (2, .int x2), (3, .int x3)] [] f := by
  intro n
  induction n with
  | zero => intro _ _ h; exact h.elim
  | succ n ih =>
    intro x3 f h
    rw [wp_X9_keep_L175] at h
    refine ac_iload_n 3 d_X9_keep_175 rfl rfl ?_
    refine ac_bipush (v := 6) d_X9_keep_176 rfl ?_
    refine ac_icmp_ge (tgt := 228) d_X9_keep_178 (by decide) (fun hc => ?_) (fun hc => ?_)
    · have h := h.1 hc
      refine ac_weak [0, 1, 2] rfl ?_
      exact hE228  f h
    · have h := h.2 hc
      refine ac_aload_n 0 d_X9_keep_181 rfl rfl ?_
      obtain ⟨o32, hr, h⟩ := h
      refine ak_getf hr fl_X9_68 d_X9_keep_182 ?_
      refine ac_bipush (v := 6) d_X9_keep_185 rfl ?_
      refine ac_iload_n 2 d_X9_keep_187 rfl rfl ?_
      refine ac_imul d_X9_keep_188 ?_
      refine ac_iload_n 3 d_X9_keep_189 rfl rfl ?_
      refine ac_iadd d_X9_keep_190 ?_
      refine ac_aload_n 0 d_X9_keep_191 rfl rfl ?_
      obtain ⟨o33, hr, h⟩ := h
      refine ak_getf hr fl_X9_59 d_X9_keep_192 ?_
      refine ac_iload_n 3 d_X9_keep_195 rfl rfl ?_
      obtain ⟨v34, hr, h⟩ := h
      refine ak_iald 0 hr rfl d_X9_keep_196 ?_
      refine ac_if_ge (tgt := 204) d_X9_keep_197 (by decide) (fun hc => ?_) (fun hc => ?_)
      · have h := h.1 hc
        refine ac_sipush (v := 10000) d_X9_keep_204 rfl ?_
        refine ac_aload_n 0 d_X9_keep_207 rfl rfl ?_
        obtain ⟨o35, hr, h⟩ := h
        refine ak_getf hr fl_X9_62 d_X9_keep_208 ?_
        refine ac_iload_n 3 d_X9_keep_211 rfl rfl ?_
        obtain ⟨v36, hr, h⟩ := h
        refine ak_iald 0 hr rfl d_X9_keep_212 ?_
        refine ac_imul d_X9_keep_213 ?_
        refine ac_aload_n 0 d_X9_keep_214 rfl rfl ?_
        obtain ⟨o37, hr, h⟩ := h
        refine ak_getf hr fl_X9_59 d_X9_keep_215 ?_
        refine ac_iload_n 3 d_X9_keep_218 rfl rfl ?_
        obtain ⟨v38, hr, h⟩ := h
        refine ak_iald 0 hr rfl d_X9_keep_219 ?_
        refine ac_iadd d_X9_keep_220 ?_
        obtain ⟨f39, hr, h⟩ := h
        refine ak_iast 0 hr rfl d_X9_keep_221 ?_
        obtain ⟨v40, ev40⟩ : ∃ y : Int32, y = x3 + 1 := ⟨_, rfl⟩
        have h := h v40 ev40
        refine ac_iinc (j := 3) (lv' := [(3, .int v40), (0, .ref r0), (1, .int x1), (2, .int x2)]) d_X9_keep_222 rfl (by rw [ev40]; rfl) (by decide) rfl ?_
        refine ac_goto (tgt := 175) d_X9_keep_225 (by decide) ?_
        refine ac_weak [1, 2, 3, 0] rfl ?_
        exact ih v40 f39 h
      · have h := h.2 hc
        refine ac_iconst (v := -1) d_X9_keep_200 rfl ?_
        refine ac_goto (tgt := 221) d_X9_keep_201 (by decide) ?_
        obtain ⟨f41, hr, h⟩ := h
        refine ak_iast 0 hr rfl d_X9_keep_221 ?_
        obtain ⟨v42, ev42⟩ : ∃ y : Int32, y = x3 + 1 := ⟨_, rfl⟩
        have h := h v42 ev42
        refine ac_iinc (j := 3) (lv' := [(3, .int v42), (0, .ref r0), (1, .int x1), (2, .int x2)]) d_X9_keep_222 rfl (by rw [ev42]; rfl) (by decide) rfl ?_
        refine ac_goto (tgt := 175) d_X9_keep_225 (by decide) ?_
        refine ac_weak [1, 2, 3, 0] rfl ?_
        exact ih v42 f41 h

set_option maxRecDepth 20000 in
set_option maxHeartbeats 4000000 in
theorem c_X9_keep (l : Launch) (D : va_G) (ki : Nat → ClassId) (r0 : Nat) (x1 : Int32) (f : ac_hp) (Q : ac_hp → Prop) (h : wp_X9_keep ki r0 x1 f Q) : ac_met l D ki y_X9_keep prog_11_method_25_code 5 none (ro_ 2 0 0) [.ref r0, .int x1] f (qr_V Q) 0 0 := by
  refine ac_enter (fun ki => wp_X9_keep ki r0 x1 f Q) (by decide) (Nat.le_of_ble_eq_true rfl) h ?_
  intro x hro hR hnm h
  unfold wp_X9_keep at h
  refine ac_iconst (v := 0) d_X9_keep_0 rfl ?_
  refine ac_istore_n (lv' := [(2, .int 0), (0, .ref r0), (1, .int x1)]) d_X9_keep_1 rfl (by decide) rfl ?_
  obtain ⟨n5, h⟩ := h
  refine ac_weak [1, 2, 0] rfl ?_
  refine ok_X9_keep_L2 hro r0 x1 _ (fun y6 f7 h => ?_) n5 0 f h
  · skip
    refine ac_iload_n 2 d_X9_keep_24 rfl rfl ?_
    refine ac_aload_n 0 d_X9_keep_25 rfl rfl ?_
    obtain ⟨v8, hr, h⟩ := h
    refine ak_getf hr fl_X9_130 d_X9_keep_26 ?_
    refine ac_icmp_ge (tgt := 72) d_X9_keep_29 (by decide) (fun hc => ?_) (fun hc => ?_)
    · have h := h.1 hc
      refine ac_aload_n 0 d_X9_keep_72 rfl rfl ?_
      obtain ⟨v9, hr, h⟩ := h
      refine ak_getf hr fl_X9_130 d_X9_keep_73 ?_
      refine ac_istore_n (lv' := [(3, .int v9), (0, .ref r0), (1, .int x1), (2, .int y6)]) d_X9_keep_76 rfl (by decide) rfl ?_
      obtain ⟨n30, h⟩ := h
      refine ac_weak [1, 2, 3, 0] rfl ?_
      refine ok_X9_keep_L77 hro r0 x1 y6 _ (fun f31 h => ?_) n30 v9 f7 h
      · skip
        refine ac_iconst (v := 0) d_X9_keep_173 rfl ?_
        refine ac_istore_n (lv' := [(3, .int 0), (0, .ref r0), (1, .int x1), (2, .int y6)]) d_X9_keep_174 rfl (by decide) rfl ?_
        obtain ⟨n43, h⟩ := h
        refine ac_weak [1, 2, 3, 0] rfl ?_
        refine ok_X9_keep_L175 hro r0 x1 y6 _ (fun f44 h => ?_) n43 0 f31 h
        · skip
          refine ac_aload_n 0 d_X9_keep_228 rfl rfl ?_
          obtain ⟨o45, hr, h⟩ := h
          refine ak_getf hr fl_X9_71 d_X9_keep_229 ?_
          refine ac_iload_n 2 d_X9_keep_232 rfl rfl ?_
          refine ac_iconst (v := 1) d_X9_keep_233 rfl ?_
          obtain ⟨f46, hr, h⟩ := h
          refine ak_iast 0 hr rfl d_X9_keep_234 ?_
          refine ac_aload_n 0 d_X9_keep_235 rfl rfl ?_
          obtain ⟨o47, hr, h⟩ := h
          refine ak_getf hr fl_X9_74 d_X9_keep_236 ?_
          refine ac_iload_n 2 d_X9_keep_239 rfl rfl ?_
          refine ac_iload_n 1 d_X9_keep_240 rfl rfl ?_
          obtain ⟨f48, hr, h⟩ := h
          refine ak_iast 0 hr rfl d_X9_keep_241 ?_
          refine ac_aload_n 0 d_X9_keep_242 rfl rfl ?_
          obtain ⟨o49, hr, h⟩ := h
          refine ak_getf hr fl_X9_77 d_X9_keep_243 ?_
          refine ac_iload_n 2 d_X9_keep_246 rfl rfl ?_
          refine ac_iload_n 1 d_X9_keep_247 rfl rfl ?_
          obtain ⟨f50, hr, h⟩ := h
          refine ak_iast 0 hr rfl d_X9_keep_248 ?_
          refine ac_aload_n 0 d_X9_keep_249 rfl rfl ?_
          refine ac_dup d_X9_keep_250 rfl ?_
          obtain ⟨v51, hr, h⟩ := h
          refine ak_getf hr fl_X9_130 d_X9_keep_251 ?_
          refine ac_iconst (v := 1) d_X9_keep_254 rfl ?_
          refine ac_iadd d_X9_keep_255 ?_
          obtain ⟨f52, hr, h⟩ := h
          refine ak_putf hr fp_X9_130 rfl rfl d_X9_keep_256 ?_
          exact ac_vreturn hR ⟨rfl, h⟩ (by decide) (by decide) d_X9_keep_259
    · have h := h.2 hc
      refine ac_aload_n 0 d_X9_keep_32 rfl rfl ?_
      refine ac_iload_n 2 d_X9_keep_33 rfl rfl ?_
      obtain ⟨⟨fs, hb⟩, h⟩ := h
      refine ac_callV0 cd_X9_compare ml_X9_133 in_X9_compare se_X9_compare rfl hb (c_X9_compare _ _ _ r0 y6 f7 _ h) rfl rfl (by rw [hro]; decide) rfl (rest := []) rfl (Nat.le_of_ble_eq_true rfl) (by rw [hro]; decide) d_X9_keep_34 (ac_I (fun v54 f53 h => ?_))
      refine ac_if_ne (tgt := 72) d_X9_keep_37 (by decide) (fun hc => ?_) (fun hc => ?_)
      · have h := h.1 hc
        refine ac_aload_n 0 d_X9_keep_72 rfl rfl ?_
        obtain ⟨v55, hr, h⟩ := h
        refine ak_getf hr fl_X9_130 d_X9_keep_73 ?_
        refine ac_istore_n (lv' := [(3, .int v55), (0, .ref r0), (1, .int x1), (2, .int y6)]) d_X9_keep_76 rfl (by decide) rfl ?_
        obtain ⟨n56, h⟩ := h
        refine ac_weak [1, 2, 3, 0] rfl ?_
        refine ok_X9_keep_L77 hro r0 x1 y6 _ (fun f57 h => ?_) n56 v55 f53 h
        · skip
          refine ac_iconst (v := 0) d_X9_keep_173 rfl ?_
          refine ac_istore_n (lv' := [(3, .int 0), (0, .ref r0), (1, .int x1), (2, .int y6)]) d_X9_keep_174 rfl (by decide) rfl ?_
          obtain ⟨n58, h⟩ := h
          refine ac_weak [1, 2, 3, 0] rfl ?_
          refine ok_X9_keep_L175 hro r0 x1 y6 _ (fun f59 h => ?_) n58 0 f57 h
          · skip
            refine ac_aload_n 0 d_X9_keep_228 rfl rfl ?_
            obtain ⟨o60, hr, h⟩ := h
            refine ak_getf hr fl_X9_71 d_X9_keep_229 ?_
            refine ac_iload_n 2 d_X9_keep_232 rfl rfl ?_
            refine ac_iconst (v := 1) d_X9_keep_233 rfl ?_
            obtain ⟨f61, hr, h⟩ := h
            refine ak_iast 0 hr rfl d_X9_keep_234 ?_
            refine ac_aload_n 0 d_X9_keep_235 rfl rfl ?_
            obtain ⟨o62, hr, h⟩ := h
            refine ak_getf hr fl_X9_74 d_X9_keep_236 ?_
            refine ac_iload_n 2 d_X9_keep_239 rfl rfl ?_
            refine ac_iload_n 1 d_X9_keep_240 rfl rfl ?_
            obtain ⟨f63, hr, h⟩ := h
            refine ak_iast 0 hr rfl d_X9_keep_241 ?_
            refine ac_aload_n 0 d_X9_keep_242 rfl rfl ?_
            obtain ⟨o64, hr, h⟩ := h
            refine ak_getf hr fl_X9_77 d_X9_keep_243 ?_
            refine ac_iload_n 2 d_X9_keep_246 rfl rfl ?_
            refine ac_iload_n 1 d_X9_keep_247 rfl rfl ?_
            obtain ⟨f65, hr, h⟩ := h
            refine ak_iast 0 hr rfl d_X9_keep_248 ?_
            refine ac_aload_n 0 d_X9_keep_249 rfl rfl ?_
            refine ac_dup d_X9_keep_250 rfl ?_
            obtain ⟨v66, hr, h⟩ := h
            refine ak_getf hr fl_X9_130 d_X9_keep_251 ?_
            refine ac_iconst (v := 1) d_X9_keep_254 rfl ?_
            refine ac_iadd d_X9_keep_255 ?_
            obtain ⟨f67, hr, h⟩ := h
            refine ak_putf hr fp_X9_130 rfl rfl d_X9_keep_256 ?_
            exact ac_vreturn hR ⟨rfl, h⟩ (by decide) (by decide) d_X9_keep_259
      · have h := h.2 hc
        refine ac_aload_n 0 d_X9_keep_40 rfl rfl ?_
        obtain ⟨o68, hr, h⟩ := h
        refine ak_getf hr fl_X9_71 d_X9_keep_41 ?_
        refine ac_iload_n 2 d_X9_keep_44 rfl rfl ?_
        refine ac_dup2 d_X9_keep_45 rfl rfl ?_
        obtain ⟨v69, hr, h⟩ := h
        refine ak_iald 0 hr rfl d_X9_keep_46 ?_
        refine ac_aload_n 0 d_X9_keep_47 rfl rfl ?_
        obtain ⟨o70, hr, h⟩ := h
        refine ak_getf hr fl_X9_77 d_X9_keep_48 ?_
        refine ac_iload_n 2 d_X9_keep_51 rfl rfl ?_
        obtain ⟨v71, hr, h⟩ := h
        refine ak_iald 0 hr rfl d_X9_keep_52 ?_
        refine ac_iload_n 1 d_X9_keep_53 rfl rfl ?_
        refine ac_icmp_ne (tgt := 61) d_X9_keep_54 (by decide) (fun hc => ?_) (fun hc => ?_)
        · have h := h.1 hc
          refine ac_iconst (v := 1) d_X9_keep_61 rfl ?_
          refine ac_iadd d_X9_keep_62 ?_
          obtain ⟨f72, hr, h⟩ := h
          refine ak_iast 0 hr rfl d_X9_keep_63 ?_
          refine ac_aload_n 0 d_X9_keep_64 rfl rfl ?_
          obtain ⟨o73, hr, h⟩ := h
          refine ak_getf hr fl_X9_77 d_X9_keep_65 ?_
          refine ac_iload_n 2 d_X9_keep_68 rfl rfl ?_
          refine ac_iload_n 1 d_X9_keep_69 rfl rfl ?_
          obtain ⟨f74, hr, h⟩ := h
          refine ak_iast 0 hr rfl d_X9_keep_70 ?_
          exact ac_vreturn hR ⟨rfl, h⟩ (by decide) (by decide) d_X9_keep_71
        · have h := h.2 hc
          refine ac_iconst (v := 0) d_X9_keep_57 rfl ?_
          refine ac_goto (tgt := 62) d_X9_keep_58 (by decide) ?_
          refine ac_iadd d_X9_keep_62 ?_
          obtain ⟨f75, hr, h⟩ := h
          refine ak_iast 0 hr rfl d_X9_keep_63 ?_
          refine ac_aload_n 0 d_X9_keep_64 rfl rfl ?_
          obtain ⟨o76, hr, h⟩ := h
          refine ak_getf hr fl_X9_77 d_X9_keep_65 ?_
          refine ac_iload_n 2 d_X9_keep_68 rfl rfl ?_
          refine ac_iload_n 1 d_X9_keep_69 rfl rfl ?_
          obtain ⟨f77, hr, h⟩ := h
          refine ak_iast 0 hr rfl d_X9_keep_70 ?_
          exact ac_vreturn hR ⟨rfl, h⟩ (by decide) (by decide) d_X9_keep_71

