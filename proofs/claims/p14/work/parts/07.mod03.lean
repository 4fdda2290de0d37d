def wp_X9_drop_L51 (ki : Nat → ClassId) (r0 : Nat) (x1 : Int32) (E88 : ac_hp → Prop) : Nat → Int32 → ac_hp → Prop
  | 0, _, _ => False
  | n + 1, x3, f => ∃ o12 : Nat, hr_f f r0 9 2 (.ref o12) ∧ ∃ v13 : Int32, hr_i (ki 0) f o12 x1 v13 ∧ ((((60 * x1) + (3 * v13)) ≤ x3 → E88  f) ∧ (¬ ((60 * x1) + (3 * v13)) ≤ x3 → ∃ o14 : Nat, hr_f f r0 9 1 (.ref o14) ∧ ∃ o15 : Nat, hr_f f r0 9 1 (.ref o15) ∧ ∃ v16 : Int32, hr_i (ki 0) f o15 (x3 + 3) v16 ∧ ∃ f17 : ac_hp, hw_i (ki 0) f o14 x3 v16 f17 ∧ ∀ v18 : Int32, v18 = x3 + 1 → wp_X9_drop_L51 ki r0 x1 E88 n v18 f17))

def wp_X9_drop (ki : Nat → ClassId) (r0 : Nat) (x1 : Int32) (x2 : Int32) (f : ac_hp) (Q : Int32 → ac_hp → Prop) : Prop := ∃ f1 : ac_hp, hw_f f r0 9 0 (.int 0) f1 ∧ wp_X9_in ki x1 0 3 f1 (fun v3 f2 => ((v3 = 0 → Q (-1) f2) ∧ (¬ v3 = 0 → ∃ o4 : Nat, hr_f f2 r0 9 2 (.ref o4) ∧ ∃ v5 : Int32, hr_i (ki 0) f2 o4 x1 v5 ∧ wp_X9_in ki x2 0 (v5 - 1) f2 (fun v7 f6 => ((¬ v7 = 0 → ∃ o8 : Nat, hr_f f6 r0 9 2 (.ref o8) ∧ ∃ v9 : Int32, hr_i (ki 0) f6 o8 x1 v9 ∧ ∃ f10 : ac_hp, hw_i (ki 0) f6 o8 x1 (v9 - 1) f10 ∧ ∀ v11 : Int32, v11 = (60 * x1) + (3 * x2) → ∃ n19 : Nat, wp_X9_drop_L51 ki r0 x1 (fun f20 => ∃ o21 : Nat, hr_f f20 r0 9 2 (.ref o21) ∧ ∃ v22 : Int32, hr_i (ki 0) f20 o21 x1 v22 ∧ Q v22 f20) n19 v11 f10) ∧ (v7 = 0 → Q (-1) f6))))))

set_option maxRecDepth 20000 in
set_option maxHeartbeats 4000000 in
theorem ok_X9_drop_L51 {x : ac_X} (hro : ac_R x = (ro_ 2 0 0)) (r0 : Nat) (x1 : Int32) (E88 : ac_hp → Prop) (hE88 : ∀ (f : ac_hp), E88 f → ac_At (prog_11_method_7_code, 4, "VirtualRewriteModel") x 0 0 88 [(0, .ref r0), (1, .int x1)] [] f) : ∀ (n : Nat) (x3 : Int32) (f : ac_hp), wp_X9_drop_L51 (ac_ki x) r0 x1 E88 n x3 f → ac_At (prog_11_method_7_code, 4, "VirtualRewriteModel") x 0 0 51 [(0, .ref r0), (1, .int x1), (3, .int x3)] [] f := by
  intro n
  induction n with
  | zero => intro _ _ h; exact h.elim
  | succ n ih =>
    intro x3 f h
    rw [wp_X9_drop_L51] at h
    refine ac_iload_n 2 d_X9_drop_51 rfl rfl ?_
    refine ac_bipush (v := 60) d_X9_drop_52 rfl ?_
    refine ac_iload_n 1 d_X9_drop_54 rfl rfl ?_
    refine ac_imul d_X9_drop_55 ?_
    refine ac_iconst (v := 3) d_X9_drop_56 rfl ?_
    refine ac_aload_n 0 d_X9_drop_57 rfl rfl ?_
    obtain ⟨o12, hr, h⟩ := h
    refine ak_getf hr fl_X9_13 d_X9_drop_58 ?_
    refine ac_iload_n 1 d_X9_drop_61 rfl rfl ?_
    obtain ⟨v13, hr, h⟩ := h
    refine ak_iald 0 hr rfl d_X9_drop_62 ?_
    refine ac_imul d_X9_drop_63 ?_
    refine ac_iadd d_X9_drop_64 ?_
    refine ac_icmp_ge (tgt := 88) d_X9_drop_65 (by decide) (fun hc => ?_) (fun hc => ?_)
    · have h := h.1 hc
      refine ac_weak [0, 1] rfl ?_
      exact hE88  f h
    · have h := h.2 hc
      refine ac_aload_n 0 d_X9_drop_68 rfl rfl ?_
      obtain ⟨o14, hr, h⟩ := h
      refine ak_getf hr fl_X9_7 d_X9_drop_69 ?_
      refine ac_iload_n 2 d_X9_drop_72 rfl rfl ?_
      refine ac_aload_n 0 d_X9_drop_73 rfl rfl ?_
      obtain ⟨o15, hr, h⟩ := h
      refine ak_getf hr fl_X9_7 d_X9_drop_74 ?_
      refine ac_iload_n 2 d_X9_drop_77 rfl rfl ?_
      refine ac_iconst (v := 3) d_X9_drop_78 rfl ?_
      refine ac_iadd d_X9_drop_79 ?_
      obtain ⟨v16, hr, h⟩ := h
      refine ak_iald 0 hr rfl d_X9_drop_80 ?_
      obtain ⟨f17, hr, h⟩ := h
      refine ak_iast 0 hr rfl d_X9_drop_81 ?_
      obtain ⟨v18, ev18⟩ : ∃ y : Int32, y = x3 + 1 := ⟨_, rfl⟩
      have h := h v18 ev18
      refine ac_iinc (j := 2) (lv' := [(3, .int v18), (0, .ref r0), (1, .int x1)]) d_X9_drop_82 rfl (by rw [ev18]; rfl) (by decide) rfl ?_
      refine ac_goto (tgt := 51) d_X9_drop_85 (by decide) ?_
      refine ac_weak [1, 2, 0] rfl ?_
      exact ih v18 f17 h

set_option maxRecDepth 20000 in
set_option maxHeartbeats 4000000 in
theorem c_X9_drop (l : Launch) (D : va_G) (ki : Nat → ClassId) (r0 : Nat) (x1 : Int32) (x2 : Int32) (f : ac_hp) (Q : Int32 → ac_hp → Prop) (h : wp_X9_drop ki r0 x1 x2 f Q) : ac_met l D ki y_X9_drop prog_11_method_7_code 4 (some .int) (ro_ 2 0 0) [.ref r0, .int x1, .int x2] f (qr_I Q) 0 0 := by
  refine ac_enter (fun ki => wp_X9_drop ki r0 x1 x2 f Q) (by decide) (Nat.le_of_ble_eq_true rfl) h ?_
  intro x hro hR hnm h
  unfold wp_X9_drop at h
  refine ac_aload_n 0 d_X9_drop_0 rfl rfl ?_
  refine ac_iconst (v := 0) d_X9_drop_1 rfl ?_
  obtain ⟨f1, hr, h⟩ := h
  refine ak_putf hr fp_X9_80 rfl rfl d_X9_drop_2 ?_
  refine ac_iload_n 1 d_X9_drop_5 rfl rfl ?_
  refine ac_iconst (v := 0) d_X9_drop_6 rfl ?_
  refine ac_iconst (v := 3) d_X9_drop_7 rfl ?_
  refine ac_callS0 cd_X9_in ml_X9_84 st_X9_in (c_X9_in _ _ _ x1 0 3 f1 _ h) rfl rfl (by rw [hro]; decide) rfl (rest := []) rfl (Nat.le_of_ble_eq_true rfl) (by rw [hro]; decide) d_X9_drop_8 (ac_I (fun v3 f2 h => ?_))
  refine ac_if_eq (tgt := 30) d_X9_drop_11 (by decide) (fun hc => ?_) (fun hc => ?_)
  · have h := h.1 hc
    refine ac_iconst (v := -1) d_X9_drop_30 rfl ?_
    exact ac_ireturn hR rfl ⟨_, rfl, h⟩ (by decide) (by decide) d_X9_drop_31
  · have h := h.2 hc
    refine ac_iload_n 2 d_X9_drop_14 rfl rfl ?_
    refine ac_iconst (v := 0) d_X9_drop_15 rfl ?_
    refine ac_aload_n 0 d_X9_drop_16 rfl rfl ?_
    obtain ⟨o4, hr, h⟩ := h
    refine ak_getf hr fl_X9_13 d_X9_drop_17 ?_
    refine ac_iload_n 1 d_X9_drop_20 rfl rfl ?_
    obtain ⟨v5, hr, h⟩ := h
    refine ak_iald 0 hr rfl d_X9_drop_21 ?_
    refine ac_iconst (v := 1) d_X9_drop_22 rfl ?_
    refine ac_isub d_X9_drop_23 ?_
    refine ac_callS0 cd_X9_in ml_X9_84 st_X9_in (c_X9_in _ _ _ x2 0 (v5 - 1) f2 _ h) rfl rfl (by rw [hro]; decide) rfl (rest := []) rfl (Nat.le_of_ble_eq_true rfl) (by rw [hro]; decide) d_X9_drop_24 (ac_I (fun v7 f6 h => ?_))
    refine ac_if_ne (tgt := 32) d_X9_drop_27 (by decide) (fun hc => ?_) (fun hc => ?_)
    · have h := h.1 hc
      refine ac_aload_n 0 d_X9_drop_32 rfl rfl ?_
      obtain ⟨o8, hr, h⟩ := h
      refine ak_getf hr fl_X9_13 d_X9_drop_33 ?_
      refine ac_iload_n 1 d_X9_drop_36 rfl rfl ?_
      refine ac_dup2 d_X9_drop_37 rfl rfl ?_
      obtain ⟨v9, hr, h⟩ := h
      refine ak_iald 0 hr rfl d_X9_drop_38 ?_
      refine ac_iconst (v := 1) d_X9_drop_39 rfl ?_
      refine ac_isub d_X9_drop_40 ?_
      obtain ⟨f10, hr, h⟩ := h
      refine ak_iast 0 hr rfl d_X9_drop_41 ?_
      refine ac_bipush (v := 60) d_X9_drop_42 rfl ?_
      refine ac_iload_n 1 d_X9_drop_44 rfl rfl ?_
      refine ac_imul d_X9_drop_45 ?_
      refine ac_iconst (v := 3) d_X9_drop_46 rfl ?_
      refine ac_iload_n 2 d_X9_drop_47 rfl rfl ?_
      refine ac_imul d_X9_drop_48 ?_
      refine ac_iadd d_X9_drop_49 ?_
      refine ak_topi (fun v11 ev11 => ?_)
      have h := h v11 ev11
      refine ac_istore_n (lv' := [(3, .int v11), (0, .ref r0), (1, .int x1), (2, .int x2)]) d_X9_drop_50 rfl (by decide) rfl ?_
      obtain ⟨n19, h⟩ := h
      refine ac_weak [1, 2, 0] rfl ?_
      refine ok_X9_drop_L51 hro r0 x1 _ (fun f20 h => ?_) n19 v11 f10 h
      · skip
        refine ac_aload_n 0 d_X9_drop_88 rfl rfl ?_
        obtain ⟨o21, hr, h⟩ := h
        refine ak_getf hr fl_X9_13 d_X9_drop_89 ?_
        refine ac_iload_n 1 d_X9_drop_92 rfl rfl ?_
        obtain ⟨v22, hr, h⟩ := h
        refine ak_iald 0 hr rfl d_X9_drop_93 ?_
        exact ac_ireturn hR rfl ⟨_, rfl, h⟩ (by decide) (by decide) d_X9_drop_94
    · have h := h.2 hc
      refine ac_iconst (v := -1) d_X9_drop_30 rfl ?_
      exact ac_ireturn hR rfl ⟨_, rfl, h⟩ (by decide) (by decide) d_X9_drop_31

def wp_X9_mapping (ki : Nat → ClassId) (r0 : Nat) (x1 : Int32) (x2 : Int32) (x3 : Int32) (x4 : Int32) (x5 : Int32) (x6 : Int32) (f : ac_hp) (Q : Int32 → ac_hp → Prop) : Prop := ∃ f1 : ac_hp, hw_f f r0 9 0 (.int 0) f1 ∧ wp_X9_in ki x1 0 3 f1 (fun v3 f2 => ((v3 = 0 → Q (-1) f2) ∧ (¬ v3 = 0 → wp_X9_in ki x2 0 7 f2 (fun v5 f4 => ((v5 = 0 → Q (-1) f4) ∧ (¬ v5 = 0 → wp_X9_in ki x3 0 5 f4 (fun v7 f6 => ((v7 = 0 → Q (-1) f6) ∧ (¬ v7 = 0 → wp_X9_in ki x4 0 2 f6 (fun v9 f8 => ((v9 = 0 → Q (-1) f8) ∧ (¬ v9 = 0 → wp_X9_in ki x5 0 5 f8 (fun v11 f10 => ((v11 = 0 → Q (-1) f10) ∧ (¬ v11 = 0 → wp_X9_in ki x6 0 2 f10 (fun v13 f12 => ((v13 = 0 → Q (-1) f12) ∧ (¬ v13 = 0 → ∃ v14 : Int32, hr_f f12 r0 9 4 (.int v14) ∧ ((¬ v14 = 12 → ∃ o15 : Nat, hr_f f12 r0 9 5 (.ref o15) ∧ ∃ v16 : Int32, hr_f f12 r0 9 4 (.int v16) ∧ ∃ f17 : ac_hp, hw_i (ki 0) f12 o15 v16 x1 f17 ∧ ∃ o18 : Nat, hr_f f17 r0 9 6 (.ref o18) ∧ ∃ v19 : Int32, hr_f f17 r0 9 4 (.int v19) ∧ ∃ f20 : ac_hp, hw_i (ki 0) f17 o18 v19 x2 f20 ∧ ∃ o21 : Nat, hr_f f20 r0 9 7 (.ref o21) ∧ ∃ v22 : Int32, hr_f f20 r0 9 4 (.int v22) ∧ ∃ f23 : ac_hp, hw_i (ki 0) f20 o21 (2 * v22) x3 f23 ∧ ∃ o24 : Nat, hr_f f23 r0 9 7 (.ref o24) ∧ ∃ v25 : Int32, hr_f f23 r0 9 4 (.int v25) ∧ ∃ f26 : ac_hp, hw_i (ki 0) f23 o24 ((2 * v25) + 1) x5 f26 ∧ ∃ o27 : Nat, hr_f f26 r0 9 8 (.ref o27) ∧ ∃ v28 : Int32, hr_f f26 r0 9 4 (.int v28) ∧ ∃ f29 : ac_hp, hw_i (ki 0) f26 o27 (2 * v28) x4 f29 ∧ ∃ o30 : Nat, hr_f f29 r0 9 8 (.ref o30) ∧ ∃ v31 : Int32, hr_f f29 r0 9 4 (.int v31) ∧ ∃ f32 : ac_hp, hw_i (ki 0) f29 o30 ((2 * v31) + 1) x6 f32 ∧ ∃ v33 : Int32, hr_f f32 r0 9 4 (.int v33) ∧ ∃ f34 : ac_hp, hw_f f32 r0 9 4 (.int (v33 + 1)) f34 ∧ ∃ v35 : Int32, hr_f f34 r0 9 4 (.int v35) ∧ Q (v35 - 1) f34) ∧ (v14 = 12 → Q (-2) f12))))))))))))))))))))

set_option maxRecDepth 20000 in
set_option maxHeartbeats 4000000 in
theorem c_X9_mapping (l : Launch) (D : va_G) (ki : Nat → ClassId) (r0 : Nat) (x1 : Int32) (x2 : Int32) (x3 : Int32) (x4 : Int32) (x5 : Int32) (x6 : Int32) (f : ac_hp) (Q : Int32 → ac_hp → Prop) (h : wp_X9_mapping ki r0 x1 x2 x3 x4 x5 x6 f Q) : ac_met l D ki y_X9_mapping prog_11_method_8_code 8 (some .int) (ro_ 2 0 0) [.ref r0, .int x1, .int x2, .int x3, .int x4, .int x5, .int x6] f (qr_I Q) 0 0 := by
  refine ac_enter (fun ki => wp_X9_mapping ki r0 x1 x2 x3 x4 x5 x6 f Q) (by decide) (Nat.le_of_ble_eq_true rfl) h ?_
  intro x hro hR hnm h
  unfold wp_X9_mapping at h
  refine ac_aload_n 0 d_X9_mapping_0 rfl rfl ?_
  refine ac_iconst (v := 0) d_X9_mapping_1 rfl ?_
  obtain ⟨f1, hr, h⟩ := h
  refine ak_putf hr fp_X9_80 rfl rfl d_X9_mapping_2 ?_
  refine ac_iload_n 1 d_X9_mapping_5 rfl rfl ?_
  refine ac_iconst (v := 0) d_X9_mapping_6 rfl ?_
  refine ac_iconst (v := 3) d_X9_mapping_7 rfl ?_
  refine ac_callS0 cd_X9_in ml_X9_84 st_X9_in (c_X9_in _ _ _ x1 0 3 f1 _ h) rfl rfl (by rw [hro]; decide) rfl (rest := []) rfl (Nat.le_of_ble_eq_true rfl) (by rw [hro]; decide) d_X9_mapping_8 (ac_I (fun v3 f2 h => ?_))
  refine ac_if_eq (tgt := 67) d_X9_mapping_11 (by decide) (fun hc => ?_) (fun hc => ?_)
  · have h := h.1 hc
    refine ac_iconst (v := 0) d_X9_mapping_67 rfl ?_
    refine ac_istore (lv' := [(7, .int 0), (0, .ref r0), (1, .int x1), (2, .int x2), (3, .int x3), (4, .int x4), (5, .int x5), (6, .int x6)]) d_X9_mapping_68 (by decide) rfl ?_
    refine ac_iload 0 d_X9_mapping_70 rfl ?_
    refine ac_if_ne (tgt := 77) d_X9_mapping_72 (by decide) (fun hc => absurd hc (by decide)) (fun hc => ?_)
    refine ac_iconst (v := -1) d_X9_mapping_75 rfl ?_
    exact ac_ireturn hR rfl ⟨_, rfl, h⟩ (by decide) (by decide) d_X9_mapping_76
  · have h := h.2 hc
    refine ac_iload_n 2 d_X9_mapping_14 rfl rfl ?_
    refine ac_iconst (v := 0) d_X9_mapping_15 rfl ?_
    refine ac_bipush (v := 7) d_X9_mapping_16 rfl ?_
    refine ac_callS0 cd_X9_in ml_X9_84 st_X9_in (c_X9_in _ _ _ x2 0 7 f2 _ h) rfl rfl (by rw [hro]; decide) rfl (rest := []) rfl (Nat.le_of_ble_eq_true rfl) (by rw [hro]; decide) d_X9_mapping_18 (ac_I (fun v5 f4 h => ?_))
    refine ac_if_eq (tgt := 67) d_X9_mapping_21 (by decide) (fun hc => ?_) (fun hc => ?_)
    · have h := h.1 hc
      refine ac_iconst (v := 0) d_X9_mapping_67 rfl ?_
      refine ac_istore (lv' := [(7, .int 0), (0, .ref r0), (1, .int x1), (2, .int x2), (3, .int x3), (4, .int x4), (5, .int x5), (6, .int x6)]) d_X9_mapping_68 (by decide) rfl ?_
      refine ac_iload 0 d_X9_mapping_70 rfl ?_
      refine ac_if_ne (tgt := 77) d_X9_mapping_72 (by decide) (fun hc => absurd hc (by decide)) (fun hc => ?_)
      refine ac_iconst (v := -1) d_X9_mapping_75 rfl ?_
      exact ac_ireturn hR rfl ⟨_, rfl, h⟩ (by decide) (by decide) d_X9_mapping_76
    · have h := h.2 hc
      refine ac_iload_n 3 d_X9_mapping_24 rfl rfl ?_
      refine ac_iconst (v := 0) d_X9_mapping_25 rfl ?_
      refine ac_iconst (v := 5) d_X9_mapping_26 rfl ?_
      refine ac_callS0 cd_X9_in ml_X9_84 st_X9_in (c_X9_in _ _ _ x3 0 5 f4 _ h) rfl rfl (by rw [hro]; decide) rfl (rest := []) rfl (Nat.le_of_ble_eq_true rfl) (by rw [hro]; decide) d_X9_mapping_27 (ac_I (fun v7 f6 h => ?_))
      refine ac_if_eq (tgt := 67) d_X9_mapping_30 (by decide) (fun hc => ?_) (fun hc => ?_)
      · have h := h.1 hc
        refine ac_iconst (v := 0) d_X9_mapping_67 rfl ?_
        refine ac_istore (lv' := [(7, .int 0), (0, .ref r0), (1, .int x1), (2, .int x2), (3, .int x3), (4, .int x4), (5, .int x5), (6, .int x6)]) d_X9_mapping_68 (by decide) rfl ?_
        refine ac_iload 0 d_X9_mapping_70 rfl ?_
        refine ac_if_ne (tgt := 77) d_X9_mapping_72 (by decide) (fun hc => absurd hc (by decide)) (fun hc => ?_)
        refine ac_iconst (v := -1) d_X9_mapping_75 rfl ?_
        exact ac_ireturn hR rfl ⟨_, rfl, h⟩ (by decide) (by decide) d_X9_mapping_76
      · have h := h.2 hc
        refine ac_iload 4 d_X9_mapping_33 rfl ?_
        refine ac_iconst (v := 0) d_X9_mapping_35 rfl ?_
        refine ac_iconst (v := 2) d_X9_mapping_36 rfl ?_
        refine ac_callS0 cd_X9_in ml_X9_84 st_X9_in (c_X9_in _ _ _ x4 0 2 f6 _ h) rfl rfl (by rw [hro]; decide) rfl (rest := []) rfl (Nat.le_of_ble_eq_true rfl) (by rw [hro]; decide) d_X9_mapping_37 (ac_I (fun v9 f8 h => ?_))
        refine ac_if_eq (tgt := 67) d_X9_mapping_40 (by decide) (fun hc => ?_) (fun hc => ?_)
        · have h := h.1 hc
          refine ac_iconst (v := 0) d_X9_mapping_67 rfl ?_
          refine ac_istore (lv' := [(7, .int 0), (0, .ref r0), (1, .int x1), (2, .int x2), (3, .int x3), (4, .int x4), (5, .int x5), (6, .int x6)]) d_X9_mapping_68 (by decide) rfl ?_
          refine ac_iload 0 d_X9_mapping_70 rfl ?_
          refine ac_if_ne (tgt := 77) d_X9_mapping_72 (by decide) (fun hc => absurd hc (by decide)) (fun hc => ?_)
          refine ac_iconst (v := -1) d_X9_mapping_75 rfl ?_
          exact ac_ireturn hR rfl ⟨_, rfl, h⟩ (by decide) (by decide) d_X9_mapping_76
        · have h := h.2 hc
          refine ac_iload 5 d_X9_mapping_43 rfl ?_
          refine ac_iconst (v := 0) d_X9_mapping_45 rfl ?_
          refine ac_iconst (v := 5) d_X9_mapping_46 rfl ?_
          refine ac_callS0 cd_X9_in ml_X9_84 st_X9_in (c_X9_in _ _ _ x5 0 5 f8 _ h) rfl rfl (by rw [hro]; decide) rfl (rest := []) rfl (Nat.le_of_ble_eq_true rfl) (by rw [hro]; decide) d_X9_mapping_47 (ac_I (fun v11 f10 h => ?_))
          refine ac_if_eq (tgt := 67) d_X9_mapping_50 (by decide) (fun hc => ?_) (fun hc => ?_)
          · have h := h.1 hc
            refine ac_iconst (v := 0) d_X9_mapping_67 rfl ?_
            refine ac_istore (lv' := [(7, .int 0), (0, .ref r0), (1, .int x1), (2, .int x2), (3, .int x3), (4, .int x4), (5, .int x5), (6, .int x6)]) d_X9_mapping_68 (by decide) rfl ?_
            refine ac_iload 0 d_X9_mapping_70 rfl ?_
            refine ac_if_ne (tgt := 77) d_X9_mapping_72 (by decide) (fun hc => absurd hc (by decide)) (fun hc => ?_)
            refine ac_iconst (v := -1) d_X9_mapping_75 rfl ?_
            exact ac_ireturn hR rfl ⟨_, rfl, h⟩ (by decide) (by decide) d_X9_mapping_76
          · have h := h.2 hc
            refine ac_iload 6 d_X9_mapping_53 rfl ?_
            refine ac_iconst (v := 0) d_X9_mapping_55 rfl ?_
            refine ac_iconst (v := 2) d_X9_mapping_56 rfl ?_
            refine ac_callS0 cd_X9_in ml_X9_84 st_X9_in (c_X9_in _ _ _ x6 0 2 f10 _ h) rfl rfl (by rw [hro]; decide) rfl (rest := []) rfl (Nat.le_of_ble_eq_true rfl) (by rw [hro]; decide) d_X9_mapping_57 (ac_I (fun v13 f12 h => ?_))
            refine ac_if_eq (tgt := 67) d_X9_mapping_60 (by decide) (fun hc => ?_) (fun hc => ?_)
            · have h := h.1 hc
              refine ac_iconst (v := 0) d_X9_mapping_67 rfl ?_
              refine ac_istore (lv' := [(7, .int 0), (0, .ref r0), (1, .int x1), (2, .int x2), (3, .int x3), (4, .int x4), (5, .int x5), (6, .int x6)]) d_X9_mapping_68 (by decide) rfl ?_
              refine ac_iload 0 d_X9_mapping_70 rfl ?_
              refine ac_if_ne (tgt := 77) d_X9_mapping_72 (by decide) (fun hc => absurd hc (by decide)) (fun hc => ?_)
              refine ac_iconst (v := -1) d_X9_mapping_75 rfl ?_
              exact ac_ireturn hR rfl ⟨_, rfl, h⟩ (by decide) (by decide) d_X9_mapping_76
            · have h := h.2 hc
              refine ac_iconst (v := 1) d_X9_mapping_63 rfl ?_
              refine ac_goto (tgt := 68) d_X9_mapping_64 (by decide) ?_
              refine ac_istore (lv' := [(7, .int 1), (0, .ref r0), (1, .int x1), (2, .int x2), (3, .int x3), (4, .int x4), (5, .int x5), (6, .int x6)]) d_X9_mapping_68 (by decide) rfl ?_
              refine ac_iload 0 d_X9_mapping_70 rfl ?_
              refine ac_if_ne (tgt := 77) d_X9_mapping_72 (by decide) (fun hc => ?_) (fun hc => absurd hc (by decide))
              refine ac_aload_n 1 d_X9_mapping_77 rfl rfl ?_
              obtain ⟨v14, hr, h⟩ := h
              refine ak_getf hr fl_X9_92 d_X9_mapping_78 ?_
              refine ac_bipush (v := 12) d_X9_mapping_81 rfl ?_
              refine ac_icmp_ne (tgt := 89) d_X9_mapping_83 (by decide) (fun hc => ?_) (fun hc => ?_)
              · have h := h.1 hc
                refine ac_aload_n 1 d_X9_mapping_89 rfl rfl ?_
                obtain ⟨o15, hr, h⟩ := h
                refine ak_getf hr fl_X9_20 d_X9_mapping_90 ?_
                refine ac_aload_n 1 d_X9_mapping_93 rfl rfl ?_
                obtain ⟨v16, hr, h⟩ := h
                refine ak_getf hr fl_X9_92 d_X9_mapping_94 ?_
                refine ac_iload_n 2 d_X9_mapping_97 rfl rfl ?_
                obtain ⟨f17, hr, h⟩ := h
                refine ak_iast 0 hr rfl d_X9_mapping_98 ?_
                refine ac_aload_n 1 d_X9_mapping_99 rfl rfl ?_
                obtain ⟨o18, hr, h⟩ := h
                refine ak_getf hr fl_X9_23 d_X9_mapping_100 ?_
                refine ac_aload_n 1 d_X9_mapping_103 rfl rfl ?_
                obtain ⟨v19, hr, h⟩ := h
                refine ak_getf hr fl_X9_92 d_X9_mapping_104 ?_
                refine ac_iload_n 3 d_X9_mapping_107 rfl rfl ?_
                obtain ⟨f20, hr, h⟩ := h
                refine ak_iast 0 hr rfl d_X9_mapping_108 ?_
                refine ac_aload_n 1 d_X9_mapping_109 rfl rfl ?_
                obtain ⟨o21, hr, h⟩ := h
                refine ak_getf hr fl_X9_26 d_X9_mapping_110 ?_
                refine ac_iconst (v := 2) d_X9_mapping_113 rfl ?_
                refine ac_aload_n 1 d_X9_mapping_114 rfl rfl ?_
                obtain ⟨v22, hr, h⟩ := h
                refine ak_getf hr fl_X9_92 d_X9_mapping_115 ?_
                refine ac_imul d_X9_mapping_118 ?_
                refine ac_iload_n 4 d_X9_mapping_119 rfl rfl ?_
                obtain ⟨f23, hr, h⟩ := h
                refine ak_iast 0 hr rfl d_X9_mapping_120 ?_
                refine ac_aload_n 1 d_X9_mapping_121 rfl rfl ?_
                obtain ⟨o24, hr, h⟩ := h
                refine ak_getf hr fl_X9_26 d_X9_mapping_122 ?_
                refine ac_iconst (v := 2) d_X9_mapping_125 rfl ?_
                refine ac_aload_n 1 d_X9_mapping_126 rfl rfl ?_
                obtain ⟨v25, hr, h⟩ := h
                refine ak_getf hr fl_X9_92 d_X9_mapping_127 ?_
                refine ac_imul d_X9_mapping_130 ?_
                refine ac_iconst (v := 1) d_X9_mapping_131 rfl ?_
                refine ac_iadd d_X9_mapping_132 ?_
                refine ac_iload 6 d_X9_mapping_133 rfl ?_
                obtain ⟨f26, hr, h⟩ := h
                refine ak_iast 0 hr rfl d_X9_mapping_135 ?_
                refine ac_aload_n 1 d_X9_mapping_136 rfl rfl ?_
                obtain ⟨o27, hr, h⟩ := h
                refine ak_getf hr fl_X9_29 d_X9_mapping_137 ?_
                refine ac_iconst (v := 2) d_X9_mapping_140 rfl ?_
                refine ac_aload_n 1 d_X9_mapping_141 rfl rfl ?_
                obtain ⟨v28, hr, h⟩ := h
                refine ak_getf hr fl_X9_92 d_X9_mapping_142 ?_
                refine ac_imul d_X9_mapping_145 ?_
                refine ac_iload 5 d_X9_mapping_146 rfl ?_
                obtain ⟨f29, hr, h⟩ := h
                refine ak_iast 0 hr rfl d_X9_mapping_148 ?_
                refine ac_aload_n 1 d_X9_mapping_149 rfl rfl ?_
                obtain ⟨o30, hr, h⟩ := h
                refine ak_getf hr fl_X9_29 d_X9_mapping_150 ?_
                refine ac_iconst (v := 2) d_X9_mapping_153 rfl ?_
                refine ac_aload_n 1 d_X9_mapping_154 rfl rfl ?_
                obtain ⟨v31, hr, h⟩ := h
                refine ak_getf hr fl_X9_92 d_X9_mapping_155 ?_
                refine ac_imul d_X9_mapping_158 ?_
                refine ac_iconst (v := 1) d_X9_mapping_159 rfl ?_
                refine ac_iadd d_X9_mapping_160 ?_
                refine ac_iload 7 d_X9_mapping_161 rfl ?_
                obtain ⟨f32, hr, h⟩ := h
                refine ak_iast 0 hr rfl d_X9_mapping_163 ?_
                refine ac_aload_n 1 d_X9_mapping_164 rfl rfl ?_
                refine ac_dup d_X9_mapping_165 rfl ?_
                obtain ⟨v33, hr, h⟩ := h
                refine ak_getf hr fl_X9_92 d_X9_mapping_166 ?_
                refine ac_iconst (v := 1) d_X9_mapping_169 rfl ?_
                refine ac_iadd d_X9_mapping_170 ?_
                obtain ⟨f34, hr, h⟩ := h
                refine ak_putf hr fp_X9_92 rfl rfl d_X9_mapping_171 ?_
                refine ac_aload_n 1 d_X9_mapping_174 rfl rfl ?_
                obtain ⟨v35, hr, h⟩ := h
                refine ak_getf hr fl_X9_92 d_X9_mapping_175 ?_
                refine ac_iconst (v := 1) d_X9_mapping_178 rfl ?_
                refine ac_isub d_X9_mapping_179 ?_
                exact ac_ireturn hR rfl ⟨_, rfl, h⟩ (by decide) (by decide) d_X9_mapping_180
              · have h := h.2 hc
                refine ac_bipush (v := -2) d_X9_mapping_86 rfl ?_
                exact ac_ireturn hR rfl ⟨_, rfl, h⟩ (by decide) (by decide) d_X9_mapping_88

def wp_X9_triples_L49 (ki : Nat → ClassId) (r0 : Nat) (x1 : Int32) (x2 : Int32) (x3 : Int32) (x5 : Int32) (E148 : Int32 → ac_hp → Prop) : Nat → Int32 → Int32 → ac_hp → Prop
  | 0, _, _, _ => False
  | n + 1, x4, x6, f => ((¬ x5 = x2 → ∃ o7 : Nat, hr_f f r0 9 2 (.ref o7) ∧ ∃ o8 : Nat, hr_f f r0 9 5 (.ref o8) ∧ ∃ v9 : Int32, hr_i (ki 0) f o8 x5 v9 ∧ ∃ v10 : Int32, hr_i (ki 0) f o7 v9 v10 ∧ ((v10 ≤ x6 → E148 x4 f) ∧ (¬ v10 ≤ x6 → ((x4 = 0 → ∀ v11 : Int32, v11 = x6 + 1 → wp_X9_triples_L49 ki r0 x1 x2 x3 x5 E148 n 0 v11 f) ∧ (¬ x4 = 0 → ∃ o12 : Nat, hr_f f r0 9 6 (.ref o12) ∧ ∃ v13 : Int32, hr_i (ki 0) f o12 x5 v13 ∧ ∃ o14 : Nat, hr_f f r0 9 6 (.ref o14) ∧ ∃ v15 : Int32, hr_i (ki 0) f o14 x2 v15 ∧ ((¬ v13 = v15 → ∀ v16 : Int32, v16 = x6 + 1 → wp_X9_triples_L49 ki r0 x1 x2 x3 x5 E148 n 1 v16 f) ∧ (v13 = v15 → hr_o f r0 9 ∧ wp_X9_code ki r0 x5 0 x6 f (fun v18 f17 => hr_o f17 r0 9 ∧ wp_X9_code ki r0 x2 0 x3 f17 (fun v20 f19 => ((¬ v18 = v20 → ∀ v21 : Int32, v21 = x6 + 1 → wp_X9_triples_L49 ki r0 x1 x2 x3 x5 E148 n 1 v21 f19) ∧ (v18 = v20 → hr_o f19 r0 9 ∧ wp_X9_code ki r0 x5 1 x6 f19 (fun v23 f22 => hr_o f22 r0 9 ∧ wp_X9_code ki r0 x2 1 x3 f22 (fun v25 f24 => ((v23 = v25 → ∀ v26 : Int32, v26 = x6 + 1 → wp_X9_triples_L49 ki r0 x1 x2 x3 x5 E148 n 0 v26 f24) ∧ (¬ v23 = v25 → ∀ v27 : Int32, v27 = x6 + 1 → wp_X9_triples_L49 ki r0 x1 x2 x3 x5 E148 n 1 v27 f24))))))))))))))) ∧ (x5 = x2 → ((x3 ≤ x6 → E148 x4 f) ∧ (¬ x3 ≤ x6 → ((x4 = 0 → ∀ v28 : Int32, v28 = x6 + 1 → wp_X9_triples_L49 ki r0 x1 x2 x3 x5 E148 n 0 v28 f) ∧ (¬ x4 = 0 → ∃ o29 : Nat, hr_f f r0 9 6 (.ref o29) ∧ ∃ v30 : Int32, hr_i (ki 0) f o29 x5 v30 ∧ ∃ o31 : Nat, hr_f f r0 9 6 (.ref o31) ∧ ∃ v32 : Int32, hr_i (ki 0) f o31 x2 v32 ∧ ((¬ v30 = v32 → ∀ v33 : Int32, v33 = x6 + 1 → wp_X9_triples_L49 ki r0 x1 x2 x3 x5 E148 n 1 v33 f) ∧ (v30 = v32 → hr_o f r0 9 ∧ wp_X9_code ki r0 x5 0 x6 f (fun v35 f34 => hr_o f34 r0 9 ∧ wp_X9_code ki r0 x2 0 x3 f34 (fun v37 f36 => ((¬ v35 = v37 → ∀ v38 : Int32, v38 = x6 + 1 → wp_X9_triples_L49 ki r0 x1 x2 x3 x5 E148 n 1 v38 f36) ∧ (v35 = v37 → hr_o f36 r0 9 ∧ wp_X9_code ki r0 x5 1 x6 f36 (fun v40 f39 => hr_o f39 r0 9 ∧ wp_X9_code ki r0 x2 1 x3 f39 (fun v42 f41 => ((v40 = v42 → ∀ v43 : Int32, v43 = x6 + 1 → wp_X9_triples_L49 ki r0 x1 x2 x3 x5 E148 n 0 v43 f41) ∧ (¬ v40 = v42 → ∀ v44 : Int32, v44 = x6 + 1 → wp_X9_triples_L49 ki r0 x1 x2 x3 x5 E148 n 1 v44 f41))))))))))))))))

def wp_X9_triples_L40 (ki : Nat → ClassId) (r0 : Nat) (x1 : Int32) (x2 : Int32) (x3 : Int32) (E154 : Int32 → ac_hp → Prop) : Nat → Int32 → Int32 → ac_hp → Prop
  | 0, _, _, _ => False
  | n + 1, x4, x5, f => ((x2 < x5 → E154 x4 f) ∧ (¬ x2 < x5 → ∃ n45 : Nat, wp_X9_triples_L49 ki r0 x1 x2 x3 x5 (fun y46 f47 => ∀ v48 : Int32, v48 = x5 + 1 → wp_X9_triples_L40 ki r0 x1 x2 x3 E154 n y46 v48 f47) n45 x4 0 f))

def wp_X9_triples_L19 (ki : Nat → ClassId) (r0 : Nat) (x2 : Int32) (E173 : Int32 → ac_hp → Prop) : Nat → Int32 → Int32 → ac_hp → Prop
  | 0, _, _, _ => False
  | n + 1, x1, x3, f => ∃ o3 : Nat, hr_f f r0 9 2 (.ref o3) ∧ ∃ o4 : Nat, hr_f f r0 9 5 (.ref o4) ∧ ∃ v5 : Int32, hr_i (ki 0) f o4 x2 v5 ∧ ∃ v6 : Int32, hr_i (ki 0) f o3 v5 v6 ∧ ((v6 ≤ x3 → E173 x1 f) ∧ (¬ v6 ≤ x3 → ∃ n49 : Nat, wp_X9_triples_L40 ki r0 x1 x2 x3 (fun y50 f51 => ((y50 = 0 → ∀ v52 : Int32, v52 = x1 + 0 → ∀ v53 : Int32, v53 = x3 + 1 → wp_X9_triples_L19 ki r0 x2 E173 n v52 v53 f51) ∧ (¬ y50 = 0 → ∀ v54 : Int32, v54 = x1 + 1 → ∀ v55 : Int32, v55 = x3 + 1 → wp_X9_triples_L19 ki r0 x2 E173 n v54 v55 f51))) n49 1 0 f))

def wp_X9_triples_L9 (ki : Nat → ClassId) (r0 : Nat) (E179 : Int32 → ac_hp → Prop) : Nat → Int32 → Int32 → ac_hp → Prop
  | 0, _, _, _ => False
  | n + 1, x1, x2, f => ∃ v2 : Int32, hr_f f r0 9 4 (.int v2) ∧ ((v2 ≤ x2 → E179 x1 f) ∧ (¬ v2 ≤ x2 → ∃ n56 : Nat, wp_X9_triples_L19 ki r0 x2 (fun y57 f58 => ∀ v59 : Int32, v59 = x2 + 1 → wp_X9_triples_L9 ki r0 E179 n y57 v59 f58) n56 x1 0 f))

def wp_X9_triples (ki : Nat → ClassId) (r0 : Nat) (f : ac_hp) (Q : Int32 → ac_hp → Prop) : Prop := ∃ f1 : ac_hp, hw_f f r0 9 0 (.int 0) f1 ∧ ∃ n60 : Nat, wp_X9_triples_L9 ki r0 (fun y61 f62 => Q y61 f62) n60 0 0 f1

set_option maxRecDepth 20000 in
set_option maxHeartbeats 4000000 in
theorem ok_X9_triples_L49 {x : ac_X} (hro : ac_R x = (ro_ 2 0 0)) (r0 : Nat) (x1 : Int32) (x2 : Int32) (x3 : Int32) (x5 : Int32) (E148 : Int32 → ac_hp → Prop) (hE148 : ∀ (y4 : Int32) (f : ac_hp), E148 y4 f → ac_At (prog_11_method_10_code, 7, "VirtualRewriteModel") x 0 0 148 [(0, .ref r0), (1, .int x1), (2, .int x2), (3, .int x3), (4, .int y4), (5, .int x5)] [] f) : ∀ (n : Nat) (x4 : Int32) (x6 : Int32) (f : ac_hp), wp_X9_triples_L49 (ac_ki x) r0 x1 x2 x3 x5 E148 n x4 x6 f → ac_At (prog_11_method_10_code, 7, "VirtualRewriteModel") x 0 0 49 [(0, .ref r0), (1, .int x1), (2, .int x2), (3, .int x3), (4, .int x4), (5, .int x5), (6, .int x6)] [] f := by
  intro n
  induction n with
  | zero => intro _ _ _ h; exact h.elim
  | succ n ih =>
    intro x4 x6 f h
    rw [wp_X9_triples_L49] at h
    refine ac_iload 6 d_X9_triples_49 rfl ?_
    refine ac_iload 5 d_X9_triples_51 rfl ?_
    refine ac_iload_n 2 d_X9_triples_53 rfl rfl ?_
    refine ac_icmp_ne (tgt := 61) d_X9_triples_54 (by decide) (fun hc => ?_) (fun hc => ?_)
    · have h := h.1 hc
      refine ac_aload_n 0 d_X9_triples_61 rfl rfl ?_
      obtain ⟨o7, hr, h⟩ := h
      refine ak_getf hr fl_X9_13 d_X9_triples_62 ?_
      refine ac_aload_n 0 d_X9_triples_65 rfl rfl ?_
      obtain ⟨o8, hr, h⟩ := h
      refine ak_getf hr fl_X9_20 d_X9_triples_66 ?_
      refine ac_iload 5 d_X9_triples_69 rfl ?_
      obtain ⟨v9, hr, h⟩ := h
      refine ak_iald 0 hr rfl d_X9_triples_71 ?_
      obtain ⟨v10, hr, h⟩ := h
      refine ak_iald 0 hr rfl d_X9_triples_72 ?_
      refine ac_icmp_ge (tgt := 148) d_X9_triples_73 (by decide) (fun hc => ?_) (fun hc => ?_)
      · have h := h.1 hc
        refine ac_weak [0, 1, 2, 3, 4, 5] rfl ?_
        exact hE148 x4 f h
      · have h := h.2 hc
        refine ac_iload 4 d_X9_triples_76 rfl ?_
        refine ac_if_eq (tgt := 139) d_X9_triples_78 (by decide) (fun hc => ?_) (fun hc => ?_)
        · have h := h.1 hc
          refine ac_iconst (v := 0) d_X9_triples_139 rfl ?_
          refine ac_istore (lv' := [(4, .int 0), (0, .ref r0), (1, .int x1), (2, .int x2), (3, .int x3), (5, .int x5), (6, .int x6)]) d_X9_triples_140 (by decide) rfl ?_
          obtain ⟨v11, ev11⟩ : ∃ y : Int32, y = x6 + 1 := ⟨_, rfl⟩
          have h := h v11 ev11
          refine ac_iinc (j := 6) (lv' := [(6, .int v11), (4, .int 0), (0, .ref r0), (1, .int x1), (2, .int x2), (3, .int x3), (5, .int x5)]) d_X9_triples_142 rfl (by rw [ev11]; rfl) (by decide) rfl ?_
          refine ac_goto (tgt := 49) d_X9_triples_145 (by decide) ?_
          refine ac_weak [2, 3, 4, 5, 1, 6, 0] rfl ?_
          exact ih 0 v11 f h
        · have h := h.2 hc
          refine ac_aload_n 0 d_X9_triples_81 rfl rfl ?_
          obtain ⟨o12, hr, h⟩ := h
          refine ak_getf hr fl_X9_23 d_X9_triples_82 ?_
          refine ac_iload 5 d_X9_triples_85 rfl ?_
          obtain ⟨v13, hr, h⟩ := h
          refine ak_iald 0 hr rfl d_X9_triples_87 ?_
          refine ac_aload_n 0 d_X9_triples_88 rfl rfl ?_
          obtain ⟨o14, hr, h⟩ := h
          refine ak_getf hr fl_X9_23 d_X9_triples_89 ?_
          refine ac_iload_n 2 d_X9_triples_92 rfl rfl ?_
          obtain ⟨v15, hr, h⟩ := h
          refine ak_iald 0 hr rfl d_X9_triples_93 ?_
          refine ac_icmp_ne (tgt := 135) d_X9_triples_94 (by decide) (fun hc => ?_) (fun hc => ?_)
          · have h := h.1 hc
            refine ac_iconst (v := 1) d_X9_triples_135 rfl ?_
            refine ac_goto (tgt := 140) d_X9_triples_136 (by decide) ?_
            refine ac_istore (lv' := [(4, .int 1), (0, .ref r0), (1, .int x1), (2, .int x2), (3, .int x3), (5, .int x5), (6, .int x6)]) d_X9_triples_140 (by decide) rfl ?_
            obtain ⟨v16, ev16⟩ : ∃ y : Int32, y = x6 + 1 := ⟨_, rfl⟩
            have h := h v16 ev16
            refine ac_iinc (j := 6) (lv' := [(6, .int v16), (4, .int 1), (0, .ref r0), (1, .int x1), (2, .int x2), (3, .int x3), (5, .int x5)]) d_X9_triples_142 rfl (by rw [ev16]; rfl) (by decide) rfl ?_
            refine ac_goto (tgt := 49) d_X9_triples_145 (by decide) ?_
            refine ac_weak [2, 3, 4, 5, 1, 6, 0] rfl ?_
            exact ih 1 v16 f h
          · have h := h.2 hc
            refine ac_aload_n 0 d_X9_triples_97 rfl rfl ?_
            refine ac_iload 5 d_X9_triples_98 rfl ?_
            refine ac_iconst (v := 0) d_X9_triples_100 rfl ?_
            refine ac_iload 6 d_X9_triples_101 rfl ?_
            obtain ⟨⟨fs, hb⟩, h⟩ := h
            refine ac_callV0 cd_X9_code ml_X9_95 in_X9_code se_X9_code rfl hb (c_X9_code _ _ _ r0 x5 0 x6 f _ h) rfl rfl (by rw [hro]; decide) rfl (rest := []) rfl (Nat.le_of_ble_eq_true rfl) (by rw [hro]; decide) d_X9_triples_103 (ac_I (fun v18 f17 h => ?_))
            refine ac_aload_n 0 d_X9_triples_106 rfl rfl ?_
            refine ac_iload_n 2 d_X9_triples_107 rfl rfl ?_
            refine ac_iconst (v := 0) d_X9_triples_108 rfl ?_
            refine ac_iload_n 3 d_X9_triples_109 rfl rfl ?_
            obtain ⟨⟨fs, hb⟩, h⟩ := h
            refine ac_callV0 cd_X9_code ml_X9_95 in_X9_code se_X9_code rfl hb (c_X9_code _ _ _ r0 x2 0 x3 f17 _ h) rfl rfl (by rw [hro]; decide) rfl (rest := [.int v18]) rfl (Nat.le_of_ble_eq_true rfl) (by rw [hro]; decide) d_X9_triples_110 (ac_I (fun v20 f19 h => ?_))
            refine ac_icmp_ne (tgt := 135) d_X9_triples_113 (by decide) (fun hc => ?_) (fun hc => ?_)
            · have h := h.1 hc
              refine ac_iconst (v := 1) d_X9_triples_135 rfl ?_
              refine ac_goto (tgt := 140) d_X9_triples_136 (by decide) ?_
              refine ac_istore (lv' := [(4, .int 1), (0, .ref r0), (1, .int x1), (2, .int x2), (3, .int x3), (5, .int x5), (6, .int x6)]) d_X9_triples_140 (by decide) rfl ?_
              obtain ⟨v21, ev21⟩ : ∃ y : Int32, y = x6 + 1 := ⟨_, rfl⟩
              have h := h v21 ev21
              refine ac_iinc (j := 6) (lv' := [(6, .int v21), (4, .int 1), (0, .ref r0), (1, .int x1), (2, .int x2), (3, .int x3), (5, .int x5)]) d_X9_triples_142 rfl (by rw [ev21]; rfl) (by decide) rfl ?_
              refine ac_goto (tgt := 49) d_X9_triples_145 (by decide) ?_
              refine ac_weak [2, 3, 4, 5, 1, 6, 0] rfl ?_
              exact ih 1 v21 f19 h
            · have h := h.2 hc
              refine ac_aload_n 0 d_X9_triples_116 rfl rfl ?_
              refine ac_iload 5 d_X9_triples_117 rfl ?_
              refine ac_iconst (v := 1) d_X9_triples_119 rfl ?_
              refine ac_iload 6 d_X9_triples_120 rfl ?_
              obtain ⟨⟨fs, hb⟩, h⟩ := h
              refine ac_callV0 cd_X9_code ml_X9_95 in_X9_code se_X9_code rfl hb (c_X9_code _ _ _ r0 x5 1 x6 f19 _ h) rfl rfl (by rw [hro]; decide) rfl (rest := []) rfl (Nat.le_of_ble_eq_true rfl) (by rw [hro]; decide) d_X9_triples_122 (ac_I (fun v23 f22 h => ?_))
              refine ac_aload_n 0 d_X9_triples_125 rfl rfl ?_
              refine ac_iload_n 2 d_X9_triples_126 rfl rfl ?_
              refine ac_iconst (v := 1) d_X9_triples_127 rfl ?_
              refine ac_iload_n 3 d_X9_triples_128 rfl rfl ?_
              obtain ⟨⟨fs, hb⟩, h⟩ := h
              refine ac_callV0 cd_X9_code ml_X9_95 in_X9_code se_X9_code rfl hb (c_X9_code _ _ _ r0 x2 1 x3 f22 _ h) rfl rfl (by rw [hro]; decide) rfl (rest := [.int v23]) rfl (Nat.le_of_ble_eq_true rfl) (by rw [hro]; decide) d_X9_triples_129 (ac_I (fun v25 f24 h => ?_))
              refine ac_icmp_eq (tgt := 139) d_X9_triples_132 (by decide) (fun hc => ?_) (fun hc => ?_)
              · have h := h.1 hc
                refine ac_iconst (v := 0) d_X9_triples_139 rfl ?_
                refine ac_istore (lv' := [(4, .int 0), (0, .ref r0), (1, .int x1), (2, .int x2), (3, .int x3), (5, .int x5), (6, .int x6)]) d_X9_triples_140 (by decide) rfl ?_
                obtain ⟨v26, ev26⟩ : ∃ y : Int32, y = x6 + 1 := ⟨_, rfl⟩
                have h := h v26 ev26
                refine ac_iinc (j := 6) (lv' := [(6, .int v26), (4, .int 0), (0, .ref r0), (1, .int x1), (2, .int x2), (3, .int x3), (5, .int x5)]) d_X9_triples_142 rfl (by rw [ev26]; rfl) (by decide) rfl ?_
                refine ac_goto (tgt := 49) d_X9_triples_145 (by decide) ?_
                refine ac_weak [2, 3, 4, 5, 1, 6, 0] rfl ?_
                exact ih 0 v26 f24 h
              · have h := h.2 hc
                refine ac_iconst (v := 1) d_X9_triples_135 rfl ?_
                refine ac_goto (tgt := 140) d_X9_triples_136 (by decide) ?_
                refine ac_istore (lv' := [(4, .int 1), (0, .ref r0), (1, .int x1), (2, .int x2), (3, .int x3), (5, .int x5), (6, .int x6)]) d_X9_triples_140 (by decide) rfl ?_
                obtain ⟨v27, ev27⟩ : ∃ y : Int32, y = x6 + 1 := ⟨_, rfl⟩
                have h := h v27 ev27
                refine ac_iinc (j := 6) (lv' := [(6, .int v27), (4, .int 1), (0, .ref r0), (1, .int x1), (2, .int x2), (3, .int x3), (5, .int x5)]) d_X9_triples_142 rfl (by rw [ev27]; rfl) (by decide) rfl ?_
                refine ac_goto (tgt := 49) d_X9_triples_145 (by decide) ?_
                refine ac_weak [2, 3, 4, 5, 1, 6, 0] rfl ?_
                exact ih 1 v27 f24 h
    · have h := h.2 hc
      refine ac_iload_n 3 d_X9_triples_57 rfl rfl ?_
      refine ac_goto (tgt := 73) d_X9_triples_58 (by decide) ?_
      refine ac_icmp_ge (tgt := 148) d_X9_triples_73 (by decide) (fun hc => ?_) (fun hc => ?_)
      · have h := h.1 hc
        refine ac_weak [0, 1, 2, 3, 4, 5] rfl ?_
        exact hE148 x4 f h
      · have h := h.2 hc
        refine ac_iload 4 d_X9_triples_76 rfl ?_
        refine ac_if_eq (tgt := 139) d_X9_triples_78 (by decide) (fun hc => ?_) (fun hc => ?_)
        · have h := h.1 hc
          refine ac_iconst (v := 0) d_X9_triples_139 rfl ?_
          refine ac_istore (lv' := [(4, .int 0), (0, .ref r0), (1, .int x1), (2, .int x2), (3, .int x3), (5, .int x5), (6, .int x6)]) d_X9_triples_140 (by decide) rfl ?_
          obtain ⟨v28, ev28⟩ : ∃ y : Int32, y = x6 + 1 := ⟨_, rfl⟩
          have h := h v28 ev28
          refine ac_iinc (j := 6) (lv' := [(6, .int v28), (4, .int 0), (0, .ref r0), (1, .int x1), (2, .int x2), (3, .int x3), (5, .int x5)]) d_X9_triples_142 rfl (by rw [ev28]; rfl) (by decide) rfl ?_
          refine ac_goto (tgt := 49) d_X9_triples_145 (by decide) ?_
          refine ac_weak [2, 3, 4, 5, 1, 6, 0] rfl ?_
          exact ih 0 v28 f h
        · have h := h.2 hc
          refine ac_aload_n 0 d_X9_triples_81 rfl rfl ?_
          obtain ⟨o29, hr, h⟩ := h
          refine ak_getf hr fl_X9_23 d_X9_triples_82 ?_
          refine ac_iload 5 d_X9_triples_85 rfl ?_
          obtain ⟨v30, hr, h⟩ := h
          refine ak_iald 0 hr rfl d_X9_triples_87 ?_
          refine ac_aload_n 0 d_X9_triples_88 rfl rfl ?_
          obtain ⟨o31, hr, h⟩ := h
          refine ak_getf hr fl_X9_23 d_X9_triples_89 ?_
          refine ac_iload_n 2 d_X9_triples_92 rfl rfl ?_
          obtain ⟨v32, hr, h⟩ := h
          refine ak_iald 0 hr rfl d_X9_triples_93 ?_
          refine ac_icmp_ne (tgt := 135) d_X9_triples_94 (by decide) (fun hc => ?_) (fun hc => ?_)
          · have h := h.1 hc
            refine ac_iconst (v := 1) d_X9_triples_135 rfl ?_
            refine ac_goto (tgt := 140) d_X9_triples_136 (by decide) ?_
            refine ac_istore (lv' := [(4, .int 1), (0, .ref r0), (1, .int x1), (2, .int x2), (3, .int x3), (5, .int x5), (6, .int x6)]) d_X9_triples_140 (by decide) rfl ?_
            obtain ⟨v33, ev33⟩ : ∃ y : Int32, y = x6 + 1 := ⟨_, rfl⟩
            have h := h v33 ev33
            refine ac_iinc (j := 6) (lv' := [(6, .int v33), (4, .int 1), (0, .ref r0), (1, .int x1), (2, .int x2), (3, .int x3), (5, .int x5)]) d_X9_triples_142 rfl (by rw [ev33]; rfl) (by decide) rfl ?_
            refine ac_goto (tgt := 49) d_X9_triples_145 (by decide) ?_
            refine ac_weak [2, 3, 4, 5, 1, 6, 0] rfl ?_
            exact ih 1 v33 f h
          · have h := h.2 hc
            refine ac_aload_n 0 d_X9_triples_97 rfl rfl ?_
            refine ac_iload 5 d_X9_triples_98 rfl ?_
            refine ac_iconst (v := 0) d_X9_triples_100 rfl ?_
            refine ac_iload 6 d_X9_triples_101 rfl ?_
            obtain ⟨⟨fs, hb⟩, h⟩ := h
            refine ac_callV0 cd_X9_code ml_X9_95 in_X9_code se_X9_code rfl hb (c_X9_code _ _ _ r0 x5 0 x6 f _ h) rfl rfl (by rw [hro]; decide) rfl (rest := []) rfl (Nat.le_of_ble_eq_true rfl) (by rw [hro]; decide) d_X9_triples_103 (ac_I (fun v35 f34 h => ?_))
            refine ac_aload_n 0 d_X9_triples_106 rfl rfl ?_
            refine ac_iload_n 2 d_X9_triples_107 rfl rfl ?_
            refine ac_iconst (v := 0) d_X9_triples_108 rfl ?_
            refine ac_iload_n 3 d_X9_triples_109 rfl rfl ?_
            obtain ⟨⟨fs, hb⟩, h⟩ := h
            refine ac_callV0 cd_X9_code ml_X9_95 in_X9_code se_X9_code rfl hb (c_X9_code _ _ _ r0 x2 0 x3 f34 _ h) rfl rfl (by rw [hro]; decide) rfl (rest := [.int v35]) rfl (Nat.le_of_ble_eq_true rfl) (by rw [hro]; decide) d_X9_triples_110 (ac_I (fun v37 f36 h => ?_))
            refine ac_icmp_ne (tgt := 135) d_X9_triples_113 (by decide) (fun hc => ?_) (fun hc => ?_)
            · have h := h.1 hc
              refine ac_iconst (v := 1) d_X9_triples_135 rfl ?_
              refine ac_goto (tgt := 140) d_X9_triples_136 (by decide) ?_
              refine ac_istore (lv' := [(4, .int 1), (0, .ref r0), (1, .int x1), (2, .int x2), (3, .int x3), (5, .int x5), (6, .int x6)]) d_X9_triples_140 (by decide) rfl ?_
              obtain ⟨v38, ev38⟩ : ∃ y : Int32, y = x6 + 1 := ⟨_, rfl⟩
              have h := h v38 ev38
              refine ac_iinc (j := 6) (lv' := [(6, .int v38), (4, .int 1), (0, .ref r0), (1, .int x1), (2, .int x2), (3, .int x3), (5, .int x5)]) d_X9_triples_142 rfl (by rw [ev38]; rfl) (by decide) rfl ?_
              refine ac_goto (tgt := 49) d_X9_triples_145 (by decide) ?_
              refine ac_weak [2, 3, 4, 5, 1, 6, 0] rfl ?_
              exact ih 1 v38 f36 h
            · have h := h.2 hc
              refine ac_aload_n 0 d_X9_triples_116 rfl rfl ?_
              refine ac_iload 5 d_X9_triples_117 rfl ?_
              refine ac_iconst (v := 1) d_X9_triples_119 rfl ?_
              refine ac_iload 6 d_X9_triples_120 rfl ?_
              obtain ⟨⟨fs, hb⟩, h⟩ := h
              refine ac_callV0 cd_X9_code ml_X9_95 in_X9_code se_X9_code rfl hb (c_X9_code _ _ _ r0 x5 1 x6 f36 _ h) rfl rfl (by rw [hro]; decide) rfl (rest := []) rfl (Nat.le_of_ble_eq_true rfl) (by rw [hro]; decide) d_X9_triples_122 (ac_I (fun v40 f39 h => ?_))
              refine ac_aload_n 0 d_X9_triples_125 rfl rfl ?_
              refine ac_iload_n 2 d_X9_triples_126 rfl rfl ?_
              refine ac_iconst (v := 1) d_X9_triples_127 rfl ?_
              refine ac_iload_n 3 d_X9_triples_128 rfl rfl ?_
              obtain ⟨⟨fs, hb⟩, h⟩ := h
              refine ac_callV0 cd_X9_code ml_X9_95 in_X9_code se_X9_code rfl hb (c_X9_code _ _ _ r0 x2 1 x3 f39 _ h) rfl rfl (by rw [hro]; decide) rfl (rest := [.int v40]) rfl (Nat.le_of_ble_eq_true rfl) (by rw [hro]; decide) d_X9_triples_129 (ac_I (fun v42 f41 h => ?_))
              refine ac_icmp_eq (tgt := 139) d_X9_triples_132 (by decide) (fun hc => ?_) (fun hc => ?_)
              · have h := h.1 hc
                refine ac_iconst (v := 0) d_X9_triples_139 rfl ?_
                refine ac_istore (lv' := [(4, .int 0), (0, .ref r0), (1, .int x1), (2, .int x2), (3, .int x3), (5, .int x5), (6, .int x6)]) d_X9_triples_140 (by decide) rfl ?_
                obtain ⟨v43, ev43⟩ : ∃ y : Int32, y = x6 + 1 := ⟨_, rfl⟩
                have h := h v43 ev43
                refine ac_iinc (j := 6) (lv' := [(6, .int v43), (4, .int 0), (0, .ref r0), (1, .int x1), (2, .int x2), (3, .int x3), (5, .int x5)]) d_X9_triples_142 rfl (by rw [ev43]; rfl) (by decide) rfl ?_
                refine ac_goto (tgt := 49) d_X9_triples_145 (by decide) ?_
                refine ac_weak [2, 3, 4, 5, 1, 6, 0] rfl ?_
                exact ih 0 v43 f41 h
              · have h := h.2 hc
                refine ac_iconst (v := 1) d_X9_triples_135 rfl ?_
                refine ac_goto (tgt := 140) d_X9_triples_136 (by decide) ?_
                refine ac_istore (lv' := [(4, .int 1), (0, .ref r0), (1, .int x1), (2, .int x2), (3, .int x3), (5, .int x5), (6, .int x6)]) d_X9_triples_140 (by decide) rfl ?_
                obtain ⟨v44, ev44⟩ : ∃ y : Int32, y = x6 + 1 := ⟨_, rfl⟩
                have h := h v44 ev44
                refine ac_iinc (j := 6) (lv' := [(6, .int v44), (4, .int 1), (0, .ref r0), (1, .int x1), (2, .int x2), (3, .int x3), (5, .int x5)]) d_X9_triples_142 rfl (by rw [ev44]; rfl) (by decide) rfl ?_
                refine ac_goto (tgt := 49) d_X9_triples_145 (by decide) ?_
                refine ac_weak [2, 3, 4, 5, 1, 6, 0] rfl ?_
                exact ih 1 v44 f41 h

set_option maxRecDepth 20000 in
set_option maxHeartbeats 4000000 in
theorem ok_X9_triples_L40 {x : ac_X} (hro : ac_R x = (ro_ 2 0 0)) (r0 : Nat) (x1 : Int32) (x2 : Int32) (x3 : Int32) (E154 : Int32 → ac_hp → Prop) (hE154 : ∀ (y4 : Int32) (f : ac_hp), E154 y4 f → ac_At (prog_11_method_10_code, 7, "VirtualRewriteModel") x 0 0 154 [(0, .ref r0), (1, .int x1), (2, .int x2), (3, .int x3), (4, .int y4)] [] f) : ∀ (n : Nat) (x4 : Int32) (x5 : Int32) (f : ac_hp), wp_X9_triples_L40 (ac_ki x) r0 x1 x2 x3 E154 n x4 x5 f → ac_At (prog_11_method_10_code, 7, "VirtualRewriteModel") x 0 0 40 [(0, .ref r0), (1, .int x1), (2, .int x2), (3, .int x3), (4, .int x4), (5, .int x5)] [] f := by
  intro n
  induction n with
  | zero => intro _ _ _ h; exact h.elim
  | succ n ih =>
    intro x4 x5 f h
    rw [wp_X9_triples_L40] at h
    refine ac_iload 5 d_X9_triples_40 rfl ?_
    refine ac_iload_n 2 d_X9_triples_42 rfl rfl ?_
    refine ac_icmp_gt (tgt := 154) d_X9_triples_43 (by decide) (fun hc => ?_) (fun hc => ?_)
    · have h := h.1 hc
      refine ac_weak [0, 1, 2, 3, 4] rfl ?_
      exact hE154 x4 f h
    · have h := h.2 hc
      refine ac_iconst (v := 0) d_X9_triples_46 rfl ?_
      refine ac_istore (lv' := [(6, .int 0), (0, .ref r0), (1, .int x1), (2, .int x2), (3, .int x3), (4, .int x4), (5, .int x5)]) d_X9_triples_47 (by decide) rfl ?_
      obtain ⟨n45, h⟩ := h
      refine ac_weak [1, 2, 3, 4, 5, 6, 0] rfl ?_
      refine ok_X9_triples_L49 hro r0 x1 x2 x3 x5 _ (fun y46 f47 h => ?_) n45 x4 0 f h
      · skip
        obtain ⟨v48, ev48⟩ : ∃ y : Int32, y = x5 + 1 := ⟨_, rfl⟩
        have h := h v48 ev48
        refine ac_iinc (j := 5) (lv' := [(5, .int v48), (0, .ref r0), (1, .int x1), (2, .int x2), (3, .int x3), (4, .int y46)]) d_X9_triples_148 rfl (by rw [ev48]; rfl) (by decide) rfl ?_
        refine ac_goto (tgt := 40) d_X9_triples_151 (by decide) ?_
        refine ac_weak [1, 2, 3, 4, 5, 0] rfl ?_
        exact ih y46 v48 f47 h

set_option maxRecDepth 20000 in
set_option maxHeartbeats 4000000 in
theorem ok_X9_triples_L19 {x : ac_X} (hro : ac_R x = (ro_ 2 0 0)) (r0 : Nat) (x2 : Int32) (E173 : Int32 → ac_hp → Prop) (hE173 : ∀ (y1 : Int32) (f : ac_hp), E173 y1 f → ac_At (prog_11_method_10_code, 7, "VirtualRewriteModel") x 0 0 173 [(0, .ref r0), (1, .int y1), (2, .int x2)] [] f) : ∀ (n : Nat) (x1 : Int32) (x3 : Int32) (f : ac_hp), wp_X9_triples_L19 (ac_ki x) r0 x2 E173 n x1 x3 f → ac_At (prog_11_method_10_code, 7, "VirtualRewriteModel") x 0 0 19 [(0, .ref r0), (1, .int x1), (2, .int x2), (3, .int x3)] [] f := by
  intro n
  induction n with
  | zero => intro _ _ _ h; exact h.elim
  | succ n ih =>
    intro x1 x3 f h
    rw [wp_X9_triples_L19] at h
    refine ac_iload_n 3 d_X9_triples_19 rfl rfl ?_
    refine ac_aload_n 0 d_X9_triples_20 rfl rfl ?_
    obtain ⟨o3, hr, h⟩ := h
    refine ak_getf hr fl_X9_13 d_X9_triples_21 ?_
    refine ac_aload_n 0 d_X9_triples_24 rfl rfl ?_
    obtain ⟨o4, hr, h⟩ := h
    refine ak_getf hr fl_X9_20 d_X9_triples_25 ?_
    refine ac_iload_n 2 d_X9_triples_28 rfl rfl ?_
    obtain ⟨v5, hr, h⟩ := h
    refine ak_iald 0 hr rfl d_X9_triples_29 ?_
    obtain ⟨v6, hr, h⟩ := h
    refine ak_iald 0 hr rfl d_X9_triples_30 ?_
    refine ac_icmp_ge (tgt := 173) d_X9_triples_31 (by decide) (fun hc => ?_) (fun hc => ?_)
    · have h := h.1 hc
      refine ac_weak [0, 1, 2] rfl ?_
      exact hE173 x1 f h
    · have h := h.2 hc
      refine ac_iconst (v := 1) d_X9_triples_34 rfl ?_
      refine ac_istore (lv' := [(4, .int 1), (0, .ref r0), (1, .int x1), (2, .int x2), (3, .int x3)]) d_X9_triples_35 (by decide) rfl ?_
      refine ac_iconst (v := 0) d_X9_triples_37 rfl ?_
      refine ac_istore (lv' := [(5, .int 0), (4, .int 1), (0, .ref r0), (1, .int x1), (2, .int x2), (3, .int x3)]) d_X9_triples_38 (by decide) rfl ?_
      obtain ⟨n49, h⟩ := h
      refine ac_weak [2, 3, 4, 5, 1, 0] rfl ?_
      refine ok_X9_triples_L40 hro r0 x1 x2 x3 _ (fun y50 f51 h => ?_) n49 1 0 f h
      · skip
        refine ac_iload_n 1 d_X9_triples_154 rfl rfl ?_
        refine ac_iload 4 d_X9_triples_155 rfl ?_
        refine ac_if_eq (tgt := 164) d_X9_triples_157 (by decide) (fun hc => ?_) (fun hc => ?_)
        · have h := h.1 hc
          refine ac_iconst (v := 0) d_X9_triples_164 rfl ?_
          refine ac_iadd d_X9_triples_165 ?_
          refine ak_topi (fun v52 ev52 => ?_)
          have h := h v52 ev52
          refine ac_istore_n (lv' := [(1, .int v52), (0, .ref r0), (2, .int x2), (3, .int x3), (4, .int y50)]) d_X9_triples_166 rfl (by decide) rfl ?_
          obtain ⟨v53, ev53⟩ : ∃ y : Int32, y = x3 + 1 := ⟨_, rfl⟩
          have h := h v53 ev53
          refine ac_iinc (j := 3) (lv' := [(3, .int v53), (1, .int v52), (0, .ref r0), (2, .int x2), (4, .int y50)]) d_X9_triples_167 rfl (by rw [ev53]; rfl) (by decide) rfl ?_
          refine ac_goto (tgt := 19) d_X9_triples_170 (by decide) ?_
          refine ac_weak [2, 1, 3, 0] rfl ?_
          exact ih v52 v53 f51 h
        · have h := h.2 hc
          refine ac_iconst (v := 1) d_X9_triples_160 rfl ?_
          refine ac_goto (tgt := 165) d_X9_triples_161 (by decide) ?_
          refine ac_iadd d_X9_triples_165 ?_
          refine ak_topi (fun v54 ev54 => ?_)
          have h := h v54 ev54
          refine ac_istore_n (lv' := [(1, .int v54), (0, .ref r0), (2, .int x2), (3, .int x3), (4, .int y50)]) d_X9_triples_166 rfl (by decide) rfl ?_
          obtain ⟨v55, ev55⟩ : ∃ y : Int32, y = x3 + 1 := ⟨_, rfl⟩
          have h := h v55 ev55
          refine ac_iinc (j := 3) (lv' := [(3, .int v55), (1, .int v54), (0, .ref r0), (2, .int x2), (4, .int y50)]) d_X9_triples_167 rfl (by rw [ev55]; rfl) (by decide) rfl ?_
          refine ac_goto (tgt := 19) d_X9_triples_170 (by decide) ?_
          refine ac_weak [2, 1, 3, 0] rfl ?_
          exact ih v54 v55 f51 h

set_option maxRecDepth 20000 in
set_option maxHeartbeats 4000000 in
theorem ok_X9_triples_L9 {x : ac_X} (hro : ac_R x = (ro_ 2 0 0)) (r0 : Nat) (E179 : Int32 → ac_hp → Prop) (hE179 : ∀ (y1 : Int32) (f : ac_hp), E179 y1 f → ac_At (prog_11_method_10_code, 7, "VirtualRewriteModel") x 0 0 179 [(1, .int y1)] [] f) : ∀ (n : Nat) (x1 : Int32) (x2 : Int32) (f : ac_hp), wp_X9_triples_L9 (ac_ki x) r0 E179 n x1 x2 f → ac_At (prog_11_method_10_code, 7, "VirtualRewriteModel") x 0 0 9 [(0, .ref r0), (1, .int x1), (2, .int x2)] [] f := by
  intro n
  induction n with
  | zero => intro _ _ _ h; exact h.elim
  | succ n ih =>
    intro x1 x2 f h
    rw [wp_X9_triples_L9] at h
    refine ac_iload_n 2 d_X9_triples_9 rfl rfl ?_
    refine ac_aload_n 0 d_X9_triples_10 rfl rfl ?_
    obtain ⟨v2, hr, h⟩ := h
    refine ak_getf hr fl_X9_92 d_X9_triples_11 ?_
    refine ac_icmp_ge (tgt := 179) d_X9_triples_14 (by decide) (fun hc => ?_) (fun hc => ?_)
    · have h := h.1 hc
      refine ac_weak [1] rfl ?_
      exact hE179 x1 f h
    · have h := h.2 hc
      refine ac_iconst (v := 0) d_X9_triples_17 rfl ?_
      refine ac_istore_n (lv' := [(3, .int 0), (0, .ref r0), (1, .int x1), (2, .int x2)]) d_X9_triples_18 rfl (by decide) rfl ?_
      obtain ⟨n56, h⟩ := h
      refine ac_weak [1, 2, 3, 0] rfl ?_
      refine ok_X9_triples_L19 hro r0 x2 _ (fun y57 f58 h => ?_) n56 x1 0 f h
      · skip
        obtain ⟨v59, ev59⟩ : ∃ y : Int32, y = x2 + 1 := ⟨_, rfl⟩
        have h := h v59 ev59
        refine ac_iinc (j := 2) (lv' := [(2, .int v59), (0, .ref r0), (1, .int y57)]) d_X9_triples_173 rfl (by rw [ev59]; rfl) (by decide) rfl ?_
        refine ac_goto (tgt := 9) d_X9_triples_176 (by decide) ?_
        refine ac_weak [1, 2, 0] rfl ?_
        exact ih y57 v59 f58 h

set_option maxRecDepth 20000 in
set_option maxHeartbeats 4000000 in
theorem c_X9_triples (l : Launch) (D : va_G) (ki : Nat → ClassId) (r0 : Nat) (f : ac_hp) (Q : Int32 → ac_hp → Prop) (h : wp_X9_triples ki r0 f Q) : ac_met l D ki y_X9_triples prog_11_method_10_code 7 (some .int) (ro_ 2 0 0) [.ref r0] f (qr_I Q) 0 0 := by
  refine ac_enter (fun ki => wp_X9_triples ki r0 f Q) (by decide) (Nat.le_of_ble_eq_true rfl) h ?_
  intro x hro hR hnm h
  unfold wp_X9_triples at h
  refine ac_aload_n 0 d_X9_triples_0 rfl rfl ?_
  refine ac_iconst (v := 0) d_X9_triples_1 rfl ?_
  obtain ⟨f1, hr, h⟩ := h
  refine ak_putf hr fp_X9_80 rfl rfl d_X9_triples_2 ?_
  refine ac_iconst (v := 0) d_X9_triples_5 rfl ?_
  refine ac_istore_n (lv' := [(1, .int 0), (0, .ref r0)]) d_X9_triples_6 rfl (by decide) rfl ?_
  refine ac_iconst (v := 0) d_X9_triples_7 rfl ?_
  refine ac_istore_n (lv' := [(2, .int 0), (1, .int 0), (0, .ref r0)]) d_X9_triples_8 rfl (by decide) rfl ?_
  obtain ⟨n60, h⟩ := h
  refine ac_weak [2, 1, 0] rfl ?_
  refine ok_X9_triples_L9 hro r0 _ (fun y61 f62 h => ?_) n60 0 0 f1 h
  · skip
    refine ac_iload_n 0 d_X9_triples_179 rfl rfl ?_
    exact ac_ireturn hR rfl ⟨_, rfl, h⟩ (by decide) (by decide) d_X9_triples_180

