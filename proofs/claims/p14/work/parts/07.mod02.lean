def wp_X9_compare_L2 (ki : Nat → ClassId) (r0 : Nat) (x1 : Int32) (Q : Int32 → ac_hp → Prop) (E81 : ac_hp → Prop) : Nat → Int32 → ac_hp → Prop
  | 0, _, _ => False
  | n + 1, x2, f => ((6 ≤ x2 → E81  f) ∧ (¬ 6 ≤ x2 → ∃ o1 : Nat, hr_f f r0 9 21 (.ref o1) ∧ ∃ v2 : Int32, hr_i (ki 0) f o1 x2 v2 ∧ ((0 ≤ v2 → ∃ o3 : Nat, hr_f f r0 9 22 (.ref o3) ∧ ∃ v4 : Int32, hr_i (ki 0) f o3 x2 v4 ∧ ∃ o5 : Nat, hr_f f r0 9 21 (.ref o5) ∧ ∃ v6 : Int32, hr_i (ki 0) f o5 x2 v6 ∧ ∀ v7 : Int32, v7 = (10000 * v4) + v6 → ∃ o8 : Nat, hr_f f r0 9 25 (.ref o8) ∧ ∃ v9 : Int32, hr_i (ki 0) f o8 ((6 * x1) + x2) v9 ∧ ((v7 = v9 → ∀ v10 : Int32, v10 = x2 + 1 → wp_X9_compare_L2 ki r0 x1 Q E81 n v10 f) ∧ (¬ v7 = v9 → ∃ o11 : Nat, hr_f f r0 9 25 (.ref o11) ∧ ∃ v12 : Int32, hr_i (ki 0) f o11 ((6 * x1) + x2) v12 ∧ ((v12 ≤ v7 → Q 1 f) ∧ (¬ v12 ≤ v7 → Q (-1) f))))) ∧ (¬ 0 ≤ v2 → ∃ o13 : Nat, hr_f f r0 9 25 (.ref o13) ∧ ∃ v14 : Int32, hr_i (ki 0) f o13 ((6 * x1) + x2) v14 ∧ (((-1) = v14 → ∀ v15 : Int32, v15 = x2 + 1 → wp_X9_compare_L2 ki r0 x1 Q E81 n v15 f) ∧ (¬ (-1) = v14 → ∃ o16 : Nat, hr_f f r0 9 25 (.ref o16) ∧ ∃ v17 : Int32, hr_i (ki 0) f o16 ((6 * x1) + x2) v17 ∧ ((v17 ≤ (-1) → Q 1 f) ∧ (¬ v17 ≤ (-1) → Q (-1) f))))))))

def wp_X9_compare (ki : Nat → ClassId) (r0 : Nat) (x1 : Int32) (f : ac_hp) (Q : Int32 → ac_hp → Prop) : Prop := ∃ n18 : Nat, wp_X9_compare_L2 ki r0 x1 Q (fun f19 => Q 0 f19) n18 0 f

set_option maxRecDepth 20000 in
set_option maxHeartbeats 4000000 in
theorem ok_X9_compare_L2 {x : ac_X} (hro : ac_R x = (ro_ 1 0 0)) (r0 : Nat) (x1 : Int32) (Q : Int32 → ac_hp → Prop) (hR : ac_rt x (some .int) (qr_I Q) 0 0) (E81 : ac_hp → Prop) (hE81 : ∀ (f : ac_hp), E81 f → ac_At (prog_11_method_24_code, 4, "VirtualRewriteModel") x 0 0 81 [] [] f) : ∀ (n : Nat) (x2 : Int32) (f : ac_hp), wp_X9_compare_L2 (ac_ki x) r0 x1 Q E81 n x2 f → ac_At (prog_11_method_24_code, 4, "VirtualRewriteModel") x 0 0 2 [(0, .ref r0), (1, .int x1), (2, .int x2)] [] f := by
  intro n
  induction n with
  | zero => intro _ _ h; exact h.elim
  | succ n ih =>
    intro x2 f h
    rw [wp_X9_compare_L2] at h
    refine ac_iload_n 2 d_X9_compare_2 rfl rfl ?_
    refine ac_bipush (v := 6) d_X9_compare_3 rfl ?_
    refine ac_icmp_ge (tgt := 81) d_X9_compare_5 (by decide) (fun hc => ?_) (fun hc => ?_)
    · have h := h.1 hc
      refine ac_weak [] rfl ?_
      exact hE81  f h
    · have h := h.2 hc
      refine ac_aload_n 0 d_X9_compare_8 rfl rfl ?_
      obtain ⟨o1, hr, h⟩ := h
      refine ak_getf hr fl_X9_59 d_X9_compare_9 ?_
      refine ac_iload_n 2 d_X9_compare_12 rfl rfl ?_
      obtain ⟨v2, hr, h⟩ := h
      refine ak_iald 0 hr rfl d_X9_compare_13 ?_
      refine ac_if_ge (tgt := 21) d_X9_compare_14 (by decide) (fun hc => ?_) (fun hc => ?_)
      · have h := h.1 hc
        refine ac_sipush (v := 10000) d_X9_compare_21 rfl ?_
        refine ac_aload_n 0 d_X9_compare_24 rfl rfl ?_
        obtain ⟨o3, hr, h⟩ := h
        refine ak_getf hr fl_X9_62 d_X9_compare_25 ?_
        refine ac_iload_n 2 d_X9_compare_28 rfl rfl ?_
        obtain ⟨v4, hr, h⟩ := h
        refine ak_iald 0 hr rfl d_X9_compare_29 ?_
        refine ac_imul d_X9_compare_30 ?_
        refine ac_aload_n 0 d_X9_compare_31 rfl rfl ?_
        obtain ⟨o5, hr, h⟩ := h
        refine ak_getf hr fl_X9_59 d_X9_compare_32 ?_
        refine ac_iload_n 2 d_X9_compare_35 rfl rfl ?_
        obtain ⟨v6, hr, h⟩ := h
        refine ak_iald 0 hr rfl d_X9_compare_36 ?_
        refine ac_iadd d_X9_compare_37 ?_
        refine ak_topi (fun v7 ev7 => ?_)
        have h := h v7 ev7
        refine ac_istore_n (lv' := [(3, .int v7), (0, .ref r0), (1, .int x1), (2, .int x2)]) d_X9_compare_38 rfl (by decide) rfl ?_
        refine ac_iload_n 0 d_X9_compare_39 rfl rfl ?_
        refine ac_aload_n 1 d_X9_compare_40 rfl rfl ?_
        obtain ⟨o8, hr, h⟩ := h
        refine ak_getf hr fl_X9_68 d_X9_compare_41 ?_
        refine ac_bipush (v := 6) d_X9_compare_44 rfl ?_
        refine ac_iload_n 2 d_X9_compare_46 rfl rfl ?_
        refine ac_imul d_X9_compare_47 ?_
        refine ac_iload_n 3 d_X9_compare_48 rfl rfl ?_
        refine ac_iadd d_X9_compare_49 ?_
        obtain ⟨v9, hr, h⟩ := h
        refine ak_iald 0 hr rfl d_X9_compare_50 ?_
        refine ac_icmp_eq (tgt := 75) d_X9_compare_51 (by decide) (fun hc => ?_) (fun hc => ?_)
        · have h := h.1 hc
          obtain ⟨v10, ev10⟩ : ∃ y : Int32, y = x2 + 1 := ⟨_, rfl⟩
          have h := h v10 ev10
          refine ac_iinc (j := 3) (lv' := [(2, .int v10), (3, .int v7), (0, .ref r0), (1, .int x1)]) d_X9_compare_75 rfl (by rw [ev10]; rfl) (by decide) rfl ?_
          refine ac_goto (tgt := 2) d_X9_compare_78 (by decide) ?_
          refine ac_weak [2, 3, 0] rfl ?_
          exact ih v10 f h
        · have h := h.2 hc
          refine ac_iload_n 0 d_X9_compare_54 rfl rfl ?_
          refine ac_aload_n 1 d_X9_compare_55 rfl rfl ?_
          obtain ⟨o11, hr, h⟩ := h
          refine ak_getf hr fl_X9_68 d_X9_compare_56 ?_
          refine ac_bipush (v := 6) d_X9_compare_59 rfl ?_
          refine ac_iload_n 2 d_X9_compare_61 rfl rfl ?_
          refine ac_imul d_X9_compare_62 ?_
          refine ac_iload_n 3 d_X9_compare_63 rfl rfl ?_
          refine ac_iadd d_X9_compare_64 ?_
          obtain ⟨v12, hr, h⟩ := h
          refine ak_iald 0 hr rfl d_X9_compare_65 ?_
          refine ac_icmp_ge (tgt := 73) d_X9_compare_66 (by decide) (fun hc => ?_) (fun hc => ?_)
          · have h := h.1 hc
            refine ac_iconst (v := 1) d_X9_compare_73 rfl ?_
            exact ac_ireturn hR rfl ⟨_, rfl, h⟩ (by decide) (by decide) d_X9_compare_74
          · have h := h.2 hc
            refine ac_iconst (v := -1) d_X9_compare_69 rfl ?_
            refine ac_goto (tgt := 74) d_X9_compare_70 (by decide) ?_
            exact ac_ireturn hR rfl ⟨_, rfl, h⟩ (by decide) (by decide) d_X9_compare_74
      · have h := h.2 hc
        refine ac_iconst (v := -1) d_X9_compare_17 rfl ?_
        refine ac_goto (tgt := 38) d_X9_compare_18 (by decide) ?_
        refine ac_istore_n (lv' := [(3, .int (-1)), (0, .ref r0), (1, .int x1), (2, .int x2)]) d_X9_compare_38 rfl (by decide) rfl ?_
        refine ac_iload_n 0 d_X9_compare_39 rfl rfl ?_
        refine ac_aload_n 1 d_X9_compare_40 rfl rfl ?_
        obtain ⟨o13, hr, h⟩ := h
        refine ak_getf hr fl_X9_68 d_X9_compare_41 ?_
        refine ac_bipush (v := 6) d_X9_compare_44 rfl ?_
        refine ac_iload_n 2 d_X9_compare_46 rfl rfl ?_
        refine ac_imul d_X9_compare_47 ?_
        refine ac_iload_n 3 d_X9_compare_48 rfl rfl ?_
        refine ac_iadd d_X9_compare_49 ?_
        obtain ⟨v14, hr, h⟩ := h
        refine ak_iald 0 hr rfl d_X9_compare_50 ?_
        refine ac_icmp_eq (tgt := 75) d_X9_compare_51 (by decide) (fun hc => ?_) (fun hc => ?_)
        · have h := h.1 hc
          obtain ⟨v15, ev15⟩ : ∃ y : Int32, y = x2 + 1 := ⟨_, rfl⟩
          have h := h v15 ev15
          refine ac_iinc (j := 3) (lv' := [(2, .int v15), (3, .int (-1)), (0, .ref r0), (1, .int x1)]) d_X9_compare_75 rfl (by rw [ev15]; rfl) (by decide) rfl ?_
          refine ac_goto (tgt := 2) d_X9_compare_78 (by decide) ?_
          refine ac_weak [2, 3, 0] rfl ?_
          exact ih v15 f h
        · have h := h.2 hc
          refine ac_iload_n 0 d_X9_compare_54 rfl rfl ?_
          refine ac_aload_n 1 d_X9_compare_55 rfl rfl ?_
          obtain ⟨o16, hr, h⟩ := h
          refine ak_getf hr fl_X9_68 d_X9_compare_56 ?_
          refine ac_bipush (v := 6) d_X9_compare_59 rfl ?_
          refine ac_iload_n 2 d_X9_compare_61 rfl rfl ?_
          refine ac_imul d_X9_compare_62 ?_
          refine ac_iload_n 3 d_X9_compare_63 rfl rfl ?_
          refine ac_iadd d_X9_compare_64 ?_
          obtain ⟨v17, hr, h⟩ := h
          refine ak_iald 0 hr rfl d_X9_compare_65 ?_
          refine ac_icmp_ge (tgt := 73) d_X9_compare_66 (by decide) (fun hc => ?_) (fun hc => ?_)
          · have h := h.1 hc
            refine ac_iconst (v := 1) d_X9_compare_73 rfl ?_
            exact ac_ireturn hR rfl ⟨_, rfl, h⟩ (by decide) (by decide) d_X9_compare_74
          · have h := h.2 hc
            refine ac_iconst (v := -1) d_X9_compare_69 rfl ?_
            refine ac_goto (tgt := 74) d_X9_compare_70 (by decide) ?_
            exact ac_ireturn hR rfl ⟨_, rfl, h⟩ (by decide) (by decide) d_X9_compare_74

set_option maxRecDepth 20000 in
set_option maxHeartbeats 4000000 in
theorem c_X9_compare (l : Launch) (D : va_G) (ki : Nat → ClassId) (r0 : Nat) (x1 : Int32) (f : ac_hp) (Q : Int32 → ac_hp → Prop) (h : wp_X9_compare ki r0 x1 f Q) : ac_met l D ki y_X9_compare prog_11_method_24_code 4 (some .int) (ro_ 1 0 0) [.ref r0, .int x1] f (qr_I Q) 0 0 := by
  refine ac_enter (fun ki => wp_X9_compare ki r0 x1 f Q) (by decide) (Nat.le_of_ble_eq_true rfl) h ?_
  intro x hro hR hnm h
  unfold wp_X9_compare at h
  refine ac_iconst (v := 0) d_X9_compare_0 rfl ?_
  refine ac_istore_n (lv' := [(2, .int 0), (0, .ref r0), (1, .int x1)]) d_X9_compare_1 rfl (by decide) rfl ?_
  obtain ⟨n18, h⟩ := h
  refine ac_weak [1, 2, 0] rfl ?_
  refine ok_X9_compare_L2 hro r0 x1 Q hR _ (fun f19 h => ?_) n18 0 f h
  · skip
    refine ac_iconst (v := 0) d_X9_compare_81 rfl ?_
    exact ac_ireturn hR rfl ⟨_, rfl, h⟩ (by decide) (by decide) d_X9_compare_82

def wp_X9_key_L47 (ki : Nat → ClassId) (r0 : Nat) (x1 : Int32) (x2 : Int32) (x3 : Int32) (E102 : Int32 → ac_hp → Prop) : Nat → Int32 → Int32 → ac_hp → Prop
  | 0, _, _, _ => False
  | n + 1, x4, x5, f => ∃ o8 : Nat, hr_f f r0 9 2 (.ref o8) ∧ ∃ v9 : Int32, hr_i (ki 0) f o8 x1 v9 ∧ ((v9 ≤ x5 → E102 x4 f) ∧ (¬ v9 ≤ x5 → ((¬ x4 = 0 → ∀ v10 : Int32, v10 = x5 + 1 → wp_X9_key_L47 ki r0 x1 x2 x3 E102 n 1 v10 f) ∧ (x4 = 0 → ∃ o11 : Nat, hr_f f r0 9 1 (.ref o11) ∧ ∃ v12 : Int32, hr_i (ki 0) f o11 (((60 * x1) + (3 * x5)) + x2) v12 ∧ hr_o f r0 9 ∧ wp_X9_count ki r0 x1 x2 v12 f (fun v14 f13 => ((v14 ≤ 1 → ∀ v15 : Int32, v15 = x5 + 1 → wp_X9_key_L47 ki r0 x1 x2 x3 E102 n 0 v15 f13) ∧ (¬ v14 ≤ 1 → ∀ v16 : Int32, v16 = x5 + 1 → wp_X9_key_L47 ki r0 x1 x2 x3 E102 n 1 v16 f13)))))))

def wp_X9_key (ki : Nat → ClassId) (r0 : Nat) (x1 : Int32) (x2 : Int32) (x3 : Int32) (f : ac_hp) (Q : Int32 → ac_hp → Prop) : Prop := ∃ f1 : ac_hp, hw_f f r0 9 0 (.int 0) f1 ∧ wp_X9_in ki x1 0 3 f1 (fun v3 f2 => ((v3 = 0 → Q (-1) f2) ∧ (¬ v3 = 0 → wp_X9_in ki x2 0 2 f2 (fun v5 f4 => ((¬ v5 = 0 → ∃ o6 : Nat, hr_f f4 r0 9 3 (.ref o6) ∧ ∃ v7 : Int32, hr_i (ki 1) f4 o6 ((3 * x1) + x2) v7 ∧ ((¬ v7 = x3 → ∃ n17 : Nat, wp_X9_key_L47 ki r0 x1 x2 x3 (fun y18 f19 => ((x3 = 0 → ∃ o20 : Nat, hr_f f19 r0 9 3 (.ref o20) ∧ ∃ f21 : ac_hp, hw_i (ki 1) f19 o20 ((3 * x1) + x2) (vp_nar .boolean x3) f21 ∧ Q 1 f21) ∧ (¬ x3 = 0 → ((y18 = 0 → ∃ o22 : Nat, hr_f f19 r0 9 3 (.ref o22) ∧ ∃ f23 : ac_hp, hw_i (ki 1) f19 o22 ((3 * x1) + x2) (vp_nar .boolean x3) f23 ∧ Q 1 f23) ∧ (¬ y18 = 0 → Q (-4) f19))))) n17 0 0 f4) ∧ (v7 = x3 → Q 0 f4))) ∧ (v5 = 0 → Q (-1) f4))))))

set_option maxRecDepth 20000 in
set_option maxHeartbeats 4000000 in
theorem ok_X9_key_L47 {x : ac_X} (hro : ac_R x = (ro_ 2 0 0)) (r0 : Nat) (x1 : Int32) (x2 : Int32) (x3 : Int32) (E102 : Int32 → ac_hp → Prop) (hE102 : ∀ (y4 : Int32) (f : ac_hp), E102 y4 f → ac_At (prog_11_method_5_code, 6, "VirtualRewriteModel") x 0 0 102 [(0, .ref r0), (1, .int x1), (2, .int x2), (3, .int x3), (4, .int y4)] [] f) : ∀ (n : Nat) (x4 : Int32) (x5 : Int32) (f : ac_hp), wp_X9_key_L47 (ac_ki x) r0 x1 x2 x3 E102 n x4 x5 f → ac_At (prog_11_method_5_code, 6, "VirtualRewriteModel") x 0 0 47 [(0, .ref r0), (1, .int x1), (2, .int x2), (3, .int x3), (4, .int x4), (5, .int x5)] [] f := by
  intro n
  induction n with
  | zero => intro _ _ _ h; exact h.elim
  | succ n ih =>
    intro x4 x5 f h
    rw [wp_X9_key_L47] at h
    refine ac_iload 5 d_X9_key_47 rfl ?_
    refine ac_aload_n 0 d_X9_key_49 rfl rfl ?_
    obtain ⟨o8, hr, h⟩ := h
    refine ak_getf hr fl_X9_13 d_X9_key_50 ?_
    refine ac_iload_n 1 d_X9_key_53 rfl rfl ?_
    obtain ⟨v9, hr, h⟩ := h
    refine ak_iald 0 hr rfl d_X9_key_54 ?_
    refine ac_icmp_ge (tgt := 102) d_X9_key_55 (by decide) (fun hc => ?_) (fun hc => ?_)
    · have h := h.1 hc
      refine ac_weak [0, 1, 2, 3, 4] rfl ?_
      exact hE102 x4 f h
    · have h := h.2 hc
      refine ac_iload 4 d_X9_key_58 rfl ?_
      refine ac_if_ne (tgt := 89) d_X9_key_60 (by decide) (fun hc => ?_) (fun hc => ?_)
      · have h := h.1 hc
        refine ac_iconst (v := 1) d_X9_key_89 rfl ?_
        refine ac_goto (tgt := 94) d_X9_key_90 (by decide) ?_
        refine ac_istore (lv' := [(4, .int 1), (0, .ref r0), (1, .int x1), (2, .int x2), (3, .int x3), (5, .int x5)]) d_X9_key_94 (by decide) rfl ?_
        obtain ⟨v10, ev10⟩ : ∃ y : Int32, y = x5 + 1 := ⟨_, rfl⟩
        have h := h v10 ev10
        refine ac_iinc (j := 5) (lv' := [(5, .int v10), (4, .int 1), (0, .ref r0), (1, .int x1), (2, .int x2), (3, .int x3)]) d_X9_key_96 rfl (by rw [ev10]; rfl) (by decide) rfl ?_
        refine ac_goto (tgt := 47) d_X9_key_99 (by decide) ?_
        refine ac_weak [2, 3, 4, 5, 1, 0] rfl ?_
        exact ih 1 v10 f h
      · have h := h.2 hc
        refine ac_aload_n 0 d_X9_key_63 rfl rfl ?_
        refine ac_iload_n 1 d_X9_key_64 rfl rfl ?_
        refine ac_iload_n 2 d_X9_key_65 rfl rfl ?_
        refine ac_aload_n 0 d_X9_key_66 rfl rfl ?_
        obtain ⟨o11, hr, h⟩ := h
        refine ak_getf hr fl_X9_7 d_X9_key_67 ?_
        refine ac_bipush (v := 60) d_X9_key_70 rfl ?_
        refine ac_iload_n 1 d_X9_key_72 rfl rfl ?_
        refine ac_imul d_X9_key_73 ?_
        refine ac_iconst (v := 3) d_X9_key_74 rfl ?_
        refine ac_iload 5 d_X9_key_75 rfl ?_
        refine ac_imul d_X9_key_77 ?_
        refine ac_iadd d_X9_key_78 ?_
        refine ac_iload_n 2 d_X9_key_79 rfl rfl ?_
        refine ac_iadd d_X9_key_80 ?_
        obtain ⟨v12, hr, h⟩ := h
        refine ak_iald 0 hr rfl d_X9_key_81 ?_
        obtain ⟨⟨fs, hb⟩, h⟩ := h
        refine ac_callV0 cd_X9_count ml_X9_88 in_X9_count se_X9_count rfl hb (c_X9_count _ _ _ r0 x1 x2 v12 f _ h) rfl rfl (by rw [hro]; decide) rfl (rest := []) rfl (Nat.le_of_ble_eq_true rfl) (by rw [hro]; decide) d_X9_key_82 (ac_I (fun v14 f13 h => ?_))
        refine ac_iconst (v := 1) d_X9_key_85 rfl ?_
        refine ac_icmp_le (tgt := 93) d_X9_key_86 (by decide) (fun hc => ?_) (fun hc => ?_)
        · have h := h.1 hc
          refine ac_iconst (v := 0) d_X9_key_93 rfl ?_
          refine ac_istore (lv' := [(4, .int 0), (0, .ref r0), (1, .int x1), (2, .int x2), (3, .int x3), (5, .int x5)]) d_X9_key_94 (by decide) rfl ?_
          obtain ⟨v15, ev15⟩ : ∃ y : Int32, y = x5 + 1 := ⟨_, rfl⟩
          have h := h v15 ev15
          refine ac_iinc (j := 5) (lv' := [(5, .int v15), (4, .int 0), (0, .ref r0), (1, .int x1), (2, .int x2), (3, .int x3)]) d_X9_key_96 rfl (by rw [ev15]; rfl) (by decide) rfl ?_
          refine ac_goto (tgt := 47) d_X9_key_99 (by decide) ?_
          refine ac_weak [2, 3, 4, 5, 1, 0] rfl ?_
          exact ih 0 v15 f13 h
        · have h := h.2 hc
          refine ac_iconst (v := 1) d_X9_key_89 rfl ?_
          refine ac_goto (tgt := 94) d_X9_key_90 (by decide) ?_
          refine ac_istore (lv' := [(4, .int 1), (0, .ref r0), (1, .int x1), (2, .int x2), (3, .int x3), (5, .int x5)]) d_X9_key_94 (by decide) rfl ?_
          obtain ⟨v16, ev16⟩ : ∃ y : Int32, y = x5 + 1 := ⟨_, rfl⟩
          have h := h v16 ev16
          refine ac_iinc (j := 5) (lv' := [(5, .int v16), (4, .int 1), (0, .ref r0), (1, .int x1), (2, .int x2), (3, .int x3)]) d_X9_key_96 rfl (by rw [ev16]; rfl) (by decide) rfl ?_
          refine ac_goto (tgt := 47) d_X9_key_99 (by decide) ?_
          refine ac_weak [2, 3, 4, 5, 1, 0] rfl ?_
          exact ih 1 v16 f13 h

set_option maxRecDepth 20000 in
set_option maxHeartbeats 4000000 in
theorem c_X9_key (l : Launch) (D : va_G) (ki : Nat → ClassId) (r0 : Nat) (x1 : Int32) (x2 : Int32) (x3 : Int32) (f : ac_hp) (Q : Int32 → ac_hp → Prop) (h : wp_X9_key ki r0 x1 x2 x3 f Q) : ac_met l D ki y_X9_key prog_11_method_5_code 6 (some .int) (ro_ 2 0 0) [.ref r0, .int x1, .int x2, .int x3] f (qr_I Q) 0 0 := by
  refine ac_enter (fun ki => wp_X9_key ki r0 x1 x2 x3 f Q) (by decide) (Nat.le_of_ble_eq_true rfl) h ?_
  intro x hro hR hnm h
  unfold wp_X9_key at h
  refine ac_aload_n 0 d_X9_key_0 rfl rfl ?_
  refine ac_iconst (v := 0) d_X9_key_1 rfl ?_
  obtain ⟨f1, hr, h⟩ := h
  refine ak_putf hr fp_X9_80 rfl rfl d_X9_key_2 ?_
  refine ac_iload_n 1 d_X9_key_5 rfl rfl ?_
  refine ac_iconst (v := 0) d_X9_key_6 rfl ?_
  refine ac_iconst (v := 3) d_X9_key_7 rfl ?_
  refine ac_callS0 cd_X9_in ml_X9_84 st_X9_in (c_X9_in _ _ _ x1 0 3 f1 _ h) rfl rfl (by rw [hro]; decide) rfl (rest := []) rfl (Nat.le_of_ble_eq_true rfl) (by rw [hro]; decide) d_X9_key_8 (ac_I (fun v3 f2 h => ?_))
  refine ac_if_eq (tgt := 23) d_X9_key_11 (by decide) (fun hc => ?_) (fun hc => ?_)
  · have h := h.1 hc
    refine ac_iconst (v := -1) d_X9_key_23 rfl ?_
    exact ac_ireturn hR rfl ⟨_, rfl, h⟩ (by decide) (by decide) d_X9_key_24
  · have h := h.2 hc
    refine ac_iload_n 2 d_X9_key_14 rfl rfl ?_
    refine ac_iconst (v := 0) d_X9_key_15 rfl ?_
    refine ac_iconst (v := 2) d_X9_key_16 rfl ?_
    refine ac_callS0 cd_X9_in ml_X9_84 st_X9_in (c_X9_in _ _ _ x2 0 2 f2 _ h) rfl rfl (by rw [hro]; decide) rfl (rest := []) rfl (Nat.le_of_ble_eq_true rfl) (by rw [hro]; decide) d_X9_key_17 (ac_I (fun v5 f4 h => ?_))
    refine ac_if_ne (tgt := 25) d_X9_key_20 (by decide) (fun hc => ?_) (fun hc => ?_)
    · have h := h.1 hc
      refine ac_aload_n 0 d_X9_key_25 rfl rfl ?_
      obtain ⟨o6, hr, h⟩ := h
      refine ak_getf hr fl_X9_16 d_X9_key_26 ?_
      refine ac_iconst (v := 3) d_X9_key_29 rfl ?_
      refine ac_iload_n 1 d_X9_key_30 rfl rfl ?_
      refine ac_imul d_X9_key_31 ?_
      refine ac_iload_n 2 d_X9_key_32 rfl rfl ?_
      refine ac_iadd d_X9_key_33 ?_
      obtain ⟨v7, hr, h⟩ := h
      refine ak_zald 1 hr rfl d_X9_key_34 ?_
      refine ac_iload_n 3 d_X9_key_35 rfl rfl ?_
      refine ac_icmp_ne (tgt := 41) d_X9_key_36 (by decide) (fun hc => ?_) (fun hc => ?_)
      · have h := h.1 hc
        refine ac_iconst (v := 0) d_X9_key_41 rfl ?_
        refine ac_istore (lv' := [(4, .int 0), (0, .ref r0), (1, .int x1), (2, .int x2), (3, .int x3)]) d_X9_key_42 (by decide) rfl ?_
        refine ac_iconst (v := 0) d_X9_key_44 rfl ?_
        refine ac_istore (lv' := [(5, .int 0), (4, .int 0), (0, .ref r0), (1, .int x1), (2, .int x2), (3, .int x3)]) d_X9_key_45 (by decide) rfl ?_
        obtain ⟨n17, h⟩ := h
        refine ac_weak [2, 3, 4, 5, 1, 0] rfl ?_
        refine ok_X9_key_L47 hro r0 x1 x2 x3 _ (fun y18 f19 h => ?_) n17 0 0 f4 h
        · skip
          refine ac_iload_n 3 d_X9_key_102 rfl rfl ?_
          refine ac_if_eq (tgt := 114) d_X9_key_103 (by decide) (fun hc => ?_) (fun hc => ?_)
          · have h := h.1 hc
            refine ac_aload_n 0 d_X9_key_114 rfl rfl ?_
            obtain ⟨o20, hr, h⟩ := h
            refine ak_getf hr fl_X9_16 d_X9_key_115 ?_
            refine ac_iconst (v := 3) d_X9_key_118 rfl ?_
            refine ac_iload_n 1 d_X9_key_119 rfl rfl ?_
            refine ac_imul d_X9_key_120 ?_
            refine ac_iload_n 2 d_X9_key_121 rfl rfl ?_
            refine ac_iadd d_X9_key_122 ?_
            refine ac_iload_n 3 d_X9_key_123 rfl rfl ?_
            obtain ⟨f21, hr, h⟩ := h
            refine ak_zast 1 hr rfl d_X9_key_124 ?_
            refine ac_iconst (v := 1) d_X9_key_125 rfl ?_
            exact ac_ireturn hR rfl ⟨_, rfl, h⟩ (by decide) (by decide) d_X9_key_126
          · have h := h.2 hc
            refine ac_iload 4 d_X9_key_106 rfl ?_
            refine ac_if_eq (tgt := 114) d_X9_key_108 (by decide) (fun hc => ?_) (fun hc => ?_)
            · have h := h.1 hc
              refine ac_aload_n 0 d_X9_key_114 rfl rfl ?_
              obtain ⟨o22, hr, h⟩ := h
              refine ak_getf hr fl_X9_16 d_X9_key_115 ?_
              refine ac_iconst (v := 3) d_X9_key_118 rfl ?_
              refine ac_iload_n 1 d_X9_key_119 rfl rfl ?_
              refine ac_imul d_X9_key_120 ?_
              refine ac_iload_n 2 d_X9_key_121 rfl rfl ?_
              refine ac_iadd d_X9_key_122 ?_
              refine ac_iload_n 3 d_X9_key_123 rfl rfl ?_
              obtain ⟨f23, hr, h⟩ := h
              refine ak_zast 1 hr rfl d_X9_key_124 ?_
              refine ac_iconst (v := 1) d_X9_key_125 rfl ?_
              exact ac_ireturn hR rfl ⟨_, rfl, h⟩ (by decide) (by decide) d_X9_key_126
            · have h := h.2 hc
              refine ac_bipush (v := -4) d_X9_key_111 rfl ?_
              exact ac_ireturn hR rfl ⟨_, rfl, h⟩ (by decide) (by decide) d_X9_key_113
      · have h := h.2 hc
        refine ac_iconst (v := 0) d_X9_key_39 rfl ?_
        exact ac_ireturn hR rfl ⟨_, rfl, h⟩ (by decide) (by decide) d_X9_key_40
    · have h := h.2 hc
      refine ac_iconst (v := -1) d_X9_key_23 rfl ?_
      exact ac_ireturn hR rfl ⟨_, rfl, h⟩ (by decide) (by decide) d_X9_key_24

def wp_X9_row (ki : Nat → ClassId) (r0 : Nat) (x1 : Int32) (x2 : Int32) (x3 : Int32) (x4 : Int32) (f : ac_hp) (Q : Int32 → ac_hp → Prop) : Prop := ∃ f1 : ac_hp, hw_f f r0 9 0 (.int 0) f1 ∧ wp_X9_in ki x1 0 3 f1 (fun v3 f2 => ((v3 = 0 → Q (-1) f2) ∧ (¬ v3 = 0 → wp_X9_in ki x2 0 9999 f2 (fun v5 f4 => ((v5 = 0 → Q (-1) f4) ∧ (¬ v5 = 0 → wp_X9_in ki x3 0 9999 f4 (fun v7 f6 => ((v7 = 0 → Q (-1) f6) ∧ (¬ v7 = 0 → wp_X9_in ki x4 0 9999 f6 (fun v9 f8 => ((¬ v9 = 0 → ∃ o10 : Nat, hr_f f8 r0 9 3 (.ref o10) ∧ ∃ v11 : Int32, hr_i (ki 1) f8 o10 (3 * x1) v11 ∧ ((v11 = 0 → ∃ o12 : Nat, hr_f f8 r0 9 3 (.ref o12) ∧ ∃ v13 : Int32, hr_i (ki 1) f8 o12 ((3 * x1) + 1) v13 ∧ ((v13 = 0 → ∃ o14 : Nat, hr_f f8 r0 9 3 (.ref o14) ∧ ∃ v15 : Int32, hr_i (ki 1) f8 o14 ((3 * x1) + 2) v15 ∧ ((v15 = 0 → ∃ o16 : Nat, hr_f f8 r0 9 2 (.ref o16) ∧ ∃ v17 : Int32, hr_i (ki 0) f8 o16 x1 v17 ∧ ((¬ v17 = 20 → ∃ o18 : Nat, hr_f f8 r0 9 2 (.ref o18) ∧ ∃ v19 : Int32, hr_i (ki 0) f8 o18 x1 v19 ∧ ∀ v20 : Int32, v20 = (60 * x1) + (3 * v19) → ∃ o21 : Nat, hr_f f8 r0 9 1 (.ref o21) ∧ ∃ f22 : ac_hp, hw_i (ki 0) f8 o21 v20 x2 f22 ∧ ∃ o23 : Nat, hr_f f22 r0 9 1 (.ref o23) ∧ ∃ f24 : ac_hp, hw_i (ki 0) f22 o23 (v20 + 1) x3 f24 ∧ ∃ o25 : Nat, hr_f f24 r0 9 1 (.ref o25) ∧ ∃ f26 : ac_hp, hw_i (ki 0) f24 o25 (v20 + 2) x4 f26 ∧ ∃ o27 : Nat, hr_f f26 r0 9 2 (.ref o27) ∧ ∃ v28 : Int32, hr_i (ki 0) f26 o27 x1 v28 ∧ ∃ f29 : ac_hp, hw_i (ki 0) f26 o27 x1 (v28 + 1) f29 ∧ ∃ o30 : Nat, hr_f f29 r0 9 2 (.ref o30) ∧ ∃ v31 : Int32, hr_i (ki 0) f29 o30 x1 v31 ∧ Q v31 f29) ∧ (v17 = 20 → Q (-2) f8))) ∧ (¬ v15 = 0 → hr_o f8 r0 9 ∧ wp_X9_count ki r0 x1 2 x4 f8 (fun v33 f32 => ((v33 ≤ 0 → ∃ o34 : Nat, hr_f f32 r0 9 2 (.ref o34) ∧ ∃ v35 : Int32, hr_i (ki 0) f32 o34 x1 v35 ∧ ((¬ v35 = 20 → ∃ o36 : Nat, hr_f f32 r0 9 2 (.ref o36) ∧ ∃ v37 : Int32, hr_i (ki 0) f32 o36 x1 v37 ∧ ∀ v38 : Int32, v38 = (60 * x1) + (3 * v37) → ∃ o39 : Nat, hr_f f32 r0 9 1 (.ref o39) ∧ ∃ f40 : ac_hp, hw_i (ki 0) f32 o39 v38 x2 f40 ∧ ∃ o41 : Nat, hr_f f40 r0 9 1 (.ref o41) ∧ ∃ f42 : ac_hp, hw_i (ki 0) f40 o41 (v38 + 1) x3 f42 ∧ ∃ o43 : Nat, hr_f f42 r0 9 1 (.ref o43) ∧ ∃ f44 : ac_hp, hw_i (ki 0) f42 o43 (v38 + 2) x4 f44 ∧ ∃ o45 : Nat, hr_f f44 r0 9 2 (.ref o45) ∧ ∃ v46 : Int32, hr_i (ki 0) f44 o45 x1 v46 ∧ ∃ f47 : ac_hp, hw_i (ki 0) f44 o45 x1 (v46 + 1) f47 ∧ ∃ o48 : Nat, hr_f f47 r0 9 2 (.ref o48) ∧ ∃ v49 : Int32, hr_i (ki 0) f47 o48 x1 v49 ∧ Q v49 f47) ∧ (v35 = 20 → Q (-2) f32))) ∧ (¬ v33 ≤ 0 → Q (-4) f32)))))) ∧ (¬ v13 = 0 → hr_o f8 r0 9 ∧ wp_X9_count ki r0 x1 1 x3 f8 (fun v51 f50 => ((0 < v51 → Q (-4) f50) ∧ (¬ 0 < v51 → ∃ o52 : Nat, hr_f f50 r0 9 3 (.ref o52) ∧ ∃ v53 : Int32, hr_i (ki 1) f50 o52 ((3 * x1) + 2) v53 ∧ ((v53 = 0 → ∃ o54 : Nat, hr_f f50 r0 9 2 (.ref o54) ∧ ∃ v55 : Int32, hr_i (ki 0) f50 o54 x1 v55 ∧ ((¬ v55 = 20 → ∃ o56 : Nat, hr_f f50 r0 9 2 (.ref o56) ∧ ∃ v57 : Int32, hr_i (ki 0) f50 o56 x1 v57 ∧ ∀ v58 : Int32, v58 = (60 * x1) + (3 * v57) → ∃ o59 : Nat, hr_f f50 r0 9 1 (.ref o59) ∧ ∃ f60 : ac_hp, hw_i (ki 0) f50 o59 v58 x2 f60 ∧ ∃ o61 : Nat, hr_f f60 r0 9 1 (.ref o61) ∧ ∃ f62 : ac_hp, hw_i (ki 0) f60 o61 (v58 + 1) x3 f62 ∧ ∃ o63 : Nat, hr_f f62 r0 9 1 (.ref o63) ∧ ∃ f64 : ac_hp, hw_i (ki 0) f62 o63 (v58 + 2) x4 f64 ∧ ∃ o65 : Nat, hr_f f64 r0 9 2 (.ref o65) ∧ ∃ v66 : Int32, hr_i (ki 0) f64 o65 x1 v66 ∧ ∃ f67 : ac_hp, hw_i (ki 0) f64 o65 x1 (v66 + 1) f67 ∧ ∃ o68 : Nat, hr_f f67 r0 9 2 (.ref o68) ∧ ∃ v69 : Int32, hr_i (ki 0) f67 o68 x1 v69 ∧ Q v69 f67) ∧ (v55 = 20 → Q (-2) f50))) ∧ (¬ v53 = 0 → hr_o f50 r0 9 ∧ wp_X9_count ki r0 x1 2 x4 f50 (fun v71 f70 => ((v71 ≤ 0 → ∃ o72 : Nat, hr_f f70 r0 9 2 (.ref o72) ∧ ∃ v73 : Int32, hr_i (ki 0) f70 o72 x1 v73 ∧ ((¬ v73 = 20 → ∃ o74 : Nat, hr_f f70 r0 9 2 (.ref o74) ∧ ∃ v75 : Int32, hr_i (ki 0) f70 o74 x1 v75 ∧ ∀ v76 : Int32, v76 = (60 * x1) + (3 * v75) → ∃ o77 : Nat, hr_f f70 r0 9 1 (.ref o77) ∧ ∃ f78 : ac_hp, hw_i (ki 0) f70 o77 v76 x2 f78 ∧ ∃ o79 : Nat, hr_f f78 r0 9 1 (.ref o79) ∧ ∃ f80 : ac_hp, hw_i (ki 0) f78 o79 (v76 + 1) x3 f80 ∧ ∃ o81 : Nat, hr_f f80 r0 9 1 (.ref o81) ∧ ∃ f82 : ac_hp, hw_i (ki 0) f80 o81 (v76 + 2) x4 f82 ∧ ∃ o83 : Nat, hr_f f82 r0 9 2 (.ref o83) ∧ ∃ v84 : Int32, hr_i (ki 0) f82 o83 x1 v84 ∧ ∃ f85 : ac_hp, hw_i (ki 0) f82 o83 x1 (v84 + 1) f85 ∧ ∃ o86 : Nat, hr_f f85 r0 9 2 (.ref o86) ∧ ∃ v87 : Int32, hr_i (ki 0) f85 o86 x1 v87 ∧ Q v87 f85) ∧ (v73 = 20 → Q (-2) f70))) ∧ (¬ v71 ≤ 0 → Q (-4) f70))))))))))) ∧ (¬ v11 = 0 → hr_o f8 r0 9 ∧ wp_X9_count ki r0 x1 0 x2 f8 (fun v89 f88 => ((0 < v89 → Q (-4) f88) ∧ (¬ 0 < v89 → ∃ o90 : Nat, hr_f f88 r0 9 3 (.ref o90) ∧ ∃ v91 : Int32, hr_i (ki 1) f88 o90 ((3 * x1) + 1) v91 ∧ ((v91 = 0 → ∃ o92 : Nat, hr_f f88 r0 9 3 (.ref o92) ∧ ∃ v93 : Int32, hr_i (ki 1) f88 o92 ((3 * x1) + 2) v93 ∧ ((v93 = 0 → ∃ o94 : Nat, hr_f f88 r0 9 2 (.ref o94) ∧ ∃ v95 : Int32, hr_i (ki 0) f88 o94 x1 v95 ∧ ((¬ v95 = 20 → ∃ o96 : Nat, hr_f f88 r0 9 2 (.ref o96) ∧ ∃ v97 : Int32, hr_i (ki 0) f88 o96 x1 v97 ∧ ∀ v98 : Int32, v98 = (60 * x1) + (3 * v97) → ∃ o99 : Nat, hr_f f88 r0 9 1 (.ref o99) ∧ ∃ f100 : ac_hp, hw_i (ki 0) f88 o99 v98 x2 f100 ∧ ∃ o101 : Nat, hr_f f100 r0 9 1 (.ref o101) ∧ ∃ f102 : ac_hp, hw_i (ki 0) f100 o101 (v98 + 1) x3 f102 ∧ ∃ o103 : Nat, hr_f f102 r0 9 1 (.ref o103) ∧ ∃ f104 : ac_hp, hw_i (ki 0) f102 o103 (v98 + 2) x4 f104 ∧ ∃ o105 : Nat, hr_f f104 r0 9 2 (.ref o105) ∧ ∃ v106 : Int32, hr_i (ki 0) f104 o105 x1 v106 ∧ ∃ f107 : ac_hp, hw_i (ki 0) f104 o105 x1 (v106 + 1) f107 ∧ ∃ o108 : Nat, hr_f f107 r0 9 2 (.ref o108) ∧ ∃ v109 : Int32, hr_i (ki 0) f107 o108 x1 v109 ∧ Q v109 f107) ∧ (v95 = 20 → Q (-2) f88))) ∧ (¬ v93 = 0 → hr_o f88 r0 9 ∧ wp_X9_count ki r0 x1 2 x4 f88 (fun v111 f110 => ((v111 ≤ 0 → ∃ o112 : Nat, hr_f f110 r0 9 2 (.ref o112) ∧ ∃ v113 : Int32, hr_i (ki 0) f110 o112 x1 v113 ∧ ((¬ v113 = 20 → ∃ o114 : Nat, hr_f f110 r0 9 2 (.ref o114) ∧ ∃ v115 : Int32, hr_i (ki 0) f110 o114 x1 v115 ∧ ∀ v116 : Int32, v116 = (60 * x1) + (3 * v115) → ∃ o117 : Nat, hr_f f110 r0 9 1 (.ref o117) ∧ ∃ f118 : ac_hp, hw_i (ki 0) f110 o117 v116 x2 f118 ∧ ∃ o119 : Nat, hr_f f118 r0 9 1 (.ref o119) ∧ ∃ f120 : ac_hp, hw_i (ki 0) f118 o119 (v116 + 1) x3 f120 ∧ ∃ o121 : Nat, hr_f f120 r0 9 1 (.ref o121) ∧ ∃ f122 : ac_hp, hw_i (ki 0) f120 o121 (v116 + 2) x4 f122 ∧ ∃ o123 : Nat, hr_f f122 r0 9 2 (.ref o123) ∧ ∃ v124 : Int32, hr_i (ki 0) f122 o123 x1 v124 ∧ ∃ f125 : ac_hp, hw_i (ki 0) f122 o123 x1 (v124 + 1) f125 ∧ ∃ o126 : Nat, hr_f f125 r0 9 2 (.ref o126) ∧ ∃ v127 : Int32, hr_i (ki 0) f125 o126 x1 v127 ∧ Q v127 f125) ∧ (v113 = 20 → Q (-2) f110))) ∧ (¬ v111 ≤ 0 → Q (-4) f110)))))) ∧ (¬ v91 = 0 → hr_o f88 r0 9 ∧ wp_X9_count ki r0 x1 1 x3 f88 (fun v129 f128 => ((0 < v129 → Q (-4) f128) ∧ (¬ 0 < v129 → ∃ o130 : Nat, hr_f f128 r0 9 3 (.ref o130) ∧ ∃ v131 : Int32, hr_i (ki 1) f128 o130 ((3 * x1) + 2) v131 ∧ ((v131 = 0 → ∃ o132 : Nat, hr_f f128 r0 9 2 (.ref o132) ∧ ∃ v133 : Int32, hr_i (ki 0) f128 o132 x1 v133 ∧ ((¬ v133 = 20 → ∃ o134 : Nat, hr_f f128 r0 9 2 (.ref o134) ∧ ∃ v135 : Int32, hr_i (ki 0) f128 o134 x1 v135 ∧ ∀ v136 : Int32, v136 = (60 * x1) + (3 * v135) → ∃ o137 : Nat, hr_f f128 r0 9 1 (.ref o137) ∧ ∃ f138 : ac_hp, hw_i (ki 0) f128 o137 v136 x2 f138 ∧ ∃ o139 : Nat, hr_f f138 r0 9 1 (.ref o139) ∧ ∃ f140 : ac_hp, hw_i (ki 0) f138 o139 (v136 + 1) x3 f140 ∧ ∃ o141 : Nat, hr_f f140 r0 9 1 (.ref o141) ∧ ∃ f142 : ac_hp, hw_i (ki 0) f140 o141 (v136 + 2) x4 f142 ∧ ∃ o143 : Nat, hr_f f142 r0 9 2 (.ref o143) ∧ ∃ v144 : Int32, hr_i (ki 0) f142 o143 x1 v144 ∧ ∃ f145 : ac_hp, hw_i (ki 0) f142 o143 x1 (v144 + 1) f145 ∧ ∃ o146 : Nat, hr_f f145 r0 9 2 (.ref o146) ∧ ∃ v147 : Int32, hr_i (ki 0) f145 o146 x1 v147 ∧ Q v147 f145) ∧ (v133 = 20 → Q (-2) f128))) ∧ (¬ v131 = 0 → hr_o f128 r0 9 ∧ wp_X9_count ki r0 x1 2 x4 f128 (fun v149 f148 => ((v149 ≤ 0 → ∃ o150 : Nat, hr_f f148 r0 9 2 (.ref o150) ∧ ∃ v151 : Int32, hr_i (ki 0) f148 o150 x1 v151 ∧ ((¬ v151 = 20 → ∃ o152 : Nat, hr_f f148 r0 9 2 (.ref o152) ∧ ∃ v153 : Int32, hr_i (ki 0) f148 o152 x1 v153 ∧ ∀ v154 : Int32, v154 = (60 * x1) + (3 * v153) → ∃ o155 : Nat, hr_f f148 r0 9 1 (.ref o155) ∧ ∃ f156 : ac_hp, hw_i (ki 0) f148 o155 v154 x2 f156 ∧ ∃ o157 : Nat, hr_f f156 r0 9 1 (.ref o157) ∧ ∃ f158 : ac_hp, hw_i (ki 0) f156 o157 (v154 + 1) x3 f158 ∧ ∃ o159 : Nat, hr_f f158 r0 9 1 (.ref o159) ∧ ∃ f160 : ac_hp, hw_i (ki 0) f158 o159 (v154 + 2) x4 f160 ∧ ∃ o161 : Nat, hr_f f160 r0 9 2 (.ref o161) ∧ ∃ v162 : Int32, hr_i (ki 0) f160 o161 x1 v162 ∧ ∃ f163 : ac_hp, hw_i (ki 0) f160 o161 x1 (v162 + 1) f163 ∧ ∃ o164 : Nat, hr_f f163 r0 9 2 (.ref o164) ∧ ∃ v165 : Int32, hr_i (ki 0) f163 o164 x1 v165 ∧ Q v165 f163) ∧ (v151 = 20 → Q (-2) f148))) ∧ (¬ v149 ≤ 0 → Q (-4) f148)))))))))))))))) ∧ (v9 = 0 → Q (-1) f8))))))))))))

set_option maxRecDepth 20000 in
set_option maxHeartbeats 4000000 in
theorem c_X9_row (l : Launch) (D : va_G) (ki : Nat → ClassId) (r0 : Nat) (x1 : Int32) (x2 : Int32) (x3 : Int32) (x4 : Int32) (f : ac_hp) (Q : Int32 → ac_hp → Prop) (h : wp_X9_row ki r0 x1 x2 x3 x4 f Q) : ac_met l D ki y_X9_row prog_11_method_6_code 6 (some .int) (ro_ 2 0 0) [.ref r0, .int x1, .int x2, .int x3, .int x4] f (qr_I Q) 0 0 := by
  refine ac_enter (fun ki => wp_X9_row ki r0 x1 x2 x3 x4 f Q) (by decide) (Nat.le_of_ble_eq_true rfl) h ?_
  intro x hro hR hnm h
  unfold wp_X9_row at h
  refine ac_aload_n 0 d_X9_row_0 rfl rfl ?_
  refine ac_iconst (v := 0) d_X9_row_1 rfl ?_
  obtain ⟨f1, hr, h⟩ := h
  refine ak_putf hr fp_X9_80 rfl rfl d_X9_row_2 ?_
  refine ac_iload_n 1 d_X9_row_5 rfl rfl ?_
  refine ac_iconst (v := 0) d_X9_row_6 rfl ?_
  refine ac_iconst (v := 3) d_X9_row_7 rfl ?_
  refine ac_callS0 cd_X9_in ml_X9_84 st_X9_in (c_X9_in _ _ _ x1 0 3 f1 _ h) rfl rfl (by rw [hro]; decide) rfl (rest := []) rfl (Nat.le_of_ble_eq_true rfl) (by rw [hro]; decide) d_X9_row_8 (ac_I (fun v3 f2 h => ?_))
  refine ac_if_eq (tgt := 48) d_X9_row_11 (by decide) (fun hc => ?_) (fun hc => ?_)
  · have h := h.1 hc
    refine ac_iconst (v := -1) d_X9_row_48 rfl ?_
    exact ac_ireturn hR rfl ⟨_, rfl, h⟩ (by decide) (by decide) d_X9_row_49
  · have h := h.2 hc
    refine ac_iload_n 2 d_X9_row_14 rfl rfl ?_
    refine ac_iconst (v := 0) d_X9_row_15 rfl ?_
    refine ac_sipush (v := 9999) d_X9_row_16 rfl ?_
    refine ac_callS0 cd_X9_in ml_X9_84 st_X9_in (c_X9_in _ _ _ x2 0 9999 f2 _ h) rfl rfl (by rw [hro]; decide) rfl (rest := []) rfl (Nat.le_of_ble_eq_true rfl) (by rw [hro]; decide) d_X9_row_19 (ac_I (fun v5 f4 h => ?_))
    refine ac_if_eq (tgt := 48) d_X9_row_22 (by decide) (fun hc => ?_) (fun hc => ?_)
    · have h := h.1 hc
      refine ac_iconst (v := -1) d_X9_row_48 rfl ?_
      exact ac_ireturn hR rfl ⟨_, rfl, h⟩ (by decide) (by decide) d_X9_row_49
    · have h := h.2 hc
      refine ac_iload_n 3 d_X9_row_25 rfl rfl ?_
      refine ac_iconst (v := 0) d_X9_row_26 rfl ?_
      refine ac_sipush (v := 9999) d_X9_row_27 rfl ?_
      refine ac_callS0 cd_X9_in ml_X9_84 st_X9_in (c_X9_in _ _ _ x3 0 9999 f4 _ h) rfl rfl (by rw [hro]; decide) rfl (rest := []) rfl (Nat.le_of_ble_eq_true rfl) (by rw [hro]; decide) d_X9_row_30 (ac_I (fun v7 f6 h => ?_))
      refine ac_if_eq (tgt := 48) d_X9_row_33 (by decide) (fun hc => ?_) (fun hc => ?_)
      · have h := h.1 hc
        refine ac_iconst (v := -1) d_X9_row_48 rfl ?_
        exact ac_ireturn hR rfl ⟨_, rfl, h⟩ (by decide) (by decide) d_X9_row_49
      · have h := h.2 hc
        refine ac_iload 4 d_X9_row_36 rfl ?_
        refine ac_iconst (v := 0) d_X9_row_38 rfl ?_
        refine ac_sipush (v := 9999) d_X9_row_39 rfl ?_
        refine ac_callS0 cd_X9_in ml_X9_84 st_X9_in (c_X9_in _ _ _ x4 0 9999 f6 _ h) rfl rfl (by rw [hro]; decide) rfl (rest := []) rfl (Nat.le_of_ble_eq_true rfl) (by rw [hro]; decide) d_X9_row_42 (ac_I (fun v9 f8 h => ?_))
        refine ac_if_ne (tgt := 50) d_X9_row_45 (by decide) (fun hc => ?_) (fun hc => ?_)
        · have h := h.1 hc
          refine ac_aload_n 0 d_X9_row_50 rfl rfl ?_
          obtain ⟨o10, hr, h⟩ := h
          refine ak_getf hr fl_X9_16 d_X9_row_51 ?_
          refine ac_iconst (v := 3) d_X9_row_54 rfl ?_
          refine ac_iload_n 1 d_X9_row_55 rfl rfl ?_
          refine ac_imul d_X9_row_56 ?_
          obtain ⟨v11, hr, h⟩ := h
          refine ak_zald 1 hr rfl d_X9_row_57 ?_
          refine ac_if_eq (tgt := 71) d_X9_row_58 (by decide) (fun hc => ?_) (fun hc => ?_)
          · have h := h.1 hc
            refine ac_aload_n 0 d_X9_row_71 rfl rfl ?_
            obtain ⟨o12, hr, h⟩ := h
            refine ak_getf hr fl_X9_16 d_X9_row_72 ?_
            refine ac_iconst (v := 3) d_X9_row_75 rfl ?_
            refine ac_iload_n 1 d_X9_row_76 rfl rfl ?_
            refine ac_imul d_X9_row_77 ?_
            refine ac_iconst (v := 1) d_X9_row_78 rfl ?_
            refine ac_iadd d_X9_row_79 ?_
            obtain ⟨v13, hr, h⟩ := h
            refine ak_zald 1 hr rfl d_X9_row_80 ?_
            refine ac_if_eq (tgt := 94) d_X9_row_81 (by decide) (fun hc => ?_) (fun hc => ?_)
            · have h := h.1 hc
              refine ac_aload_n 0 d_X9_row_94 rfl rfl ?_
              obtain ⟨o14, hr, h⟩ := h
              refine ak_getf hr fl_X9_16 d_X9_row_95 ?_
              refine ac_iconst (v := 3) d_X9_row_98 rfl ?_
              refine ac_iload_n 1 d_X9_row_99 rfl rfl ?_
              refine ac_imul d_X9_row_100 ?_
              refine ac_iconst (v := 2) d_X9_row_101 rfl ?_
              refine ac_iadd d_X9_row_102 ?_
              obtain ⟨v15, hr, h⟩ := h
              refine ak_zald 1 hr rfl d_X9_row_103 ?_
              refine ac_if_eq (tgt := 121) d_X9_row_104 (by decide) (fun hc => ?_) (fun hc => ?_)
              · have h := h.1 hc
                refine ac_aload_n 0 d_X9_row_121 rfl rfl ?_
                obtain ⟨o16, hr, h⟩ := h
                refine ak_getf hr fl_X9_13 d_X9_row_122 ?_
                refine ac_iload_n 1 d_X9_row_125 rfl rfl ?_
                obtain ⟨v17, hr, h⟩ := h
                refine ak_iald 0 hr rfl d_X9_row_126 ?_
                refine ac_bipush (v := 20) d_X9_row_127 rfl ?_
                refine ac_icmp_ne (tgt := 135) d_X9_row_129 (by decide) (fun hc => ?_) (fun hc => ?_)
                · have h := h.1 hc
                  refine ac_bipush (v := 60) d_X9_row_135 rfl ?_
                  refine ac_iload_n 1 d_X9_row_137 rfl rfl ?_
                  refine ac_imul d_X9_row_138 ?_
                  refine ac_iconst (v := 3) d_X9_row_139 rfl ?_
                  refine ac_aload_n 0 d_X9_row_140 rfl rfl ?_
                  obtain ⟨o18, hr, h⟩ := h
                  refine ak_getf hr fl_X9_13 d_X9_row_141 ?_
                  refine ac_iload_n 1 d_X9_row_144 rfl rfl ?_
                  obtain ⟨v19, hr, h⟩ := h
                  refine ak_iald 0 hr rfl d_X9_row_145 ?_
                  refine ac_imul d_X9_row_146 ?_
                  refine ac_iadd d_X9_row_147 ?_
                  refine ak_topi (fun v20 ev20 => ?_)
                  have h := h v20 ev20
                  refine ac_istore (lv' := [(5, .int v20), (0, .ref r0), (1, .int x1), (2, .int x2), (3, .int x3), (4, .int x4)]) d_X9_row_148 (by decide) rfl ?_
                  refine ac_aload_n 1 d_X9_row_150 rfl rfl ?_
                  obtain ⟨o21, hr, h⟩ := h
                  refine ak_getf hr fl_X9_7 d_X9_row_151 ?_
                  refine ac_iload 0 d_X9_row_154 rfl ?_
                  refine ac_iload_n 3 d_X9_row_156 rfl rfl ?_
                  obtain ⟨f22, hr, h⟩ := h
                  refine ak_iast 0 hr rfl d_X9_row_157 ?_
                  refine ac_aload_n 1 d_X9_row_158 rfl rfl ?_
                  obtain ⟨o23, hr, h⟩ := h
                  refine ak_getf hr fl_X9_7 d_X9_row_159 ?_
                  refine ac_iload 0 d_X9_row_162 rfl ?_
                  refine ac_iconst (v := 1) d_X9_row_164 rfl ?_
                  refine ac_iadd d_X9_row_165 ?_
                  refine ac_iload_n 4 d_X9_row_166 rfl rfl ?_
                  obtain ⟨f24, hr, h⟩ := h
                  refine ak_iast 0 hr rfl d_X9_row_167 ?_
                  refine ac_aload_n 1 d_X9_row_168 rfl rfl ?_
                  obtain ⟨o25, hr, h⟩ := h
                  refine ak_getf hr fl_X9_7 d_X9_row_169 ?_
                  refine ac_iload 0 d_X9_row_172 rfl ?_
                  refine ac_iconst (v := 2) d_X9_row_174 rfl ?_
                  refine ac_iadd d_X9_row_175 ?_
                  refine ac_iload 5 d_X9_row_176 rfl ?_
                  obtain ⟨f26, hr, h⟩ := h
                  refine ak_iast 0 hr rfl d_X9_row_178 ?_
                  refine ac_aload_n 1 d_X9_row_179 rfl rfl ?_
                  obtain ⟨o27, hr, h⟩ := h
                  refine ak_getf hr fl_X9_13 d_X9_row_180 ?_
                  refine ac_iload_n 2 d_X9_row_183 rfl rfl ?_
                  refine ac_dup2 d_X9_row_184 rfl rfl ?_
                  obtain ⟨v28, hr, h⟩ := h
                  refine ak_iald 0 hr rfl d_X9_row_185 ?_
                  refine ac_iconst (v := 1) d_X9_row_186 rfl ?_
                  refine ac_iadd d_X9_row_187 ?_
                  obtain ⟨f29, hr, h⟩ := h
                  refine ak_iast 0 hr rfl d_X9_row_188 ?_
                  refine ac_aload_n 1 d_X9_row_189 rfl rfl ?_
                  obtain ⟨o30, hr, h⟩ := h
                  refine ak_getf hr fl_X9_13 d_X9_row_190 ?_
                  refine ac_iload_n 2 d_X9_row_193 rfl rfl ?_
                  obtain ⟨v31, hr, h⟩ := h
                  refine ak_iald 0 hr rfl d_X9_row_194 ?_
                  exact ac_ireturn hR rfl ⟨_, rfl, h⟩ (by decide) (by decide) d_X9_row_195
                · have h := h.2 hc
                  refine ac_bipush (v := -2) d_X9_row_132 rfl ?_
                  exact ac_ireturn hR rfl ⟨_, rfl, h⟩ (by decide) (by decide) d_X9_row_134
              · have h := h.2 hc
                refine ac_aload_n 0 d_X9_row_107 rfl rfl ?_
                refine ac_iload_n 1 d_X9_row_108 rfl rfl ?_
                refine ac_iconst (v := 2) d_X9_row_109 rfl ?_
                refine ac_iload 4 d_X9_row_110 rfl ?_
                obtain ⟨⟨fs, hb⟩, h⟩ := h
                refine ac_callV0 cd_X9_count ml_X9_88 in_X9_count se_X9_count rfl hb (c_X9_count _ _ _ r0 x1 2 x4 f8 _ h) rfl rfl (by rw [hro]; decide) rfl (rest := []) rfl (Nat.le_of_ble_eq_true rfl) (by rw [hro]; decide) d_X9_row_112 (ac_I (fun v33 f32 h => ?_))
                refine ac_if_le (tgt := 121) d_X9_row_115 (by decide) (fun hc => ?_) (fun hc => ?_)
                · have h := h.1 hc
                  refine ac_aload_n 0 d_X9_row_121 rfl rfl ?_
                  obtain ⟨o34, hr, h⟩ := h
                  refine ak_getf hr fl_X9_13 d_X9_row_122 ?_
                  refine ac_iload_n 1 d_X9_row_125 rfl rfl ?_
                  obtain ⟨v35, hr, h⟩ := h
                  refine ak_iald 0 hr rfl d_X9_row_126 ?_
                  refine ac_bipush (v := 20) d_X9_row_127 rfl ?_
                  refine ac_icmp_ne (tgt := 135) d_X9_row_129 (by decide) (fun hc => ?_) (fun hc => ?_)
                  · have h := h.1 hc
                    refine ac_bipush (v := 60) d_X9_row_135 rfl ?_
                    refine ac_iload_n 1 d_X9_row_137 rfl rfl ?_
                    refine ac_imul d_X9_row_138 ?_
                    refine ac_iconst (v := 3) d_X9_row_139 rfl ?_
                    refine ac_aload_n 0 d_X9_row_140 rfl rfl ?_
                    obtain ⟨o36, hr, h⟩ := h
                    refine ak_getf hr fl_X9_13 d_X9_row_141 ?_
                    refine ac_iload_n 1 d_X9_row_144 rfl rfl ?_
                    obtain ⟨v37, hr, h⟩ := h
                    refine ak_iald 0 hr rfl d_X9_row_145 ?_
                    refine ac_imul d_X9_row_146 ?_
                    refine ac_iadd d_X9_row_147 ?_
                    refine ak_topi (fun v38 ev38 => ?_)
                    have h := h v38 ev38
                    refine ac_istore (lv' := [(5, .int v38), (0, .ref r0), (1, .int x1), (2, .int x2), (3, .int x3), (4, .int x4)]) d_X9_row_148 (by decide) rfl ?_
                    refine ac_aload_n 1 d_X9_row_150 rfl rfl ?_
                    obtain ⟨o39, hr, h⟩ := h
                    refine ak_getf hr fl_X9_7 d_X9_row_151 ?_
                    refine ac_iload 0 d_X9_row_154 rfl ?_
                    refine ac_iload_n 3 d_X9_row_156 rfl rfl ?_
                    obtain ⟨f40, hr, h⟩ := h
                    refine ak_iast 0 hr rfl d_X9_row_157 ?_
                    refine ac_aload_n 1 d_X9_row_158 rfl rfl ?_
                    obtain ⟨o41, hr, h⟩ := h
                    refine ak_getf hr fl_X9_7 d_X9_row_159 ?_
                    refine ac_iload 0 d_X9_row_162 rfl ?_
                    refine ac_iconst (v := 1) d_X9_row_164 rfl ?_
                    refine ac_iadd d_X9_row_165 ?_
                    refine ac_iload_n 4 d_X9_row_166 rfl rfl ?_
                    obtain ⟨f42, hr, h⟩ := h
                    refine ak_iast 0 hr rfl d_X9_row_167 ?_
                    refine ac_aload_n 1 d_X9_row_168 rfl rfl ?_
                    obtain ⟨o43, hr, h⟩ := h
                    refine ak_getf hr fl_X9_7 d_X9_row_169 ?_
                    refine ac_iload 0 d_X9_row_172 rfl ?_
                    refine ac_iconst (v := 2) d_X9_row_174 rfl ?_
                    refine ac_iadd d_X9_row_175 ?_
                    refine ac_iload 5 d_X9_row_176 rfl ?_
                    obtain ⟨f44, hr, h⟩ := h
                    refine ak_iast 0 hr rfl d_X9_row_178 ?_
                    refine ac_aload_n 1 d_X9_row_179 rfl rfl ?_
                    obtain ⟨o45, hr, h⟩ := h
                    refine ak_getf hr fl_X9_13 d_X9_row_180 ?_
                    refine ac_iload_n 2 d_X9_row_183 rfl rfl ?_
                    refine ac_dup2 d_X9_row_184 rfl rfl ?_
                    obtain ⟨v46, hr, h⟩ := h
                    refine ak_iald 0 hr rfl d_X9_row_185 ?_
                    refine ac_iconst (v := 1) d_X9_row_186 rfl ?_
                    refine ac_iadd d_X9_row_187 ?_
                    obtain ⟨f47, hr, h⟩ := h
                    refine ak_iast 0 hr rfl d_X9_row_188 ?_
                    refine ac_aload_n 1 d_X9_row_189 rfl rfl ?_
                    obtain ⟨o48, hr, h⟩ := h
                    refine ak_getf hr fl_X9_13 d_X9_row_190 ?_
                    refine ac_iload_n 2 d_X9_row_193 rfl rfl ?_
                    obtain ⟨v49, hr, h⟩ := h
                    refine ak_iald 0 hr rfl d_X9_row_194 ?_
                    exact ac_ireturn hR rfl ⟨_, rfl, h⟩ (by decide) (by decide) d_X9_row_195
                  · have h := h.2 hc
                    refine ac_bipush (v := -2) d_X9_row_132 rfl ?_
                    exact ac_ireturn hR rfl ⟨_, rfl, h⟩ (by decide) (by decide) d_X9_row_134
                · have h := h.2 hc
                  refine ac_bipush (v := -4) d_X9_row_118 rfl ?_
                  exact ac_ireturn hR rfl ⟨_, rfl, h⟩ (by decide) (by decide) d_X9_row_120
            · have h := h.2 hc
              refine ac_aload_n 0 d_X9_row_84 rfl rfl ?_
              refine ac_iload_n 1 d_X9_row_85 rfl rfl ?_
              refine ac_iconst (v := 1) d_X9_row_86 rfl ?_
              refine ac_iload_n 3 d_X9_row_87 rfl rfl ?_
              obtain ⟨⟨fs, hb⟩, h⟩ := h
              refine ac_callV0 cd_X9_count ml_X9_88 in_X9_count se_X9_count rfl hb (c_X9_count _ _ _ r0 x1 1 x3 f8 _ h) rfl rfl (by rw [hro]; decide) rfl (rest := []) rfl (Nat.le_of_ble_eq_true rfl) (by rw [hro]; decide) d_X9_row_88 (ac_I (fun v51 f50 h => ?_))
              refine ac_if_gt (tgt := 118) d_X9_row_91 (by decide) (fun hc => ?_) (fun hc => ?_)
              · have h := h.1 hc
                refine ac_bipush (v := -4) d_X9_row_118 rfl ?_
                exact ac_ireturn hR rfl ⟨_, rfl, h⟩ (by decide) (by decide) d_X9_row_120
              · have h := h.2 hc
                refine ac_aload_n 0 d_X9_row_94 rfl rfl ?_
                obtain ⟨o52, hr, h⟩ := h
                refine ak_getf hr fl_X9_16 d_X9_row_95 ?_
                refine ac_iconst (v := 3) d_X9_row_98 rfl ?_
                refine ac_iload_n 1 d_X9_row_99 rfl rfl ?_
                refine ac_imul d_X9_row_100 ?_
                refine ac_iconst (v := 2) d_X9_row_101 rfl ?_
                refine ac_iadd d_X9_row_102 ?_
                obtain ⟨v53, hr, h⟩ := h
                refine ak_zald 1 hr rfl d_X9_row_103 ?_
                refine ac_if_eq (tgt := 121) d_X9_row_104 (by decide) (fun hc => ?_) (fun hc => ?_)
                · have h := h.1 hc
                  refine ac_aload_n 0 d_X9_row_121 rfl rfl ?_
                  obtain ⟨o54, hr, h⟩ := h
                  refine ak_getf hr fl_X9_13 d_X9_row_122 ?_
                  refine ac_iload_n 1 d_X9_row_125 rfl rfl ?_
                  obtain ⟨v55, hr, h⟩ := h
                  refine ak_iald 0 hr rfl d_X9_row_126 ?_
                  refine ac_bipush (v := 20) d_X9_row_127 rfl ?_
                  refine ac_icmp_ne (tgt := 135) d_X9_row_129 (by decide) (fun hc => ?_) (fun hc => ?_)
                  · have h := h.1 hc
                    refine ac_bipush (v := 60) d_X9_row_135 rfl ?_
                    refine ac_iload_n 1 d_X9_row_137 rfl rfl ?_
                    refine ac_imul d_X9_row_138 ?_
                    refine ac_iconst (v := 3) d_X9_row_139 rfl ?_
                    refine ac_aload_n 0 d_X9_row_140 rfl rfl ?_
                    obtain ⟨o56, hr, h⟩ := h
                    refine ak_getf hr fl_X9_13 d_X9_row_141 ?_
                    refine ac_iload_n 1 d_X9_row_144 rfl rfl ?_
                    obtain ⟨v57, hr, h⟩ := h
                    refine ak_iald 0 hr rfl d_X9_row_145 ?_
                    refine ac_imul d_X9_row_146 ?_
                    refine ac_iadd d_X9_row_147 ?_
                    refine ak_topi (fun v58 ev58 => ?_)
                    have h := h v58 ev58
                    refine ac_istore (lv' := [(5, .int v58), (0, .ref r0), (1, .int x1), (2, .int x2), (3, .int x3), (4, .int x4)]) d_X9_row_148 (by decide) rfl ?_
                    refine ac_aload_n 1 d_X9_row_150 rfl rfl ?_
                    obtain ⟨o59, hr, h⟩ := h
                    refine ak_getf hr fl_X9_7 d_X9_row_151 ?_
                    refine ac_iload 0 d_X9_row_154 rfl ?_
                    refine ac_iload_n 3 d_X9_row_156 rfl rfl ?_
                    obtain ⟨f60, hr, h⟩ := h
                    refine ak_iast 0 hr rfl d_X9_row_157 ?_
                    refine ac_aload_n 1 d_X9_row_158 rfl rfl ?_
                    obtain ⟨o61, hr, h⟩ := h
                    refine ak_getf hr fl_X9_7 d_X9_row_159 ?_
                    refine ac_iload 0 d_X9_row_162 rfl ?_
                    refine ac_iconst (v := 1) d_X9_row_164 rfl ?_
                    refine ac_iadd d_X9_row_165 ?_
                    refine ac_iload_n 4 d_X9_row_166 rfl rfl ?_
                    obtain ⟨f62, hr, h⟩ := h
                    refine ak_iast 0 hr rfl d_X9_row_167 ?_
                    refine ac_aload_n 1 d_X9_row_168 rfl rfl ?_
                    obtain ⟨o63, hr, h⟩ := h
                    refine ak_getf hr fl_X9_7 d_X9_row_169 ?_
                    refine ac_iload 0 d_X9_row_172 rfl ?_
                    refine ac_iconst (v := 2) d_X9_row_174 rfl ?_
                    refine ac_iadd d_X9_row_175 ?_
                    refine ac_iload 5 d_X9_row_176 rfl ?_
                    obtain ⟨f64, hr, h⟩ := h
                    refine ak_iast 0 hr rfl d_X9_row_178 ?_
                    refine ac_aload_n 1 d_X9_row_179 rfl rfl ?_
                    obtain ⟨o65, hr, h⟩ := h
                    refine ak_getf hr fl_X9_13 d_X9_row_180 ?_
                    refine ac_iload_n 2 d_X9_row_183 rfl rfl ?_
                    refine ac_dup2 d_X9_row_184 rfl rfl ?_
                    obtain ⟨v66, hr, h⟩ := h
                    refine ak_iald 0 hr rfl d_X9_row_185 ?_
                    refine ac_iconst (v := 1) d_X9_row_186 rfl ?_
                    refine ac_iadd d_X9_row_187 ?_
                    obtain ⟨f67, hr, h⟩ := h
                    refine ak_iast 0 hr rfl d_X9_row_188 ?_
                    refine ac_aload_n 1 d_X9_row_189 rfl rfl ?_
                    obtain ⟨o68, hr, h⟩ := h
                    refine ak_getf hr fl_X9_13 d_X9_row_190 ?_
                    refine ac_iload_n 2 d_X9_row_193 rfl rfl ?_
                    obtain ⟨v69, hr, h⟩ := h
                    refine ak_iald 0 hr rfl d_X9_row_194 ?_
                    exact ac_ireturn hR rfl ⟨_, rfl, h⟩ (by decide) (by decide) d_X9_row_195
                  · have h := h.2 hc
                    refine ac_bipush (v := -2) d_X9_row_132 rfl ?_
                    exact ac_ireturn hR rfl ⟨_, rfl, h⟩ (by decide) (by decide) d_X9_row_134
                · have h := h.2 hc
                  refine ac_aload_n 0 d_X9_row_107 rfl rfl ?_
                  refine ac_iload_n 1 d_X9_row_108 rfl rfl ?_
                  refine ac_iconst (v := 2) d_X9_row_109 rfl ?_
                  refine ac_iload 4 d_X9_row_110 rfl ?_
                  obtain ⟨⟨fs, hb⟩, h⟩ := h
                  refine ac_callV0 cd_X9_count ml_X9_88 in_X9_count se_X9_count rfl hb (c_X9_count _ _ _ r0 x1 2 x4 f50 _ h) rfl rfl (by rw [hro]; decide) rfl (rest := []) rfl (Nat.le_of_ble_eq_true rfl) (by rw [hro]; decide) d_X9_row_112 (ac_I (fun v71 f70 h => ?_))
                  refine ac_if_le (tgt := 121) d_X9_row_115 (by decide) (fun hc => ?_) (fun hc => ?_)
                  · have h := h.1 hc
                    refine ac_aload_n 0 d_X9_row_121 rfl rfl ?_
                    obtain ⟨o72, hr, h⟩ := h
                    refine ak_getf hr fl_X9_13 d_X9_row_122 ?_
                    refine ac_iload_n 1 d_X9_row_125 rfl rfl ?_
                    obtain ⟨v73, hr, h⟩ := h
                    refine ak_iald 0 hr rfl d_X9_row_126 ?_
                    refine ac_bipush (v := 20) d_X9_row_127 rfl ?_
                    refine ac_icmp_ne (tgt := 135) d_X9_row_129 (by decide) (fun hc => ?_) (fun hc => ?_)
                    · have h := h.1 hc
                      refine ac_bipush (v := 60) d_X9_row_135 rfl ?_
                      refine ac_iload_n 1 d_X9_row_137 rfl rfl ?_
                      refine ac_imul d_X9_row_138 ?_
                      refine ac_iconst (v := 3) d_X9_row_139 rfl ?_
                      refine ac_aload_n 0 d_X9_row_140 rfl rfl ?_
                      obtain ⟨o74, hr, h⟩ := h
                      refine ak_getf hr fl_X9_13 d_X9_row_141 ?_
                      refine ac_iload_n 1 d_X9_row_144 rfl rfl ?_
                      obtain ⟨v75, hr, h⟩ := h
                      refine ak_iald 0 hr rfl d_X9_row_145 ?_
                      refine ac_imul d_X9_row_146 ?_
                      refine ac_iadd d_X9_row_147 ?_
                      refine ak_topi (fun v76 ev76 => ?_)
                      have h := h v76 ev76
                      refine ac_istore (lv' := [(5, .int v76), (0, .ref r0), (1, .int x1), (2, .int x2), (3, .int x3), (4, .int x4)]) d_X9_row_148 (by decide) rfl ?_
                      refine ac_aload_n 1 d_X9_row_150 rfl rfl ?_
                      obtain ⟨o77, hr, h⟩ := h
                      refine ak_getf hr fl_X9_7 d_X9_row_151 ?_
                      refine ac_iload 0 d_X9_row_154 rfl ?_
                      refine ac_iload_n 3 d_X9_row_156 rfl rfl ?_
                      obtain ⟨f78, hr, h⟩ := h
                      refine ak_iast 0 hr rfl d_X9_row_157 ?_
                      refine ac_aload_n 1 d_X9_row_158 rfl rfl ?_
                      obtain ⟨o79, hr, h⟩ := h
                      refine ak_getf hr fl_X9_7 d_X9_row_159 ?_
                      refine ac_iload 0 d_X9_row_162 rfl ?_
                      refine ac_iconst (v := 1) d_X9_row_164 rfl ?_
                      refine ac_iadd d_X9_row_165 ?_
                      refine ac_iload_n 4 d_X9_row_166 rfl rfl ?_
                      obtain ⟨f80, hr, h⟩ := h
                      refine ak_iast 0 hr rfl d_X9_row_167 ?_
                      refine ac_aload_n 1 d_X9_row_168 rfl rfl ?_
                      obtain ⟨o81, hr, h⟩ := h
                      refine ak_getf hr fl_X9_7 d_X9_row_169 ?_
                      refine ac_iload 0 d_X9_row_172 rfl ?_
                      refine ac_iconst (v := 2) d_X9_row_174 rfl ?_
                      refine ac_iadd d_X9_row_175 ?_
                      refine ac_iload 5 d_X9_row_176 rfl ?_
                      obtain ⟨f82, hr, h⟩ := h
                      refine ak_iast 0 hr rfl d_X9_row_178 ?_
                      refine ac_aload_n 1 d_X9_row_179 rfl rfl ?_
                      obtain ⟨o83, hr, h⟩ := h
                      refine ak_getf hr fl_X9_13 d_X9_row_180 ?_
                      refine ac_iload_n 2 d_X9_row_183 rfl rfl ?_
                      refine ac_dup2 d_X9_row_184 rfl rfl ?_
                      obtain ⟨v84, hr, h⟩ := h
                      refine ak_iald 0 hr rfl d_X9_row_185 ?_
                      refine ac_iconst (v := 1) d_X9_row_186 rfl ?_
                      refine ac_iadd d_X9_row_187 ?_
                      obtain ⟨f85, hr, h⟩ := h
                      refine ak_iast 0 hr rfl d_X9_row_188 ?_
                      refine ac_aload_n 1 d_X9_row_189 rfl rfl ?_
                      obtain ⟨o86, hr, h⟩ := h
                      refine ak_getf hr fl_X9_13 d_X9_row_190 ?_
                      refine ac_iload_n 2 d_X9_row_193 rfl rfl ?_
                      obtain ⟨v87, hr, h⟩ := h
                      refine ak_iald 0 hr rfl d_X9_row_194 ?_
                      exact ac_ireturn hR rfl ⟨_, rfl, h⟩ (by decide) (by decide) d_X9_row_195
                    · have h := h.2 hc
                      refine ac_bipush (v := -2) d_X9_row_132 rfl ?_
                      exact ac_ireturn hR rfl ⟨_, rfl, h⟩ (by decide) (by decide) d_X9_row_134
                  · have h := h.2 hc
                    refine ac_bipush (v := -4) d_X9_row_118 rfl ?_
                    exact ac_ireturn hR rfl ⟨_, rfl, h⟩ (by decide) (by decide) d_X9_row_120
          · have h := h.2 hc
            refine ac_aload_n 0 d_X9_row_61 rfl rfl ?_
            refine ac_iload_n 1 d_X9_row_62 rfl rfl ?_
            refine ac_iconst (v := 0) d_X9_row_63 rfl ?_
            refine ac_iload_n 2 d_X9_row_64 rfl rfl ?_
            obtain ⟨⟨fs, hb⟩, h⟩ := h
            refine ac_callV0 cd_X9_count ml_X9_88 in_X9_count se_X9_count rfl hb (c_X9_count _ _ _ r0 x1 0 x2 f8 _ h) rfl rfl (by rw [hro]; decide) rfl (rest := []) rfl (Nat.le_of_ble_eq_true rfl) (by rw [hro]; decide) d_X9_row_65 (ac_I (fun v89 f88 h => ?_))
            refine ac_if_gt (tgt := 118) d_X9_row_68 (by decide) (fun hc => ?_) (fun hc => ?_)
            · have h := h.1 hc
              refine ac_bipush (v := -4) d_X9_row_118 rfl ?_
              exact ac_ireturn hR rfl ⟨_, rfl, h⟩ (by decide) (by decide) d_X9_row_120
            · have h := h.2 hc
              refine ac_aload_n 0 d_X9_row_71 rfl rfl ?_
              obtain ⟨o90, hr, h⟩ := h
              refine ak_getf hr fl_X9_16 d_X9_row_72 ?_
              refine ac_iconst (v := 3) d_X9_row_75 rfl ?_
              refine ac_iload_n 1 d_X9_row_76 rfl rfl ?_
              refine ac_imul d_X9_row_77 ?_
              refine ac_iconst (v := 1) d_X9_row_78 rfl ?_
              refine ac_iadd d_X9_row_79 ?_
              obtain ⟨v91, hr, h⟩ := h
              refine ak_zald 1 hr rfl d_X9_row_80 ?_
              refine ac_if_eq (tgt := 94) d_X9_row_81 (by decide) (fun hc => ?_) (fun hc => ?_)
              · have h := h.1 hc
                refine ac_aload_n 0 d_X9_row_94 rfl rfl ?_
                obtain ⟨o92, hr, h⟩ := h
                refine ak_getf hr fl_X9_16 d_X9_row_95 ?_
                refine ac_iconst (v := 3) d_X9_row_98 rfl ?_
                refine ac_iload_n 1 d_X9_row_99 rfl rfl ?_
                refine ac_imul d_X9_row_100 ?_
                refine ac_iconst (v := 2) d_X9_row_101 rfl ?_
                refine ac_iadd d_X9_row_102 ?_
                obtain ⟨v93, hr, h⟩ := h
                refine ak_zald 1 hr rfl d_X9_row_103 ?_
                refine ac_if_eq (tgt := 121) d_X9_row_104 (by decide) (fun hc => ?_) (fun hc => ?_)
                · have h := h.1 hc
                  refine ac_aload_n 0 d_X9_row_121 rfl rfl ?_
                  obtain ⟨o94, hr, h⟩ := h
                  refine ak_getf hr fl_X9_13 d_X9_row_122 ?_
                  refine ac_iload_n 1 d_X9_row_125 rfl rfl ?_
                  obtain ⟨v95, hr, h⟩ := h
                  refine ak_iald 0 hr rfl d_X9_row_126 ?_
                  refine ac_bipush (v := 20) d_X9_row_127 rfl ?_
                  refine ac_icmp_ne (tgt := 135) d_X9_row_129 (by decide) (fun hc => ?_) (fun hc => ?_)
                  · have h := h.1 hc
                    refine ac_bipush (v := 60) d_X9_row_135 rfl ?_
                    refine ac_iload_n 1 d_X9_row_137 rfl rfl ?_
                    refine ac_imul d_X9_row_138 ?_
                    refine ac_iconst (v := 3) d_X9_row_139 rfl ?_
                    refine ac_aload_n 0 d_X9_row_140 rfl rfl ?_
                    obtain ⟨o96, hr, h⟩ := h
                    refine ak_getf hr fl_X9_13 d_X9_row_141 ?_
                    refine ac_iload_n 1 d_X9_row_144 rfl rfl ?_
                    obtain ⟨v97, hr, h⟩ := h
                    refine ak_iald 0 hr rfl d_X9_row_145 ?_
                    refine ac_imul d_X9_row_146 ?_
                    refine ac_iadd d_X9_row_147 ?_
                    refine ak_topi (fun v98 ev98 => ?_)
                    have h := h v98 ev98
                    refine ac_istore (lv' := [(5, .int v98), (0, .ref r0), (1, .int x1), (2, .int x2), (3, .int x3), (4, .int x4)]) d_X9_row_148 (by decide) rfl ?_
                    refine ac_aload_n 1 d_X9_row_150 rfl rfl ?_
                    obtain ⟨o99, hr, h⟩ := h
                    refine ak_getf hr fl_X9_7 d_X9_row_151 ?_
                    refine ac_iload 0 d_X9_row_154 rfl ?_
                    refine ac_iload_n 3 d_X9_row_156 rfl rfl ?_
                    obtain ⟨f100, hr, h⟩ := h
                    refine ak_iast 0 hr rfl d_X9_row_157 ?_
                    refine ac_aload_n 1 d_X9_row_158 rfl rfl ?_
                    obtain ⟨o101, hr, h⟩ := h
                    refine ak_getf hr fl_X9_7 d_X9_row_159 ?_
                    refine ac_iload 0 d_X9_row_162 rfl ?_
                    refine ac_iconst (v := 1) d_X9_row_164 rfl ?_
                    refine ac_iadd d_X9_row_165 ?_
                    refine ac_iload_n 4 d_X9_row_166 rfl rfl ?_
                    obtain ⟨f102, hr, h⟩ := h
                    refine ak_iast 0 hr rfl d_X9_row_167 ?_
                    refine ac_aload_n 1 d_X9_row_168 rfl rfl ?_
                    obtain ⟨o103, hr, h⟩ := h
                    refine ak_getf hr fl_X9_7 d_X9_row_169 ?_
                    refine ac_iload 0 d_X9_row_172 rfl ?_
                    refine ac_iconst (v := 2) d_X9_row_174 rfl ?_
                    refine ac_iadd d_X9_row_175 ?_
                    refine ac_iload 5 d_X9_row_176 rfl ?_
                    obtain ⟨f104, hr, h⟩ := h
                    refine ak_iast 0 hr rfl d_X9_row_178 ?_
                    refine ac_aload_n 1 d_X9_row_179 rfl rfl ?_
                    obtain ⟨o105, hr, h⟩ := h
                    refine ak_getf hr fl_X9_13 d_X9_row_180 ?_
                    refine ac_iload_n 2 d_X9_row_183 rfl rfl ?_
                    refine ac_dup2 d_X9_row_184 rfl rfl ?_
                    obtain ⟨v106, hr, h⟩ := h
                    refine ak_iald 0 hr rfl d_X9_row_185 ?_
                    refine ac_iconst (v := 1) d_X9_row_186 rfl ?_
                    refine ac_iadd d_X9_row_187 ?_
                    obtain ⟨f107, hr, h⟩ := h
                    refine ak_iast 0 hr rfl d_X9_row_188 ?_
                    refine ac_aload_n 1 d_X9_row_189 rfl rfl ?_
                    obtain ⟨o108, hr, h⟩ := h
                    refine ak_getf hr fl_X9_13 d_X9_row_190 ?_
                    refine ac_iload_n 2 d_X9_row_193 rfl rfl ?_
                    obtain ⟨v109, hr, h⟩ := h
                    refine ak_iald 0 hr rfl d_X9_row_194 ?_
                    exact ac_ireturn hR rfl ⟨_, rfl, h⟩ (by decide) (by decide) d_X9_row_195
                  · have h := h.2 hc
                    refine ac_bipush (v := -2) d_X9_row_132 rfl ?_
                    exact ac_ireturn hR rfl ⟨_, rfl, h⟩ (by decide) (by decide) d_X9_row_134
                · have h := h.2 hc
                  refine ac_aload_n 0 d_X9_row_107 rfl rfl ?_
                  refine ac_iload_n 1 d_X9_row_108 rfl rfl ?_
                  refine ac_iconst (v := 2) d_X9_row_109 rfl ?_
                  refine ac_iload 4 d_X9_row_110 rfl ?_
                  obtain ⟨⟨fs, hb⟩, h⟩ := h
                  refine ac_callV0 cd_X9_count ml_X9_88 in_X9_count se_X9_count rfl hb (c_X9_count _ _ _ r0 x1 2 x4 f88 _ h) rfl rfl (by rw [hro]; decide) rfl (rest := []) rfl (Nat.le_of_ble_eq_true rfl) (by rw [hro]; decide) d_X9_row_112 (ac_I (fun v111 f110 h => ?_))
                  refine ac_if_le (tgt := 121) d_X9_row_115 (by decide) (fun hc => ?_) (fun hc => ?_)
                  · have h := h.1 hc
                    refine ac_aload_n 0 d_X9_row_121 rfl rfl ?_
                    obtain ⟨o112, hr, h⟩ := h
                    refine ak_getf hr fl_X9_13 d_X9_row_122 ?_
                    refine ac_iload_n 1 d_X9_row_125 rfl rfl ?_
                    obtain ⟨v113, hr, h⟩ := h
                    refine ak_iald 0 hr rfl d_X9_row_126 ?_
                    refine ac_bipush (v := 20) d_X9_row_127 rfl ?_
                    refine ac_icmp_ne (tgt := 135) d_X9_row_129 (by decide) (fun hc => ?_) (fun hc => ?_)
                    · have h := h.1 hc
                      refine ac_bipush (v := 60) d_X9_row_135 rfl ?_
                      refine ac_iload_n 1 d_X9_row_137 rfl rfl ?_
                      refine ac_imul d_X9_row_138 ?_
                      refine ac_iconst (v := 3) d_X9_row_139 rfl ?_
                      refine ac_aload_n 0 d_X9_row_140 rfl rfl ?_
                      obtain ⟨o114, hr, h⟩ := h
                      refine ak_getf hr fl_X9_13 d_X9_row_141 ?_
                      refine ac_iload_n 1 d_X9_row_144 rfl rfl ?_
                      obtain ⟨v115, hr, h⟩ := h
                      refine ak_iald 0 hr rfl d_X9_row_145 ?_
                      refine ac_imul d_X9_row_146 ?_
                      refine ac_iadd d_X9_row_147 ?_
                      refine ak_topi (fun v116 ev116 => ?_)
                      have h := h v116 ev116
                      refine ac_istore (lv' := [(5, .int v116), (0, .ref r0), (1, .int x1), (2, .int x2), (3, .int x3), (4, .int x4)]) d_X9_row_148 (by decide) rfl ?_
                      refine ac_aload_n 1 d_X9_row_150 rfl rfl ?_
                      obtain ⟨o117, hr, h⟩ := h
                      refine ak_getf hr fl_X9_7 d_X9_row_151 ?_
                      refine ac_iload 0 d_X9_row_154 rfl ?_
                      refine ac_iload_n 3 d_X9_row_156 rfl rfl ?_
                      obtain ⟨f118, hr, h⟩ := h
                      refine ak_iast 0 hr rfl d_X9_row_157 ?_
                      refine ac_aload_n 1 d_X9_row_158 rfl rfl ?_
                      obtain ⟨o119, hr, h⟩ := h
                      refine ak_getf hr fl_X9_7 d_X9_row_159 ?_
                      refine ac_iload 0 d_X9_row_162 rfl ?_
                      refine ac_iconst (v := 1) d_X9_row_164 rfl ?_
                      refine ac_iadd d_X9_row_165 ?_
                      refine ac_iload_n 4 d_X9_row_166 rfl rfl ?_
                      obtain ⟨f120, hr, h⟩ := h
                      refine ak_iast 0 hr rfl d_X9_row_167 ?_
                      refine ac_aload_n 1 d_X9_row_168 rfl rfl ?_
                      obtain ⟨o121, hr, h⟩ := h
                      refine ak_getf hr fl_X9_7 d_X9_row_169 ?_
                      refine ac_iload 0 d_X9_row_172 rfl ?_
                      refine ac_iconst (v := 2) d_X9_row_174 rfl ?_
                      refine ac_iadd d_X9_row_175 ?_
                      refine ac_iload 5 d_X9_row_176 rfl ?_
                      obtain ⟨f122, hr, h⟩ := h
                      refine ak_iast 0 hr rfl d_X9_row_178 ?_
                      refine ac_aload_n 1 d_X9_row_179 rfl rfl ?_
                      obtain ⟨o123, hr, h⟩ := h
                      refine ak_getf hr fl_X9_13 d_X9_row_180 ?_
                      refine ac_iload_n 2 d_X9_row_183 rfl rfl ?_
                      refine ac_dup2 d_X9_row_184 rfl rfl ?_
                      obtain ⟨v124, hr, h⟩ := h
                      refine ak_iald 0 hr rfl d_X9_row_185 ?_
                      refine ac_iconst (v := 1) d_X9_row_186 rfl ?_
                      refine ac_iadd d_X9_row_187 ?_
                      obtain ⟨f125, hr, h⟩ := h
                      refine ak_iast 0 hr rfl d_X9_row_188 ?_
                      refine ac_aload_n 1 d_X9_row_189 rfl rfl ?_
                      obtain ⟨o126, hr, h⟩ := h
                      refine ak_getf hr fl_X9_13 d_X9_row_190 ?_
                      refine ac_iload_n 2 d_X9_row_193 rfl rfl ?_
                      obtain ⟨v127, hr, h⟩ := h
                      refine ak_iald 0 hr rfl d_X9_row_194 ?_
                      exact ac_ireturn hR rfl ⟨_, rfl, h⟩ (by decide) (by decide) d_X9_row_195
                    · have h := h.2 hc
                      refine ac_bipush (v := -2) d_X9_row_132 rfl ?_
                      exact ac_ireturn hR rfl ⟨_, rfl, h⟩ (by decide) (by decide) d_X9_row_134
                  · have h := h.2 hc
                    refine ac_bipush (v := -4) d_X9_row_118 rfl ?_
                    exact ac_ireturn hR rfl ⟨_, rfl, h⟩ (by decide) (by decide) d_X9_row_120
              · have h := h.2 hc
                refine ac_aload_n 0 d_X9_row_84 rfl rfl ?_
                refine ac_iload_n 1 d_X9_row_85 rfl rfl ?_
                refine ac_iconst (v := 1) d_X9_row_86 rfl ?_
                refine ac_iload_n 3 d_X9_row_87 rfl rfl ?_
                obtain ⟨⟨fs, hb⟩, h⟩ := h
                refine ac_callV0 cd_X9_count ml_X9_88 in_X9_count se_X9_count rfl hb (c_X9_count _ _ _ r0 x1 1 x3 f88 _ h) rfl rfl (by rw [hro]; decide) rfl (rest := []) rfl (Nat.le_of_ble_eq_true rfl) (by rw [hro]; decide) d_X9_row_88 (ac_I (fun v129 f128 h => ?_))
                refine ac_if_gt (tgt := 118) d_X9_row_91 (by decide) (fun hc => ?_) (fun hc => ?_)
                · have h := h.1 hc
                  refine ac_bipush (v := -4) d_X9_row_118 rfl ?_
                  exact ac_ireturn hR rfl ⟨_, rfl, h⟩ (by decide) (by decide) d_X9_row_120
                · have h := h.2 hc
                  refine ac_aload_n 0 d_X9_row_94 rfl rfl ?_
                  obtain ⟨o130, hr, h⟩ := h
                  refine ak_getf hr fl_X9_16 d_X9_row_95 ?_
                  refine ac_iconst (v := 3) d_X9_row_98 rfl ?_
                  refine ac_iload_n 1 d_X9_row_99 rfl rfl ?_
                  refine ac_imul d_X9_row_100 ?_
                  refine ac_iconst (v := 2) d_X9_row_101 rfl ?_
                  refine ac_iadd d_X9_row_102 ?_
                  obtain ⟨v131, hr, h⟩ := h
                  refine ak_zald 1 hr rfl d_X9_row_103 ?_
                  refine ac_if_eq (tgt := 121) d_X9_row_104 (by decide) (fun hc => ?_) (fun hc => ?_)
                  · have h := h.1 hc
                    refine ac_aload_n 0 d_X9_row_121 rfl rfl ?_
                    obtain ⟨o132, hr, h⟩ := h
                    refine ak_getf hr fl_X9_13 d_X9_row_122 ?_
                    refine ac_iload_n 1 d_X9_row_125 rfl rfl ?_
                    obtain ⟨v133, hr, h⟩ := h
                    refine ak_iald 0 hr rfl d_X9_row_126 ?_
                    refine ac_bipush (v := 20) d_X9_row_127 rfl ?_
                    refine ac_icmp_ne (tgt := 135) d_X9_row_129 (by decide) (fun hc => ?_) (fun hc => ?_)
                    · have h := h.1 hc
                      refine ac_bipush (v := 60) d_X9_row_135 rfl ?_
                      refine ac_iload_n 1 d_X9_row_137 rfl rfl ?_
                      refine ac_imul d_X9_row_138 ?_
                      refine ac_iconst (v := 3) d_X9_row_139 rfl ?_
                      refine ac_aload_n 0 d_X9_row_140 rfl rfl ?_
                      obtain ⟨o134, hr, h⟩ := h
                      refine ak_getf hr fl_X9_13 d_X9_row_141 ?_
                      refine ac_iload_n 1 d_X9_row_144 rfl rfl ?_
                      obtain ⟨v135, hr, h⟩ := h
                      refine ak_iald 0 hr rfl d_X9_row_145 ?_
                      refine ac_imul d_X9_row_146 ?_
                      refine ac_iadd d_X9_row_147 ?_
                      refine ak_topi (fun v136 ev136 => ?_)
                      have h := h v136 ev136
                      refine ac_istore (lv' := [(5, .int v136), (0, .ref r0), (1, .int x1), (2, .int x2), (3, .int x3), (4, .int x4)]) d_X9_row_148 (by decide) rfl ?_
                      refine ac_aload_n 1 d_X9_row_150 rfl rfl ?_
                      obtain ⟨o137, hr, h⟩ := h
                      refine ak_getf hr fl_X9_7 d_X9_row_151 ?_
                      refine ac_iload 0 d_X9_row_154 rfl ?_
                      refine ac_iload_n 3 d_X9_row_156 rfl rfl ?_
                      obtain ⟨f138, hr, h⟩ := h
                      refine ak_iast 0 hr rfl d_X9_row_157 ?_
                      refine ac_aload_n 1 d_X9_row_158 rfl rfl ?_
                      obtain ⟨o139, hr, h⟩ := h
                      refine ak_getf hr fl_X9_7 d_X9_row_159 ?_
                      refine ac_iload 0 d_X9_row_162 rfl ?_
                      refine ac_iconst (v := 1) d_X9_row_164 rfl ?_
                      refine ac_iadd d_X9_row_165 ?_
                      refine ac_iload_n 4 d_X9_row_166 rfl rfl ?_
                      obtain ⟨f140, hr, h⟩ := h
                      refine ak_iast 0 hr rfl d_X9_row_167 ?_
                      refine ac_aload_n 1 d_X9_row_168 rfl rfl ?_
                      obtain ⟨o141, hr, h⟩ := h
                      refine ak_getf hr fl_X9_7 d_X9_row_169 ?_
                      refine ac_iload 0 d_X9_row_172 rfl ?_
                      refine ac_iconst (v := 2) d_X9_row_174 rfl ?_
                      refine ac_iadd d_X9_row_175 ?_
                      refine ac_iload 5 d_X9_row_176 rfl ?_
                      obtain ⟨f142, hr, h⟩ := h
                      refine ak_iast 0 hr rfl d_X9_row_178 ?_
                      refine ac_aload_n 1 d_X9_row_179 rfl rfl ?_
                      obtain ⟨o143, hr, h⟩ := h
                      refine ak_getf hr fl_X9_13 d_X9_row_180 ?_
                      refine ac_iload_n 2 d_X9_row_183 rfl rfl ?_
                      refine ac_dup2 d_X9_row_184 rfl rfl ?_
                      obtain ⟨v144, hr, h⟩ := h
                      refine ak_iald 0 hr rfl d_X9_row_185 ?_
                      refine ac_iconst (v := 1) d_X9_row_186 rfl ?_
                      refine ac_iadd d_X9_row_187 ?_
                      obtain ⟨f145, hr, h⟩ := h
                      refine ak_iast 0 hr rfl d_X9_row_188 ?_
                      refine ac_aload_n 1 d_X9_row_189 rfl rfl ?_
                      obtain ⟨o146, hr, h⟩ := h
                      refine ak_getf hr fl_X9_13 d_X9_row_190 ?_
                      refine ac_iload_n 2 d_X9_row_193 rfl rfl ?_
                      obtain ⟨v147, hr, h⟩ := h
                      refine ak_iald 0 hr rfl d_X9_row_194 ?_
                      exact ac_ireturn hR rfl ⟨_, rfl, h⟩ (by decide) (by decide) d_X9_row_195
                    · have h := h.2 hc
                      refine ac_bipush (v := -2) d_X9_row_132 rfl ?_
                      exact ac_ireturn hR rfl ⟨_, rfl, h⟩ (by decide) (by decide) d_X9_row_134
                  · have h := h.2 hc
                    refine ac_aload_n 0 d_X9_row_107 rfl rfl ?_
                    refine ac_iload_n 1 d_X9_row_108 rfl rfl ?_
                    refine ac_iconst (v := 2) d_X9_row_109 rfl ?_
                    refine ac_iload 4 d_X9_row_110 rfl ?_
                    obtain ⟨⟨fs, hb⟩, h⟩ := h
                    refine ac_callV0 cd_X9_count ml_X9_88 in_X9_count se_X9_count rfl hb (c_X9_count _ _ _ r0 x1 2 x4 f128 _ h) rfl rfl (by rw [hro]; decide) rfl (rest := []) rfl (Nat.le_of_ble_eq_true rfl) (by rw [hro]; decide) d_X9_row_112 (ac_I (fun v149 f148 h => ?_))
                    refine ac_if_le (tgt := 121) d_X9_row_115 (by decide) (fun hc => ?_) (fun hc => ?_)
                    · have h := h.1 hc
                      refine ac_aload_n 0 d_X9_row_121 rfl rfl ?_
                      obtain ⟨o150, hr, h⟩ := h
                      refine ak_getf hr fl_X9_13 d_X9_row_122 ?_
                      refine ac_iload_n 1 d_X9_row_125 rfl rfl ?_
                      obtain ⟨v151, hr, h⟩ := h
                      refine ak_iald 0 hr rfl d_X9_row_126 ?_
                      refine ac_bipush (v := 20) d_X9_row_127 rfl ?_
                      refine ac_icmp_ne (tgt := 135) d_X9_row_129 (by decide) (fun hc => ?_) (fun hc => ?_)
                      · have h := h.1 hc
                        refine ac_bipush (v := 60) d_X9_row_135 rfl ?_
                        refine ac_iload_n 1 d_X9_row_137 rfl rfl ?_
                        refine ac_imul d_X9_row_138 ?_
                        refine ac_iconst (v := 3) d_X9_row_139 rfl ?_
                        refine ac_aload_n 0 d_X9_row_140 rfl rfl ?_
                        obtain ⟨o152, hr, h⟩ := h
                        refine ak_getf hr fl_X9_13 d_X9_row_141 ?_
                        refine ac_iload_n 1 d_X9_row_144 rfl rfl ?_
                        obtain ⟨v153, hr, h⟩ := h
                        refine ak_iald 0 hr rfl d_X9_row_145 ?_
                        refine ac_imul d_X9_row_146 ?_
                        refine ac_iadd d_X9_row_147 ?_
                        refine ak_topi (fun v154 ev154 => ?_)
                        have h := h v154 ev154
                        refine ac_istore (lv' := [(5, .int v154), (0, .ref r0), (1, .int x1), (2, .int x2), (3, .int x3), (4, .int x4)]) d_X9_row_148 (by decide) rfl ?_
                        refine ac_aload_n 1 d_X9_row_150 rfl rfl ?_
                        obtain ⟨o155, hr, h⟩ := h
                        refine ak_getf hr fl_X9_7 d_X9_row_151 ?_
                        refine ac_iload 0 d_X9_row_154 rfl ?_
                        refine ac_iload_n 3 d_X9_row_156 rfl rfl ?_
                        obtain ⟨f156, hr, h⟩ := h
                        refine ak_iast 0 hr rfl d_X9_row_157 ?_
                        refine ac_aload_n 1 d_X9_row_158 rfl rfl ?_
                        obtain ⟨o157, hr, h⟩ := h
                        refine ak_getf hr fl_X9_7 d_X9_row_159 ?_
                        refine ac_iload 0 d_X9_row_162 rfl ?_
                        refine ac_iconst (v := 1) d_X9_row_164 rfl ?_
                        refine ac_iadd d_X9_row_165 ?_
                        refine ac_iload_n 4 d_X9_row_166 rfl rfl ?_
                        obtain ⟨f158, hr, h⟩ := h
                        refine ak_iast 0 hr rfl d_X9_row_167 ?_
                        refine ac_aload_n 1 d_X9_row_168 rfl rfl ?_
                        obtain ⟨o159, hr, h⟩ := h
                        refine ak_getf hr fl_X9_7 d_X9_row_169 ?_
                        refine ac_iload 0 d_X9_row_172 rfl ?_
                        refine ac_iconst (v := 2) d_X9_row_174 rfl ?_
                        refine ac_iadd d_X9_row_175 ?_
                        refine ac_iload 5 d_X9_row_176 rfl ?_
                        obtain ⟨f160, hr, h⟩ := h
                        refine ak_iast 0 hr rfl d_X9_row_178 ?_
                        refine ac_aload_n 1 d_X9_row_179 rfl rfl ?_
                        obtain ⟨o161, hr, h⟩ := h
                        refine ak_getf hr fl_X9_13 d_X9_row_180 ?_
                        refine ac_iload_n 2 d_X9_row_183 rfl rfl ?_
                        refine ac_dup2 d_X9_row_184 rfl rfl ?_
                        obtain ⟨v162, hr, h⟩ := h
                        refine ak_iald 0 hr rfl d_X9_row_185 ?_
                        refine ac_iconst (v := 1) d_X9_row_186 rfl ?_
                        refine ac_iadd d_X9_row_187 ?_
                        obtain ⟨f163, hr, h⟩ := h
                        refine ak_iast 0 hr rfl d_X9_row_188 ?_
                        refine ac_aload_n 1 d_X9_row_189 rfl rfl ?_
                        obtain ⟨o164, hr, h⟩ := h
                        refine ak_getf hr fl_X9_13 d_X9_row_190 ?_
                        refine ac_iload_n 2 d_X9_row_193 rfl rfl ?_
                        obtain ⟨v165, hr, h⟩ := h
                        refine ak_iald 0 hr rfl d_X9_row_194 ?_
                        exact ac_ireturn hR rfl ⟨_, rfl, h⟩ (by decide) (by decide) d_X9_row_195
                      · have h := h.2 hc
                        refine ac_bipush (v := -2) d_X9_row_132 rfl ?_
                        exact ac_ireturn hR rfl ⟨_, rfl, h⟩ (by decide) (by decide) d_X9_row_134
                    · have h := h.2 hc
                      refine ac_bipush (v := -4) d_X9_row_118 rfl ?_
                      exact ac_ireturn hR rfl ⟨_, rfl, h⟩ (by decide) (by decide) d_X9_row_120
        · have h := h.2 hc
          refine ac_iconst (v := -1) d_X9_row_48 rfl ?_
          exact ac_ireturn hR rfl ⟨_, rfl, h⟩ (by decide) (by decide) d_X9_row_49

