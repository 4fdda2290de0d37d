def wp_X9_unions (ki : Nat → ClassId) (r0 : Nat) (f : ac_hp) (Q : Int32 → ac_hp → Prop) : Prop := ∃ f1 : ac_hp, hw_f f r0 9 0 (.int 0) f1 ∧ ∃ v2 : Int32, hr_f f1 r0 9 9 (.int v2) ∧ ((¬ v2 = 0 → hr_o f1 r0 9 ∧ wp_X9_makeUnions ki r0 f1 (fun v4 f3 => ((v4 = 0 → Q (-3) f3) ∧ (¬ v4 = 0 → ∃ v5 : Int32, hr_f f3 r0 9 16 (.int v5) ∧ Q v5 f3)))) ∧ (v2 = 0 → Q (-1) f1))

set_option maxRecDepth 20000 in
set_option maxHeartbeats 4000000 in
theorem c_X9_unions (l : Launch) (D : va_G) (ki : Nat → ClassId) (r0 : Nat) (f : ac_hp) (Q : Int32 → ac_hp → Prop) (h : wp_X9_unions ki r0 f Q) : ac_met l D ki y_X9_unions prog_11_method_19_code 1 (some .int) (ro_ 4 0 0) [.ref r0] f (qr_I Q) 0 0 := by
  refine ac_enter (fun ki => wp_X9_unions ki r0 f Q) (by decide) (Nat.le_of_ble_eq_true rfl) h ?_
  intro x hro hR hnm h
  unfold wp_X9_unions at h
  refine ac_aload_n 0 d_X9_unions_0 rfl rfl ?_
  refine ac_iconst (v := 0) d_X9_unions_1 rfl ?_
  obtain ⟨f1, hr, h⟩ := h
  refine ak_putf hr fp_X9_80 rfl rfl d_X9_unions_2 ?_
  refine ac_aload_n 0 d_X9_unions_5 rfl rfl ?_
  obtain ⟨v2, hr, h⟩ := h
  refine ak_getf hr fl_X9_103 d_X9_unions_6 ?_
  refine ac_if_ne (tgt := 14) d_X9_unions_9 (by decide) (fun hc => ?_) (fun hc => ?_)
  · have h := h.1 hc
    refine ac_aload_n 0 d_X9_unions_14 rfl rfl ?_
    obtain ⟨⟨fs, hb⟩, h⟩ := h
    refine ac_callV0 cd_X9_makeUnions ml_X9_122 in_X9_makeUnions se_X9_makeUnions rfl hb (c_X9_makeUnions _ _ _ r0 f1 _ h) rfl rfl (by rw [hro]; decide) rfl (rest := []) rfl (Nat.le_of_ble_eq_true rfl) (by rw [hro]; decide) d_X9_unions_15 (ac_I (fun v4 f3 h => ?_))
    refine ac_if_eq (tgt := 28) d_X9_unions_18 (by decide) (fun hc => ?_) (fun hc => ?_)
    · have h := h.1 hc
      refine ac_bipush (v := -3) d_X9_unions_28 rfl ?_
      exact ac_ireturn hR rfl ⟨_, rfl, h⟩ (by decide) (by decide) d_X9_unions_30
    · have h := h.2 hc
      refine ac_aload_n 0 d_X9_unions_21 rfl rfl ?_
      obtain ⟨v5, hr, h⟩ := h
      refine ak_getf hr fl_X9_112 d_X9_unions_22 ?_
      refine ac_goto (tgt := 30) d_X9_unions_25 (by decide) ?_
      exact ac_ireturn hR rfl ⟨_, rfl, h⟩ (by decide) (by decide) d_X9_unions_30
  · have h := h.2 hc
    refine ac_iconst (v := -1) d_X9_unions_12 rfl ?_
    exact ac_ireturn hR rfl ⟨_, rfl, h⟩ (by decide) (by decide) d_X9_unions_13

def wp_X9_union (ki : Nat → ClassId) (r0 : Nat) (x1 : Int32) (x2 : Int32) (f : ac_hp) (Q : Int32 → ac_hp → Prop) : Prop := ∃ f1 : ac_hp, hw_f f r0 9 0 (.int 0) f1 ∧ ∃ v2 : Int32, hr_f f1 r0 9 9 (.int v2) ∧ ((¬ v2 = 0 → hr_o f1 r0 9 ∧ wp_X9_makeUnions ki r0 f1 (fun v4 f3 => ((¬ v4 = 0 → ∃ v5 : Int32, hr_f f3 r0 9 16 (.int v5) ∧ wp_X9_in ki x1 0 (v5 - 1) f3 (fun v7 f6 => ((v7 = 0 → Q (-1) f6) ∧ (¬ v7 = 0 → wp_X9_in ki x2 0 8 f6 (fun v9 f8 => ((v9 = 0 → Q (-1) f8) ∧ (¬ v9 = 0 → ((8 ≤ x2 → ((¬ x2 = 8 → ((4 ≤ x2 → ∃ o10 : Nat, hr_f f8 r0 9 18 (.ref o10) ∧ ∃ v11 : Int32, hr_i (ki 0) f8 o10 (((4 * x1) + x2) - 4) v11 ∧ Q v11 f8) ∧ (¬ 4 ≤ x2 → ∃ o12 : Nat, hr_f f8 r0 9 17 (.ref o12) ∧ ∃ v13 : Int32, hr_i (ki 0) f8 o12 ((4 * x1) + x2) v13 ∧ Q v13 f8))) ∧ (x2 = 8 → ∃ o14 : Nat, hr_f f8 r0 9 19 (.ref o14) ∧ ∃ v15 : Int32, hr_i (ki 0) f8 o14 x1 v15 ∧ Q v15 f8))) ∧ (¬ 8 ≤ x2 → ∃ v16 : Int32, hr_f f8 r0 9 9 (.int v16) ∧ (((x2 - x2 / 4 * 4) < v16 → ((¬ x2 = 8 → ((4 ≤ x2 → ∃ o17 : Nat, hr_f f8 r0 9 18 (.ref o17) ∧ ∃ v18 : Int32, hr_i (ki 0) f8 o17 (((4 * x1) + x2) - 4) v18 ∧ Q v18 f8) ∧ (¬ 4 ≤ x2 → ∃ o19 : Nat, hr_f f8 r0 9 17 (.ref o19) ∧ ∃ v20 : Int32, hr_i (ki 0) f8 o19 ((4 * x1) + x2) v20 ∧ Q v20 f8))) ∧ (x2 = 8 → ∃ o21 : Nat, hr_f f8 r0 9 19 (.ref o21) ∧ ∃ v22 : Int32, hr_i (ki 0) f8 o21 x1 v22 ∧ Q v22 f8))) ∧ (¬ (x2 - x2 / 4 * 4) < v16 → Q (-1) f8))))))))))) ∧ (v4 = 0 → Q (-3) f3)))) ∧ (v2 = 0 → Q (-1) f1))

set_option maxRecDepth 20000 in
set_option maxHeartbeats 4000000 in
theorem c_X9_union (l : Launch) (D : va_G) (ki : Nat → ClassId) (r0 : Nat) (x1 : Int32) (x2 : Int32) (f : ac_hp) (Q : Int32 → ac_hp → Prop) (h : wp_X9_union ki r0 x1 x2 f Q) : ac_met l D ki y_X9_union prog_11_method_20_code 3 (some .int) (ro_ 4 0 0) [.ref r0, .int x1, .int x2] f (qr_I Q) 0 0 := by
  refine ac_enter (fun ki => wp_X9_union ki r0 x1 x2 f Q) (by decide) (Nat.le_of_ble_eq_true rfl) h ?_
  intro x hro hR hnm h
  unfold wp_X9_union at h
  refine ac_aload_n 0 d_X9_union_0 rfl rfl ?_
  refine ac_iconst (v := 0) d_X9_union_1 rfl ?_
  obtain ⟨f1, hr, h⟩ := h
  refine ak_putf hr fp_X9_80 rfl rfl d_X9_union_2 ?_
  refine ac_aload_n 0 d_X9_union_5 rfl rfl ?_
  obtain ⟨v2, hr, h⟩ := h
  refine ak_getf hr fl_X9_103 d_X9_union_6 ?_
  refine ac_if_ne (tgt := 14) d_X9_union_9 (by decide) (fun hc => ?_) (fun hc => ?_)
  · have h := h.1 hc
    refine ac_aload_n 0 d_X9_union_14 rfl rfl ?_
    obtain ⟨⟨fs, hb⟩, h⟩ := h
    refine ac_callV0 cd_X9_makeUnions ml_X9_122 in_X9_makeUnions se_X9_makeUnions rfl hb (c_X9_makeUnions _ _ _ r0 f1 _ h) rfl rfl (by rw [hro]; decide) rfl (rest := []) rfl (Nat.le_of_ble_eq_true rfl) (by rw [hro]; decide) d_X9_union_15 (ac_I (fun v4 f3 h => ?_))
    refine ac_if_ne (tgt := 24) d_X9_union_18 (by decide) (fun hc => ?_) (fun hc => ?_)
    · have h := h.1 hc
      refine ac_iload_n 1 d_X9_union_24 rfl rfl ?_
      refine ac_iconst (v := 0) d_X9_union_25 rfl ?_
      refine ac_aload_n 0 d_X9_union_26 rfl rfl ?_
      obtain ⟨v5, hr, h⟩ := h
      refine ak_getf hr fl_X9_112 d_X9_union_27 ?_
      refine ac_iconst (v := 1) d_X9_union_30 rfl ?_
      refine ac_isub d_X9_union_31 ?_
      refine ac_callS0 cd_X9_in ml_X9_84 st_X9_in (c_X9_in _ _ _ x1 0 (v5 - 1) f3 _ h) rfl rfl (by rw [hro]; decide) rfl (rest := []) rfl (Nat.le_of_ble_eq_true rfl) (by rw [hro]; decide) d_X9_union_32 (ac_I (fun v7 f6 h => ?_))
      refine ac_if_eq (tgt := 64) d_X9_union_35 (by decide) (fun hc => ?_) (fun hc => ?_)
      · have h := h.1 hc
        refine ac_iconst (v := -1) d_X9_union_64 rfl ?_
        exact ac_ireturn hR rfl ⟨_, rfl, h⟩ (by decide) (by decide) d_X9_union_65
      · have h := h.2 hc
        refine ac_iload_n 2 d_X9_union_38 rfl rfl ?_
        refine ac_iconst (v := 0) d_X9_union_39 rfl ?_
        refine ac_bipush (v := 8) d_X9_union_40 rfl ?_
        refine ac_callS0 cd_X9_in ml_X9_84 st_X9_in (c_X9_in _ _ _ x2 0 8 f6 _ h) rfl rfl (by rw [hro]; decide) rfl (rest := []) rfl (Nat.le_of_ble_eq_true rfl) (by rw [hro]; decide) d_X9_union_42 (ac_I (fun v9 f8 h => ?_))
        refine ac_if_eq (tgt := 64) d_X9_union_45 (by decide) (fun hc => ?_) (fun hc => ?_)
        · have h := h.1 hc
          refine ac_iconst (v := -1) d_X9_union_64 rfl ?_
          exact ac_ireturn hR rfl ⟨_, rfl, h⟩ (by decide) (by decide) d_X9_union_65
        · have h := h.2 hc
          refine ac_iload_n 2 d_X9_union_48 rfl rfl ?_
          refine ac_bipush (v := 8) d_X9_union_49 rfl ?_
          refine ac_icmp_ge (tgt := 66) d_X9_union_51 (by decide) (fun hc => ?_) (fun hc => ?_)
          · have h := h.1 hc
            refine ac_iload_n 2 d_X9_union_66 rfl rfl ?_
            refine ac_bipush (v := 8) d_X9_union_67 rfl ?_
            refine ac_icmp_ne (tgt := 81) d_X9_union_69 (by decide) (fun hc => ?_) (fun hc => ?_)
            · have h := h.1 hc
              refine ac_iload_n 2 d_X9_union_81 rfl rfl ?_
              refine ac_iconst (v := 4) d_X9_union_82 rfl ?_
              refine ac_icmp_ge (tgt := 99) d_X9_union_83 (by decide) (fun hc => ?_) (fun hc => ?_)
              · have h := h.1 hc
                refine ac_aload_n 0 d_X9_union_99 rfl rfl ?_
                obtain ⟨o10, hr, h⟩ := h
                refine ak_getf hr fl_X9_50 d_X9_union_100 ?_
                refine ac_iconst (v := 4) d_X9_union_103 rfl ?_
                refine ac_iload_n 1 d_X9_union_104 rfl rfl ?_
                refine ac_imul d_X9_union_105 ?_
                refine ac_iload_n 2 d_X9_union_106 rfl rfl ?_
                refine ac_iadd d_X9_union_107 ?_
                refine ac_iconst (v := 4) d_X9_union_108 rfl ?_
                refine ac_isub d_X9_union_109 ?_
                obtain ⟨v11, hr, h⟩ := h
                refine ak_iald 0 hr rfl d_X9_union_110 ?_
                exact ac_ireturn hR rfl ⟨_, rfl, h⟩ (by decide) (by decide) d_X9_union_111
              · have h := h.2 hc
                refine ac_aload_n 0 d_X9_union_86 rfl rfl ?_
                obtain ⟨o12, hr, h⟩ := h
                refine ak_getf hr fl_X9_47 d_X9_union_87 ?_
                refine ac_iconst (v := 4) d_X9_union_90 rfl ?_
                refine ac_iload_n 1 d_X9_union_91 rfl rfl ?_
                refine ac_imul d_X9_union_92 ?_
                refine ac_iload_n 2 d_X9_union_93 rfl rfl ?_
                refine ac_iadd d_X9_union_94 ?_
                obtain ⟨v13, hr, h⟩ := h
                refine ak_iald 0 hr rfl d_X9_union_95 ?_
                refine ac_goto (tgt := 111) d_X9_union_96 (by decide) ?_
                exact ac_ireturn hR rfl ⟨_, rfl, h⟩ (by decide) (by decide) d_X9_union_111
            · have h := h.2 hc
              refine ac_aload_n 0 d_X9_union_72 rfl rfl ?_
              obtain ⟨o14, hr, h⟩ := h
              refine ak_getf hr fl_X9_53 d_X9_union_73 ?_
              refine ac_iload_n 1 d_X9_union_76 rfl rfl ?_
              obtain ⟨v15, hr, h⟩ := h
              refine ak_iald 0 hr rfl d_X9_union_77 ?_
              refine ac_goto (tgt := 111) d_X9_union_78 (by decide) ?_
              exact ac_ireturn hR rfl ⟨_, rfl, h⟩ (by decide) (by decide) d_X9_union_111
          · have h := h.2 hc
            refine ac_iload_n 2 d_X9_union_54 rfl rfl ?_
            refine ac_iconst (v := 4) d_X9_union_55 rfl ?_
            refine ac_irem d_X9_union_56 (by decide) ?_
            refine ac_aload_n 0 d_X9_union_57 rfl rfl ?_
            obtain ⟨v16, hr, h⟩ := h
            refine ak_getf hr fl_X9_103 d_X9_union_58 ?_
            refine ac_icmp_lt (tgt := 66) d_X9_union_61 (by decide) (fun hc => ?_) (fun hc => ?_)
            · have h := h.1 hc
              refine ac_iload_n 2 d_X9_union_66 rfl rfl ?_
              refine ac_bipush (v := 8) d_X9_union_67 rfl ?_
              refine ac_icmp_ne (tgt := 81) d_X9_union_69 (by decide) (fun hc => ?_) (fun hc => ?_)
              · have h := h.1 hc
                refine ac_iload_n 2 d_X9_union_81 rfl rfl ?_
                refine ac_iconst (v := 4) d_X9_union_82 rfl ?_
                refine ac_icmp_ge (tgt := 99) d_X9_union_83 (by decide) (fun hc => ?_) (fun hc => ?_)
                · have h := h.1 hc
                  refine ac_aload_n 0 d_X9_union_99 rfl rfl ?_
                  obtain ⟨o17, hr, h⟩ := h
                  refine ak_getf hr fl_X9_50 d_X9_union_100 ?_
                  refine ac_iconst (v := 4) d_X9_union_103 rfl ?_
                  refine ac_iload_n 1 d_X9_union_104 rfl rfl ?_
                  refine ac_imul d_X9_union_105 ?_
                  refine ac_iload_n 2 d_X9_union_106 rfl rfl ?_
                  refine ac_iadd d_X9_union_107 ?_
                  refine ac_iconst (v := 4) d_X9_union_108 rfl ?_
                  refine ac_isub d_X9_union_109 ?_
                  obtain ⟨v18, hr, h⟩ := h
                  refine ak_iald 0 hr rfl d_X9_union_110 ?_
                  exact ac_ireturn hR rfl ⟨_, rfl, h⟩ (by decide) (by decide) d_X9_union_111
                · have h := h.2 hc
                  refine ac_aload_n 0 d_X9_union_86 rfl rfl ?_
                  obtain ⟨o19, hr, h⟩ := h
                  refine ak_getf hr fl_X9_47 d_X9_union_87 ?_
                  refine ac_iconst (v := 4) d_X9_union_90 rfl ?_
                  refine ac_iload_n 1 d_X9_union_91 rfl rfl ?_
                  refine ac_imul d_X9_union_92 ?_
                  refine ac_iload_n 2 d_X9_union_93 rfl rfl ?_
                  refine ac_iadd d_X9_union_94 ?_
                  obtain ⟨v20, hr, h⟩ := h
                  refine ak_iald 0 hr rfl d_X9_union_95 ?_
                  refine ac_goto (tgt := 111) d_X9_union_96 (by decide) ?_
                  exact ac_ireturn hR rfl ⟨_, rfl, h⟩ (by decide) (by decide) d_X9_union_111
              · have h := h.2 hc
                refine ac_aload_n 0 d_X9_union_72 rfl rfl ?_
                obtain ⟨o21, hr, h⟩ := h
                refine ak_getf hr fl_X9_53 d_X9_union_73 ?_
                refine ac_iload_n 1 d_X9_union_76 rfl rfl ?_
                obtain ⟨v22, hr, h⟩ := h
                refine ak_iald 0 hr rfl d_X9_union_77 ?_
                refine ac_goto (tgt := 111) d_X9_union_78 (by decide) ?_
                exact ac_ireturn hR rfl ⟨_, rfl, h⟩ (by decide) (by decide) d_X9_union_111
            · have h := h.2 hc
              refine ac_iconst (v := -1) d_X9_union_64 rfl ?_
              exact ac_ireturn hR rfl ⟨_, rfl, h⟩ (by decide) (by decide) d_X9_union_65
    · have h := h.2 hc
      refine ac_bipush (v := -3) d_X9_union_21 rfl ?_
      exact ac_ireturn hR rfl ⟨_, rfl, h⟩ (by decide) (by decide) d_X9_union_23
  · have h := h.2 hc
    refine ac_iconst (v := -1) d_X9_union_12 rfl ?_
    exact ac_ireturn hR rfl ⟨_, rfl, h⟩ (by decide) (by decide) d_X9_union_13

def wp_X9_estimate_L44 (ki : Nat → ClassId) (r0 : Nat) (x1 : Int32) (E74 : Int32 → ac_hp → Prop) : Nat → Int32 → Int32 → ac_hp → Prop
  | 0, _, _, _ => False
  | n + 1, x2, x3, f => ∃ o8 : Nat, hr_f f r0 9 19 (.ref o8) ∧ ∃ v9 : Int32, hr_i (ki 0) f o8 x1 v9 ∧ ((v9 ≤ x3 → E74 x2 f) ∧ (¬ v9 ≤ x3 → ∃ o10 : Nat, hr_f f r0 9 2 (.ref o10) ∧ hr_o f r0 9 ∧ wp_X9_tableOf ki r0 x1 x3 f (fun v12 f11 => ∃ v13 : Int32, hr_i (ki 0) f11 o10 v12 v13 ∧ ∀ v14 : Int32, v14 = x2 * v13 → ∀ v15 : Int32, v15 = x3 + 1 → wp_X9_estimate_L44 ki r0 x1 E74 n v14 v15 f11)))

def wp_X9_estimate (ki : Nat → ClassId) (r0 : Nat) (x1 : Int32) (f : ac_hp) (Q : Int32 → ac_hp → Prop) : Prop := ∃ f1 : ac_hp, hw_f f r0 9 0 (.int 0) f1 ∧ ∃ v2 : Int32, hr_f f1 r0 9 9 (.int v2) ∧ ((¬ v2 = 0 → hr_o f1 r0 9 ∧ wp_X9_makeUnions ki r0 f1 (fun v4 f3 => ((¬ v4 = 0 → ∃ v5 : Int32, hr_f f3 r0 9 16 (.int v5) ∧ wp_X9_in ki x1 0 (v5 - 1) f3 (fun v7 f6 => ((¬ v7 = 0 → ∃ n16 : Nat, wp_X9_estimate_L44 ki r0 x1 (fun y17 f18 => Q y17 f18) n16 1 0 f6) ∧ (v7 = 0 → Q (-1) f6)))) ∧ (v4 = 0 → Q (-3) f3)))) ∧ (v2 = 0 → Q (-1) f1))

set_option maxRecDepth 20000 in
set_option maxHeartbeats 4000000 in
theorem ok_X9_estimate_L44 {x : ac_X} (hro : ac_R x = (ro_ 4 0 0)) (r0 : Nat) (x1 : Int32) (E74 : Int32 → ac_hp → Prop) (hE74 : ∀ (y2 : Int32) (f : ac_hp), E74 y2 f → ac_At (prog_11_method_22_code, 4, "VirtualRewriteModel") x 0 0 74 [(2, .int y2)] [] f) : ∀ (n : Nat) (x2 : Int32) (x3 : Int32) (f : ac_hp), wp_X9_estimate_L44 (ac_ki x) r0 x1 E74 n x2 x3 f → ac_At (prog_11_method_22_code, 4, "VirtualRewriteModel") x 0 0 44 [(0, .ref r0), (1, .int x1), (2, .int x2), (3, .int x3)] [] f := by
  intro n
  induction n with
  | zero => intro _ _ _ h; exact h.elim
  | succ n ih =>
    intro x2 x3 f h
    rw [wp_X9_estimate_L44] at h
    refine ac_iload_n 3 d_X9_estimate_44 rfl rfl ?_
    refine ac_aload_n 0 d_X9_estimate_45 rfl rfl ?_
    obtain ⟨o8, hr, h⟩ := h
    refine ak_getf hr fl_X9_53 d_X9_estimate_46 ?_
    refine ac_iload_n 1 d_X9_estimate_49 rfl rfl ?_
    obtain ⟨v9, hr, h⟩ := h
    refine ak_iald 0 hr rfl d_X9_estimate_50 ?_
    refine ac_icmp_ge (tgt := 74) d_X9_estimate_51 (by decide) (fun hc => ?_) (fun hc => ?_)
    · have h := h.1 hc
      refine ac_weak [2] rfl ?_
      exact hE74 x2 f h
    · have h := h.2 hc
      refine ac_iload_n 2 d_X9_estimate_54 rfl rfl ?_
      refine ac_aload_n 0 d_X9_estimate_55 rfl rfl ?_
      obtain ⟨o10, hr, h⟩ := h
      refine ak_getf hr fl_X9_13 d_X9_estimate_56 ?_
      refine ac_aload_n 0 d_X9_estimate_59 rfl rfl ?_
      refine ac_iload_n 1 d_X9_estimate_60 rfl rfl ?_
      refine ac_iload_n 3 d_X9_estimate_61 rfl rfl ?_
      obtain ⟨⟨fs, hb⟩, h⟩ := h
      refine ac_callV0 cd_X9_tableOf ml_X9_126 in_X9_tableOf se_X9_tableOf rfl hb (c_X9_tableOf _ _ _ r0 x1 x3 f _ h) rfl rfl (by rw [hro]; decide) rfl (rest := [.ref o10, .int x2]) rfl (Nat.le_of_ble_eq_true rfl) (by rw [hro]; decide) d_X9_estimate_62 (ac_I (fun v12 f11 h => ?_))
      obtain ⟨v13, hr, h⟩ := h
      refine ak_iald 0 hr rfl d_X9_estimate_65 ?_
      refine ac_imul d_X9_estimate_66 ?_
      refine ak_topi (fun v14 ev14 => ?_)
      have h := h v14 ev14
      refine ac_istore_n (lv' := [(2, .int v14), (0, .ref r0), (1, .int x1), (3, .int x3)]) d_X9_estimate_67 rfl (by decide) rfl ?_
      obtain ⟨v15, ev15⟩ : ∃ y : Int32, y = x3 + 1 := ⟨_, rfl⟩
      have h := h v15 ev15
      refine ac_iinc (j := 3) (lv' := [(3, .int v15), (2, .int v14), (0, .ref r0), (1, .int x1)]) d_X9_estimate_68 rfl (by rw [ev15]; rfl) (by decide) rfl ?_
      refine ac_goto (tgt := 44) d_X9_estimate_71 (by decide) ?_
      refine ac_weak [2, 3, 1, 0] rfl ?_
      exact ih v14 v15 f11 h

set_option maxRecDepth 20000 in
set_option maxHeartbeats 4000000 in
theorem c_X9_estimate (l : Launch) (D : va_G) (ki : Nat → ClassId) (r0 : Nat) (x1 : Int32) (f : ac_hp) (Q : Int32 → ac_hp → Prop) (h : wp_X9_estimate ki r0 x1 f Q) : ac_met l D ki y_X9_estimate prog_11_method_22_code 4 (some .int) (ro_ 4 0 0) [.ref r0, .int x1] f (qr_I Q) 0 0 := by
  refine ac_enter (fun ki => wp_X9_estimate ki r0 x1 f Q) (by decide) (Nat.le_of_ble_eq_true rfl) h ?_
  intro x hro hR hnm h
  unfold wp_X9_estimate at h
  refine ac_aload_n 0 d_X9_estimate_0 rfl rfl ?_
  refine ac_iconst (v := 0) d_X9_estimate_1 rfl ?_
  obtain ⟨f1, hr, h⟩ := h
  refine ak_putf hr fp_X9_80 rfl rfl d_X9_estimate_2 ?_
  refine ac_aload_n 0 d_X9_estimate_5 rfl rfl ?_
  obtain ⟨v2, hr, h⟩ := h
  refine ak_getf hr fl_X9_103 d_X9_estimate_6 ?_
  refine ac_if_ne (tgt := 14) d_X9_estimate_9 (by decide) (fun hc => ?_) (fun hc => ?_)
  · have h := h.1 hc
    refine ac_aload_n 0 d_X9_estimate_14 rfl rfl ?_
    obtain ⟨⟨fs, hb⟩, h⟩ := h
    refine ac_callV0 cd_X9_makeUnions ml_X9_122 in_X9_makeUnions se_X9_makeUnions rfl hb (c_X9_makeUnions _ _ _ r0 f1 _ h) rfl rfl (by rw [hro]; decide) rfl (rest := []) rfl (Nat.le_of_ble_eq_true rfl) (by rw [hro]; decide) d_X9_estimate_15 (ac_I (fun v4 f3 h => ?_))
    refine ac_if_ne (tgt := 24) d_X9_estimate_18 (by decide) (fun hc => ?_) (fun hc => ?_)
    · have h := h.1 hc
      refine ac_iload_n 1 d_X9_estimate_24 rfl rfl ?_
      refine ac_iconst (v := 0) d_X9_estimate_25 rfl ?_
      refine ac_aload_n 0 d_X9_estimate_26 rfl rfl ?_
      obtain ⟨v5, hr, h⟩ := h
      refine ak_getf hr fl_X9_112 d_X9_estimate_27 ?_
      refine ac_iconst (v := 1) d_X9_estimate_30 rfl ?_
      refine ac_isub d_X9_estimate_31 ?_
      refine ac_callS0 cd_X9_in ml_X9_84 st_X9_in (c_X9_in _ _ _ x1 0 (v5 - 1) f3 _ h) rfl rfl (by rw [hro]; decide) rfl (rest := []) rfl (Nat.le_of_ble_eq_true rfl) (by rw [hro]; decide) d_X9_estimate_32 (ac_I (fun v7 f6 h => ?_))
      refine ac_if_ne (tgt := 40) d_X9_estimate_35 (by decide) (fun hc => ?_) (fun hc => ?_)
      · have h := h.1 hc
        refine ac_iconst (v := 1) d_X9_estimate_40 rfl ?_
        refine ac_istore_n (lv' := [(2, .int 1), (0, .ref r0), (1, .int x1)]) d_X9_estimate_41 rfl (by decide) rfl ?_
        refine ac_iconst (v := 0) d_X9_estimate_42 rfl ?_
        refine ac_istore_n (lv' := [(3, .int 0), (2, .int 1), (0, .ref r0), (1, .int x1)]) d_X9_estimate_43 rfl (by decide) rfl ?_
        obtain ⟨n16, h⟩ := h
        refine ac_weak [2, 3, 1, 0] rfl ?_
        refine ok_X9_estimate_L44 hro r0 x1 _ (fun y17 f18 h => ?_) n16 1 0 f6 h
        · skip
          refine ac_iload_n 0 d_X9_estimate_74 rfl rfl ?_
          exact ac_ireturn hR rfl ⟨_, rfl, h⟩ (by decide) (by decide) d_X9_estimate_75
      · have h := h.2 hc
        refine ac_iconst (v := -1) d_X9_estimate_38 rfl ?_
        exact ac_ireturn hR rfl ⟨_, rfl, h⟩ (by decide) (by decide) d_X9_estimate_39
    · have h := h.2 hc
      refine ac_bipush (v := -3) d_X9_estimate_21 rfl ?_
      exact ac_ireturn hR rfl ⟨_, rfl, h⟩ (by decide) (by decide) d_X9_estimate_23
  · have h := h.2 hc
    refine ac_iconst (v := -1) d_X9_estimate_12 rfl ?_
    exact ac_ireturn hR rfl ⟨_, rfl, h⟩ (by decide) (by decide) d_X9_estimate_13

def wp_X9_run_L31 (ki : Nat → ClassId) (r0 : Nat) (E50 : ac_hp → Prop) : Nat → Int32 → ac_hp → Prop
  | 0, _, _ => False
  | n + 1, x1, f => ((6 ≤ x1 → E50  f) ∧ (¬ 6 ≤ x1 → ∃ o6 : Nat, hr_f f r0 9 24 (.ref o6) ∧ ∃ f7 : ac_hp, hw_i (ki 1) f o6 x1 (vp_nar .boolean 0) f7 ∧ ∀ v8 : Int32, v8 = x1 + 1 → wp_X9_run_L31 ki r0 E50 n v8 f7))

def wp_X9_run_L52 (ki : Nat → ClassId) (r0 : Nat) (E91 : ac_hp → Prop) : Nat → Int32 → ac_hp → Prop
  | 0, _, _ => False
  | n + 1, x1, f => ∃ v11 : Int32, hr_f f r0 9 9 (.int v11) ∧ (((2 * v11) ≤ x1 → E91  f) ∧ (¬ (2 * v11) ≤ x1 → ∃ o12 : Nat, hr_f f r0 9 11 (.ref o12) ∧ ∃ v13 : Int32, hr_i (ki 0) f o12 x1 v13 ∧ ((0 ≤ v13 → ∀ v14 : Int32, v14 = x1 + 1 → wp_X9_run_L52 ki r0 E91 n v14 f) ∧ (¬ 0 ≤ v13 → ∃ o15 : Nat, hr_f f r0 9 24 (.ref o15) ∧ ∃ o16 : Nat, hr_f f r0 9 11 (.ref o16) ∧ ∃ v17 : Int32, hr_i (ki 0) f o16 x1 v17 ∧ ∃ f18 : ac_hp, hw_i (ki 1) f o15 ((-1) - v17) (vp_nar .boolean 1) f18 ∧ ∀ v19 : Int32, v19 = x1 + 1 → wp_X9_run_L52 ki r0 E91 n v19 f18))))

def wp_X9_run_L93 (ki : Nat → ClassId) (r0 : Nat) (E122 : ac_hp → Prop) : Nat → Int32 → ac_hp → Prop
  | 0, _, _ => False
  | n + 1, x1, f => ∃ v22 : Int32, hr_f f r0 9 16 (.int v22) ∧ ((v22 ≤ x1 → E122  f) ∧ (¬ v22 ≤ x1 → ∃ v23 : Int32, hr_f f r0 9 23 (.int v23) ∧ ((300 < v23 → E122  f) ∧ (¬ 300 < v23 → hr_o f r0 9 ∧ wp_X9_find ki r0 x1 f (fun f24 => ∀ v25 : Int32, v25 = x1 + 1 → wp_X9_run_L93 ki r0 E122 n v25 f24)))))

def wp_X9_run (ki : Nat → ClassId) (r0 : Nat) (f : ac_hp) (Q : Int32 → ac_hp → Prop) : Prop := ∃ f1 : ac_hp, hw_f f r0 9 0 (.int 0) f1 ∧ ∃ f2 : ac_hp, hw_f f1 r0 9 23 (.int 0) f2 ∧ ∃ v3 : Int32, hr_f f2 r0 9 9 (.int v3) ∧ ((¬ v3 = 0 → hr_o f2 r0 9 ∧ wp_X9_makeUnions ki r0 f2 (fun v5 f4 => ((¬ v5 = 0 → ∃ n9 : Nat, wp_X9_run_L31 ki r0 (fun f10 => ∃ n20 : Nat, wp_X9_run_L52 ki r0 (fun f21 => ∃ n26 : Nat, wp_X9_run_L93 ki r0 (fun f27 => ∃ v28 : Int32, hr_f f27 r0 9 23 (.int v28) ∧ ((v28 ≤ 300 → ∃ v29 : Int32, hr_f f27 r0 9 23 (.int v29) ∧ Q v29 f27) ∧ (¬ v28 ≤ 300 → ∃ f30 : ac_hp, hw_f f27 r0 9 23 (.int 0) f30 ∧ Q (-3) f30))) n26 0 f21) n20 0 f10) n9 0 f4) ∧ (v5 = 0 → Q (-3) f4)))) ∧ (v3 = 0 → Q (-1) f2))

set_option maxRecDepth 20000 in
set_option maxHeartbeats 4000000 in
theorem ok_X9_run_L31 {x : ac_X} (hro : ac_R x = (ro_ 4 0 0)) (r0 : Nat) (E50 : ac_hp → Prop) (hE50 : ∀ (f : ac_hp), E50 f → ac_At (prog_11_method_27_code, 2, "VirtualRewriteModel") x 0 0 50 [(0, .ref r0)] [] f) : ∀ (n : Nat) (x1 : Int32) (f : ac_hp), wp_X9_run_L31 (ac_ki x) r0 E50 n x1 f → ac_At (prog_11_method_27_code, 2, "VirtualRewriteModel") x 0 0 31 [(0, .ref r0), (1, .int x1)] [] f := by
  intro n
  induction n with
  | zero => intro _ _ h; exact h.elim
  | succ n ih =>
    intro x1 f h
    rw [wp_X9_run_L31] at h
    refine ac_iload_n 1 d_X9_run_31 rfl rfl ?_
    refine ac_bipush (v := 6) d_X9_run_32 rfl ?_
    refine ac_icmp_ge (tgt := 50) d_X9_run_34 (by decide) (fun hc => ?_) (fun hc => ?_)
    · have h := h.1 hc
      refine ac_weak [0] rfl ?_
      exact hE50  f h
    · have h := h.2 hc
      refine ac_aload_n 0 d_X9_run_37 rfl rfl ?_
      obtain ⟨o6, hr, h⟩ := h
      refine ak_getf hr fl_X9_65 d_X9_run_38 ?_
      refine ac_iload_n 1 d_X9_run_41 rfl rfl ?_
      refine ac_iconst (v := 0) d_X9_run_42 rfl ?_
      obtain ⟨f7, hr, h⟩ := h
      refine ak_zast 1 hr rfl d_X9_run_43 ?_
      obtain ⟨v8, ev8⟩ : ∃ y : Int32, y = x1 + 1 := ⟨_, rfl⟩
      have h := h v8 ev8
      refine ac_iinc (j := 1) (lv' := [(1, .int v8), (0, .ref r0)]) d_X9_run_44 rfl (by rw [ev8]; rfl) (by decide) rfl ?_
      refine ac_goto (tgt := 31) d_X9_run_47 (by decide) ?_
      refine ac_weak [1, 0] rfl ?_
      exact ih v8 f7 h

set_option maxRecDepth 20000 in
set_option maxHeartbeats 4000000 in
theorem ok_X9_run_L52 {x : ac_X} (hro : ac_R x = (ro_ 4 0 0)) (r0 : Nat) (E91 : ac_hp → Prop) (hE91 : ∀ (f : ac_hp), E91 f → ac_At (prog_11_method_27_code, 2, "VirtualRewriteModel") x 0 0 91 [(0, .ref r0)] [] f) : ∀ (n : Nat) (x1 : Int32) (f : ac_hp), wp_X9_run_L52 (ac_ki x) r0 E91 n x1 f → ac_At (prog_11_method_27_code, 2, "VirtualRewriteModel") x 0 0 52 [(0, .ref r0), (1, .int x1)] [] f := by
  intro n
  induction n with
  | zero => intro _ _ h; exact h.elim
  | succ n ih =>
    intro x1 f h
    rw [wp_X9_run_L52] at h
    refine ac_iload_n 1 d_X9_run_52 rfl rfl ?_
    refine ac_iconst (v := 2) d_X9_run_53 rfl ?_
    refine ac_aload_n 0 d_X9_run_54 rfl rfl ?_
    obtain ⟨v11, hr, h⟩ := h
    refine ak_getf hr fl_X9_103 d_X9_run_55 ?_
    refine ac_imul d_X9_run_58 ?_
    refine ac_icmp_ge (tgt := 91) d_X9_run_59 (by decide) (fun hc => ?_) (fun hc => ?_)
    · have h := h.1 hc
      refine ac_weak [0] rfl ?_
      exact hE91  f h
    · have h := h.2 hc
      refine ac_aload_n 0 d_X9_run_62 rfl rfl ?_
      obtain ⟨o12, hr, h⟩ := h
      refine ak_getf hr fl_X9_35 d_X9_run_63 ?_
      refine ac_iload_n 1 d_X9_run_66 rfl rfl ?_
      obtain ⟨v13, hr, h⟩ := h
      refine ak_iald 0 hr rfl d_X9_run_67 ?_
      refine ac_if_ge (tgt := 85) d_X9_run_68 (by decide) (fun hc => ?_) (fun hc => ?_)
      · have h := h.1 hc
        obtain ⟨v14, ev14⟩ : ∃ y : Int32, y = x1 + 1 := ⟨_, rfl⟩
        have h := h v14 ev14
        refine ac_iinc (j := 1) (lv' := [(1, .int v14), (0, .ref r0)]) d_X9_run_85 rfl (by rw [ev14]; rfl) (by decide) rfl ?_
        refine ac_goto (tgt := 52) d_X9_run_88 (by decide) ?_
        refine ac_weak [1, 0] rfl ?_
        exact ih v14 f h
      · have h := h.2 hc
        refine ac_aload_n 0 d_X9_run_71 rfl rfl ?_
        obtain ⟨o15, hr, h⟩ := h
        refine ak_getf hr fl_X9_65 d_X9_run_72 ?_
        refine ac_iconst (v := -1) d_X9_run_75 rfl ?_
        refine ac_aload_n 0 d_X9_run_76 rfl rfl ?_
        obtain ⟨o16, hr, h⟩ := h
        refine ak_getf hr fl_X9_35 d_X9_run_77 ?_
        refine ac_iload_n 1 d_X9_run_80 rfl rfl ?_
        obtain ⟨v17, hr, h⟩ := h
        refine ak_iald 0 hr rfl d_X9_run_81 ?_
        refine ac_isub d_X9_run_82 ?_
        refine ac_iconst (v := 1) d_X9_run_83 rfl ?_
        obtain ⟨f18, hr, h⟩ := h
        refine ak_zast 1 hr rfl d_X9_run_84 ?_
        obtain ⟨v19, ev19⟩ : ∃ y : Int32, y = x1 + 1 := ⟨_, rfl⟩
        have h := h v19 ev19
        refine ac_iinc (j := 1) (lv' := [(1, .int v19), (0, .ref r0)]) d_X9_run_85 rfl (by rw [ev19]; rfl) (by decide) rfl ?_
        refine ac_goto (tgt := 52) d_X9_run_88 (by decide) ?_
        refine ac_weak [1, 0] rfl ?_
        exact ih v19 f18 h

set_option maxRecDepth 20000 in
set_option maxHeartbeats 4000000 in
theorem ok_X9_run_L93 {x : ac_X} (hro : ac_R x = (ro_ 4 0 0)) (r0 : Nat) (E122 : ac_hp → Prop) (hE122 : ∀ (f : ac_hp), E122 f → ac_At (prog_11_method_27_code, 2, "VirtualRewriteModel") x 0 0 122 [(0, .ref r0)] [] f) : ∀ (n : Nat) (x1 : Int32) (f : ac_hp), wp_X9_run_L93 (ac_ki x) r0 E122 n x1 f → ac_At (prog_11_method_27_code, 2, "VirtualRewriteModel") x 0 0 93 [(0, .ref r0), (1, .int x1)] [] f := by
  intro n
  induction n with
  | zero => intro _ _ h; exact h.elim
  | succ n ih =>
    intro x1 f h
    rw [wp_X9_run_L93] at h
    refine ac_iload_n 1 d_X9_run_93 rfl rfl ?_
    refine ac_aload_n 0 d_X9_run_94 rfl rfl ?_
    obtain ⟨v22, hr, h⟩ := h
    refine ak_getf hr fl_X9_112 d_X9_run_95 ?_
    refine ac_icmp_ge (tgt := 122) d_X9_run_98 (by decide) (fun hc => ?_) (fun hc => ?_)
    · have h := h.1 hc
      refine ac_weak [0] rfl ?_
      exact hE122  f h
    · have h := h.2 hc
      refine ac_aload_n 0 d_X9_run_101 rfl rfl ?_
      obtain ⟨v23, hr, h⟩ := h
      refine ak_getf hr fl_X9_130 d_X9_run_102 ?_
      refine ac_sipush (v := 300) d_X9_run_105 rfl ?_
      refine ac_icmp_gt (tgt := 122) d_X9_run_108 (by decide) (fun hc => ?_) (fun hc => ?_)
      · have h := h.1 hc
        refine ac_weak [0] rfl ?_
        exact hE122  f h
      · have h := h.2 hc
        refine ac_aload_n 0 d_X9_run_111 rfl rfl ?_
        refine ac_iload_n 1 d_X9_run_112 rfl rfl ?_
        obtain ⟨⟨fs, hb⟩, h⟩ := h
        refine ac_callV0 cd_X9_find ml_X9_144 in_X9_find se_X9_find rfl hb (c_X9_find _ _ _ r0 x1 f _ h) rfl rfl (by rw [hro]; decide) rfl (rest := []) rfl (Nat.le_of_ble_eq_true rfl) (by rw [hro]; decide) d_X9_run_113 (ac_V (fun f24 h => ?_))
        obtain ⟨v25, ev25⟩ : ∃ y : Int32, y = x1 + 1 := ⟨_, rfl⟩
        have h := h v25 ev25
        refine ac_iinc (j := 1) (lv' := [(1, .int v25), (0, .ref r0)]) d_X9_run_116 rfl (by rw [ev25]; rfl) (by decide) rfl ?_
        refine ac_goto (tgt := 93) d_X9_run_119 (by decide) ?_
        refine ac_weak [1, 0] rfl ?_
        exact ih v25 f24 h

set_option maxRecDepth 20000 in
set_option maxHeartbeats 4000000 in
theorem c_X9_run (l : Launch) (D : va_G) (ki : Nat → ClassId) (r0 : Nat) (f : ac_hp) (Q : Int32 → ac_hp → Prop) (h : wp_X9_run ki r0 f Q) : ac_met l D ki y_X9_run prog_11_method_27_code 2 (some .int) (ro_ 4 0 0) [.ref r0] f (qr_I Q) 0 0 := by
  refine ac_enter (fun ki => wp_X9_run ki r0 f Q) (by decide) (Nat.le_of_ble_eq_true rfl) h ?_
  intro x hro hR hnm h
  unfold wp_X9_run at h
  refine ac_aload_n 0 d_X9_run_0 rfl rfl ?_
  refine ac_iconst (v := 0) d_X9_run_1 rfl ?_
  obtain ⟨f1, hr, h⟩ := h
  refine ak_putf hr fp_X9_80 rfl rfl d_X9_run_2 ?_
  refine ac_aload_n 0 d_X9_run_5 rfl rfl ?_
  refine ac_iconst (v := 0) d_X9_run_6 rfl ?_
  obtain ⟨f2, hr, h⟩ := h
  refine ak_putf hr fp_X9_130 rfl rfl d_X9_run_7 ?_
  refine ac_aload_n 0 d_X9_run_10 rfl rfl ?_
  obtain ⟨v3, hr, h⟩ := h
  refine ak_getf hr fl_X9_103 d_X9_run_11 ?_
  refine ac_if_ne (tgt := 19) d_X9_run_14 (by decide) (fun hc => ?_) (fun hc => ?_)
  · have h := h.1 hc
    refine ac_aload_n 0 d_X9_run_19 rfl rfl ?_
    obtain ⟨⟨fs, hb⟩, h⟩ := h
    refine ac_callV0 cd_X9_makeUnions ml_X9_122 in_X9_makeUnions se_X9_makeUnions rfl hb (c_X9_makeUnions _ _ _ r0 f2 _ h) rfl rfl (by rw [hro]; decide) rfl (rest := []) rfl (Nat.le_of_ble_eq_true rfl) (by rw [hro]; decide) d_X9_run_20 (ac_I (fun v5 f4 h => ?_))
    refine ac_if_ne (tgt := 29) d_X9_run_23 (by decide) (fun hc => ?_) (fun hc => ?_)
    · have h := h.1 hc
      refine ac_iconst (v := 0) d_X9_run_29 rfl ?_
      refine ac_istore_n (lv' := [(1, .int 0), (0, .ref r0)]) d_X9_run_30 rfl (by decide) rfl ?_
      obtain ⟨n9, h⟩ := h
      refine ac_weak [1, 0] rfl ?_
      refine ok_X9_run_L31 hro r0 _ (fun f10 h => ?_) n9 0 f4 h
      · skip
        refine ac_iconst (v := 0) d_X9_run_50 rfl ?_
        refine ac_istore_n (lv' := [(1, .int 0), (0, .ref r0)]) d_X9_run_51 rfl (by decide) rfl ?_
        obtain ⟨n20, h⟩ := h
        refine ac_weak [1, 0] rfl ?_
        refine ok_X9_run_L52 hro r0 _ (fun f21 h => ?_) n20 0 f10 h
        · skip
          refine ac_iconst (v := 0) d_X9_run_91 rfl ?_
          refine ac_istore_n (lv' := [(1, .int 0), (0, .ref r0)]) d_X9_run_92 rfl (by decide) rfl ?_
          obtain ⟨n26, h⟩ := h
          refine ac_weak [1, 0] rfl ?_
          refine ok_X9_run_L93 hro r0 _ (fun f27 h => ?_) n26 0 f21 h
          · skip
            refine ac_aload_n 0 d_X9_run_122 rfl rfl ?_
            obtain ⟨v28, hr, h⟩ := h
            refine ak_getf hr fl_X9_130 d_X9_run_123 ?_
            refine ac_sipush (v := 300) d_X9_run_126 rfl ?_
            refine ac_icmp_le (tgt := 140) d_X9_run_129 (by decide) (fun hc => ?_) (fun hc => ?_)
            · have h := h.1 hc
              refine ac_aload_n 0 d_X9_run_140 rfl rfl ?_
              obtain ⟨v29, hr, h⟩ := h
              refine ak_getf hr fl_X9_130 d_X9_run_141 ?_
              exact ac_ireturn hR rfl ⟨_, rfl, h⟩ (by decide) (by decide) d_X9_run_144
            · have h := h.2 hc
              refine ac_aload_n 0 d_X9_run_132 rfl rfl ?_
              refine ac_iconst (v := 0) d_X9_run_133 rfl ?_
              obtain ⟨f30, hr, h⟩ := h
              refine ak_putf hr fp_X9_130 rfl rfl d_X9_run_134 ?_
              refine ac_bipush (v := -3) d_X9_run_137 rfl ?_
              exact ac_ireturn hR rfl ⟨_, rfl, h⟩ (by decide) (by decide) d_X9_run_139
    · have h := h.2 hc
      refine ac_bipush (v := -3) d_X9_run_26 rfl ?_
      exact ac_ireturn hR rfl ⟨_, rfl, h⟩ (by decide) (by decide) d_X9_run_28
  · have h := h.2 hc
    refine ac_iconst (v := -1) d_X9_run_17 rfl ?_
    exact ac_ireturn hR rfl ⟨_, rfl, h⟩ (by decide) (by decide) d_X9_run_18

