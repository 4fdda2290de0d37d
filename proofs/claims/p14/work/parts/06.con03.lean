def wp_X2_holds_L3 (ki : Nat → ClassId) (r0 : Nat) (x1 : Int32) (x2 : Int32) (x3 : Int32) (Q : Int32 → ac_hp → Prop) (E28 : ac_hp → Prop) : Nat → Int32 → ac_hp → Prop
  | 0, _, _ => False
  | n + 1, x4, f => ((x3 ≤ x4 → E28  f) ∧ (¬ x3 ≤ x4 → hr_o f r0 2 ∧ wp_X2_cell ki r0 x4 x1 f (fun v2 f1 => ((¬ v2 = x2 → ∀ v3 : Int32, v3 = x4 + 1 → wp_X2_holds_L3 ki r0 x1 x2 x3 Q E28 n v3 f1) ∧ (v2 = x2 → Q 1 f1)))))

def wp_X2_holds (ki : Nat → ClassId) (r0 : Nat) (x1 : Int32) (x2 : Int32) (x3 : Int32) (f : ac_hp) (Q : Int32 → ac_hp → Prop) : Prop := ∃ n4 : Nat, wp_X2_holds_L3 ki r0 x1 x2 x3 Q (fun f5 => Q 0 f5) n4 0 f

set_option maxRecDepth 20000 in
set_option maxHeartbeats 4000000 in
theorem ok_X2_holds_L3 {x : ac_X} (hro : ac_R x = (ro_ 2 0 0)) (r0 : Nat) (x1 : Int32) (x2 : Int32) (x3 : Int32) (Q : Int32 → ac_hp → Prop) (hR : ac_rt x (some .boolean) (qr_I Q) 0 0) (E28 : ac_hp → Prop) (hE28 : ∀ (f : ac_hp), E28 f → ac_At (prog_9_method_3_code, 5, "VirtualRewrite$Table") x 0 0 28 [] [] f) : ∀ (n : Nat) (x4 : Int32) (f : ac_hp), wp_X2_holds_L3 (ac_ki x) r0 x1 x2 x3 Q E28 n x4 f → ac_At (prog_9_method_3_code, 5, "VirtualRewrite$Table") x 0 0 3 [(0, .ref r0), (1, .int x1), (2, .int x2), (3, .int x3), (4, .int x4)] [] f := by
  intro n
  induction n with
  | zero => intro _ _ h; exact h.elim
  | succ n ih =>
    intro x4 f h
    rw [wp_X2_holds_L3] at h
    refine ac_iload 4 d_X2_holds_3 rfl ?_
    refine ac_iload_n 3 d_X2_holds_5 rfl rfl ?_
    refine ac_icmp_ge (tgt := 28) d_X2_holds_6 (by decide) (fun hc => ?_) (fun hc => ?_)
    · have h := h.1 hc
      refine ac_weak [] rfl ?_
      exact hE28  f h
    · have h := h.2 hc
      refine ac_aload_n 0 d_X2_holds_9 rfl rfl ?_
      refine ac_iload 4 d_X2_holds_10 rfl ?_
      refine ac_iload_n 1 d_X2_holds_12 rfl rfl ?_
      obtain ⟨⟨fs, hb⟩, h⟩ := h
      refine ac_callV0 cd_X2_cell ml_X2_23 in_X2_cell se_X2_cell rfl hb (c_X2_cell _ _ _ r0 x4 x1 f _ h) rfl rfl (by rw [hro]; decide) rfl (rest := []) rfl (Nat.le_of_ble_eq_true rfl) (by rw [hro]; decide) d_X2_holds_13 (ac_I (fun v2 f1 h => ?_))
      refine ac_iload_n 2 d_X2_holds_16 rfl rfl ?_
      refine ac_icmp_ne (tgt := 22) d_X2_holds_17 (by decide) (fun hc => ?_) (fun hc => ?_)
      · have h := h.1 hc
        obtain ⟨v3, ev3⟩ : ∃ y : Int32, y = x4 + 1 := ⟨_, rfl⟩
        have h := h v3 ev3
        refine ac_iinc (j := 4) (lv' := [(4, .int v3), (0, .ref r0), (1, .int x1), (2, .int x2), (3, .int x3)]) d_X2_holds_22 rfl (by rw [ev3]; rfl) (by decide) rfl ?_
        refine ac_goto (tgt := 3) d_X2_holds_25 (by decide) ?_
        refine ac_weak [1, 2, 3, 4, 0] rfl ?_
        exact ih v3 f1 h
      · have h := h.2 hc
        refine ac_iconst (v := 1) d_X2_holds_20 rfl ?_
        exact ac_ireturn hR rfl ⟨_, rfl, h⟩ (by decide) (by decide) d_X2_holds_21

set_option maxRecDepth 20000 in
set_option maxHeartbeats 4000000 in
theorem c_X2_holds (l : Launch) (D : va_G) (ki : Nat → ClassId) (r0 : Nat) (x1 : Int32) (x2 : Int32) (x3 : Int32) (f : ac_hp) (Q : Int32 → ac_hp → Prop) (h : wp_X2_holds ki r0 x1 x2 x3 f Q) : ac_met l D ki y_X2_holds prog_9_method_3_code 5 (some .boolean) (ro_ 2 0 0) [.ref r0, .int x1, .int x2, .int x3] f (qr_I Q) 0 0 := by
  refine ac_enter (fun ki => wp_X2_holds ki r0 x1 x2 x3 f Q) (by decide) (Nat.le_of_ble_eq_true rfl) h ?_
  intro x hro hR hnm h
  unfold wp_X2_holds at h
  refine ac_iconst (v := 0) d_X2_holds_0 rfl ?_
  refine ac_istore (lv' := [(4, .int 0), (0, .ref r0), (1, .int x1), (2, .int x2), (3, .int x3)]) d_X2_holds_1 (by decide) rfl ?_
  obtain ⟨n4, h⟩ := h
  refine ac_weak [1, 2, 3, 4, 0] rfl ?_
  refine ok_X2_holds_L3 hro r0 x1 x2 x3 Q hR _ (fun f5 h => ?_) n4 0 f h
  · skip
    refine ac_iconst (v := 0) d_X2_holds_28 rfl ?_
    exact ac_ireturn hR rfl ⟨_, rfl, h⟩ (by decide) (by decide) d_X2_holds_29

def wp_X0_drop (ki : Nat → ClassId) (r0 : Nat) (x1 : Int32) (x2 : Int32) (f : ac_hp) (Q : Int32 → ac_hp → Prop) : Prop := wp_X0_isBelow ki x1 4 f (fun v2 f1 => ((v2 = 0 → Q (-1) f1) ∧ (¬ v2 = 0 → ∃ o3 : Nat, hr_f f1 r0 0 0 (.ref o3) ∧ ∃ o4 : Nat, hr_f f1 o3 1 0 (.ref o4) ∧ ∃ o5 : Nat, hr_q (ki 3) f1 o4 x1 o5 ∧ ∃ v6 : Int32, hr_f f1 o5 2 2 (.int v6) ∧ wp_X0_isBelow ki x2 v6 f1 (fun v8 f7 => ((¬ v8 = 0 → ∃ o9 : Nat, hr_f f7 r0 0 0 (.ref o9) ∧ ∃ o10 : Nat, hr_f f7 o9 1 0 (.ref o10) ∧ ∃ o11 : Nat, hr_q (ki 3) f7 o10 x1 o11 ∧ hr_o f7 o11 2 ∧ wp_X2_remove ki o11 x2 f7 (fun f12 => ∃ o13 : Nat, hr_f f12 r0 0 0 (.ref o13) ∧ ∃ o14 : Nat, hr_f f12 o13 1 0 (.ref o14) ∧ ∃ o15 : Nat, hr_q (ki 3) f12 o14 x1 o15 ∧ ∃ v16 : Int32, hr_f f12 o15 2 2 (.int v16) ∧ Q v16 f12)) ∧ (v8 = 0 → Q (-1) f7))))))

set_option maxRecDepth 20000 in
set_option maxHeartbeats 4000000 in
theorem c_X0_drop (l : Launch) (D : va_G) (ki : Nat → ClassId) (r0 : Nat) (x1 : Int32) (x2 : Int32) (f : ac_hp) (Q : Int32 → ac_hp → Prop) (h : wp_X0_drop ki r0 x1 x2 f Q) : ac_met l D ki y_X0_drop prog_1_method_4_code 3 (some .int) (ro_ 2 0 0) [.ref r0, .int x1, .int x2] f (qr_I Q) 0 0 := by
  refine ac_enter (fun ki => wp_X0_drop ki r0 x1 x2 f Q) (by decide) (Nat.le_of_ble_eq_true rfl) h ?_
  intro x hro hR hnm h
  unfold wp_X0_drop at h
  refine ac_iload_n 1 d_X0_drop_0 rfl rfl ?_
  refine ac_iconst (v := 4) d_X0_drop_1 rfl ?_
  refine ac_callS0 cd_X0_isBelow ml_X0_57 st_X0_isBelow (c_X0_isBelow _ _ _ x1 4 f _ h) rfl rfl (by rw [hro]; decide) rfl (rest := []) rfl (Nat.le_of_ble_eq_true rfl) (by rw [hro]; decide) d_X0_drop_2 (ac_I (fun v2 f1 h => ?_))
  refine ac_if_eq (tgt := 27) d_X0_drop_5 (by decide) (fun hc => ?_) (fun hc => ?_)
  · have h := h.1 hc
    refine ac_iconst (v := -1) d_X0_drop_27 rfl ?_
    exact ac_ireturn hR rfl ⟨_, rfl, h⟩ (by decide) (by decide) d_X0_drop_28
  · have h := h.2 hc
    refine ac_iload_n 2 d_X0_drop_8 rfl rfl ?_
    refine ac_aload_n 0 d_X0_drop_9 rfl rfl ?_
    obtain ⟨o3, hr, h⟩ := h
    refine ak_getf hr fl_X0_12 d_X0_drop_10 ?_
    obtain ⟨o4, hr, h⟩ := h
    refine ak_getf hr fl_X0_61 d_X0_drop_13 ?_
    refine ac_iload_n 1 d_X0_drop_16 rfl rfl ?_
    obtain ⟨o5, hr, h⟩ := h
    refine ak_aald 3 hr rfl d_X0_drop_17 ?_
    obtain ⟨v6, hr, h⟩ := h
    refine ak_getf hr fl_X0_78 d_X0_drop_18 ?_
    refine ac_callS0 cd_X0_isBelow ml_X0_57 st_X0_isBelow (c_X0_isBelow _ _ _ x2 v6 f1 _ h) rfl rfl (by rw [hro]; decide) rfl (rest := []) rfl (Nat.le_of_ble_eq_true rfl) (by rw [hro]; decide) d_X0_drop_21 (ac_I (fun v8 f7 h => ?_))
    refine ac_if_ne (tgt := 29) d_X0_drop_24 (by decide) (fun hc => ?_) (fun hc => ?_)
    · have h := h.1 hc
      refine ac_aload_n 0 d_X0_drop_29 rfl rfl ?_
      obtain ⟨o9, hr, h⟩ := h
      refine ak_getf hr fl_X0_12 d_X0_drop_30 ?_
      obtain ⟨o10, hr, h⟩ := h
      refine ak_getf hr fl_X0_61 d_X0_drop_33 ?_
      refine ac_iload_n 1 d_X0_drop_36 rfl rfl ?_
      obtain ⟨o11, hr, h⟩ := h
      refine ak_aald 3 hr rfl d_X0_drop_37 ?_
      refine ac_iload_n 2 d_X0_drop_38 rfl rfl ?_
      obtain ⟨⟨fs, hb⟩, h⟩ := h
      refine ac_callV0 cd_X2_remove ml_X0_86 in_X2_remove se_X2_remove rfl hb (c_X2_remove _ _ _ o11 x2 f7 _ h) rfl rfl (by rw [hro]; decide) rfl (rest := []) rfl (Nat.le_of_ble_eq_true rfl) (by rw [hro]; decide) d_X0_drop_39 (ac_V (fun f12 h => ?_))
      refine ac_aload_n 0 d_X0_drop_42 rfl rfl ?_
      obtain ⟨o13, hr, h⟩ := h
      refine ak_getf hr fl_X0_12 d_X0_drop_43 ?_
      obtain ⟨o14, hr, h⟩ := h
      refine ak_getf hr fl_X0_61 d_X0_drop_46 ?_
      refine ac_iload_n 1 d_X0_drop_49 rfl rfl ?_
      obtain ⟨o15, hr, h⟩ := h
      refine ak_aald 3 hr rfl d_X0_drop_50 ?_
      obtain ⟨v16, hr, h⟩ := h
      refine ak_getf hr fl_X0_78 d_X0_drop_51 ?_
      exact ac_ireturn hR rfl ⟨_, rfl, h⟩ (by decide) (by decide) d_X0_drop_54
    · have h := h.2 hc
      refine ac_iconst (v := -1) d_X0_drop_27 rfl ?_
      exact ac_ireturn hR rfl ⟨_, rfl, h⟩ (by decide) (by decide) d_X0_drop_28

def wp_X0_mapping (ki : Nat → ClassId) (r0 : Nat) (x1 : Int32) (x2 : Int32) (x3 : Int32) (x4 : Int32) (x5 : Int32) (x6 : Int32) (f : ac_hp) (Q : Int32 → ac_hp → Prop) : Prop := wp_X0_isBelow ki x1 4 f (fun v2 f1 => ((v2 = 0 → Q (-1) f1) ∧ (¬ v2 = 0 → wp_X0_isBelow ki x2 8 f1 (fun v4 f3 => ((¬ v4 = 0 → wp_X0_isBelow ki x3 6 f3 (fun v6 f5 => ((v6 = 0 → Q (-1) f5) ∧ (¬ v6 = 0 → wp_X0_isBelow ki x4 3 f5 (fun v8 f7 => ((¬ v8 = 0 → wp_X0_isBelow ki x5 6 f7 (fun v10 f9 => ((v10 = 0 → Q (-1) f9) ∧ (¬ v10 = 0 → wp_X0_isBelow ki x6 3 f9 (fun v12 f11 => ((¬ v12 = 0 → ∃ o13 : Nat, hr_f f11 r0 0 0 (.ref o13) ∧ ∃ v14 : Int32, hr_f f11 o13 1 3 (.int v14) ∧ ((v14 < 12 → ∃ o15 : Nat, hr_f f11 r0 0 0 (.ref o15) ∧ ∃ o16 : Nat, hr_f f11 o15 1 1 (.ref o16) ∧ ∃ o17 : Nat, hr_f f11 r0 0 0 (.ref o17) ∧ ∃ v18 : Int32, hr_f f11 o17 1 3 (.int v18) ∧ ∃ o19 : Nat, hr_q (ki 4) f11 o16 v18 o19 ∧ ∃ f20 : ac_hp, hw_f f11 o19 3 2 (.int x1) f20 ∧ ∃ f21 : ac_hp, hw_f f20 o19 3 3 (.int x2) f21 ∧ hr_o f21 o19 3 ∧ wp_X3_describe ki o19 0 x3 x4 f21 (fun f22 => hr_o f22 o19 3 ∧ wp_X3_describe ki o19 1 x5 x6 f22 (fun f23 => ∃ o24 : Nat, hr_f f23 r0 0 0 (.ref o24) ∧ ∃ v25 : Int32, hr_f f23 o24 1 3 (.int v25) ∧ ∃ f26 : ac_hp, hw_f f23 o24 1 3 (.int (v25 + 1)) f26 ∧ ∃ o27 : Nat, hr_f f26 r0 0 2 (.ref o27) ∧ hr_o f26 o27 5 ∧ wp_X5_forget ki o27 f26 (fun f28 => ∃ o29 : Nat, hr_f f28 r0 0 0 (.ref o29) ∧ ∃ v30 : Int32, hr_f f28 o29 1 3 (.int v30) ∧ Q (v30 - 1) f28)))) ∧ (¬ v14 < 12 → Q (-2) f11))) ∧ (v12 = 0 → Q (-1) f11))))))) ∧ (v8 = 0 → Q (-1) f7))))))) ∧ (v4 = 0 → Q (-1) f3))))))

set_option maxRecDepth 20000 in
set_option maxHeartbeats 4000000 in
theorem c_X0_mapping (l : Launch) (D : va_G) (ki : Nat → ClassId) (r0 : Nat) (x1 : Int32) (x2 : Int32) (x3 : Int32) (x4 : Int32) (x5 : Int32) (x6 : Int32) (f : ac_hp) (Q : Int32 → ac_hp → Prop) (h : wp_X0_mapping ki r0 x1 x2 x3 x4 x5 x6 f Q) : ac_met l D ki y_X0_mapping prog_1_method_5_code 8 (some .int) (ro_ 2 0 0) [.ref r0, .int x1, .int x2, .int x3, .int x4, .int x5, .int x6] f (qr_I Q) 0 0 := by
  refine ac_enter (fun ki => wp_X0_mapping ki r0 x1 x2 x3 x4 x5 x6 f Q) (by decide) (Nat.le_of_ble_eq_true rfl) h ?_
  intro x hro hR hnm h
  unfold wp_X0_mapping at h
  refine ac_iload_n 1 d_X0_mapping_0 rfl rfl ?_
  refine ac_iconst (v := 4) d_X0_mapping_1 rfl ?_
  refine ac_callS0 cd_X0_isBelow ml_X0_57 st_X0_isBelow (c_X0_isBelow _ _ _ x1 4 f _ h) rfl rfl (by rw [hro]; decide) rfl (rest := []) rfl (Nat.le_of_ble_eq_true rfl) (by rw [hro]; decide) d_X0_mapping_2 (ac_I (fun v2 f1 h => ?_))
  refine ac_if_eq (tgt := 17) d_X0_mapping_5 (by decide) (fun hc => ?_) (fun hc => ?_)
  · have h := h.1 hc
    refine ac_iconst (v := -1) d_X0_mapping_17 rfl ?_
    exact ac_ireturn hR rfl ⟨_, rfl, h⟩ (by decide) (by decide) d_X0_mapping_18
  · have h := h.2 hc
    refine ac_iload_n 2 d_X0_mapping_8 rfl rfl ?_
    refine ac_bipush (v := 8) d_X0_mapping_9 rfl ?_
    refine ac_callS0 cd_X0_isBelow ml_X0_57 st_X0_isBelow (c_X0_isBelow _ _ _ x2 8 f1 _ h) rfl rfl (by rw [hro]; decide) rfl (rest := []) rfl (Nat.le_of_ble_eq_true rfl) (by rw [hro]; decide) d_X0_mapping_11 (ac_I (fun v4 f3 h => ?_))
    refine ac_if_ne (tgt := 19) d_X0_mapping_14 (by decide) (fun hc => ?_) (fun hc => ?_)
    · have h := h.1 hc
      refine ac_iload_n 3 d_X0_mapping_19 rfl rfl ?_
      refine ac_bipush (v := 6) d_X0_mapping_20 rfl ?_
      refine ac_callS0 cd_X0_isBelow ml_X0_57 st_X0_isBelow (c_X0_isBelow _ _ _ x3 6 f3 _ h) rfl rfl (by rw [hro]; decide) rfl (rest := []) rfl (Nat.le_of_ble_eq_true rfl) (by rw [hro]; decide) d_X0_mapping_22 (ac_I (fun v6 f5 h => ?_))
      refine ac_if_eq (tgt := 37) d_X0_mapping_25 (by decide) (fun hc => ?_) (fun hc => ?_)
      · have h := h.1 hc
        refine ac_iconst (v := -1) d_X0_mapping_37 rfl ?_
        exact ac_ireturn hR rfl ⟨_, rfl, h⟩ (by decide) (by decide) d_X0_mapping_38
      · have h := h.2 hc
        refine ac_iload 4 d_X0_mapping_28 rfl ?_
        refine ac_iconst (v := 3) d_X0_mapping_30 rfl ?_
        refine ac_callS0 cd_X0_isBelow ml_X0_57 st_X0_isBelow (c_X0_isBelow _ _ _ x4 3 f5 _ h) rfl rfl (by rw [hro]; decide) rfl (rest := []) rfl (Nat.le_of_ble_eq_true rfl) (by rw [hro]; decide) d_X0_mapping_31 (ac_I (fun v8 f7 h => ?_))
        refine ac_if_ne (tgt := 39) d_X0_mapping_34 (by decide) (fun hc => ?_) (fun hc => ?_)
        · have h := h.1 hc
          refine ac_iload 5 d_X0_mapping_39 rfl ?_
          refine ac_bipush (v := 6) d_X0_mapping_41 rfl ?_
          refine ac_callS0 cd_X0_isBelow ml_X0_57 st_X0_isBelow (c_X0_isBelow _ _ _ x5 6 f7 _ h) rfl rfl (by rw [hro]; decide) rfl (rest := []) rfl (Nat.le_of_ble_eq_true rfl) (by rw [hro]; decide) d_X0_mapping_43 (ac_I (fun v10 f9 h => ?_))
          refine ac_if_eq (tgt := 58) d_X0_mapping_46 (by decide) (fun hc => ?_) (fun hc => ?_)
          · have h := h.1 hc
            refine ac_iconst (v := -1) d_X0_mapping_58 rfl ?_
            exact ac_ireturn hR rfl ⟨_, rfl, h⟩ (by decide) (by decide) d_X0_mapping_59
          · have h := h.2 hc
            refine ac_iload 6 d_X0_mapping_49 rfl ?_
            refine ac_iconst (v := 3) d_X0_mapping_51 rfl ?_
            refine ac_callS0 cd_X0_isBelow ml_X0_57 st_X0_isBelow (c_X0_isBelow _ _ _ x6 3 f9 _ h) rfl rfl (by rw [hro]; decide) rfl (rest := []) rfl (Nat.le_of_ble_eq_true rfl) (by rw [hro]; decide) d_X0_mapping_52 (ac_I (fun v12 f11 h => ?_))
            refine ac_if_ne (tgt := 60) d_X0_mapping_55 (by decide) (fun hc => ?_) (fun hc => ?_)
            · have h := h.1 hc
              refine ac_aload_n 0 d_X0_mapping_60 rfl rfl ?_
              obtain ⟨o13, hr, h⟩ := h
              refine ak_getf hr fl_X0_12 d_X0_mapping_61 ?_
              obtain ⟨v14, hr, h⟩ := h
              refine ak_getf hr fl_X0_90 d_X0_mapping_64 ?_
              refine ac_bipush (v := 12) d_X0_mapping_67 rfl ?_
              refine ac_icmp_lt (tgt := 75) d_X0_mapping_69 (by decide) (fun hc => ?_) (fun hc => ?_)
              · have h := h.1 hc
                refine ac_aload_n 0 d_X0_mapping_75 rfl rfl ?_
                obtain ⟨o15, hr, h⟩ := h
                refine ak_getf hr fl_X0_12 d_X0_mapping_76 ?_
                obtain ⟨o16, hr, h⟩ := h
                refine ak_getf hr fl_X0_91 d_X0_mapping_79 ?_
                refine ac_aload_n 0 d_X0_mapping_82 rfl rfl ?_
                obtain ⟨o17, hr, h⟩ := h
                refine ak_getf hr fl_X0_12 d_X0_mapping_83 ?_
                obtain ⟨v18, hr, h⟩ := h
                refine ak_getf hr fl_X0_90 d_X0_mapping_86 ?_
                obtain ⟨o19, hr, h⟩ := h
                refine ak_aald 4 hr rfl d_X0_mapping_89 ?_
                refine ac_astore (lv' := [(7, .ref o19), (0, .ref r0), (1, .int x1), (2, .int x2), (3, .int x3), (4, .int x4), (5, .int x5), (6, .int x6)]) d_X0_mapping_90 (by decide) rfl ?_
                refine ac_aload 0 d_X0_mapping_92 rfl ?_
                refine ac_iload_n 2 d_X0_mapping_94 rfl rfl ?_
                obtain ⟨f20, hr, h⟩ := h
                refine ak_putf hr fp_X0_95 rfl rfl d_X0_mapping_95 ?_
                refine ac_aload 0 d_X0_mapping_98 rfl ?_
                refine ac_iload_n 3 d_X0_mapping_100 rfl rfl ?_
                obtain ⟨f21, hr, h⟩ := h
                refine ak_putf hr fp_X0_100 rfl rfl d_X0_mapping_101 ?_
                refine ac_aload 0 d_X0_mapping_104 rfl ?_
                refine ac_iconst (v := 0) d_X0_mapping_106 rfl ?_
                refine ac_iload_n 4 d_X0_mapping_107 rfl rfl ?_
                refine ac_iload 5 d_X0_mapping_108 rfl ?_
                obtain ⟨⟨fs, hb⟩, h⟩ := h
                refine ac_callV0 cd_X3_describe ml_X0_103 in_X3_describe se_X3_describe rfl hb (c_X3_describe _ _ _ o19 0 x3 x4 f21 _ h) rfl rfl (by rw [hro]; decide) rfl (rest := []) rfl (Nat.le_of_ble_eq_true rfl) (by rw [hro]; decide) d_X0_mapping_110 (ac_V (fun f22 h => ?_))
                refine ac_aload 0 d_X0_mapping_113 rfl ?_
                refine ac_iconst (v := 1) d_X0_mapping_115 rfl ?_
                refine ac_iload 6 d_X0_mapping_116 rfl ?_
                refine ac_iload 7 d_X0_mapping_118 rfl ?_
                obtain ⟨⟨fs, hb⟩, h⟩ := h
                refine ac_callV0 cd_X3_describe ml_X0_103 in_X3_describe se_X3_describe rfl hb (c_X3_describe _ _ _ o19 1 x5 x6 f22 _ h) rfl rfl (by rw [hro]; decide) rfl (rest := []) rfl (Nat.le_of_ble_eq_true rfl) (by rw [hro]; decide) d_X0_mapping_120 (ac_V (fun f23 h => ?_))
                refine ac_aload_n 1 d_X0_mapping_123 rfl rfl ?_
                obtain ⟨o24, hr, h⟩ := h
                refine ak_getf hr fl_X0_12 d_X0_mapping_124 ?_
                refine ac_dup d_X0_mapping_127 rfl ?_
                obtain ⟨v25, hr, h⟩ := h
                refine ak_getf hr fl_X0_90 d_X0_mapping_128 ?_
                refine ac_iconst (v := 1) d_X0_mapping_131 rfl ?_
                refine ac_iadd d_X0_mapping_132 ?_
                obtain ⟨f26, hr, h⟩ := h
                refine ak_putf hr fp_X0_90 rfl rfl d_X0_mapping_133 ?_
                refine ac_aload_n 1 d_X0_mapping_136 rfl rfl ?_
                obtain ⟨o27, hr, h⟩ := h
                refine ak_getf hr fl_X0_28 d_X0_mapping_137 ?_
                obtain ⟨⟨fs, hb⟩, h⟩ := h
                refine ac_callV0 cd_X5_forget ml_X0_106 in_X5_forget se_X5_forget rfl hb (c_X5_forget _ _ _ o27 f26 _ h) rfl rfl (by rw [hro]; decide) rfl (rest := []) rfl (Nat.le_of_ble_eq_true rfl) (by rw [hro]; decide) d_X0_mapping_140 (ac_V (fun f28 h => ?_))
                refine ac_aload_n 1 d_X0_mapping_143 rfl rfl ?_
                obtain ⟨o29, hr, h⟩ := h
                refine ak_getf hr fl_X0_12 d_X0_mapping_144 ?_
                obtain ⟨v30, hr, h⟩ := h
                refine ak_getf hr fl_X0_90 d_X0_mapping_147 ?_
                refine ac_iconst (v := 1) d_X0_mapping_150 rfl ?_
                refine ac_isub d_X0_mapping_151 ?_
                exact ac_ireturn hR rfl ⟨_, rfl, h⟩ (by decide) (by decide) d_X0_mapping_152
              · have h := h.2 hc
                refine ac_bipush (v := -2) d_X0_mapping_72 rfl ?_
                exact ac_ireturn hR rfl ⟨_, rfl, h⟩ (by decide) (by decide) d_X0_mapping_74
            · have h := h.2 hc
              refine ac_iconst (v := -1) d_X0_mapping_58 rfl ?_
              exact ac_ireturn hR rfl ⟨_, rfl, h⟩ (by decide) (by decide) d_X0_mapping_59
        · have h := h.2 hc
          refine ac_iconst (v := -1) d_X0_mapping_37 rfl ?_
          exact ac_ireturn hR rfl ⟨_, rfl, h⟩ (by decide) (by decide) d_X0_mapping_38
    · have h := h.2 hc
      refine ac_iconst (v := -1) d_X0_mapping_17 rfl ?_
      exact ac_ireturn hR rfl ⟨_, rfl, h⟩ (by decide) (by decide) d_X0_mapping_18

def wp_X1_packedTriple_L9 (ki : Nat → ClassId) (r0 : Nat) (r1 : Nat) (x2 : Int32) (E62 : Int64 → ac_hp → Prop) : Nat → Int64 → Int32 → ac_hp → Prop
  | 0, _, _, _ => False
  | n + 1, x3, x5, f => ((2 ≤ x5 → E62 x3 f) ∧ (¬ 2 ≤ x5 → hr_o f r0 1 ∧ wp_X1_tableOf ki r0 r1 f (fun o4 f3 => ∃ o5 : Nat, hr_f f3 r1 3 1 (.ref o5) ∧ ∃ v6 : Int32, hr_i (ki 0) f3 o5 x5 v6 ∧ hr_o f3 o4 2 ∧ wp_X2_cell ki o4 x2 v6 f3 (fun v8 f7 => ∃ o9 : Nat, hr_f f7 r1 3 0 (.ref o9) ∧ ∃ v10 : Int32, hr_i (ki 0) f7 o9 x5 v10 ∧ ∀ v11 : Int64, v11 = ((x3 * 60000) + ((v10 * 10000).toInt64)) + (v8.toInt64) → ∀ v12 : Int32, v12 = x5 + 1 → wp_X1_packedTriple_L9 ki r0 r1 x2 E62 n v11 v12 f7))))

def wp_X1_packedTriple (ki : Nat → ClassId) (r0 : Nat) (r1 : Nat) (x2 : Int32) (f : ac_hp) (Q : Int64 → ac_hp → Prop) : Prop := ∃ v1 : Int32, hr_f f r1 3 3 (.int v1) ∧ ∀ v2 : Int64, v2 = v1.toInt64 → ∃ n13 : Nat, wp_X1_packedTriple_L9 ki r0 r1 x2 (fun y14 f15 => Q y14 f15) n13 v2 0 f

set_option maxRecDepth 20000 in
set_option maxHeartbeats 4000000 in
theorem ok_X1_packedTriple_L9 {x : ac_X} (hro : ac_R x = (ro_ 2 0 0)) (r0 : Nat) (r1 : Nat) (x2 : Int32) (E62 : Int64 → ac_hp → Prop) (hE62 : ∀ (y3 : Int64) (f : ac_hp), E62 y3 f → ac_At (prog_3_method_4_code, 7, "VirtualRewrite$Catalog") x 0 0 62 [(3, .long y3)] [] f) : ∀ (n : Nat) (x3 : Int64) (x5 : Int32) (f : ac_hp), wp_X1_packedTriple_L9 (ac_ki x) r0 r1 x2 E62 n x3 x5 f → ac_At (prog_3_method_4_code, 7, "VirtualRewrite$Catalog") x 0 0 9 [(0, .ref r0), (1, .ref r1), (2, .int x2), (3, .long x3), (5, .int x5)] [] f := by
  intro n
  induction n with
  | zero => intro _ _ _ h; exact h.elim
  | succ n ih =>
    intro x3 x5 f h
    rw [wp_X1_packedTriple_L9] at h
    refine ac_iload 4 d_X1_packedTriple_9 rfl ?_
    refine ac_iconst (v := 2) d_X1_packedTriple_11 rfl ?_
    refine ac_icmp_ge (tgt := 62) d_X1_packedTriple_12 (by decide) (fun hc => ?_) (fun hc => ?_)
    · have h := h.1 hc
      refine ac_weak [3] rfl ?_
      exact hE62 x3 f h
    · have h := h.2 hc
      refine ac_aload_n 0 d_X1_packedTriple_15 rfl rfl ?_
      refine ac_aload_n 1 d_X1_packedTriple_16 rfl rfl ?_
      obtain ⟨⟨fs, hb⟩, h⟩ := h
      refine ac_callV0 cd_X1_tableOf ml_X1_39 in_X1_tableOf se_X1_tableOf rfl hb (c_X1_tableOf _ _ _ r0 r1 f _ h) rfl rfl (by rw [hro]; decide) rfl (rest := []) rfl (Nat.le_of_ble_eq_true rfl) (by rw [hro]; decide) d_X1_packedTriple_17 (ac_Rf (fun o4 f3 h => ?_))
      refine ac_iload_n 2 d_X1_packedTriple_20 rfl rfl ?_
      refine ac_aload_n 1 d_X1_packedTriple_21 rfl rfl ?_
      obtain ⟨o5, hr, h⟩ := h
      refine ak_getf hr fl_X1_55 d_X1_packedTriple_22 ?_
      refine ac_iload 4 d_X1_packedTriple_25 rfl ?_
      obtain ⟨v6, hr, h⟩ := h
      refine ak_iald 0 hr rfl d_X1_packedTriple_27 ?_
      obtain ⟨⟨fs, hb⟩, h⟩ := h
      refine ac_callV0 cd_X2_cell ml_X1_59 in_X2_cell se_X2_cell rfl hb (c_X2_cell _ _ _ o4 x2 v6 f3 _ h) rfl rfl (by rw [hro]; decide) rfl (rest := []) rfl (Nat.le_of_ble_eq_true rfl) (by rw [hro]; decide) d_X1_packedTriple_28 (ac_I (fun v8 f7 h => ?_))
      refine ac_istore (lv' := [(6, .int v8), (0, .ref r0), (1, .ref r1), (2, .int x2), (3, .long x3), (5, .int x5)]) d_X1_packedTriple_31 (by decide) rfl ?_
      refine ac_lload_n 4 d_X1_packedTriple_33 rfl rfl ?_
      refine ac_ldc2 (v := 60000) kl_X1_63 d_X1_packedTriple_34 ?_
      refine ac_lmul d_X1_packedTriple_37 ?_
      refine ac_aload_n 2 d_X1_packedTriple_38 rfl rfl ?_
      obtain ⟨o9, hr, h⟩ := h
      refine ak_getf hr fl_X1_65 d_X1_packedTriple_39 ?_
      refine ac_iload 5 d_X1_packedTriple_42 rfl ?_
      obtain ⟨v10, hr, h⟩ := h
      refine ak_iald 0 hr rfl d_X1_packedTriple_44 ?_
      refine ac_sipush (v := 10000) d_X1_packedTriple_45 rfl ?_
      refine ac_imul d_X1_packedTriple_48 ?_
      refine ac_i2l d_X1_packedTriple_49 ?_
      refine ac_ladd d_X1_packedTriple_50 ?_
      refine ac_iload 0 d_X1_packedTriple_51 rfl ?_
      refine ac_i2l d_X1_packedTriple_53 ?_
      refine ac_ladd d_X1_packedTriple_54 ?_
      refine ak_topl (fun v11 ev11 => ?_)
      have h := h v11 ev11
      refine ac_lstore_n (lv' := [(3, .long v11), (6, .int v8), (0, .ref r0), (1, .ref r1), (2, .int x2), (5, .int x5)]) d_X1_packedTriple_55 rfl (by decide) rfl ?_
      obtain ⟨v12, ev12⟩ : ∃ y : Int32, y = x5 + 1 := ⟨_, rfl⟩
      have h := h v12 ev12
      refine ac_iinc (j := 5) (lv' := [(5, .int v12), (3, .long v11), (6, .int v8), (0, .ref r0), (1, .ref r1), (2, .int x2)]) d_X1_packedTriple_56 rfl (by rw [ev12]; rfl) (by decide) rfl ?_
      refine ac_goto (tgt := 9) d_X1_packedTriple_59 (by decide) ?_
      refine ac_weak [3, 4, 5, 1, 0] rfl ?_
      exact ih v11 v12 f7 h

set_option maxRecDepth 20000 in
set_option maxHeartbeats 4000000 in
theorem c_X1_packedTriple (l : Launch) (D : va_G) (ki : Nat → ClassId) (r0 : Nat) (r1 : Nat) (x2 : Int32) (f : ac_hp) (Q : Int64 → ac_hp → Prop) (h : wp_X1_packedTriple ki r0 r1 x2 f Q) : ac_met l D ki y_X1_packedTriple prog_3_method_4_code 7 (some .long) (ro_ 2 0 0) [.ref r0, .ref r1, .int x2] f (qr_J Q) 0 0 := by
  refine ac_enter (fun ki => wp_X1_packedTriple ki r0 r1 x2 f Q) (by decide) (Nat.le_of_ble_eq_true rfl) h ?_
  intro x hro hR hnm h
  unfold wp_X1_packedTriple at h
  refine ac_aload_n 1 d_X1_packedTriple_0 rfl rfl ?_
  obtain ⟨v1, hr, h⟩ := h
  refine ak_getf hr fl_X1_52 d_X1_packedTriple_1 ?_
  refine ac_i2l d_X1_packedTriple_4 ?_
  refine ak_topl (fun v2 ev2 => ?_)
  have h := h v2 ev2
  refine ac_lstore_n (lv' := [(3, .long v2), (0, .ref r0), (1, .ref r1), (2, .int x2)]) d_X1_packedTriple_5 rfl (by decide) rfl ?_
  refine ac_iconst (v := 0) d_X1_packedTriple_6 rfl ?_
  refine ac_istore (lv' := [(5, .int 0), (3, .long v2), (0, .ref r0), (1, .ref r1), (2, .int x2)]) d_X1_packedTriple_7 (by decide) rfl ?_
  obtain ⟨n13, h⟩ := h
  refine ac_weak [2, 3, 4, 1, 0] rfl ?_
  refine ok_X1_packedTriple_L9 hro r0 r1 x2 _ (fun y14 f15 h => ?_) n13 v2 0 f h
  · skip
    refine ac_lload_n 0 d_X1_packedTriple_62 rfl rfl ?_
    exact ac_lreturn hR ⟨_, rfl, h⟩ (by decide) (by decide) d_X1_packedTriple_63

def wp_X0_atom (ki : Nat → ClassId) (r0 : Nat) (x1 : Int32) (x2 : Int32) (x3 : Int32) (f : ac_hp) (Q : Int32 → ac_hp → Prop) : Prop := wp_X0_isBelow ki x1 8 f (fun v2 f1 => ((v2 = 0 → Q (-1) f1) ∧ (¬ v2 = 0 → wp_X0_isPlace ki x2 f1 (fun v4 f3 => ((v4 = 0 → Q (-1) f3) ∧ (¬ v4 = 0 → wp_X0_isPlace ki x3 f3 (fun v6 f5 => ((¬ v6 = 0 → ∃ o7 : Nat, hr_f f5 r0 0 1 (.ref o7) ∧ ∃ v8 : Int32, hr_f f5 o7 4 4 (.int v8) ∧ ((v8 < 4 → ∃ o9 : Nat, hr_f f5 r0 0 1 (.ref o9) ∧ hr_o f5 o9 4 ∧ wp_X4_append ki o9 x1 x2 x3 f5 (fun f10 => ∃ o11 : Nat, hr_f f10 r0 0 2 (.ref o11) ∧ hr_o f10 o11 5 ∧ wp_X5_forget ki o11 f10 (fun f12 => ∃ o13 : Nat, hr_f f12 r0 0 1 (.ref o13) ∧ ∃ v14 : Int32, hr_f f12 o13 4 4 (.int v14) ∧ Q v14 f12))) ∧ (¬ v8 < 4 → Q (-2) f5))) ∧ (v6 = 0 → Q (-1) f5)))))))))

set_option maxRecDepth 20000 in
set_option maxHeartbeats 4000000 in
theorem c_X0_atom (l : Launch) (D : va_G) (ki : Nat → ClassId) (r0 : Nat) (x1 : Int32) (x2 : Int32) (x3 : Int32) (f : ac_hp) (Q : Int32 → ac_hp → Prop) (h : wp_X0_atom ki r0 x1 x2 x3 f Q) : ac_met l D ki y_X0_atom prog_1_method_7_code 4 (some .int) (ro_ 2 0 0) [.ref r0, .int x1, .int x2, .int x3] f (qr_I Q) 0 0 := by
  refine ac_enter (fun ki => wp_X0_atom ki r0 x1 x2 x3 f Q) (by decide) (Nat.le_of_ble_eq_true rfl) h ?_
  intro x hro hR hnm h
  unfold wp_X0_atom at h
  refine ac_iload_n 1 d_X0_atom_0 rfl rfl ?_
  refine ac_bipush (v := 8) d_X0_atom_1 rfl ?_
  refine ac_callS0 cd_X0_isBelow ml_X0_57 st_X0_isBelow (c_X0_isBelow _ _ _ x1 8 f _ h) rfl rfl (by rw [hro]; decide) rfl (rest := []) rfl (Nat.le_of_ble_eq_true rfl) (by rw [hro]; decide) d_X0_atom_3 (ac_I (fun v2 f1 h => ?_))
  refine ac_if_eq (tgt := 23) d_X0_atom_6 (by decide) (fun hc => ?_) (fun hc => ?_)
  · have h := h.1 hc
    refine ac_iconst (v := -1) d_X0_atom_23 rfl ?_
    exact ac_ireturn hR rfl ⟨_, rfl, h⟩ (by decide) (by decide) d_X0_atom_24
  · have h := h.2 hc
    refine ac_iload_n 2 d_X0_atom_9 rfl rfl ?_
    refine ac_callS0 cd_X0_isPlace ml_X0_113 st_X0_isPlace (c_X0_isPlace _ _ _ x2 f1 _ h) rfl rfl (by rw [hro]; decide) rfl (rest := []) rfl (Nat.le_of_ble_eq_true rfl) (by rw [hro]; decide) d_X0_atom_10 (ac_I (fun v4 f3 h => ?_))
    refine ac_if_eq (tgt := 23) d_X0_atom_13 (by decide) (fun hc => ?_) (fun hc => ?_)
    · have h := h.1 hc
      refine ac_iconst (v := -1) d_X0_atom_23 rfl ?_
      exact ac_ireturn hR rfl ⟨_, rfl, h⟩ (by decide) (by decide) d_X0_atom_24
    · have h := h.2 hc
      refine ac_iload_n 3 d_X0_atom_16 rfl rfl ?_
      refine ac_callS0 cd_X0_isPlace ml_X0_113 st_X0_isPlace (c_X0_isPlace _ _ _ x3 f3 _ h) rfl rfl (by rw [hro]; decide) rfl (rest := []) rfl (Nat.le_of_ble_eq_true rfl) (by rw [hro]; decide) d_X0_atom_17 (ac_I (fun v6 f5 h => ?_))
      refine ac_if_ne (tgt := 25) d_X0_atom_20 (by decide) (fun hc => ?_) (fun hc => ?_)
      · have h := h.1 hc
        refine ac_aload_n 0 d_X0_atom_25 rfl rfl ?_
        obtain ⟨o7, hr, h⟩ := h
        refine ak_getf hr fl_X0_19 d_X0_atom_26 ?_
        obtain ⟨v8, hr, h⟩ := h
        refine ak_getf hr fl_X0_116 d_X0_atom_29 ?_
        refine ac_iconst (v := 4) d_X0_atom_32 rfl ?_
        refine ac_icmp_lt (tgt := 39) d_X0_atom_33 (by decide) (fun hc => ?_) (fun hc => ?_)
        · have h := h.1 hc
          refine ac_aload_n 0 d_X0_atom_39 rfl rfl ?_
          obtain ⟨o9, hr, h⟩ := h
          refine ak_getf hr fl_X0_19 d_X0_atom_40 ?_
          refine ac_iload_n 1 d_X0_atom_43 rfl rfl ?_
          refine ac_iload_n 2 d_X0_atom_44 rfl rfl ?_
          refine ac_iload_n 3 d_X0_atom_45 rfl rfl ?_
          obtain ⟨⟨fs, hb⟩, h⟩ := h
          refine ac_callV0 cd_X4_append ml_X0_119 in_X4_append se_X4_append rfl hb (c_X4_append _ _ _ o9 x1 x2 x3 f5 _ h) rfl rfl (by rw [hro]; decide) rfl (rest := []) rfl (Nat.le_of_ble_eq_true rfl) (by rw [hro]; decide) d_X0_atom_46 (ac_V (fun f10 h => ?_))
          refine ac_aload_n 0 d_X0_atom_49 rfl rfl ?_
          obtain ⟨o11, hr, h⟩ := h
          refine ak_getf hr fl_X0_28 d_X0_atom_50 ?_
          obtain ⟨⟨fs, hb⟩, h⟩ := h
          refine ac_callV0 cd_X5_forget ml_X0_106 in_X5_forget se_X5_forget rfl hb (c_X5_forget _ _ _ o11 f10 _ h) rfl rfl (by rw [hro]; decide) rfl (rest := []) rfl (Nat.le_of_ble_eq_true rfl) (by rw [hro]; decide) d_X0_atom_53 (ac_V (fun f12 h => ?_))
          refine ac_aload_n 0 d_X0_atom_56 rfl rfl ?_
          obtain ⟨o13, hr, h⟩ := h
          refine ak_getf hr fl_X0_19 d_X0_atom_57 ?_
          obtain ⟨v14, hr, h⟩ := h
          refine ak_getf hr fl_X0_116 d_X0_atom_60 ?_
          exact ac_ireturn hR rfl ⟨_, rfl, h⟩ (by decide) (by decide) d_X0_atom_63
        · have h := h.2 hc
          refine ac_bipush (v := -2) d_X0_atom_36 rfl ?_
          exact ac_ireturn hR rfl ⟨_, rfl, h⟩ (by decide) (by decide) d_X0_atom_38
      · have h := h.2 hc
        refine ac_iconst (v := -1) d_X0_atom_23 rfl ?_
        exact ac_ireturn hR rfl ⟨_, rfl, h⟩ (by decide) (by decide) d_X0_atom_24

def wp_X4_narrow (ki : Nat → ClassId) (r0 : Nat) (x1 : Int32) (x2 : Int32) (x3 : Int32) (f : ac_hp) (Q : ac_hp → Prop) : Prop := ∃ o1 : Nat, hr_f f r0 4 2 (.ref o1) ∧ ∃ o2 : Nat, hr_f f r0 4 2 (.ref o2) ∧ ∃ v3 : Int32, hr_i (ki 0) f o2 x1 v3 ∧ wp_JMath_max ki v3 x2 f (fun v5 f4 => ∃ f6 : ac_hp, hw_i (ki 0) f4 o1 x1 v5 f6 ∧ ∃ o7 : Nat, hr_f f6 r0 4 3 (.ref o7) ∧ ∃ o8 : Nat, hr_f f6 r0 4 3 (.ref o8) ∧ ∃ v9 : Int32, hr_i (ki 0) f6 o8 x1 v9 ∧ wp_JMath_min ki v9 x3 f6 (fun v11 f10 => ∃ f12 : ac_hp, hw_i (ki 0) f10 o7 x1 v11 f12 ∧ ∃ v13 : Int32, hr_f f12 r0 4 5 (.int v13) ∧ ∃ f14 : ac_hp, hw_f f12 r0 4 5 (.int (v13 + 1)) f14 ∧ Q f14))

set_option maxRecDepth 20000 in
set_option maxHeartbeats 4000000 in
theorem c_X4_narrow (l : Launch) (D : va_G) (ki : Nat → ClassId) (r0 : Nat) (x1 : Int32) (x2 : Int32) (x3 : Int32) (f : ac_hp) (Q : ac_hp → Prop) (h : wp_X4_narrow ki r0 x1 x2 x3 f Q) : ac_met l D ki y_X4_narrow prog_6_method_3_code 4 none (ro_ 2 0 0) [.ref r0, .int x1, .int x2, .int x3] f (qr_V Q) 0 0 := by
  refine ac_enter (fun ki => wp_X4_narrow ki r0 x1 x2 x3 f Q) (by decide) (Nat.le_of_ble_eq_true rfl) h ?_
  intro x hro hR hnm h
  unfold wp_X4_narrow at h
  refine ac_aload_n 0 d_X4_narrow_0 rfl rfl ?_
  obtain ⟨o1, hr, h⟩ := h
  refine ak_getf hr fl_X4_18 d_X4_narrow_1 ?_
  refine ac_iload_n 1 d_X4_narrow_4 rfl rfl ?_
  refine ac_aload_n 0 d_X4_narrow_5 rfl rfl ?_
  obtain ⟨o2, hr, h⟩ := h
  refine ak_getf hr fl_X4_18 d_X4_narrow_6 ?_
  refine ac_iload_n 1 d_X4_narrow_9 rfl rfl ?_
  obtain ⟨v3, hr, h⟩ := h
  refine ak_iald 0 hr rfl d_X4_narrow_10 ?_
  refine ac_iload_n 2 d_X4_narrow_11 rfl rfl ?_
  refine ac_callS0 cd_JMath_max ml_X4_31 st_JMath_max (c_JMath_max _ _ _ v3 x2 f _ h) rfl rfl (by rw [hro]; decide) rfl (rest := [.int x1, .ref o1]) rfl (Nat.le_of_ble_eq_true rfl) (by rw [hro]; decide) d_X4_narrow_12 (ac_I (fun v5 f4 h => ?_))
  obtain ⟨f6, hr, h⟩ := h
  refine ak_iast 0 hr rfl d_X4_narrow_15 ?_
  refine ac_aload_n 0 d_X4_narrow_16 rfl rfl ?_
  obtain ⟨o7, hr, h⟩ := h
  refine ak_getf hr fl_X4_21 d_X4_narrow_17 ?_
  refine ac_iload_n 1 d_X4_narrow_20 rfl rfl ?_
  refine ac_aload_n 0 d_X4_narrow_21 rfl rfl ?_
  obtain ⟨o8, hr, h⟩ := h
  refine ak_getf hr fl_X4_21 d_X4_narrow_22 ?_
  refine ac_iload_n 1 d_X4_narrow_25 rfl rfl ?_
  obtain ⟨v9, hr, h⟩ := h
  refine ak_iald 0 hr rfl d_X4_narrow_26 ?_
  refine ac_iload_n 3 d_X4_narrow_27 rfl rfl ?_
  refine ac_callS0 cd_JMath_min ml_X4_37 st_JMath_min (c_JMath_min _ _ _ v9 x3 f6 _ h) rfl rfl (by rw [hro]; decide) rfl (rest := [.int x1, .ref o7]) rfl (Nat.le_of_ble_eq_true rfl) (by rw [hro]; decide) d_X4_narrow_28 (ac_I (fun v11 f10 h => ?_))
  obtain ⟨f12, hr, h⟩ := h
  refine ak_iast 0 hr rfl d_X4_narrow_31 ?_
  refine ac_aload_n 0 d_X4_narrow_32 rfl rfl ?_
  refine ac_dup d_X4_narrow_33 rfl ?_
  obtain ⟨v13, hr, h⟩ := h
  refine ak_getf hr fl_X4_28 d_X4_narrow_34 ?_
  refine ac_iconst (v := 1) d_X4_narrow_37 rfl ?_
  refine ac_iadd d_X4_narrow_38 ?_
  obtain ⟨f14, hr, h⟩ := h
  refine ak_putf hr fp_X4_28 rfl rfl d_X4_narrow_39 ?_
  exact ac_vreturn hR ⟨rfl, h⟩ (by decide) (by decide) d_X4_narrow_42

def wp_X0_clear (ki : Nat → ClassId) (r0 : Nat) (f : ac_hp) (Q : Int32 → ac_hp → Prop) : Prop := ∃ o1 : Nat, hr_f f r0 0 1 (.ref o1) ∧ ∃ v2 : Int32, hr_f f o1 4 4 (.int v2) ∧ ∃ o3 : Nat, hr_f f r0 0 1 (.ref o3) ∧ hr_o f o3 4 ∧ wp_X4_reset ki o3 f (fun f4 => ∃ o5 : Nat, hr_f f4 r0 0 2 (.ref o5) ∧ hr_o f4 o5 5 ∧ wp_X5_forget ki o5 f4 (fun f6 => Q v2 f6))

set_option maxRecDepth 20000 in
set_option maxHeartbeats 4000000 in
theorem c_X0_clear (l : Launch) (D : va_G) (ki : Nat → ClassId) (r0 : Nat) (f : ac_hp) (Q : Int32 → ac_hp → Prop) (h : wp_X0_clear ki r0 f Q) : ac_met l D ki y_X0_clear prog_1_method_9_code 2 (some .int) (ro_ 2 0 0) [.ref r0] f (qr_I Q) 0 0 := by
  refine ac_enter (fun ki => wp_X0_clear ki r0 f Q) (by decide) (Nat.le_of_ble_eq_true rfl) h ?_
  intro x hro hR hnm h
  unfold wp_X0_clear at h
  refine ac_aload_n 0 d_X0_clear_0 rfl rfl ?_
  obtain ⟨o1, hr, h⟩ := h
  refine ak_getf hr fl_X0_19 d_X0_clear_1 ?_
  obtain ⟨v2, hr, h⟩ := h
  refine ak_getf hr fl_X0_116 d_X0_clear_4 ?_
  refine ac_istore_n (lv' := [(1, .int v2), (0, .ref r0)]) d_X0_clear_7 rfl (by decide) rfl ?_
  refine ac_aload_n 1 d_X0_clear_8 rfl rfl ?_
  obtain ⟨o3, hr, h⟩ := h
  refine ak_getf hr fl_X0_19 d_X0_clear_9 ?_
  obtain ⟨⟨fs, hb⟩, h⟩ := h
  refine ac_callV0 cd_X4_reset ml_X0_126 in_X4_reset se_X4_reset rfl hb (c_X4_reset _ _ _ o3 f _ h) rfl rfl (by rw [hro]; decide) rfl (rest := []) rfl (Nat.le_of_ble_eq_true rfl) (by rw [hro]; decide) d_X0_clear_12 (ac_V (fun f4 h => ?_))
  refine ac_aload_n 1 d_X0_clear_15 rfl rfl ?_
  obtain ⟨o5, hr, h⟩ := h
  refine ak_getf hr fl_X0_28 d_X0_clear_16 ?_
  obtain ⟨⟨fs, hb⟩, h⟩ := h
  refine ac_callV0 cd_X5_forget ml_X0_106 in_X5_forget se_X5_forget rfl hb (c_X5_forget _ _ _ o5 f4 _ h) rfl rfl (by rw [hro]; decide) rfl (rest := []) rfl (Nat.le_of_ble_eq_true rfl) (by rw [hro]; decide) d_X0_clear_19 (ac_V (fun f6 h => ?_))
  refine ac_iload_n 0 d_X0_clear_22 rfl rfl ?_
  exact ac_ireturn hR rfl ⟨_, rfl, h⟩ (by decide) (by decide) d_X0_clear_23

def wp_X5_settle_L6 (ki : Nat → ClassId) (r0 : Nat) (x1 : Int32) (r2 : Nat) (Q : Int32 → ac_hp → Prop) (E117 : Int32 → ac_hp → Prop) : Nat → Int32 → Int32 → ac_hp → Prop
  | 0, _, _, _ => False
  | n + 1, x4, x5, f => ((2 ≤ x5 → E117 x4 f) ∧ (¬ 2 ≤ x5 → ∃ o1 : Nat, hr_f f r0 5 1 (.ref o1) ∧ hr_o f o1 4 ∧ wp_X4_told ki o1 x1 x5 f (fun v3 f2 => ∃ o4 : Nat, hr_f f2 r2 3 0 (.ref o4) ∧ ∃ v5 : Int32, hr_i (ki 0) f2 o4 x5 v5 ∧ wp_X0_isVariable ki v3 f2 (fun v7 f6 => ((¬ v7 = 0 → wp_X0_variableOf ki v3 f6 (fun v9 f8 => wp_X0_has ki x4 v9 f8 (fun v11 f10 => ((¬ v11 = 0 → ∃ o12 : Nat, hr_f f10 r0 5 4 (.ref o12) ∧ wp_X0_variableOf ki v3 f10 (fun v14 f13 => ∃ v15 : Int32, hr_i (ki 0) f13 o12 v14 v15 ∧ ((v15 = v5 → ∀ v16 : Int32, v16 = x5 + 1 → wp_X5_settle_L6 ki r0 x1 r2 Q E117 n x4 v16 f13) ∧ (¬ v15 = v5 → Q (-1) f13)))) ∧ (v11 = 0 → ∃ o17 : Nat, hr_f f10 r0 5 4 (.ref o17) ∧ wp_X0_variableOf ki v3 f10 (fun v19 f18 => ∃ f20 : ac_hp, hw_i (ki 0) f18 o17 v19 v5 f20 ∧ wp_X0_variableOf ki v3 f20 (fun v22 f21 => wp_X0_with ki x4 v22 f21 (fun v24 f23 => ∀ v25 : Int32, v25 = x5 + 1 → wp_X5_settle_L6 ki r0 x1 r2 Q E117 n v24 v25 f23)))))))) ∧ (v7 = 0 → (((v3 / 10000) = v5 → ∀ v26 : Int32, v26 = x5 + 1 → wp_X5_settle_L6 ki r0 x1 r2 Q E117 n x4 v26 f6) ∧ (¬ (v3 / 10000) = v5 → Q (-1) f6))))))))

def wp_X5_settle (ki : Nat → ClassId) (r0 : Nat) (x1 : Int32) (r2 : Nat) (x3 : Int32) (f : ac_hp) (Q : Int32 → ac_hp → Prop) : Prop := ∃ n27 : Nat, wp_X5_settle_L6 ki r0 x1 r2 Q (fun y28 f29 => Q y28 f29) n27 x3 0 f

set_option maxRecDepth 20000 in
set_option maxHeartbeats 4000000 in
theorem ok_X5_settle_L6 {x : ac_X} (hro : ac_R x = (ro_ 2 0 0)) (r0 : Nat) (x1 : Int32) (r2 : Nat) (Q : Int32 → ac_hp → Prop) (hR : ac_rt x (some .int) (qr_I Q) 0 0) (E117 : Int32 → ac_hp → Prop) (hE117 : ∀ (y4 : Int32) (f : ac_hp), E117 y4 f → ac_At (prog_7_method_9_code, 8, "VirtualRewrite$Rewriting") x 0 0 117 [(4, .int y4)] [] f) : ∀ (n : Nat) (x4 : Int32) (x5 : Int32) (f : ac_hp), wp_X5_settle_L6 (ac_ki x) r0 x1 r2 Q E117 n x4 x5 f → ac_At (prog_7_method_9_code, 8, "VirtualRewrite$Rewriting") x 0 0 6 [(0, .ref r0), (1, .int x1), (2, .ref r2), (4, .int x4), (5, .int x5)] [] f := by
  intro n
  induction n with
  | zero => intro _ _ _ h; exact h.elim
  | succ n ih =>
    intro x4 x5 f h
    rw [wp_X5_settle_L6] at h
    refine ac_iload 4 d_X5_settle_6 rfl ?_
    refine ac_iconst (v := 2) d_X5_settle_8 rfl ?_
    refine ac_icmp_ge (tgt := 117) d_X5_settle_9 (by decide) (fun hc => ?_) (fun hc => ?_)
    · have h := h.1 hc
      refine ac_weak [3] rfl ?_
      exact hE117 x4 f h
    · have h := h.2 hc
      refine ac_aload_n 0 d_X5_settle_12 rfl rfl ?_
      obtain ⟨o1, hr, h⟩ := h
      refine ak_getf hr fl_X5_36 d_X5_settle_13 ?_
      refine ac_iload_n 1 d_X5_settle_16 rfl rfl ?_
      refine ac_iload 4 d_X5_settle_17 rfl ?_
      obtain ⟨⟨fs, hb⟩, h⟩ := h
      refine ac_callV0 cd_X4_told ml_X5_89 in_X4_told se_X4_told rfl hb (c_X4_told _ _ _ o1 x1 x5 f _ h) rfl rfl (by rw [hro]; decide) rfl (rest := []) rfl (Nat.le_of_ble_eq_true rfl) (by rw [hro]; decide) d_X5_settle_19 (ac_I (fun v3 f2 h => ?_))
      refine ac_istore (lv' := [(6, .int v3), (0, .ref r0), (1, .int x1), (2, .ref r2), (4, .int x4), (5, .int x5)]) d_X5_settle_22 (by decide) rfl ?_
      refine ac_aload_n 3 d_X5_settle_24 rfl rfl ?_
      obtain ⟨o4, hr, h⟩ := h
      refine ak_getf hr fl_X5_92 d_X5_settle_25 ?_
      refine ac_iload 5 d_X5_settle_28 rfl ?_
      obtain ⟨v5, hr, h⟩ := h
      refine ak_iald 0 hr rfl d_X5_settle_30 ?_
      refine ac_istore (lv' := [(7, .int v5), (6, .int v3), (0, .ref r0), (1, .int x1), (2, .ref r2), (4, .int x4), (5, .int x5)]) d_X5_settle_31 (by decide) rfl ?_
      refine ac_iload 1 d_X5_settle_33 rfl ?_
      refine ac_callSN0 cd_X0_isVariable ml_X5_93 st_X0_isVariable (c_X0_isVariable _ _ _ v3 f2 _ h) rfl rfl (by rw [hro]; decide) rfl (rest := []) rfl (Nat.le_of_ble_eq_true rfl) (by rw [hro]; decide) d_X5_settle_35 (ac_I (fun v7 f6 h => ?_))
      refine ac_if_ne (tgt := 54) d_X5_settle_38 (by decide) (fun hc => ?_) (fun hc => ?_)
      · have h := h.1 hc
        refine ac_iload 5 d_X5_settle_54 rfl ?_
        refine ac_iload 1 d_X5_settle_56 rfl ?_
        refine ac_callSN0 cd_X0_variableOf ml_X5_97 st_X0_variableOf (c_X0_variableOf _ _ _ v3 f6 _ h) rfl rfl (by rw [hro]; decide) rfl (rest := [.int x4]) rfl (Nat.le_of_ble_eq_true rfl) (by rw [hro]; decide) d_X5_settle_58 (ac_I (fun v9 f8 h => ?_))
        refine ac_callSN0 cd_X0_has ml_X5_101 st_X0_has (c_X0_has _ _ _ x4 v9 f8 _ h) rfl rfl (by rw [hro]; decide) rfl (rest := []) rfl (Nat.le_of_ble_eq_true rfl) (by rw [hro]; decide) d_X5_settle_61 (ac_I (fun v11 f10 h => ?_))
        refine ac_if_ne (tgt := 94) d_X5_settle_64 (by decide) (fun hc => ?_) (fun hc => ?_)
        · have h := h.1 hc
          refine ac_aload_n 2 d_X5_settle_94 rfl rfl ?_
          obtain ⟨o12, hr, h⟩ := h
          refine ak_getf hr fl_X5_18 d_X5_settle_95 ?_
          refine ac_iload 1 d_X5_settle_98 rfl ?_
          refine ac_callSN0 cd_X0_variableOf ml_X5_97 st_X0_variableOf (c_X0_variableOf _ _ _ v3 f10 _ h) rfl rfl (by rw [hro]; decide) rfl (rest := [.ref o12]) rfl (Nat.le_of_ble_eq_true rfl) (by rw [hro]; decide) d_X5_settle_100 (ac_I (fun v14 f13 h => ?_))
          obtain ⟨v15, hr, h⟩ := h
          refine ak_iald 0 hr rfl d_X5_settle_103 ?_
          refine ac_iload 0 d_X5_settle_104 rfl ?_
          refine ac_icmp_eq (tgt := 111) d_X5_settle_106 (by decide) (fun hc => ?_) (fun hc => ?_)
          · have h := h.1 hc
            obtain ⟨v16, ev16⟩ : ∃ y : Int32, y = x5 + 1 := ⟨_, rfl⟩
            have h := h v16 ev16
            refine ac_iinc (j := 6) (lv' := [(5, .int v16), (7, .int v5), (6, .int v3), (0, .ref r0), (1, .int x1), (2, .ref r2), (4, .int x4)]) d_X5_settle_111 rfl (by rw [ev16]; rfl) (by decide) rfl ?_
            refine ac_goto (tgt := 6) d_X5_settle_114 (by decide) ?_
            refine ac_weak [3, 4, 5, 6, 0] rfl ?_
            exact ih x4 v16 f13 h
          · have h := h.2 hc
            refine ac_iconst (v := -1) d_X5_settle_109 rfl ?_
            exact ac_ireturn hR rfl ⟨_, rfl, h⟩ (by decide) (by decide) d_X5_settle_110
        · have h := h.2 hc
          refine ac_aload_n 2 d_X5_settle_67 rfl rfl ?_
          obtain ⟨o17, hr, h⟩ := h
          refine ak_getf hr fl_X5_18 d_X5_settle_68 ?_
          refine ac_iload 1 d_X5_settle_71 rfl ?_
          refine ac_callSN0 cd_X0_variableOf ml_X5_97 st_X0_variableOf (c_X0_variableOf _ _ _ v3 f10 _ h) rfl rfl (by rw [hro]; decide) rfl (rest := [.ref o17]) rfl (Nat.le_of_ble_eq_true rfl) (by rw [hro]; decide) d_X5_settle_73 (ac_I (fun v19 f18 h => ?_))
          refine ac_iload 0 d_X5_settle_76 rfl ?_
          obtain ⟨f20, hr, h⟩ := h
          refine ak_iast 0 hr rfl d_X5_settle_78 ?_
          refine ac_iload 5 d_X5_settle_79 rfl ?_
          refine ac_iload 1 d_X5_settle_81 rfl ?_
          refine ac_callSN0 cd_X0_variableOf ml_X5_97 st_X0_variableOf (c_X0_variableOf _ _ _ v3 f20 _ h) rfl rfl (by rw [hro]; decide) rfl (rest := [.int x4]) rfl (Nat.le_of_ble_eq_true rfl) (by rw [hro]; decide) d_X5_settle_83 (ac_I (fun v22 f21 h => ?_))
          refine ac_callSN0 cd_X0_with ml_X5_105 st_X0_with (c_X0_with _ _ _ x4 v22 f21 _ h) rfl rfl (by rw [hro]; decide) rfl (rest := []) rfl (Nat.le_of_ble_eq_true rfl) (by rw [hro]; decide) d_X5_settle_86 (ac_I (fun v24 f23 h => ?_))
          refine ac_istore (lv' := [(4, .int v24), (7, .int v5), (6, .int v3), (0, .ref r0), (1, .int x1), (2, .ref r2), (5, .int x5)]) d_X5_settle_89 (by decide) rfl ?_
          refine ac_goto (tgt := 111) d_X5_settle_91 (by decide) ?_
          obtain ⟨v25, ev25⟩ : ∃ y : Int32, y = x5 + 1 := ⟨_, rfl⟩
          have h := h v25 ev25
          refine ac_iinc (j := 6) (lv' := [(5, .int v25), (4, .int v24), (7, .int v5), (6, .int v3), (0, .ref r0), (1, .int x1), (2, .ref r2)]) d_X5_settle_111 rfl (by rw [ev25]; rfl) (by decide) rfl ?_
          refine ac_goto (tgt := 6) d_X5_settle_114 (by decide) ?_
          refine ac_weak [4, 5, 6, 1, 0] rfl ?_
          exact ih v24 v25 f23 h
      · have h := h.2 hc
        refine ac_iload 1 d_X5_settle_41 rfl ?_
        refine ac_sipush (v := 10000) d_X5_settle_43 rfl ?_
        refine ac_idiv d_X5_settle_46 (by decide) ?_
        refine ac_iload 0 d_X5_settle_47 rfl ?_
        refine ac_icmp_eq (tgt := 111) d_X5_settle_49 (by decide) (fun hc => ?_) (fun hc => ?_)
        · have h := h.1 hc
          obtain ⟨v26, ev26⟩ : ∃ y : Int32, y = x5 + 1 := ⟨_, rfl⟩
          have h := h v26 ev26
          refine ac_iinc (j := 6) (lv' := [(5, .int v26), (7, .int v5), (6, .int v3), (0, .ref r0), (1, .int x1), (2, .ref r2), (4, .int x4)]) d_X5_settle_111 rfl (by rw [ev26]; rfl) (by decide) rfl ?_
          refine ac_goto (tgt := 6) d_X5_settle_114 (by decide) ?_
          refine ac_weak [3, 4, 5, 6, 0] rfl ?_
          exact ih x4 v26 f6 h
        · have h := h.2 hc
          refine ac_iconst (v := -1) d_X5_settle_52 rfl ?_
          exact ac_ireturn hR rfl ⟨_, rfl, h⟩ (by decide) (by decide) d_X5_settle_53

set_option maxRecDepth 20000 in
set_option maxHeartbeats 4000000 in
theorem c_X5_settle (l : Launch) (D : va_G) (ki : Nat → ClassId) (r0 : Nat) (x1 : Int32) (r2 : Nat) (x3 : Int32) (f : ac_hp) (Q : Int32 → ac_hp → Prop) (h : wp_X5_settle ki r0 x1 r2 x3 f Q) : ac_met l D ki y_X5_settle prog_7_method_9_code 8 (some .int) (ro_ 2 0 0) [.ref r0, .int x1, .ref r2, .int x3] f (qr_I Q) 0 0 := by
  refine ac_enter (fun ki => wp_X5_settle ki r0 x1 r2 x3 f Q) (by decide) (Nat.le_of_ble_eq_true rfl) h ?_
  intro x hro hR hnm h
  unfold wp_X5_settle at h
  refine ac_iload_n 3 d_X5_settle_0 rfl rfl ?_
  refine ac_istore (lv' := [(4, .int x3), (0, .ref r0), (1, .int x1), (2, .ref r2), (3, .int x3)]) d_X5_settle_1 (by decide) rfl ?_
  refine ac_iconst (v := 0) d_X5_settle_3 rfl ?_
  refine ac_istore (lv' := [(5, .int 0), (4, .int x3), (0, .ref r0), (1, .int x1), (2, .ref r2), (3, .int x3)]) d_X5_settle_4 (by decide) rfl ?_
  obtain ⟨n27, h⟩ := h
  refine ac_weak [2, 3, 4, 1, 0] rfl ?_
  refine ok_X5_settle_L6 hro r0 x1 r2 Q hR _ (fun y28 f29 h => ?_) n27 x3 0 f h
  · skip
    refine ac_iload 0 d_X5_settle_117 rfl ?_
    exact ac_ireturn hR rfl ⟨_, rfl, h⟩ (by decide) (by decide) d_X5_settle_119

