def wp_X8_tableOf (ki : Nat → ClassId) (r0 : Nat) (x1 : Int32) (f : ac_hp) (Q : Nat → ac_hp → Prop) : Prop := ∃ o1 : Nat, hr_f f r0 8 1 (.ref o1) ∧ ∃ v2 : Int32, hr_f f r0 8 12 (.int v2) ∧ ∃ o3 : Nat, hr_f f r0 8 4 (.ref o3) ∧ ∃ v4 : Int32, hr_i (ki 0) f o3 x1 v4 ∧ hr_o f o1 5 ∧ wp_X5_tableOf ki o1 v2 v4 f (fun o6 f5 => Q o6 f5)

set_option maxRecDepth 20000 in
set_option maxHeartbeats 4000000 in
theorem c_X8_tableOf (l : Launch) (D : va_G) (ki : Nat → ClassId) (r0 : Nat) (x1 : Int32) (f : ac_hp) (Q : Nat → ac_hp → Prop) (h : wp_X8_tableOf ki r0 x1 f Q) : ac_met l D ki y_X8_tableOf prog_4_method_5_code 2 (some (.object "VirtualRewrite$Table")) (ro_ 4 0 0) [.ref r0, .int x1] f (qr_R Q) 0 0 := by
  refine ac_enter (fun ki => wp_X8_tableOf ki r0 x1 f Q) (by decide) (Nat.le_of_ble_eq_true rfl) h ?_
  intro x hro hR hnm h
  unfold wp_X8_tableOf at h
  refine ac_aload_n 0 d_X8_tableOf_0 rfl rfl ?_
  obtain ⟨o1, hr, h⟩ := h
  refine ak_getf hr fl_X8_44 d_X8_tableOf_1 ?_
  refine ac_aload_n 0 d_X8_tableOf_4 rfl rfl ?_
  obtain ⟨v2, hr, h⟩ := h
  refine ak_getf hr fl_X8_36 d_X8_tableOf_5 ?_
  refine ac_aload_n 0 d_X8_tableOf_8 rfl rfl ?_
  obtain ⟨o3, hr, h⟩ := h
  refine ak_getf hr fl_X8_9 d_X8_tableOf_9 ?_
  refine ac_iload_n 1 d_X8_tableOf_12 rfl rfl ?_
  obtain ⟨v4, hr, h⟩ := h
  refine ak_iald 0 hr rfl d_X8_tableOf_13 ?_
  obtain ⟨⟨fs, hb⟩, h⟩ := h
  refine ac_callV0 cd_X5_tableOf ml_X8_114 in_X5_tableOf se_X5_tableOf rfl hb (c_X5_tableOf _ _ _ o1 v2 v4 f _ h) rfl rfl (by rw [hro]; decide) rfl (rest := []) rfl (Nat.le_of_ble_eq_true rfl) (by rw [hro]; decide) d_X8_tableOf_14 (ac_Rf (fun o6 f5 h => ?_))
  exact ac_areturn hR (Or.inl ⟨_, rfl⟩) ⟨_, rfl, h⟩ (by decide) (by decide) d_X8_tableOf_17

def wp_X8_suits_L3 (ki : Nat → ClassId) (r0 : Nat) (x1 : Int32) (r2 : Nat) (x3 : Int32) (Q : Int32 → ac_hp → Prop) (E48 : ac_hp → Prop) : Nat → Int32 → ac_hp → Prop
  | 0, _, _ => False
  | n + 1, x4, f => ∃ o1 : Nat, hr_f f r0 8 0 (.ref o1) ∧ ∃ v2 : Int32, hr_f f o1 4 4 (.int v2) ∧ ((v2 ≤ x4 → E48  f) ∧ (¬ v2 ≤ x4 → ∃ o3 : Nat, hr_f f r0 8 2 (.ref o3) ∧ ∃ o4 : Nat, hr_f f o3 6 3 (.ref o4) ∧ ∃ v5 : Int32, hr_i (ki 0) f o4 x4 v5 ∧ ((¬ v5 = x1 → ∀ v6 : Int32, v6 = x4 + 1 → wp_X8_suits_L3 ki r0 x1 r2 x3 Q E48 n v6 f) ∧ (v5 = x1 → hr_o f r0 8 ∧ wp_X8_suitsAtom ki r0 x4 r2 x3 f (fun v8 f7 => ((¬ v8 = 0 → ∀ v9 : Int32, v9 = x4 + 1 → wp_X8_suits_L3 ki r0 x1 r2 x3 Q E48 n v9 f7) ∧ (v8 = 0 → Q 0 f7)))))))

def wp_X8_suits (ki : Nat → ClassId) (r0 : Nat) (x1 : Int32) (r2 : Nat) (x3 : Int32) (f : ac_hp) (Q : Int32 → ac_hp → Prop) : Prop := ∃ n10 : Nat, wp_X8_suits_L3 ki r0 x1 r2 x3 Q (fun f11 => Q 1 f11) n10 0 f

set_option maxRecDepth 20000 in
set_option maxHeartbeats 4000000 in
theorem ok_X8_suits_L3 {x : ac_X} (hro : ac_R x = (ro_ 4 0 0)) (r0 : Nat) (x1 : Int32) (r2 : Nat) (x3 : Int32) (Q : Int32 → ac_hp → Prop) (hR : ac_rt x (some .boolean) (qr_I Q) 0 0) (E48 : ac_hp → Prop) (hE48 : ∀ (f : ac_hp), E48 f → ac_At (prog_4_method_7_code, 5, "VirtualRewrite$Finder") x 0 0 48 [] [] f) : ∀ (n : Nat) (x4 : Int32) (f : ac_hp), wp_X8_suits_L3 (ac_ki x) r0 x1 r2 x3 Q E48 n x4 f → ac_At (prog_4_method_7_code, 5, "VirtualRewrite$Finder") x 0 0 3 [(0, .ref r0), (1, .int x1), (2, .ref r2), (3, .int x3), (4, .int x4)] [] f := by
  intro n
  induction n with
  | zero => intro _ _ h; exact h.elim
  | succ n ih =>
    intro x4 f h
    rw [wp_X8_suits_L3] at h
    refine ac_iload 4 d_X8_suits_3 rfl ?_
    refine ac_aload_n 0 d_X8_suits_5 rfl rfl ?_
    obtain ⟨o1, hr, h⟩ := h
    refine ak_getf hr fl_X8_40 d_X8_suits_6 ?_
    obtain ⟨v2, hr, h⟩ := h
    refine ak_getf hr fl_X8_78 d_X8_suits_9 ?_
    refine ac_icmp_ge (tgt := 48) d_X8_suits_12 (by decide) (fun hc => ?_) (fun hc => ?_)
    · have h := h.1 hc
      refine ac_weak [] rfl ?_
      exact hE48  f h
    · have h := h.2 hc
      refine ac_aload_n 0 d_X8_suits_15 rfl rfl ?_
      obtain ⟨o3, hr, h⟩ := h
      refine ak_getf hr fl_X8_48 d_X8_suits_16 ?_
      obtain ⟨o4, hr, h⟩ := h
      refine ak_getf hr fl_X8_83 d_X8_suits_19 ?_
      refine ac_iload 4 d_X8_suits_22 rfl ?_
      obtain ⟨v5, hr, h⟩ := h
      refine ak_iald 0 hr rfl d_X8_suits_24 ?_
      refine ac_iload_n 1 d_X8_suits_25 rfl rfl ?_
      refine ac_icmp_ne (tgt := 42) d_X8_suits_26 (by decide) (fun hc => ?_) (fun hc => ?_)
      · have h := h.1 hc
        obtain ⟨v6, ev6⟩ : ∃ y : Int32, y = x4 + 1 := ⟨_, rfl⟩
        have h := h v6 ev6
        refine ac_iinc (j := 4) (lv' := [(4, .int v6), (0, .ref r0), (1, .int x1), (2, .ref r2), (3, .int x3)]) d_X8_suits_42 rfl (by rw [ev6]; rfl) (by decide) rfl ?_
        refine ac_goto (tgt := 3) d_X8_suits_45 (by decide) ?_
        refine ac_weak [1, 2, 3, 4, 0] rfl ?_
        exact ih v6 f h
      · have h := h.2 hc
        refine ac_aload_n 0 d_X8_suits_29 rfl rfl ?_
        refine ac_iload 4 d_X8_suits_30 rfl ?_
        refine ac_aload_n 2 d_X8_suits_32 rfl rfl ?_
        refine ac_iload_n 3 d_X8_suits_33 rfl rfl ?_
        obtain ⟨⟨fs, hb⟩, h⟩ := h
        refine ac_callV0 cd_X8_suitsAtom ml_X8_134 in_X8_suitsAtom se_X8_suitsAtom rfl hb (c_X8_suitsAtom _ _ _ r0 x4 r2 x3 f _ h) rfl rfl (by rw [hro]; decide) rfl (rest := []) rfl (Nat.le_of_ble_eq_true rfl) (by rw [hro]; decide) d_X8_suits_34 (ac_I (fun v8 f7 h => ?_))
        refine ac_if_ne (tgt := 42) d_X8_suits_37 (by decide) (fun hc => ?_) (fun hc => ?_)
        · have h := h.1 hc
          obtain ⟨v9, ev9⟩ : ∃ y : Int32, y = x4 + 1 := ⟨_, rfl⟩
          have h := h v9 ev9
          refine ac_iinc (j := 4) (lv' := [(4, .int v9), (0, .ref r0), (1, .int x1), (2, .ref r2), (3, .int x3)]) d_X8_suits_42 rfl (by rw [ev9]; rfl) (by decide) rfl ?_
          refine ac_goto (tgt := 3) d_X8_suits_45 (by decide) ?_
          refine ac_weak [1, 2, 3, 4, 0] rfl ?_
          exact ih v9 f7 h
        · have h := h.2 hc
          refine ac_iconst (v := 0) d_X8_suits_40 rfl ?_
          exact ac_ireturn hR rfl ⟨_, rfl, h⟩ (by decide) (by decide) d_X8_suits_41

set_option maxRecDepth 20000 in
set_option maxHeartbeats 4000000 in
theorem c_X8_suits (l : Launch) (D : va_G) (ki : Nat → ClassId) (r0 : Nat) (x1 : Int32) (r2 : Nat) (x3 : Int32) (f : ac_hp) (Q : Int32 → ac_hp → Prop) (h : wp_X8_suits ki r0 x1 r2 x3 f Q) : ac_met l D ki y_X8_suits prog_4_method_7_code 5 (some .boolean) (ro_ 4 0 0) [.ref r0, .int x1, .ref r2, .int x3] f (qr_I Q) 0 0 := by
  refine ac_enter (fun ki => wp_X8_suits ki r0 x1 r2 x3 f Q) (by decide) (Nat.le_of_ble_eq_true rfl) h ?_
  intro x hro hR hnm h
  unfold wp_X8_suits at h
  refine ac_iconst (v := 0) d_X8_suits_0 rfl ?_
  refine ac_istore (lv' := [(4, .int 0), (0, .ref r0), (1, .int x1), (2, .ref r2), (3, .int x3)]) d_X8_suits_1 (by decide) rfl ?_
  obtain ⟨n10, h⟩ := h
  refine ac_weak [1, 2, 3, 4, 0] rfl ?_
  refine ok_X8_suits_L3 hro r0 x1 r2 x3 Q hR _ (fun f11 h => ?_) n10 0 f h
  · skip
    refine ac_iconst (v := 1) d_X8_suits_48 rfl ?_
    exact ac_ireturn hR rfl ⟨_, rfl, h⟩ (by decide) (by decide) d_X8_suits_49

def wp_X7_take (ki : Nat → ClassId) (r0 : Nat) (r1 : Nat) (x2 : Int32) (f : ac_hp) (Q : ac_hp → Prop) : Prop := hr_o f r0 7 ∧ wp_X7_firstNotBefore ki r0 r1 f (fun v2 f1 => ∃ v3 : Int32, hr_f f1 r0 7 4 (.int v3) ∧ ((v3 ≤ v2 → ∃ v4 : Int32, hr_f f1 r0 7 4 (.int v4) ∧ ((v4 < 300 → hr_o f1 r0 7 ∧ wp_X7_insert ki r0 v2 r1 x2 f1 (fun f5 => Q f5)) ∧ (¬ v4 < 300 → ∃ f6 : ac_hp, hw_f f1 r0 7 6 (.int 1) f6 ∧ Q f6))) ∧ (¬ v3 ≤ v2 → hr_o f1 r0 7 ∧ wp_X7_compare ki r0 v2 r1 f1 (fun v8 f7 => ((¬ v8 = 0 → ∃ v9 : Int32, hr_f f7 r0 7 4 (.int v9) ∧ ((v9 < 300 → hr_o f7 r0 7 ∧ wp_X7_insert ki r0 v2 r1 x2 f7 (fun f10 => Q f10)) ∧ (¬ v9 < 300 → ∃ f11 : ac_hp, hw_f f7 r0 7 6 (.int 1) f11 ∧ Q f11))) ∧ (v8 = 0 → ∃ o12 : Nat, hr_f f7 r0 7 2 (.ref o12) ∧ ∃ o13 : Nat, hr_f f7 r0 7 1 (.ref o13) ∧ ∃ v14 : Int32, hr_i (ki 0) f7 o13 v2 v14 ∧ ∃ v15 : Int32, hr_i (ki 0) f7 o12 v14 v15 ∧ ∃ f16 : ac_hp, hw_i (ki 0) f7 o12 v14 (v15 + 1) f16 ∧ Q f16))))))

set_option maxRecDepth 20000 in
set_option maxHeartbeats 4000000 in
theorem c_X7_take (l : Launch) (D : va_G) (ki : Nat → ClassId) (r0 : Nat) (r1 : Nat) (x2 : Int32) (f : ac_hp) (Q : ac_hp → Prop) (h : wp_X7_take ki r0 r1 x2 f Q) : ac_met l D ki y_X7_take prog_2_method_6_code 4 none (ro_ 4 0 0) [.ref r0, .ref r1, .int x2] f (qr_V Q) 0 0 := by
  refine ac_enter (fun ki => wp_X7_take ki r0 r1 x2 f Q) (by decide) (Nat.le_of_ble_eq_true rfl) h ?_
  intro x hro hR hnm h
  unfold wp_X7_take at h
  refine ac_aload_n 0 d_X7_take_0 rfl rfl ?_
  refine ac_aload_n 1 d_X7_take_1 rfl rfl ?_
  obtain ⟨⟨fs, hb⟩, h⟩ := h
  refine ac_callV0 cd_X7_firstNotBefore ml_X7_35 in_X7_firstNotBefore se_X7_firstNotBefore rfl hb (c_X7_firstNotBefore _ _ _ r0 r1 f _ h) rfl rfl (by rw [hro]; decide) rfl (rest := []) rfl (Nat.le_of_ble_eq_true rfl) (by rw [hro]; decide) d_X7_take_2 (ac_I (fun v2 f1 h => ?_))
  refine ac_istore_n (lv' := [(3, .int v2), (0, .ref r0), (1, .ref r1), (2, .int x2)]) d_X7_take_5 rfl (by decide) rfl ?_
  refine ac_iload_n 0 d_X7_take_6 rfl rfl ?_
  refine ac_aload_n 1 d_X7_take_7 rfl rfl ?_
  obtain ⟨v3, hr, h⟩ := h
  refine ak_getf hr fl_X7_24 d_X7_take_8 ?_
  refine ac_icmp_ge (tgt := 41) d_X7_take_11 (by decide) (fun hc => ?_) (fun hc => ?_)
  · have h := h.1 hc
    refine ac_aload_n 1 d_X7_take_41 rfl rfl ?_
    obtain ⟨v4, hr, h⟩ := h
    refine ak_getf hr fl_X7_24 d_X7_take_42 ?_
    refine ac_sipush (v := 300) d_X7_take_45 rfl ?_
    refine ac_icmp_lt (tgt := 59) d_X7_take_48 (by decide) (fun hc => ?_) (fun hc => ?_)
    · have h := h.1 hc
      refine ac_aload_n 1 d_X7_take_59 rfl rfl ?_
      refine ac_iload_n 0 d_X7_take_60 rfl rfl ?_
      refine ac_aload_n 2 d_X7_take_61 rfl rfl ?_
      refine ac_iload_n 3 d_X7_take_62 rfl rfl ?_
      obtain ⟨⟨fs, hb⟩, h⟩ := h
      refine ac_callV0 cd_X7_insert ml_X7_43 in_X7_insert se_X7_insert rfl hb (c_X7_insert _ _ _ r0 v2 r1 x2 f1 _ h) rfl rfl (by rw [hro]; decide) rfl (rest := []) rfl (Nat.le_of_ble_eq_true rfl) (by rw [hro]; decide) d_X7_take_63 (ac_V (fun f5 h => ?_))
      exact ac_vreturn hR ⟨rfl, h⟩ (by decide) (by decide) d_X7_take_66
    · have h := h.2 hc
      refine ac_aload_n 1 d_X7_take_51 rfl rfl ?_
      refine ac_iconst (v := 1) d_X7_take_52 rfl ?_
      obtain ⟨f6, hr, h⟩ := h
      refine ak_putf hr fp_X7_31 rfl rfl d_X7_take_53 ?_
      refine ac_goto (tgt := 66) d_X7_take_56 (by decide) ?_
      exact ac_vreturn hR ⟨rfl, h⟩ (by decide) (by decide) d_X7_take_66
  · have h := h.2 hc
    refine ac_aload_n 1 d_X7_take_14 rfl rfl ?_
    refine ac_iload_n 0 d_X7_take_15 rfl rfl ?_
    refine ac_aload_n 2 d_X7_take_16 rfl rfl ?_
    obtain ⟨⟨fs, hb⟩, h⟩ := h
    refine ac_callV0 cd_X7_compare ml_X7_39 in_X7_compare se_X7_compare rfl hb (c_X7_compare _ _ _ r0 v2 r1 f1 _ h) rfl rfl (by rw [hro]; decide) rfl (rest := []) rfl (Nat.le_of_ble_eq_true rfl) (by rw [hro]; decide) d_X7_take_17 (ac_I (fun v8 f7 h => ?_))
    refine ac_if_ne (tgt := 41) d_X7_take_20 (by decide) (fun hc => ?_) (fun hc => ?_)
    · have h := h.1 hc
      refine ac_aload_n 1 d_X7_take_41 rfl rfl ?_
      obtain ⟨v9, hr, h⟩ := h
      refine ak_getf hr fl_X7_24 d_X7_take_42 ?_
      refine ac_sipush (v := 300) d_X7_take_45 rfl ?_
      refine ac_icmp_lt (tgt := 59) d_X7_take_48 (by decide) (fun hc => ?_) (fun hc => ?_)
      · have h := h.1 hc
        refine ac_aload_n 1 d_X7_take_59 rfl rfl ?_
        refine ac_iload_n 0 d_X7_take_60 rfl rfl ?_
        refine ac_aload_n 2 d_X7_take_61 rfl rfl ?_
        refine ac_iload_n 3 d_X7_take_62 rfl rfl ?_
        obtain ⟨⟨fs, hb⟩, h⟩ := h
        refine ac_callV0 cd_X7_insert ml_X7_43 in_X7_insert se_X7_insert rfl hb (c_X7_insert _ _ _ r0 v2 r1 x2 f7 _ h) rfl rfl (by rw [hro]; decide) rfl (rest := []) rfl (Nat.le_of_ble_eq_true rfl) (by rw [hro]; decide) d_X7_take_63 (ac_V (fun f10 h => ?_))
        exact ac_vreturn hR ⟨rfl, h⟩ (by decide) (by decide) d_X7_take_66
      · have h := h.2 hc
        refine ac_aload_n 1 d_X7_take_51 rfl rfl ?_
        refine ac_iconst (v := 1) d_X7_take_52 rfl ?_
        obtain ⟨f11, hr, h⟩ := h
        refine ak_putf hr fp_X7_31 rfl rfl d_X7_take_53 ?_
        refine ac_goto (tgt := 66) d_X7_take_56 (by decide) ?_
        exact ac_vreturn hR ⟨rfl, h⟩ (by decide) (by decide) d_X7_take_66
    · have h := h.2 hc
      refine ac_aload_n 1 d_X7_take_23 rfl rfl ?_
      obtain ⟨o12, hr, h⟩ := h
      refine ak_getf hr fl_X7_18 d_X7_take_24 ?_
      refine ac_aload_n 1 d_X7_take_27 rfl rfl ?_
      obtain ⟨o13, hr, h⟩ := h
      refine ak_getf hr fl_X7_15 d_X7_take_28 ?_
      refine ac_iload_n 0 d_X7_take_31 rfl rfl ?_
      obtain ⟨v14, hr, h⟩ := h
      refine ak_iald 0 hr rfl d_X7_take_32 ?_
      refine ac_dup2 d_X7_take_33 rfl rfl ?_
      obtain ⟨v15, hr, h⟩ := h
      refine ak_iald 0 hr rfl d_X7_take_34 ?_
      refine ac_iconst (v := 1) d_X7_take_35 rfl ?_
      refine ac_iadd d_X7_take_36 ?_
      obtain ⟨f16, hr, h⟩ := h
      refine ak_iast 0 hr rfl d_X7_take_37 ?_
      refine ac_goto (tgt := 66) d_X7_take_38 (by decide) ?_
      exact ac_vreturn hR ⟨rfl, h⟩ (by decide) (by decide) d_X7_take_66

def wp_X6_assign_L7 (ki : Nat → ClassId) (r0 : Nat) (x1 : Int32) (E71 : ac_hp → Prop) : Nat → Int32 → ac_hp → Prop
  | 0, _, _ => False
  | n + 1, x2, f => ∃ o2 : Nat, hr_f f r0 6 1 (.ref o2) ∧ ∃ v3 : Int32, hr_f f o2 4 4 (.int v3) ∧ ((v3 ≤ x2 → E71  f) ∧ (¬ v3 ≤ x2 → hr_o f r0 6 ∧ wp_X6_leastOfOneRow ki r0 x1 x2 f (fun v5 f4 => ((x2 ≤ v5 → ∃ o6 : Nat, hr_f f4 r0 6 3 (.ref o6) ∧ ∃ v7 : Int32, hr_f f4 r0 6 4 (.int v7) ∧ ∃ f8 : ac_hp, hw_i (ki 0) f4 o6 x2 v7 f8 ∧ ∃ v9 : Int32, hr_f f8 r0 6 4 (.int v9) ∧ ∃ f10 : ac_hp, hw_f f8 r0 6 4 (.int (v9 + 1)) f10 ∧ ∀ v11 : Int32, v11 = x2 + 1 → wp_X6_assign_L7 ki r0 x1 E71 n v11 f10) ∧ (¬ x2 ≤ v5 → ∃ o12 : Nat, hr_f f4 r0 6 3 (.ref o12) ∧ ∃ o13 : Nat, hr_f f4 r0 6 3 (.ref o13) ∧ ∃ v14 : Int32, hr_i (ki 0) f4 o13 v5 v14 ∧ ∃ f15 : ac_hp, hw_i (ki 0) f4 o12 x2 v14 f15 ∧ ∀ v16 : Int32, v16 = x2 + 1 → wp_X6_assign_L7 ki r0 x1 E71 n v16 f15)))))

def wp_X6_assign (ki : Nat → ClassId) (r0 : Nat) (x1 : Int32) (f : ac_hp) (Q : ac_hp → Prop) : Prop := ∃ f1 : ac_hp, hw_f f r0 6 4 (.int 0) f1 ∧ ∃ n17 : Nat, wp_X6_assign_L7 ki r0 x1 (fun f18 => Q f18) n17 0 f1

set_option maxRecDepth 20000 in
set_option maxHeartbeats 4000000 in
theorem ok_X6_assign_L7 {x : ac_X} (hro : ac_R x = (ro_ 5 0 0)) (r0 : Nat) (x1 : Int32) (E71 : ac_hp → Prop) (hE71 : ∀ (f : ac_hp), E71 f → ac_At (prog_8_method_2_code, 4, "VirtualRewrite$Slots") x 0 0 71 [] [] f) : ∀ (n : Nat) (x2 : Int32) (f : ac_hp), wp_X6_assign_L7 (ac_ki x) r0 x1 E71 n x2 f → ac_At (prog_8_method_2_code, 4, "VirtualRewrite$Slots") x 0 0 7 [(0, .ref r0), (1, .int x1), (2, .int x2)] [] f := by
  intro n
  induction n with
  | zero => intro _ _ h; exact h.elim
  | succ n ih =>
    intro x2 f h
    rw [wp_X6_assign_L7] at h
    refine ac_iload_n 2 d_X6_assign_7 rfl rfl ?_
    refine ac_aload_n 0 d_X6_assign_8 rfl rfl ?_
    obtain ⟨o2, hr, h⟩ := h
    refine ak_getf hr fl_X6_23 d_X6_assign_9 ?_
    obtain ⟨v3, hr, h⟩ := h
    refine ak_getf hr fl_X6_31 d_X6_assign_12 ?_
    refine ac_icmp_ge (tgt := 71) d_X6_assign_15 (by decide) (fun hc => ?_) (fun hc => ?_)
    · have h := h.1 hc
      refine ac_weak [] rfl ?_
      exact hE71  f h
    · have h := h.2 hc
      refine ac_aload_n 0 d_X6_assign_18 rfl rfl ?_
      refine ac_iload_n 1 d_X6_assign_19 rfl rfl ?_
      refine ac_iload_n 2 d_X6_assign_20 rfl rfl ?_
      obtain ⟨⟨fs, hb⟩, h⟩ := h
      refine ac_callV0 cd_X6_leastOfOneRow ml_X6_36 in_X6_leastOfOneRow se_X6_leastOfOneRow rfl hb (c_X6_leastOfOneRow _ _ _ r0 x1 x2 f _ h) rfl rfl (by rw [hro]; decide) rfl (rest := []) rfl (Nat.le_of_ble_eq_true rfl) (by rw [hro]; decide) d_X6_assign_21 (ac_I (fun v5 f4 h => ?_))
      refine ac_istore_n (lv' := [(3, .int v5), (0, .ref r0), (1, .int x1), (2, .int x2)]) d_X6_assign_24 rfl (by decide) rfl ?_
      refine ac_iload_n 0 d_X6_assign_25 rfl rfl ?_
      refine ac_iload_n 3 d_X6_assign_26 rfl rfl ?_
      refine ac_icmp_ge (tgt := 45) d_X6_assign_27 (by decide) (fun hc => ?_) (fun hc => ?_)
      · have h := h.1 hc
        refine ac_aload_n 1 d_X6_assign_45 rfl rfl ?_
        obtain ⟨o6, hr, h⟩ := h
        refine ak_getf hr fl_X6_9 d_X6_assign_46 ?_
        refine ac_iload_n 3 d_X6_assign_49 rfl rfl ?_
        refine ac_aload_n 1 d_X6_assign_50 rfl rfl ?_
        obtain ⟨v7, hr, h⟩ := h
        refine ak_getf hr fl_X6_15 d_X6_assign_51 ?_
        obtain ⟨f8, hr, h⟩ := h
        refine ak_iast 0 hr rfl d_X6_assign_54 ?_
        refine ac_aload_n 1 d_X6_assign_55 rfl rfl ?_
        refine ac_dup d_X6_assign_56 rfl ?_
        obtain ⟨v9, hr, h⟩ := h
        refine ak_getf hr fl_X6_15 d_X6_assign_57 ?_
        refine ac_iconst (v := 1) d_X6_assign_60 rfl ?_
        refine ac_iadd d_X6_assign_61 ?_
        obtain ⟨f10, hr, h⟩ := h
        refine ak_putf hr fp_X6_15 rfl rfl d_X6_assign_62 ?_
        obtain ⟨v11, ev11⟩ : ∃ y : Int32, y = x2 + 1 := ⟨_, rfl⟩
        have h := h v11 ev11
        refine ac_iinc (j := 3) (lv' := [(2, .int v11), (3, .int v5), (0, .ref r0), (1, .int x1)]) d_X6_assign_65 rfl (by rw [ev11]; rfl) (by decide) rfl ?_
        refine ac_goto (tgt := 7) d_X6_assign_68 (by decide) ?_
        refine ac_weak [2, 3, 0] rfl ?_
        exact ih v11 f10 h
      · have h := h.2 hc
        refine ac_aload_n 1 d_X6_assign_30 rfl rfl ?_
        obtain ⟨o12, hr, h⟩ := h
        refine ak_getf hr fl_X6_9 d_X6_assign_31 ?_
        refine ac_iload_n 3 d_X6_assign_34 rfl rfl ?_
        refine ac_aload_n 1 d_X6_assign_35 rfl rfl ?_
        obtain ⟨o13, hr, h⟩ := h
        refine ak_getf hr fl_X6_9 d_X6_assign_36 ?_
        refine ac_iload_n 0 d_X6_assign_39 rfl rfl ?_
        obtain ⟨v14, hr, h⟩ := h
        refine ak_iald 0 hr rfl d_X6_assign_40 ?_
        obtain ⟨f15, hr, h⟩ := h
        refine ak_iast 0 hr rfl d_X6_assign_41 ?_
        refine ac_goto (tgt := 65) d_X6_assign_42 (by decide) ?_
        obtain ⟨v16, ev16⟩ : ∃ y : Int32, y = x2 + 1 := ⟨_, rfl⟩
        have h := h v16 ev16
        refine ac_iinc (j := 3) (lv' := [(2, .int v16), (3, .int v5), (0, .ref r0), (1, .int x1)]) d_X6_assign_65 rfl (by rw [ev16]; rfl) (by decide) rfl ?_
        refine ac_goto (tgt := 7) d_X6_assign_68 (by decide) ?_
        refine ac_weak [2, 3, 0] rfl ?_
        exact ih v16 f15 h

set_option maxRecDepth 20000 in
set_option maxHeartbeats 4000000 in
theorem c_X6_assign (l : Launch) (D : va_G) (ki : Nat → ClassId) (r0 : Nat) (x1 : Int32) (f : ac_hp) (Q : ac_hp → Prop) (h : wp_X6_assign ki r0 x1 f Q) : ac_met l D ki y_X6_assign prog_8_method_2_code 4 none (ro_ 5 0 0) [.ref r0, .int x1] f (qr_V Q) 0 0 := by
  refine ac_enter (fun ki => wp_X6_assign ki r0 x1 f Q) (by decide) (Nat.le_of_ble_eq_true rfl) h ?_
  intro x hro hR hnm h
  unfold wp_X6_assign at h
  refine ac_aload_n 0 d_X6_assign_0 rfl rfl ?_
  refine ac_iconst (v := 0) d_X6_assign_1 rfl ?_
  obtain ⟨f1, hr, h⟩ := h
  refine ak_putf hr fp_X6_15 rfl rfl d_X6_assign_2 ?_
  refine ac_iconst (v := 0) d_X6_assign_5 rfl ?_
  refine ac_istore_n (lv' := [(2, .int 0), (0, .ref r0), (1, .int x1)]) d_X6_assign_6 rfl (by decide) rfl ?_
  obtain ⟨n17, h⟩ := h
  refine ac_weak [1, 2, 0] rfl ?_
  refine ok_X6_assign_L7 hro r0 x1 _ (fun f18 h => ?_) n17 0 f1 h
  · skip
    exact ac_vreturn hR ⟨rfl, h⟩ (by decide) (by decide) d_X6_assign_71

def wp_X8_gatherRows_L11 (ki : Nat → ClassId) (r0 : Nat) (x1 : Int32) (r2 : Nat) (E65 : Int32 → ac_hp → Prop) : Nat → Int32 → Int32 → ac_hp → Prop
  | 0, _, _, _ => False
  | n + 1, x3, x4, f => ∃ v3 : Int32, hr_f f r2 2 2 (.int v3) ∧ ((v3 ≤ x4 → E65 x3 f) ∧ (¬ v3 ≤ x4 → hr_o f r0 8 ∧ wp_X8_suits ki r0 x1 r2 x4 f (fun v5 f4 => ((v5 = 0 → ∀ v6 : Int32, v6 = x4 + 1 → wp_X8_gatherRows_L11 ki r0 x1 r2 E65 n x3 v6 f4) ∧ (¬ v5 = 0 → hr_o f4 r0 8 ∧ wp_X8_isTold ki r0 x1 r2 x4 x3 f4 (fun v8 f7 => ((¬ v8 = 0 → ∀ v9 : Int32, v9 = x4 + 1 → wp_X8_gatherRows_L11 ki r0 x1 r2 E65 n x3 v9 f7) ∧ (v8 = 0 → ∃ o10 : Nat, hr_f f7 r0 8 7 (.ref o10) ∧ ∃ f11 : ac_hp, hw_i (ki 0) f7 o10 ((x1 * 20) + x3) x4 f11 ∧ ∀ v12 : Int32, v12 = x3 + 1 → ∀ v13 : Int32, v13 = x4 + 1 → wp_X8_gatherRows_L11 ki r0 x1 r2 E65 n v12 v13 f11))))))))

def wp_X8_gatherRows (ki : Nat → ClassId) (r0 : Nat) (x1 : Int32) (f : ac_hp) (Q : ac_hp → Prop) : Prop := hr_o f r0 8 ∧ wp_X8_tableOf ki r0 x1 f (fun o2 f1 => ∃ n14 : Nat, wp_X8_gatherRows_L11 ki r0 x1 o2 (fun y15 f16 => ∃ o17 : Nat, hr_f f16 r0 8 8 (.ref o17) ∧ ∃ f18 : ac_hp, hw_i (ki 0) f16 o17 x1 y15 f18 ∧ Q f18) n14 0 0 f1)

set_option maxRecDepth 20000 in
set_option maxHeartbeats 4000000 in
theorem ok_X8_gatherRows_L11 {x : ac_X} (hro : ac_R x = (ro_ 5 0 0)) (r0 : Nat) (x1 : Int32) (r2 : Nat) (E65 : Int32 → ac_hp → Prop) (hE65 : ∀ (y3 : Int32) (f : ac_hp), E65 y3 f → ac_At (prog_4_method_6_code, 5, "VirtualRewrite$Finder") x 0 0 65 [(0, .ref r0), (1, .int x1), (3, .int y3)] [] f) : ∀ (n : Nat) (x3 : Int32) (x4 : Int32) (f : ac_hp), wp_X8_gatherRows_L11 (ac_ki x) r0 x1 r2 E65 n x3 x4 f → ac_At (prog_4_method_6_code, 5, "VirtualRewrite$Finder") x 0 0 11 [(0, .ref r0), (1, .int x1), (2, .ref r2), (3, .int x3), (4, .int x4)] [] f := by
  intro n
  induction n with
  | zero => intro _ _ _ h; exact h.elim
  | succ n ih =>
    intro x3 x4 f h
    rw [wp_X8_gatherRows_L11] at h
    refine ac_iload 4 d_X8_gatherRows_11 rfl ?_
    refine ac_aload_n 2 d_X8_gatherRows_13 rfl rfl ?_
    obtain ⟨v3, hr, h⟩ := h
    refine ak_getf hr fl_X8_121 d_X8_gatherRows_14 ?_
    refine ac_icmp_ge (tgt := 65) d_X8_gatherRows_17 (by decide) (fun hc => ?_) (fun hc => ?_)
    · have h := h.1 hc
      refine ac_weak [0, 1, 3] rfl ?_
      exact hE65 x3 f h
    · have h := h.2 hc
      refine ac_aload_n 0 d_X8_gatherRows_20 rfl rfl ?_
      refine ac_iload_n 1 d_X8_gatherRows_21 rfl rfl ?_
      refine ac_aload_n 2 d_X8_gatherRows_22 rfl rfl ?_
      refine ac_iload 4 d_X8_gatherRows_23 rfl ?_
      obtain ⟨⟨fs, hb⟩, h⟩ := h
      refine ac_callV0 cd_X8_suits ml_X8_126 in_X8_suits se_X8_suits rfl hb (c_X8_suits _ _ _ r0 x1 r2 x4 f _ h) rfl rfl (by rw [hro]; decide) rfl (rest := []) rfl (Nat.le_of_ble_eq_true rfl) (by rw [hro]; decide) d_X8_gatherRows_25 (ac_I (fun v5 f4 h => ?_))
      refine ac_if_eq (tgt := 59) d_X8_gatherRows_28 (by decide) (fun hc => ?_) (fun hc => ?_)
      · have h := h.1 hc
        obtain ⟨v6, ev6⟩ : ∃ y : Int32, y = x4 + 1 := ⟨_, rfl⟩
        have h := h v6 ev6
        refine ac_iinc (j := 4) (lv' := [(4, .int v6), (0, .ref r0), (1, .int x1), (2, .ref r2), (3, .int x3)]) d_X8_gatherRows_59 rfl (by rw [ev6]; rfl) (by decide) rfl ?_
        refine ac_goto (tgt := 11) d_X8_gatherRows_62 (by decide) ?_
        refine ac_weak [1, 2, 3, 4, 0] rfl ?_
        exact ih x3 v6 f4 h
      · have h := h.2 hc
        refine ac_aload_n 0 d_X8_gatherRows_31 rfl rfl ?_
        refine ac_iload_n 1 d_X8_gatherRows_32 rfl rfl ?_
        refine ac_aload_n 2 d_X8_gatherRows_33 rfl rfl ?_
        refine ac_iload 4 d_X8_gatherRows_34 rfl ?_
        refine ac_iload_n 3 d_X8_gatherRows_36 rfl rfl ?_
        obtain ⟨⟨fs, hb⟩, h⟩ := h
        refine ac_callV0 cd_X8_isTold ml_X8_130 in_X8_isTold se_X8_isTold rfl hb (c_X8_isTold _ _ _ r0 x1 r2 x4 x3 f4 _ h) rfl rfl (by rw [hro]; decide) rfl (rest := []) rfl (Nat.le_of_ble_eq_true rfl) (by rw [hro]; decide) d_X8_gatherRows_37 (ac_I (fun v8 f7 h => ?_))
        refine ac_if_ne (tgt := 59) d_X8_gatherRows_40 (by decide) (fun hc => ?_) (fun hc => ?_)
        · have h := h.1 hc
          obtain ⟨v9, ev9⟩ : ∃ y : Int32, y = x4 + 1 := ⟨_, rfl⟩
          have h := h v9 ev9
          refine ac_iinc (j := 4) (lv' := [(4, .int v9), (0, .ref r0), (1, .int x1), (2, .ref r2), (3, .int x3)]) d_X8_gatherRows_59 rfl (by rw [ev9]; rfl) (by decide) rfl ?_
          refine ac_goto (tgt := 11) d_X8_gatherRows_62 (by decide) ?_
          refine ac_weak [1, 2, 3, 4, 0] rfl ?_
          exact ih x3 v9 f7 h
        · have h := h.2 hc
          refine ac_aload_n 0 d_X8_gatherRows_43 rfl rfl ?_
          obtain ⟨o10, hr, h⟩ := h
          refine ak_getf hr fl_X8_21 d_X8_gatherRows_44 ?_
          refine ac_iload_n 1 d_X8_gatherRows_47 rfl rfl ?_
          refine ac_bipush (v := 20) d_X8_gatherRows_48 rfl ?_
          refine ac_imul d_X8_gatherRows_50 ?_
          refine ac_iload_n 3 d_X8_gatherRows_51 rfl rfl ?_
          refine ac_iadd d_X8_gatherRows_52 ?_
          refine ac_iload 4 d_X8_gatherRows_53 rfl ?_
          obtain ⟨f11, hr, h⟩ := h
          refine ak_iast 0 hr rfl d_X8_gatherRows_55 ?_
          obtain ⟨v12, ev12⟩ : ∃ y : Int32, y = x3 + 1 := ⟨_, rfl⟩
          have h := h v12 ev12
          refine ac_iinc (j := 3) (lv' := [(3, .int v12), (0, .ref r0), (1, .int x1), (2, .ref r2), (4, .int x4)]) d_X8_gatherRows_56 rfl (by rw [ev12]; rfl) (by decide) rfl ?_
          obtain ⟨v13, ev13⟩ : ∃ y : Int32, y = x4 + 1 := ⟨_, rfl⟩
          have h := h v13 ev13
          refine ac_iinc (j := 4) (lv' := [(4, .int v13), (3, .int v12), (0, .ref r0), (1, .int x1), (2, .ref r2)]) d_X8_gatherRows_59 rfl (by rw [ev13]; rfl) (by decide) rfl ?_
          refine ac_goto (tgt := 11) d_X8_gatherRows_62 (by decide) ?_
          refine ac_weak [2, 3, 4, 1, 0] rfl ?_
          exact ih v12 v13 f11 h

set_option maxRecDepth 20000 in
set_option maxHeartbeats 4000000 in
theorem c_X8_gatherRows (l : Launch) (D : va_G) (ki : Nat → ClassId) (r0 : Nat) (x1 : Int32) (f : ac_hp) (Q : ac_hp → Prop) (h : wp_X8_gatherRows ki r0 x1 f Q) : ac_met l D ki y_X8_gatherRows prog_4_method_6_code 5 none (ro_ 5 0 0) [.ref r0, .int x1] f (qr_V Q) 0 0 := by
  refine ac_enter (fun ki => wp_X8_gatherRows ki r0 x1 f Q) (by decide) (Nat.le_of_ble_eq_true rfl) h ?_
  intro x hro hR hnm h
  unfold wp_X8_gatherRows at h
  refine ac_aload_n 0 d_X8_gatherRows_0 rfl rfl ?_
  refine ac_iload_n 1 d_X8_gatherRows_1 rfl rfl ?_
  obtain ⟨⟨fs, hb⟩, h⟩ := h
  refine ac_callV0 cd_X8_tableOf ml_X8_118 in_X8_tableOf se_X8_tableOf rfl hb (c_X8_tableOf _ _ _ r0 x1 f _ h) rfl rfl (by rw [hro]; decide) rfl (rest := []) rfl (Nat.le_of_ble_eq_true rfl) (by rw [hro]; decide) d_X8_gatherRows_2 (ac_Rf (fun o2 f1 h => ?_))
  refine ac_astore_n (lv' := [(2, .ref o2), (0, .ref r0), (1, .int x1)]) d_X8_gatherRows_5 rfl (by decide) rfl ?_
  refine ac_iconst (v := 0) d_X8_gatherRows_6 rfl ?_
  refine ac_istore_n (lv' := [(3, .int 0), (2, .ref o2), (0, .ref r0), (1, .int x1)]) d_X8_gatherRows_7 rfl (by decide) rfl ?_
  refine ac_iconst (v := 0) d_X8_gatherRows_8 rfl ?_
  refine ac_istore (lv' := [(4, .int 0), (3, .int 0), (2, .ref o2), (0, .ref r0), (1, .int x1)]) d_X8_gatherRows_9 (by decide) rfl ?_
  obtain ⟨n14, h⟩ := h
  refine ac_weak [3, 4, 2, 1, 0] rfl ?_
  refine ok_X8_gatherRows_L11 hro r0 x1 o2 _ (fun y15 f16 h => ?_) n14 0 0 f1 h
  · skip
    refine ac_aload_n 0 d_X8_gatherRows_65 rfl rfl ?_
    obtain ⟨o17, hr, h⟩ := h
    refine ak_getf hr fl_X8_24 d_X8_gatherRows_66 ?_
    refine ac_iload_n 1 d_X8_gatherRows_69 rfl rfl ?_
    refine ac_iload_n 2 d_X8_gatherRows_70 rfl rfl ?_
    obtain ⟨f18, hr, h⟩ := h
    refine ak_iast 0 hr rfl d_X8_gatherRows_71 ?_
    exact ac_vreturn hR ⟨rfl, h⟩ (by decide) (by decide) d_X8_gatherRows_72

def wp_X8_search_L68 (ki : Nat → ClassId) (r0 : Nat) (x1 : Int32) (x2 : Int32) (x3 : Int32) (r4 : Nat) (x5 : Int32) (Q : Int32 → ac_hp → Prop) (E173 : Int32 → Int32 → ac_hp → Prop) (rec : Nat → Int32 → Int32 → ac_hp → (Int32 → ac_hp → Prop) → Prop) : Nat → Int32 → Int32 → Int32 → ac_hp → Prop
  | 0, _, _, _, _ => False
  | n + 1, x6, x7, x8, f => ∃ o13 : Nat, hr_f f r0 8 8 (.ref o13) ∧ ∃ v14 : Int32, hr_i (ki 0) f o13 x3 v14 ∧ ((v14 ≤ x8 → E173 x6 x7 f) ∧ (¬ v14 ≤ x8 → ∃ o15 : Nat, hr_f f r0 8 3 (.ref o15) ∧ ∃ v16 : Int32, hr_f f o15 7 6 (.int v16) ∧ ((¬ v16 = 0 → E173 x6 x7 f) ∧ (v16 = 0 → ∃ o17 : Nat, hr_f f r0 8 7 (.ref o17) ∧ ∃ v18 : Int32, hr_i (ki 0) f o17 ((x3 * 20) + x8) v18 ∧ hr_o f r0 8 ∧ wp_X8_agrees ki r0 x3 r4 v18 x2 f (fun v20 f19 => ((v20 = 0 → ∀ v21 : Int32, v21 = x8 + 1 → wp_X8_search_L68 ki r0 x1 x2 x3 r4 x5 Q E173 rec n x6 x7 v21 f19) ∧ (¬ v20 = 0 → hr_o f19 r0 8 ∧ wp_X8_settleVariables ki r0 x3 r4 v18 f19 (fun f22 => hr_o f22 r0 8 ∧ rec r0 (x1 + 1) x5 f22 (fun v24 f23 => ((¬ v24 = (-1) → ((¬ (v24 &&& (x2 ^^^ (-1))) = 0 → ∀ v25 : Int32, v25 = x6 ||| v24 → ∀ v26 : Int32, v26 = x8 + 1 → wp_X8_search_L68 ki r0 x1 x2 x3 r4 x5 Q E173 rec n v25 x7 v26 f23) ∧ ((v24 &&& (x2 ^^^ (-1))) = 0 → Q v24 f23))) ∧ (v24 = (-1) → ∀ v27 : Int32, v27 = x8 + 1 → wp_X8_search_L68 ki r0 x1 x2 x3 r4 x5 Q E173 rec n x6 1 v27 f23)))))))))))

def wp_X8_search (ki : Nat → ClassId) : Nat → Nat → Int32 → Int32 → ac_hp → (Int32 → ac_hp → Prop) → Prop
  | 0, _, _, _, _, _ => False
  | d + 1, r0, x1, x2, f, Q => ∃ o1 : Nat, hr_f f r0 8 2 (.ref o1) ∧ ∃ v2 : Int32, hr_f f o1 6 4 (.int v2) ∧ ((x1 < v2 → ∃ o3 : Nat, hr_f f r0 8 9 (.ref o3) ∧ ∃ v4 : Int32, hr_i (ki 0) f o3 x1 v4 ∧ hr_o f r0 8 ∧ wp_X8_tableOf ki r0 v4 f (fun o6 f5 => ∃ o7 : Nat, hr_f f5 r0 8 5 (.ref o7) ∧ ∃ v8 : Int32, hr_i (ki 0) f5 o7 v4 v8 ∧ ∀ v9 : Int32, v9 = x2 ||| v8 → ∃ o10 : Nat, hr_f f5 r0 8 5 (.ref o10) ∧ ∃ v11 : Int32, hr_i (ki 0) f5 o10 v4 v11 ∧ ∀ v12 : Int32, v12 = x2 &&& v11 → ∃ n28 : Nat, wp_X8_search_L68 ki r0 x1 x2 v4 o6 v9 Q (fun y29 y30 f31 => ((y30 = 0 → Q (y29 &&& x2) f31) ∧ (¬ y30 = 0 → Q (-1) f31))) (wp_X8_search ki d) n28 v12 0 0 f5)) ∧ (¬ x1 < v2 → ∃ o32 : Nat, hr_f f r0 8 3 (.ref o32) ∧ ∃ o33 : Nat, hr_f f r0 8 11 (.ref o33) ∧ ∃ v34 : Int32, hr_f f r0 8 12 (.int v34) ∧ hr_o f o32 7 ∧ wp_X7_take ki o32 o33 v34 f (fun f35 => Q (-1) f35)))

set_option maxRecDepth 20000 in
set_option maxHeartbeats 4000000 in
theorem ok_X8_search_L68 {x : ac_X} {d : Nat} (hro : ac_R x = (ro_ (5 + (d + 1)) 0 0)) (r0 : Nat) (x1 : Int32) (x2 : Int32) (x3 : Int32) (r4 : Nat) (x5 : Int32) (Q : Int32 → ac_hp → Prop) (hR : ac_rt x (some .int) (qr_I Q) 0 0) (E173 : Int32 → Int32 → ac_hp → Prop) (hE173 : ∀ (y6 : Int32) (y7 : Int32) (f : ac_hp), E173 y6 y7 f → ac_At (prog_4_method_13_code, 11, "VirtualRewrite$Finder") x 0 0 173 [(2, .int x2), (6, .int y6), (7, .int y7)] [] f) (rec : Nat → Int32 → Int32 → ac_hp → (Int32 → ac_hp → Prop) → Prop) (hrec : ∀ (r0 : Nat) (x1 : Int32) (x2 : Int32) (f : ac_hp) (Q : Int32 → ac_hp → Prop), rec r0 x1 x2 f Q → ac_met (ac_l x) (ac_D x) (ac_ki x) y_X8_search prog_4_method_13_code 11 (some .int) (ro_ (5 + d) 0 0) [.ref r0, .int x1, .int x2] f (qr_I Q) 0 0) : ∀ (n : Nat) (x6 : Int32) (x7 : Int32) (x8 : Int32) (f : ac_hp), wp_X8_search_L68 (ac_ki x) r0 x1 x2 x3 r4 x5 Q E173 rec n x6 x7 x8 f → ac_At (prog_4_method_13_code, 11, "VirtualRewrite$Finder") x 0 0 68 [(0, .ref r0), (1, .int x1), (2, .int x2), (3, .int x3), (4, .ref r4), (5, .int x5), (6, .int x6), (7, .int x7), (8, .int x8)] [] f := by
  intro n
  induction n with
  | zero => intro _ _ _ _ h; exact h.elim
  | succ n ih =>
    intro x6 x7 x8 f h
    rw [wp_X8_search_L68] at h
    refine ac_iload 8 d_X8_search_68 rfl ?_
    refine ac_aload_n 0 d_X8_search_70 rfl rfl ?_
    obtain ⟨o13, hr, h⟩ := h
    refine ak_getf hr fl_X8_24 d_X8_search_71 ?_
    refine ac_iload_n 3 d_X8_search_74 rfl rfl ?_
    obtain ⟨v14, hr, h⟩ := h
    refine ak_iald 0 hr rfl d_X8_search_75 ?_
    refine ac_icmp_ge (tgt := 173) d_X8_search_76 (by decide) (fun hc => ?_) (fun hc => ?_)
    · have h := h.1 hc
      refine ac_weak [2, 6, 7] rfl ?_
      exact hE173 x6 x7 f h
    · have h := h.2 hc
      refine ac_aload_n 0 d_X8_search_79 rfl rfl ?_
      obtain ⟨o15, hr, h⟩ := h
      refine ak_getf hr fl_X8_52 d_X8_search_80 ?_
      obtain ⟨v16, hr, h⟩ := h
      refine ak_getf hr fl_X8_162 d_X8_search_83 ?_
      refine ac_if_ne (tgt := 173) d_X8_search_86 (by decide) (fun hc => ?_) (fun hc => ?_)
      · have h := h.1 hc
        refine ac_weak [2, 6, 7] rfl ?_
        exact hE173 x6 x7 f h
      · have h := h.2 hc
        refine ac_aload_n 0 d_X8_search_89 rfl rfl ?_
        obtain ⟨o17, hr, h⟩ := h
        refine ak_getf hr fl_X8_21 d_X8_search_90 ?_
        refine ac_iload_n 3 d_X8_search_93 rfl rfl ?_
        refine ac_bipush (v := 20) d_X8_search_94 rfl ?_
        refine ac_imul d_X8_search_96 ?_
        refine ac_iload 8 d_X8_search_97 rfl ?_
        refine ac_iadd d_X8_search_99 ?_
        obtain ⟨v18, hr, h⟩ := h
        refine ak_iald 0 hr rfl d_X8_search_100 ?_
        refine ac_istore (lv' := [(9, .int v18), (0, .ref r0), (1, .int x1), (2, .int x2), (3, .int x3), (4, .ref r4), (5, .int x5), (6, .int x6), (7, .int x7), (8, .int x8)]) d_X8_search_101 (by decide) rfl ?_
        refine ac_aload_n 1 d_X8_search_103 rfl rfl ?_
        refine ac_iload_n 4 d_X8_search_104 rfl rfl ?_
        refine ac_aload 5 d_X8_search_105 rfl ?_
        refine ac_iload 0 d_X8_search_107 rfl ?_
        refine ac_iload_n 3 d_X8_search_109 rfl rfl ?_
        obtain ⟨⟨fs, hb⟩, h⟩ := h
        refine ac_callV0 cd_X8_agrees ml_X8_166 in_X8_agrees se_X8_agrees rfl hb (c_X8_agrees _ _ _ r0 x3 r4 v18 x2 f _ h) rfl rfl (by rw [hro]; constructor <;> simp only [ro_] <;> omega) rfl (rest := []) rfl (Nat.le_of_ble_eq_true rfl) (by rw [hro]; constructor <;> simp only [ro_] <;> omega) d_X8_search_110 (ac_I (fun v20 f19 h => ?_))
        refine ac_if_eq (tgt := 167) d_X8_search_113 (by decide) (fun hc => ?_) (fun hc => ?_)
        · have h := h.1 hc
          obtain ⟨v21, ev21⟩ : ∃ y : Int32, y = x8 + 1 := ⟨_, rfl⟩
          have h := h v21 ev21
          refine ac_iinc (j := 9) (lv' := [(8, .int v21), (9, .int v18), (0, .ref r0), (1, .int x1), (2, .int x2), (3, .int x3), (4, .ref r4), (5, .int x5), (6, .int x6), (7, .int x7)]) d_X8_search_167 rfl (by rw [ev21]; rfl) (by decide) rfl ?_
          refine ac_goto (tgt := 68) d_X8_search_170 (by decide) ?_
          refine ac_weak [2, 3, 4, 5, 6, 7, 8, 9, 0] rfl ?_
          exact ih x6 x7 v21 f19 h
        · have h := h.2 hc
          refine ac_aload_n 1 d_X8_search_116 rfl rfl ?_
          refine ac_iload_n 4 d_X8_search_117 rfl rfl ?_
          refine ac_aload 5 d_X8_search_118 rfl ?_
          refine ac_iload 0 d_X8_search_120 rfl ?_
          obtain ⟨⟨fs, hb⟩, h⟩ := h
          refine ac_callV0 cd_X8_settleVariables ml_X8_169 in_X8_settleVariables se_X8_settleVariables rfl hb (c_X8_settleVariables _ _ _ r0 x3 r4 v18 f19 _ h) rfl rfl (by rw [hro]; constructor <;> simp only [ro_] <;> omega) rfl (rest := []) rfl (Nat.le_of_ble_eq_true rfl) (by rw [hro]; constructor <;> simp only [ro_] <;> omega) d_X8_search_122 (ac_V (fun f22 h => ?_))
          refine ac_aload_n 1 d_X8_search_125 rfl rfl ?_
          refine ac_iload_n 2 d_X8_search_126 rfl rfl ?_
          refine ac_iconst (v := 1) d_X8_search_127 rfl ?_
          refine ac_iadd d_X8_search_128 ?_
          refine ac_iload 6 d_X8_search_129 rfl ?_
          obtain ⟨⟨fs, hb⟩, h⟩ := h
          refine ac_callV0 cd_X8_search ml_X8_74 in_X8_search se_X8_search rfl hb (hrec r0 (x1 + 1) x5 f22 _ h) rfl rfl (by rw [hro]; constructor <;> simp only [ro_] <;> omega) rfl (rest := []) rfl (Nat.le_of_ble_eq_true rfl) (by rw [hro]; constructor <;> simp only [ro_] <;> omega) d_X8_search_131 (ac_I (fun v24 f23 h => ?_))
          refine ac_istore (lv' := [(10, .int v24), (9, .int v18), (0, .ref r0), (1, .int x1), (2, .int x2), (3, .int x3), (4, .ref r4), (5, .int x5), (6, .int x6), (7, .int x7), (8, .int x8)]) d_X8_search_134 (by decide) rfl ?_
          refine ac_iload 0 d_X8_search_136 rfl ?_
          refine ac_iconst (v := -1) d_X8_search_138 rfl ?_
          refine ac_icmp_ne (tgt := 148) d_X8_search_139 (by decide) (fun hc => ?_) (fun hc => ?_)
          · have h := h.1 hc
            refine ac_iload 0 d_X8_search_148 rfl ?_
            refine ac_iload_n 4 d_X8_search_150 rfl rfl ?_
            refine ac_iconst (v := -1) d_X8_search_151 rfl ?_
            refine ac_ixor d_X8_search_152 ?_
            refine ac_iand d_X8_search_153 ?_
            refine ac_if_ne (tgt := 160) d_X8_search_154 (by decide) (fun hc => ?_) (fun hc => ?_)
            · have h := h.1 hc
              refine ac_iload 8 d_X8_search_160 rfl ?_
              refine ac_iload 0 d_X8_search_162 rfl ?_
              refine ac_ior d_X8_search_164 ?_
              refine ak_topi (fun v25 ev25 => ?_)
              have h := h v25 ev25
              refine ac_istore (lv' := [(6, .int v25), (10, .int v24), (9, .int v18), (0, .ref r0), (1, .int x1), (2, .int x2), (3, .int x3), (4, .ref r4), (5, .int x5), (7, .int x7), (8, .int x8)]) d_X8_search_165 (by decide) rfl ?_
              obtain ⟨v26, ev26⟩ : ∃ y : Int32, y = x8 + 1 := ⟨_, rfl⟩
              have h := h v26 ev26
              refine ac_iinc (j := 10) (lv' := [(8, .int v26), (6, .int v25), (10, .int v24), (9, .int v18), (0, .ref r0), (1, .int x1), (2, .int x2), (3, .int x3), (4, .ref r4), (5, .int x5), (7, .int x7)]) d_X8_search_167 rfl (by rw [ev26]; rfl) (by decide) rfl ?_
              refine ac_goto (tgt := 68) d_X8_search_170 (by decide) ?_
              refine ac_weak [4, 5, 6, 7, 8, 9, 1, 10, 0] rfl ?_
              exact ih v25 x7 v26 f23 h
            · have h := h.2 hc
              refine ac_iload 0 d_X8_search_157 rfl ?_
              exact ac_ireturn hR rfl ⟨_, rfl, h⟩ (by decide) (by decide) d_X8_search_159
          · have h := h.2 hc
            refine ac_iconst (v := 1) d_X8_search_142 rfl ?_
            refine ac_istore (lv' := [(7, .int 1), (10, .int v24), (9, .int v18), (0, .ref r0), (1, .int x1), (2, .int x2), (3, .int x3), (4, .ref r4), (5, .int x5), (6, .int x6), (8, .int x8)]) d_X8_search_143 (by decide) rfl ?_
            refine ac_goto (tgt := 167) d_X8_search_145 (by decide) ?_
            obtain ⟨v27, ev27⟩ : ∃ y : Int32, y = x8 + 1 := ⟨_, rfl⟩
            have h := h v27 ev27
            refine ac_iinc (j := 10) (lv' := [(8, .int v27), (7, .int 1), (10, .int v24), (9, .int v18), (0, .ref r0), (1, .int x1), (2, .int x2), (3, .int x3), (4, .ref r4), (5, .int x5), (6, .int x6)]) d_X8_search_167 rfl (by rw [ev27]; rfl) (by decide) rfl ?_
            refine ac_goto (tgt := 68) d_X8_search_170 (by decide) ?_
            refine ac_weak [4, 5, 6, 7, 8, 9, 10, 1, 0] rfl ?_
            exact ih x6 1 v27 f23 h

set_option maxRecDepth 20000 in
set_option maxHeartbeats 4000000 in
theorem c_X8_search : ∀ (d : Nat) (l : Launch) (D : va_G) (ki : Nat → ClassId) (r0 : Nat) (x1 : Int32) (x2 : Int32) (f : ac_hp) (Q : Int32 → ac_hp → Prop) (h : wp_X8_search ki d r0 x1 x2 f Q), ac_met l D ki y_X8_search prog_4_method_13_code 11 (some .int) (ro_ (5 + d) 0 0) [.ref r0, .int x1, .int x2] f (qr_I Q) 0 0 := by
  intro d
  induction d with
  | zero => intro _ _ _ _ _ _ _ _ h; exact h.elim
  | succ d ihd =>
    intro l D ki r0 x1 x2 f Q h
    refine ac_enter (fun ki => wp_X8_search ki (d + 1) r0 x1 x2 f Q) (by decide) (Nat.le_of_ble_eq_true rfl) h ?_
    intro x hro hR hnm h
    have hrec := ihd (ac_l x) (ac_D x) (ac_ki x)
    rw [wp_X8_search] at h
    refine ac_iload_n 1 d_X8_search_0 rfl rfl ?_
    refine ac_aload_n 0 d_X8_search_1 rfl rfl ?_
    obtain ⟨o1, hr, h⟩ := h
    refine ak_getf hr fl_X8_48 d_X8_search_2 ?_
    obtain ⟨v2, hr, h⟩ := h
    refine ak_getf hr fl_X8_65 d_X8_search_5 ?_
    refine ac_icmp_lt (tgt := 28) d_X8_search_8 (by decide) (fun hc => ?_) (fun hc => ?_)
    · have h := h.1 hc
      refine ac_aload_n 0 d_X8_search_28 rfl rfl ?_
      obtain ⟨o3, hr, h⟩ := h
      refine ak_getf hr fl_X8_27 d_X8_search_29 ?_
      refine ac_iload_n 1 d_X8_search_32 rfl rfl ?_
      obtain ⟨v4, hr, h⟩ := h
      refine ak_iald 0 hr rfl d_X8_search_33 ?_
      refine ac_istore_n (lv' := [(3, .int v4), (0, .ref r0), (1, .int x1), (2, .int x2)]) d_X8_search_34 rfl (by decide) rfl ?_
      refine ac_aload_n 1 d_X8_search_35 rfl rfl ?_
      refine ac_iload_n 0 d_X8_search_36 rfl rfl ?_
      obtain ⟨⟨fs, hb⟩, h⟩ := h
      refine ac_callV0 cd_X8_tableOf ml_X8_118 in_X8_tableOf se_X8_tableOf rfl hb (c_X8_tableOf _ _ _ r0 v4 f _ h) rfl rfl (by rw [hro]; constructor <;> simp only [ro_] <;> omega) rfl (rest := []) rfl (Nat.le_of_ble_eq_true rfl) (by rw [hro]; constructor <;> simp only [ro_] <;> omega) d_X8_search_37 (ac_Rf (fun o6 f5 h => ?_))
      refine ac_astore (lv' := [(4, .ref o6), (3, .int v4), (0, .ref r0), (1, .int x1), (2, .int x2)]) d_X8_search_40 (by decide) rfl ?_
      refine ac_iload_n 4 d_X8_search_42 rfl rfl ?_
      refine ac_aload_n 2 d_X8_search_43 rfl rfl ?_
      obtain ⟨o7, hr, h⟩ := h
      refine ak_getf hr fl_X8_15 d_X8_search_44 ?_
      refine ac_iload_n 1 d_X8_search_47 rfl rfl ?_
      obtain ⟨v8, hr, h⟩ := h
      refine ak_iald 0 hr rfl d_X8_search_48 ?_
      refine ac_ior d_X8_search_49 ?_
      refine ak_topi (fun v9 ev9 => ?_)
      have h := h v9 ev9
      refine ac_istore (lv' := [(5, .int v9), (4, .ref o6), (3, .int v4), (0, .ref r0), (1, .int x1), (2, .int x2)]) d_X8_search_50 (by decide) rfl ?_
      refine ac_iload_n 5 d_X8_search_52 rfl rfl ?_
      refine ac_aload_n 3 d_X8_search_53 rfl rfl ?_
      obtain ⟨o10, hr, h⟩ := h
      refine ak_getf hr fl_X8_15 d_X8_search_54 ?_
      refine ac_iload_n 2 d_X8_search_57 rfl rfl ?_
      obtain ⟨v11, hr, h⟩ := h
      refine ak_iald 0 hr rfl d_X8_search_58 ?_
      refine ac_iand d_X8_search_59 ?_
      refine ak_topi (fun v12 ev12 => ?_)
      have h := h v12 ev12
      refine ac_istore (lv' := [(6, .int v12), (5, .int v9), (4, .ref o6), (3, .int v4), (0, .ref r0), (1, .int x1), (2, .int x2)]) d_X8_search_60 (by decide) rfl ?_
      refine ac_iconst (v := 0) d_X8_search_62 rfl ?_
      refine ac_istore (lv' := [(7, .int 0), (6, .int v12), (5, .int v9), (4, .ref o6), (3, .int v4), (0, .ref r0), (1, .int x1), (2, .int x2)]) d_X8_search_63 (by decide) rfl ?_
      refine ac_iconst (v := 0) d_X8_search_65 rfl ?_
      refine ac_istore (lv' := [(8, .int 0), (7, .int 0), (6, .int v12), (5, .int v9), (4, .ref o6), (3, .int v4), (0, .ref r0), (1, .int x1), (2, .int x2)]) d_X8_search_66 (by decide) rfl ?_
      obtain ⟨n28, h⟩ := h
      refine ac_weak [6, 7, 8, 5, 4, 3, 2, 1, 0] rfl ?_
      refine ok_X8_search_L68 hro r0 x1 x2 v4 o6 v9 Q hR _ (fun y29 y30 f31 h => ?_) _ hrec n28 v12 0 0 f5 h
      · skip
        refine ac_iload 2 d_X8_search_173 rfl ?_
        refine ac_if_eq (tgt := 182) d_X8_search_175 (by decide) (fun hc => ?_) (fun hc => ?_)
        · have h := h.1 hc
          refine ac_iload 1 d_X8_search_182 rfl ?_
          refine ac_iload_n 0 d_X8_search_184 rfl rfl ?_
          refine ac_iand d_X8_search_185 ?_
          exact ac_ireturn hR rfl ⟨_, rfl, h⟩ (by decide) (by decide) d_X8_search_186
        · have h := h.2 hc
          refine ac_iconst (v := -1) d_X8_search_178 rfl ?_
          refine ac_goto (tgt := 186) d_X8_search_179 (by decide) ?_
          exact ac_ireturn hR rfl ⟨_, rfl, h⟩ (by decide) (by decide) d_X8_search_186
    · have h := h.2 hc
      refine ac_aload_n 0 d_X8_search_11 rfl rfl ?_
      obtain ⟨o32, hr, h⟩ := h
      refine ak_getf hr fl_X8_52 d_X8_search_12 ?_
      refine ac_aload_n 0 d_X8_search_15 rfl rfl ?_
      obtain ⟨o33, hr, h⟩ := h
      refine ak_getf hr fl_X8_33 d_X8_search_16 ?_
      refine ac_aload_n 0 d_X8_search_19 rfl rfl ?_
      obtain ⟨v34, hr, h⟩ := h
      refine ak_getf hr fl_X8_36 d_X8_search_20 ?_
      obtain ⟨⟨fs, hb⟩, h⟩ := h
      refine ac_callV0 cd_X7_take ml_X8_156 in_X7_take se_X7_take rfl hb (c_X7_take _ _ _ o32 o33 v34 f _ h) rfl rfl (by rw [hro]; constructor <;> simp only [ro_] <;> omega) rfl (rest := []) rfl (Nat.le_of_ble_eq_true rfl) (by rw [hro]; constructor <;> simp only [ro_] <;> omega) d_X8_search_23 (ac_V (fun f35 h => ?_))
      refine ac_iconst (v := -1) d_X8_search_26 rfl ?_
      exact ac_ireturn hR rfl ⟨_, rfl, h⟩ (by decide) (by decide) d_X8_search_27

