def wp_X2_init (ki : Nat → ClassId) (r0 : Nat) (f : ac_hp) (Q : ac_hp → Prop) : Prop := ((0 : Nat) + 1 ≤ 2 ∧ (0 : Nat) + 60 ≤ 63) ∧ ∀ q1 : Nat, f q1 = none → ∀ f2 : ac_hp, f2 = ac_up f q1 (.inl (ki 0, 60, .inl (fun _ => 0))) → ∃ f3 : ac_hp, hw_f f2 r0 2 0 (.ref q1) f3 ∧ ((1 : Nat) + 1 ≤ 2 ∧ (60 : Nat) + 3 ≤ 63) ∧ ∀ q4 : Nat, f3 q4 = none → ∀ f5 : ac_hp, f5 = ac_up f3 q4 (.inl (ki 1, 3, .inl (fun _ => 0))) → ∃ f6 : ac_hp, hw_f f5 r0 2 1 (.ref q4) f6 ∧ ∃ f7 : ac_hp, hw_f f6 r0 2 2 (.int 0) f7 ∧ ((2 : Nat) ≤ 2 ∧ (63 : Nat) ≤ 63) ∧ Q f7

set_option maxRecDepth 20000 in
set_option maxHeartbeats 4000000 in
theorem c_X2_init (l : Launch) (D : va_G) (ki : Nat → ClassId) (r0 : Nat) (f : ac_hp) (Q : ac_hp → Prop) (h : wp_X2_init ki r0 f Q) : ac_met l D ki y_X2_init prog_9_method_1_code 1 none (ro_ 1 2 63) [.ref r0] f (qr_V Q) 2 63 := by
  refine ac_enter (fun ki => wp_X2_init ki r0 f Q) (by decide) (Nat.le_of_ble_eq_true rfl) h ?_
  intro x hro hR hnm h
  unfold wp_X2_init at h
  refine ac_aload_n 0 d_X2_init_0 rfl rfl ?_
  refine ac_objInit oi_X2_3 oi_inst oi_code (by rw [hro]; decide) (by rw [hro]; decide) d_X2_init_1 ?_
  refine ac_aload_n 0 d_X2_init_4 rfl rfl ?_
  refine ac_bipush (v := 60) d_X2_init_5 rfl ?_
  have hk := h.1
  have h := h.2
  refine ac_newa (a0 := (60, .inl (fun _ => 0))) (t0 := 0) ka_I rfl rfl (fun _ => rfl) (by decide) (by decide) (by decide) (by rw [hro]; exact hk.1) (by rw [hro]; exact hk.2) d_X2_init_7 (fun q1 hq => ?_)
  have h := h q1 hq
  obtain ⟨f2, ef2⟩ : ∃ z, z = ac_up f q1 (.inl (ac_ki x 0, 60, .inl (fun _ => 0))) := ⟨_, rfl⟩
  have h := h f2 ef2
  rw [← ef2]
  obtain ⟨f3, hr, h⟩ := h
  refine ak_putF hr fp_X2_9 hnm rfl rfl d_X2_init_9 ?_
  refine ac_aload_n 0 d_X2_init_12 rfl rfl ?_
  refine ac_iconst (v := 3) d_X2_init_13 rfl ?_
  have hk := h.1
  have h := h.2
  refine ac_newa (a0 := (3, .inl (fun _ => 0))) (t0 := 1) ka_Z rfl rfl (fun _ => rfl) (by decide) (by decide) (by decide) (by rw [hro]; exact hk.1) (by rw [hro]; exact hk.2) d_X2_init_14 (fun q4 hq => ?_)
  have h := h q4 hq
  obtain ⟨f5, ef5⟩ : ∃ z, z = ac_up f3 q4 (.inl (ac_ki x 1, 3, .inl (fun _ => 0))) := ⟨_, rfl⟩
  have h := h f5 ef5
  rw [← ef5]
  obtain ⟨f6, hr, h⟩ := h
  refine ak_putF hr fp_X2_15 hnm rfl rfl d_X2_init_16 ?_
  refine ac_aload_n 0 d_X2_init_19 rfl rfl ?_
  refine ac_iconst (v := 0) d_X2_init_20 rfl ?_
  obtain ⟨f7, hr, h⟩ := h
  refine ak_putf hr fp_X2_19 rfl rfl d_X2_init_21 ?_
  have hk := h.1
  have h := h.2
  exact ac_vreturn hR ⟨rfl, h⟩ hk.1 hk.2 d_X2_init_24

def wp_X3_init (ki : Nat → ClassId) (r0 : Nat) (f : ac_hp) (Q : ac_hp → Prop) : Prop := ((0 : Nat) + 1 ≤ 2 ∧ (0 : Nat) + 2 ≤ 4) ∧ ∀ q1 : Nat, f q1 = none → ∀ f2 : ac_hp, f2 = ac_up f q1 (.inl (ki 0, 2, .inl (fun _ => 0))) → ∃ f3 : ac_hp, hw_f f2 r0 3 0 (.ref q1) f3 ∧ ((1 : Nat) + 1 ≤ 2 ∧ (2 : Nat) + 2 ≤ 4) ∧ ∀ q4 : Nat, f3 q4 = none → ∀ f5 : ac_hp, f5 = ac_up f3 q4 (.inl (ki 0, 2, .inl (fun _ => 0))) → ∃ f6 : ac_hp, hw_f f5 r0 3 1 (.ref q4) f6 ∧ ∃ f7 : ac_hp, hw_f f6 r0 3 2 (.int 0) f7 ∧ ∃ f8 : ac_hp, hw_f f7 r0 3 3 (.int 0) f8 ∧ ((2 : Nat) ≤ 2 ∧ (4 : Nat) ≤ 4) ∧ Q f8

set_option maxRecDepth 20000 in
set_option maxHeartbeats 4000000 in
theorem c_X3_init (l : Launch) (D : va_G) (ki : Nat → ClassId) (r0 : Nat) (f : ac_hp) (Q : ac_hp → Prop) (h : wp_X3_init ki r0 f Q) : ac_met l D ki y_X3_init prog_5_method_1_code 1 none (ro_ 1 2 4) [.ref r0] f (qr_V Q) 2 4 := by
  refine ac_enter (fun ki => wp_X3_init ki r0 f Q) (by decide) (Nat.le_of_ble_eq_true rfl) h ?_
  intro x hro hR hnm h
  unfold wp_X3_init at h
  refine ac_aload_n 0 d_X3_init_0 rfl rfl ?_
  refine ac_objInit oi_X3_3 oi_inst oi_code (by rw [hro]; decide) (by rw [hro]; decide) d_X3_init_1 ?_
  refine ac_aload_n 0 d_X3_init_4 rfl rfl ?_
  refine ac_iconst (v := 2) d_X3_init_5 rfl ?_
  have hk := h.1
  have h := h.2
  refine ac_newa (a0 := (2, .inl (fun _ => 0))) (t0 := 0) ka_I rfl rfl (fun _ => rfl) (by decide) (by decide) (by decide) (by rw [hro]; exact hk.1) (by rw [hro]; exact hk.2) d_X3_init_6 (fun q1 hq => ?_)
  have h := h q1 hq
  obtain ⟨f2, ef2⟩ : ∃ z, z = ac_up f q1 (.inl (ac_ki x 0, 2, .inl (fun _ => 0))) := ⟨_, rfl⟩
  have h := h f2 ef2
  rw [← ef2]
  obtain ⟨f3, hr, h⟩ := h
  refine ak_putF hr fp_X3_9 hnm rfl rfl d_X3_init_8 ?_
  refine ac_aload_n 0 d_X3_init_11 rfl rfl ?_
  refine ac_iconst (v := 2) d_X3_init_12 rfl ?_
  have hk := h.1
  have h := h.2
  refine ac_newa (a0 := (2, .inl (fun _ => 0))) (t0 := 0) ka_I rfl rfl (fun _ => rfl) (by decide) (by decide) (by decide) (by rw [hro]; exact hk.1) (by rw [hro]; exact hk.2) d_X3_init_13 (fun q4 hq => ?_)
  have h := h q4 hq
  obtain ⟨f5, ef5⟩ : ∃ z, z = ac_up f3 q4 (.inl (ac_ki x 0, 2, .inl (fun _ => 0))) := ⟨_, rfl⟩
  have h := h f5 ef5
  rw [← ef5]
  obtain ⟨f6, hr, h⟩ := h
  refine ak_putF hr fp_X3_15 hnm rfl rfl d_X3_init_15 ?_
  refine ac_aload_n 0 d_X3_init_18 rfl rfl ?_
  refine ac_iconst (v := 0) d_X3_init_19 rfl ?_
  obtain ⟨f7, hr, h⟩ := h
  refine ak_putf hr fp_X3_18 rfl rfl d_X3_init_20 ?_
  refine ac_aload_n 0 d_X3_init_23 rfl rfl ?_
  refine ac_iconst (v := 0) d_X3_init_24 rfl ?_
  obtain ⟨f8, hr, h⟩ := h
  refine ak_putf hr fp_X3_22 rfl rfl d_X3_init_25 ?_
  have hk := h.1
  have h := h.2
  exact ac_vreturn hR ⟨rfl, h⟩ hk.1 hk.2 d_X3_init_28

def wp_X4_init_L47 (ki : Nat → ClassId) (r0 : Nat) (E68 : Nat → Nat → ac_hp → Prop) : Nat → Int32 → Nat → Nat → ac_hp → Prop
  | 0, _, _, _, _ => False
  | n + 1, x1, kc, ks, f => ((6 ≤ x1 → E68 kc ks f) ∧ (¬ 6 ≤ x1 → ∃ o15 : Nat, hr_f f r0 4 3 (.ref o15) ∧ ∃ f16 : ac_hp, hw_i (ki 0) f o15 x1 9999 f16 ∧ ∀ v17 : Int32, v17 = x1 + 1 → wp_X4_init_L47 ki r0 E68 n v17 kc ks f16))

def wp_X4_init (ki : Nat → ClassId) (r0 : Nat) (f : ac_hp) (Q : ac_hp → Prop) : Prop := ((0 : Nat) + 1 ≤ 4 ∧ (0 : Nat) + 4 ≤ 24) ∧ ∀ q1 : Nat, f q1 = none → ∀ f2 : ac_hp, f2 = ac_up f q1 (.inl (ki 0, 4, .inl (fun _ => 0))) → ∃ f3 : ac_hp, hw_f f2 r0 4 0 (.ref q1) f3 ∧ ((1 : Nat) + 1 ≤ 4 ∧ (4 : Nat) + 8 ≤ 24) ∧ ∀ q4 : Nat, f3 q4 = none → ∀ f5 : ac_hp, f5 = ac_up f3 q4 (.inl (ki 0, 8, .inl (fun _ => 0))) → ∃ f6 : ac_hp, hw_f f5 r0 4 1 (.ref q4) f6 ∧ ((2 : Nat) + 1 ≤ 4 ∧ (12 : Nat) + 6 ≤ 24) ∧ ∀ q7 : Nat, f6 q7 = none → ∀ f8 : ac_hp, f8 = ac_up f6 q7 (.inl (ki 0, 6, .inl (fun _ => 0))) → ∃ f9 : ac_hp, hw_f f8 r0 4 2 (.ref q7) f9 ∧ ((3 : Nat) + 1 ≤ 4 ∧ (18 : Nat) + 6 ≤ 24) ∧ ∀ q10 : Nat, f9 q10 = none → ∀ f11 : ac_hp, f11 = ac_up f9 q10 (.inl (ki 0, 6, .inl (fun _ => 0))) → ∃ f12 : ac_hp, hw_f f11 r0 4 3 (.ref q10) f12 ∧ ∃ f13 : ac_hp, hw_f f12 r0 4 4 (.int 0) f13 ∧ ∃ f14 : ac_hp, hw_f f13 r0 4 5 (.int 0) f14 ∧ ∃ n18 : Nat, wp_X4_init_L47 ki r0 (fun kc20 ks21 f19 => (kc20 ≤ 4 ∧ ks21 ≤ 24) ∧ Q f19) n18 0 4 24 f14

set_option maxRecDepth 20000 in
set_option maxHeartbeats 4000000 in
theorem ok_X4_init_L47 {x : ac_X} (hro : ac_R x = (ro_ 1 4 24)) (hnm : (ac_meth x).name = "<init>") (r0 : Nat) (E68 : Nat → Nat → ac_hp → Prop) (hE68 : ∀ (kc ks : Nat) (f : ac_hp), E68 kc ks f → ac_At (prog_6_method_1_code, 2, "VirtualRewrite$Question") x kc ks 68 [] [] f) : ∀ (n : Nat) (x1 : Int32) (kc ks : Nat) (f : ac_hp), wp_X4_init_L47 (ac_ki x) r0 E68 n x1 kc ks f → ac_At (prog_6_method_1_code, 2, "VirtualRewrite$Question") x kc ks 47 [(0, .ref r0), (1, .int x1)] [] f := by
  intro n
  induction n with
  | zero => intro _ _ _ _ h; exact h.elim
  | succ n ih =>
    intro x1 kc ks f h
    rw [wp_X4_init_L47] at h
    refine ac_iload_n 1 d_X4_init_47 rfl rfl ?_
    refine ac_bipush (v := 6) d_X4_init_48 rfl ?_
    refine ac_icmp_ge (tgt := 68) d_X4_init_50 (by decide) (fun hc => ?_) (fun hc => ?_)
    · have h := h.1 hc
      refine ac_weak [] rfl ?_
      exact hE68 kc ks f h
    · have h := h.2 hc
      refine ac_aload_n 0 d_X4_init_53 rfl rfl ?_
      obtain ⟨o15, hr, h⟩ := h
      refine ak_getf hr fl_X4_21 d_X4_init_54 ?_
      refine ac_iload_n 1 d_X4_init_57 rfl rfl ?_
      refine ac_sipush (v := 9999) d_X4_init_58 rfl ?_
      obtain ⟨f16, hr, h⟩ := h
      refine ak_iast 0 hr rfl d_X4_init_61 ?_
      obtain ⟨v17, ev17⟩ : ∃ y : Int32, y = x1 + 1 := ⟨_, rfl⟩
      have h := h v17 ev17
      refine ac_iinc (j := 1) (lv' := [(1, .int v17), (0, .ref r0)]) d_X4_init_62 rfl (by rw [ev17]; rfl) (by decide) rfl ?_
      refine ac_goto (tgt := 47) d_X4_init_65 (by decide) ?_
      refine ac_weak [1, 0] rfl ?_
      exact ih v17 kc ks f16 h

set_option maxRecDepth 20000 in
set_option maxHeartbeats 4000000 in
theorem c_X4_init (l : Launch) (D : va_G) (ki : Nat → ClassId) (r0 : Nat) (f : ac_hp) (Q : ac_hp → Prop) (h : wp_X4_init ki r0 f Q) : ac_met l D ki y_X4_init prog_6_method_1_code 2 none (ro_ 1 4 24) [.ref r0] f (qr_V Q) 4 24 := by
  refine ac_enter (fun ki => wp_X4_init ki r0 f Q) (by decide) (Nat.le_of_ble_eq_true rfl) h ?_
  intro x hro hR hnm h
  unfold wp_X4_init at h
  refine ac_aload_n 0 d_X4_init_0 rfl rfl ?_
  refine ac_objInit oi_X4_3 oi_inst oi_code (by rw [hro]; decide) (by rw [hro]; decide) d_X4_init_1 ?_
  refine ac_aload_n 0 d_X4_init_4 rfl rfl ?_
  refine ac_iconst (v := 4) d_X4_init_5 rfl ?_
  have hk := h.1
  have h := h.2
  refine ac_newa (a0 := (4, .inl (fun _ => 0))) (t0 := 0) ka_I rfl rfl (fun _ => rfl) (by decide) (by decide) (by decide) (by rw [hro]; exact hk.1) (by rw [hro]; exact hk.2) d_X4_init_6 (fun q1 hq => ?_)
  have h := h q1 hq
  obtain ⟨f2, ef2⟩ : ∃ z, z = ac_up f q1 (.inl (ac_ki x 0, 4, .inl (fun _ => 0))) := ⟨_, rfl⟩
  have h := h f2 ef2
  rw [← ef2]
  obtain ⟨f3, hr, h⟩ := h
  refine ak_putF hr fp_X4_9 hnm rfl rfl d_X4_init_8 ?_
  refine ac_aload_n 0 d_X4_init_11 rfl rfl ?_
  refine ac_bipush (v := 8) d_X4_init_12 rfl ?_
  have hk := h.1
  have h := h.2
  refine ac_newa (a0 := (8, .inl (fun _ => 0))) (t0 := 0) ka_I rfl rfl (fun _ => rfl) (by decide) (by decide) (by decide) (by rw [hro]; exact hk.1) (by rw [hro]; exact hk.2) d_X4_init_14 (fun q4 hq => ?_)
  have h := h q4 hq
  obtain ⟨f5, ef5⟩ : ∃ z, z = ac_up f3 q4 (.inl (ac_ki x 0, 8, .inl (fun _ => 0))) := ⟨_, rfl⟩
  have h := h f5 ef5
  rw [← ef5]
  obtain ⟨f6, hr, h⟩ := h
  refine ak_putF hr fp_X4_15 hnm rfl rfl d_X4_init_16 ?_
  refine ac_aload_n 0 d_X4_init_19 rfl rfl ?_
  refine ac_bipush (v := 6) d_X4_init_20 rfl ?_
  have hk := h.1
  have h := h.2
  refine ac_newa (a0 := (6, .inl (fun _ => 0))) (t0 := 0) ka_I rfl rfl (fun _ => rfl) (by decide) (by decide) (by decide) (by rw [hro]; exact hk.1) (by rw [hro]; exact hk.2) d_X4_init_22 (fun q7 hq => ?_)
  have h := h q7 hq
  obtain ⟨f8, ef8⟩ : ∃ z, z = ac_up f6 q7 (.inl (ac_ki x 0, 6, .inl (fun _ => 0))) := ⟨_, rfl⟩
  have h := h f8 ef8
  rw [← ef8]
  obtain ⟨f9, hr, h⟩ := h
  refine ak_putF hr fp_X4_18 hnm rfl rfl d_X4_init_24 ?_
  refine ac_aload_n 0 d_X4_init_27 rfl rfl ?_
  refine ac_bipush (v := 6) d_X4_init_28 rfl ?_
  have hk := h.1
  have h := h.2
  refine ac_newa (a0 := (6, .inl (fun _ => 0))) (t0 := 0) ka_I rfl rfl (fun _ => rfl) (by decide) (by decide) (by decide) (by rw [hro]; exact hk.1) (by rw [hro]; exact hk.2) d_X4_init_30 (fun q10 hq => ?_)
  have h := h q10 hq
  obtain ⟨f11, ef11⟩ : ∃ z, z = ac_up f9 q10 (.inl (ac_ki x 0, 6, .inl (fun _ => 0))) := ⟨_, rfl⟩
  have h := h f11 ef11
  rw [← ef11]
  obtain ⟨f12, hr, h⟩ := h
  refine ak_putF hr fp_X4_21 hnm rfl rfl d_X4_init_32 ?_
  refine ac_aload_n 0 d_X4_init_35 rfl rfl ?_
  refine ac_iconst (v := 0) d_X4_init_36 rfl ?_
  obtain ⟨f13, hr, h⟩ := h
  refine ak_putf hr fp_X4_24 rfl rfl d_X4_init_37 ?_
  refine ac_aload_n 0 d_X4_init_40 rfl rfl ?_
  refine ac_iconst (v := 0) d_X4_init_41 rfl ?_
  obtain ⟨f14, hr, h⟩ := h
  refine ak_putf hr fp_X4_28 rfl rfl d_X4_init_42 ?_
  refine ac_iconst (v := 0) d_X4_init_45 rfl ?_
  refine ac_istore_n (lv' := [(1, .int 0), (0, .ref r0)]) d_X4_init_46 rfl (by decide) rfl ?_
  obtain ⟨n18, h⟩ := h
  refine ac_weak [1, 0] rfl ?_
  refine ok_X4_init_L47 hro hnm r0 _ (fun kc20 ks21 f19 h => ?_) n18 0 4 24 f14 h
  · skip
    have hk := h.1
    have h := h.2
    exact ac_vreturn hR ⟨rfl, h⟩ hk.1 hk.2 d_X4_init_68

def wp_X5_init (ki : Nat → ClassId) (r0 : Nat) (r1 : Nat) (r2 : Nat) (f : ac_hp) (Q : ac_hp → Prop) : Prop := ((0 : Nat) + 1 ≤ 3 ∧ (0 : Nat) + 600 ≤ 610) ∧ ∀ q1 : Nat, f q1 = none → ∀ f2 : ac_hp, f2 = ac_up f q1 (.inl (ki 0, 600, .inl (fun _ => 0))) → ∃ f3 : ac_hp, hw_f f2 r0 5 2 (.ref q1) f3 ∧ ((1 : Nat) + 1 ≤ 3 ∧ (600 : Nat) + 4 ≤ 610) ∧ ∀ q4 : Nat, f3 q4 = none → ∀ f5 : ac_hp, f5 = ac_up f3 q4 (.inl (ki 0, 4, .inl (fun _ => 0))) → ∃ f6 : ac_hp, hw_f f5 r0 5 3 (.ref q4) f6 ∧ ((2 : Nat) + 1 ≤ 3 ∧ (604 : Nat) + 6 ≤ 610) ∧ ∀ q7 : Nat, f6 q7 = none → ∀ f8 : ac_hp, f8 = ac_up f6 q7 (.inl (ki 0, 6, .inl (fun _ => 0))) → ∃ f9 : ac_hp, hw_f f8 r0 5 4 (.ref q7) f9 ∧ ∃ f10 : ac_hp, hw_f f9 r0 5 5 (.int 0) f10 ∧ ∃ f11 : ac_hp, hw_f f10 r0 5 6 (.int 0) f11 ∧ ∃ f12 : ac_hp, hw_f f11 r0 5 7 (.int 0) f12 ∧ ∃ f13 : ac_hp, hw_f f12 r0 5 0 (.ref r1) f13 ∧ ∃ f14 : ac_hp, hw_f f13 r0 5 1 (.ref r2) f14 ∧ ((3 : Nat) ≤ 3 ∧ (610 : Nat) ≤ 610) ∧ Q f14

set_option maxRecDepth 20000 in
set_option maxHeartbeats 4000000 in
theorem c_X5_init (l : Launch) (D : va_G) (ki : Nat → ClassId) (r0 : Nat) (r1 : Nat) (r2 : Nat) (f : ac_hp) (Q : ac_hp → Prop) (h : wp_X5_init ki r0 r1 r2 f Q) : ac_met l D ki y_X5_init prog_7_method_1_code 3 none (ro_ 1 3 610) [.ref r0, .ref r1, .ref r2] f (qr_V Q) 3 610 := by
  refine ac_enter (fun ki => wp_X5_init ki r0 r1 r2 f Q) (by decide) (Nat.le_of_ble_eq_true rfl) h ?_
  intro x hro hR hnm h
  unfold wp_X5_init at h
  refine ac_aload_n 0 d_X5_init_0 rfl rfl ?_
  refine ac_objInit oi_X5_3 oi_inst oi_code (by rw [hro]; decide) (by rw [hro]; decide) d_X5_init_1 ?_
  refine ac_aload_n 0 d_X5_init_4 rfl rfl ?_
  refine ac_sipush (v := 600) d_X5_init_5 rfl ?_
  have hk := h.1
  have h := h.2
  refine ac_newa (a0 := (600, .inl (fun _ => 0))) (t0 := 0) ka_I rfl rfl (fun _ => rfl) (by decide) (by decide) (by decide) (by rw [hro]; exact hk.1) (by rw [hro]; exact hk.2) d_X5_init_8 (fun q1 hq => ?_)
  have h := h q1 hq
  obtain ⟨f2, ef2⟩ : ∃ z, z = ac_up f q1 (.inl (ac_ki x 0, 600, .inl (fun _ => 0))) := ⟨_, rfl⟩
  have h := h f2 ef2
  rw [← ef2]
  obtain ⟨f3, hr, h⟩ := h
  refine ak_putF hr fp_X5_9 hnm rfl rfl d_X5_init_10 ?_
  refine ac_aload_n 0 d_X5_init_13 rfl rfl ?_
  refine ac_iconst (v := 4) d_X5_init_14 rfl ?_
  have hk := h.1
  have h := h.2
  refine ac_newa (a0 := (4, .inl (fun _ => 0))) (t0 := 0) ka_I rfl rfl (fun _ => rfl) (by decide) (by decide) (by decide) (by rw [hro]; exact hk.1) (by rw [hro]; exact hk.2) d_X5_init_15 (fun q4 hq => ?_)
  have h := h q4 hq
  obtain ⟨f5, ef5⟩ : ∃ z, z = ac_up f3 q4 (.inl (ac_ki x 0, 4, .inl (fun _ => 0))) := ⟨_, rfl⟩
  have h := h f5 ef5
  rw [← ef5]
  obtain ⟨f6, hr, h⟩ := h
  refine ak_putF hr fp_X5_15 hnm rfl rfl d_X5_init_17 ?_
  refine ac_aload_n 0 d_X5_init_20 rfl rfl ?_
  refine ac_bipush (v := 6) d_X5_init_21 rfl ?_
  have hk := h.1
  have h := h.2
  refine ac_newa (a0 := (6, .inl (fun _ => 0))) (t0 := 0) ka_I rfl rfl (fun _ => rfl) (by decide) (by decide) (by decide) (by rw [hro]; exact hk.1) (by rw [hro]; exact hk.2) d_X5_init_23 (fun q7 hq => ?_)
  have h := h q7 hq
  obtain ⟨f8, ef8⟩ : ∃ z, z = ac_up f6 q7 (.inl (ac_ki x 0, 6, .inl (fun _ => 0))) := ⟨_, rfl⟩
  have h := h f8 ef8
  rw [← ef8]
  obtain ⟨f9, hr, h⟩ := h
  refine ak_putF hr fp_X5_18 hnm rfl rfl d_X5_init_25 ?_
  refine ac_aload_n 0 d_X5_init_28 rfl rfl ?_
  refine ac_iconst (v := 0) d_X5_init_29 rfl ?_
  obtain ⟨f10, hr, h⟩ := h
  refine ak_putf hr fp_X5_21 rfl rfl d_X5_init_30 ?_
  refine ac_aload_n 0 d_X5_init_33 rfl rfl ?_
  refine ac_iconst (v := 0) d_X5_init_34 rfl ?_
  obtain ⟨f11, hr, h⟩ := h
  refine ak_putf hr fp_X5_25 rfl rfl d_X5_init_35 ?_
  refine ac_aload_n 0 d_X5_init_38 rfl rfl ?_
  refine ac_iconst (v := 0) d_X5_init_39 rfl ?_
  obtain ⟨f12, hr, h⟩ := h
  refine ak_putf hr fp_X5_29 rfl rfl d_X5_init_40 ?_
  refine ac_aload_n 0 d_X5_init_43 rfl rfl ?_
  refine ac_aload_n 1 d_X5_init_44 rfl rfl ?_
  obtain ⟨f13, hr, h⟩ := h
  refine ak_putF hr fp_X5_32 hnm rfl rfl d_X5_init_45 ?_
  refine ac_aload_n 0 d_X5_init_48 rfl rfl ?_
  refine ac_aload_n 2 d_X5_init_49 rfl rfl ?_
  obtain ⟨f14, hr, h⟩ := h
  refine ak_putF hr fp_X5_36 hnm rfl rfl d_X5_init_50 ?_
  have hk := h.1
  have h := h.2
  exact ac_vreturn hR ⟨rfl, h⟩ hk.1 hk.2 d_X5_init_53

def wp_X6_init (ki : Nat → ClassId) (r0 : Nat) (r1 : Nat) (r2 : Nat) (r3 : Nat) (f : ac_hp) (Q : ac_hp → Prop) : Prop := ((0 : Nat) + 1 ≤ 1 ∧ (0 : Nat) + 4 ≤ 4) ∧ ∀ q1 : Nat, f q1 = none → ∀ f2 : ac_hp, f2 = ac_up f q1 (.inl (ki 0, 4, .inl (fun _ => 0))) → ∃ f3 : ac_hp, hw_f f2 r0 6 3 (.ref q1) f3 ∧ ∃ f4 : ac_hp, hw_f f3 r0 6 4 (.int 0) f4 ∧ ∃ f5 : ac_hp, hw_f f4 r0 6 0 (.ref r1) f5 ∧ ∃ f6 : ac_hp, hw_f f5 r0 6 1 (.ref r2) f6 ∧ ∃ f7 : ac_hp, hw_f f6 r0 6 2 (.ref r3) f7 ∧ ((1 : Nat) ≤ 1 ∧ (4 : Nat) ≤ 4) ∧ Q f7

set_option maxRecDepth 20000 in
set_option maxHeartbeats 4000000 in
theorem c_X6_init (l : Launch) (D : va_G) (ki : Nat → ClassId) (r0 : Nat) (r1 : Nat) (r2 : Nat) (r3 : Nat) (f : ac_hp) (Q : ac_hp → Prop) (h : wp_X6_init ki r0 r1 r2 r3 f Q) : ac_met l D ki y_X6_init prog_8_method_1_code 4 none (ro_ 1 1 4) [.ref r0, .ref r1, .ref r2, .ref r3] f (qr_V Q) 1 4 := by
  refine ac_enter (fun ki => wp_X6_init ki r0 r1 r2 r3 f Q) (by decide) (Nat.le_of_ble_eq_true rfl) h ?_
  intro x hro hR hnm h
  unfold wp_X6_init at h
  refine ac_aload_n 0 d_X6_init_0 rfl rfl ?_
  refine ac_objInit oi_X6_3 oi_inst oi_code (by rw [hro]; decide) (by rw [hro]; decide) d_X6_init_1 ?_
  refine ac_aload_n 0 d_X6_init_4 rfl rfl ?_
  refine ac_iconst (v := 4) d_X6_init_5 rfl ?_
  have hk := h.1
  have h := h.2
  refine ac_newa (a0 := (4, .inl (fun _ => 0))) (t0 := 0) ka_I rfl rfl (fun _ => rfl) (by decide) (by decide) (by decide) (by rw [hro]; exact hk.1) (by rw [hro]; exact hk.2) d_X6_init_6 (fun q1 hq => ?_)
  have h := h q1 hq
  obtain ⟨f2, ef2⟩ : ∃ z, z = ac_up f q1 (.inl (ac_ki x 0, 4, .inl (fun _ => 0))) := ⟨_, rfl⟩
  have h := h f2 ef2
  rw [← ef2]
  obtain ⟨f3, hr, h⟩ := h
  refine ak_putF hr fp_X6_9 hnm rfl rfl d_X6_init_8 ?_
  refine ac_aload_n 0 d_X6_init_11 rfl rfl ?_
  refine ac_iconst (v := 0) d_X6_init_12 rfl ?_
  obtain ⟨f4, hr, h⟩ := h
  refine ak_putf hr fp_X6_15 rfl rfl d_X6_init_13 ?_
  refine ac_aload_n 0 d_X6_init_16 rfl rfl ?_
  refine ac_aload_n 1 d_X6_init_17 rfl rfl ?_
  obtain ⟨f5, hr, h⟩ := h
  refine ak_putF hr fp_X6_19 hnm rfl rfl d_X6_init_18 ?_
  refine ac_aload_n 0 d_X6_init_21 rfl rfl ?_
  refine ac_aload_n 2 d_X6_init_22 rfl rfl ?_
  obtain ⟨f6, hr, h⟩ := h
  refine ak_putF hr fp_X6_23 hnm rfl rfl d_X6_init_23 ?_
  refine ac_aload_n 0 d_X6_init_26 rfl rfl ?_
  refine ac_aload_n 3 d_X6_init_27 rfl rfl ?_
  obtain ⟨f7, hr, h⟩ := h
  refine ak_putF hr fp_X6_27 hnm rfl rfl d_X6_init_28 ?_
  have hk := h.1
  have h := h.2
  exact ac_vreturn hR ⟨rfl, h⟩ hk.1 hk.2 d_X6_init_31

def wp_X7_init (ki : Nat → ClassId) (r0 : Nat) (f : ac_hp) (Q : ac_hp → Prop) : Prop := ((0 : Nat) + 1 ≤ 4 ∧ (0 : Nat) + 1800 ≤ 2700) ∧ ∀ q1 : Nat, f q1 = none → ∀ f2 : ac_hp, f2 = ac_up f q1 (.inl (ki 0, 1800, .inl (fun _ => 0))) → ∃ f3 : ac_hp, hw_f f2 r0 7 0 (.ref q1) f3 ∧ ((1 : Nat) + 1 ≤ 4 ∧ (1800 : Nat) + 300 ≤ 2700) ∧ ∀ q4 : Nat, f3 q4 = none → ∀ f5 : ac_hp, f5 = ac_up f3 q4 (.inl (ki 0, 300, .inl (fun _ => 0))) → ∃ f6 : ac_hp, hw_f f5 r0 7 1 (.ref q4) f6 ∧ ((2 : Nat) + 1 ≤ 4 ∧ (2100 : Nat) + 300 ≤ 2700) ∧ ∀ q7 : Nat, f6 q7 = none → ∀ f8 : ac_hp, f8 = ac_up f6 q7 (.inl (ki 0, 300, .inl (fun _ => 0))) → ∃ f9 : ac_hp, hw_f f8 r0 7 2 (.ref q7) f9 ∧ ((3 : Nat) + 1 ≤ 4 ∧ (2400 : Nat) + 300 ≤ 2700) ∧ ∀ q10 : Nat, f9 q10 = none → ∀ f11 : ac_hp, f11 = ac_up f9 q10 (.inl (ki 0, 300, .inl (fun _ => 0))) → ∃ f12 : ac_hp, hw_f f11 r0 7 3 (.ref q10) f12 ∧ ∃ f13 : ac_hp, hw_f f12 r0 7 4 (.int 0) f13 ∧ ∃ f14 : ac_hp, hw_f f13 r0 7 5 (.int 0) f14 ∧ ∃ f15 : ac_hp, hw_f f14 r0 7 6 (.int 0) f15 ∧ ((4 : Nat) ≤ 4 ∧ (2700 : Nat) ≤ 2700) ∧ Q f15

set_option maxRecDepth 20000 in
set_option maxHeartbeats 4000000 in
theorem c_X7_init (l : Launch) (D : va_G) (ki : Nat → ClassId) (r0 : Nat) (f : ac_hp) (Q : ac_hp → Prop) (h : wp_X7_init ki r0 f Q) : ac_met l D ki y_X7_init prog_2_method_1_code 1 none (ro_ 1 4 2700) [.ref r0] f (qr_V Q) 4 2700 := by
  refine ac_enter (fun ki => wp_X7_init ki r0 f Q) (by decide) (Nat.le_of_ble_eq_true rfl) h ?_
  intro x hro hR hnm h
  unfold wp_X7_init at h
  refine ac_aload_n 0 d_X7_init_0 rfl rfl ?_
  refine ac_objInit oi_X7_3 oi_inst oi_code (by rw [hro]; decide) (by rw [hro]; decide) d_X7_init_1 ?_
  refine ac_aload_n 0 d_X7_init_4 rfl rfl ?_
  refine ac_sipush (v := 1800) d_X7_init_5 rfl ?_
  have hk := h.1
  have h := h.2
  refine ac_newa (a0 := (1800, .inl (fun _ => 0))) (t0 := 0) ka_I rfl rfl (fun _ => rfl) (by decide) (by decide) (by decide) (by rw [hro]; exact hk.1) (by rw [hro]; exact hk.2) d_X7_init_8 (fun q1 hq => ?_)
  have h := h q1 hq
  obtain ⟨f2, ef2⟩ : ∃ z, z = ac_up f q1 (.inl (ac_ki x 0, 1800, .inl (fun _ => 0))) := ⟨_, rfl⟩
  have h := h f2 ef2
  rw [← ef2]
  obtain ⟨f3, hr, h⟩ := h
  refine ak_putF hr fp_X7_9 hnm rfl rfl d_X7_init_10 ?_
  refine ac_aload_n 0 d_X7_init_13 rfl rfl ?_
  refine ac_sipush (v := 300) d_X7_init_14 rfl ?_
  have hk := h.1
  have h := h.2
  refine ac_newa (a0 := (300, .inl (fun _ => 0))) (t0 := 0) ka_I rfl rfl (fun _ => rfl) (by decide) (by decide) (by decide) (by rw [hro]; exact hk.1) (by rw [hro]; exact hk.2) d_X7_init_17 (fun q4 hq => ?_)
  have h := h q4 hq
  obtain ⟨f5, ef5⟩ : ∃ z, z = ac_up f3 q4 (.inl (ac_ki x 0, 300, .inl (fun _ => 0))) := ⟨_, rfl⟩
  have h := h f5 ef5
  rw [← ef5]
  obtain ⟨f6, hr, h⟩ := h
  refine ak_putF hr fp_X7_15 hnm rfl rfl d_X7_init_19 ?_
  refine ac_aload_n 0 d_X7_init_22 rfl rfl ?_
  refine ac_sipush (v := 300) d_X7_init_23 rfl ?_
  have hk := h.1
  have h := h.2
  refine ac_newa (a0 := (300, .inl (fun _ => 0))) (t0 := 0) ka_I rfl rfl (fun _ => rfl) (by decide) (by decide) (by decide) (by rw [hro]; exact hk.1) (by rw [hro]; exact hk.2) d_X7_init_26 (fun q7 hq => ?_)
  have h := h q7 hq
  obtain ⟨f8, ef8⟩ : ∃ z, z = ac_up f6 q7 (.inl (ac_ki x 0, 300, .inl (fun _ => 0))) := ⟨_, rfl⟩
  have h := h f8 ef8
  rw [← ef8]
  obtain ⟨f9, hr, h⟩ := h
  refine ak_putF hr fp_X7_18 hnm rfl rfl d_X7_init_28 ?_
  refine ac_aload_n 0 d_X7_init_31 rfl rfl ?_
  refine ac_sipush (v := 300) d_X7_init_32 rfl ?_
  have hk := h.1
  have h := h.2
  refine ac_newa (a0 := (300, .inl (fun _ => 0))) (t0 := 0) ka_I rfl rfl (fun _ => rfl) (by decide) (by decide) (by decide) (by rw [hro]; exact hk.1) (by rw [hro]; exact hk.2) d_X7_init_35 (fun q10 hq => ?_)
  have h := h q10 hq
  obtain ⟨f11, ef11⟩ : ∃ z, z = ac_up f9 q10 (.inl (ac_ki x 0, 300, .inl (fun _ => 0))) := ⟨_, rfl⟩
  have h := h f11 ef11
  rw [← ef11]
  obtain ⟨f12, hr, h⟩ := h
  refine ak_putF hr fp_X7_21 hnm rfl rfl d_X7_init_37 ?_
  refine ac_aload_n 0 d_X7_init_40 rfl rfl ?_
  refine ac_iconst (v := 0) d_X7_init_41 rfl ?_
  obtain ⟨f13, hr, h⟩ := h
  refine ak_putf hr fp_X7_24 rfl rfl d_X7_init_42 ?_
  refine ac_aload_n 0 d_X7_init_45 rfl rfl ?_
  refine ac_iconst (v := 0) d_X7_init_46 rfl ?_
  obtain ⟨f14, hr, h⟩ := h
  refine ak_putf hr fp_X7_28 rfl rfl d_X7_init_47 ?_
  refine ac_aload_n 0 d_X7_init_50 rfl rfl ?_
  refine ac_iconst (v := 0) d_X7_init_51 rfl ?_
  obtain ⟨f15, hr, h⟩ := h
  refine ak_putf hr fp_X7_31 rfl rfl d_X7_init_52 ?_
  have hk := h.1
  have h := h.2
  exact ac_vreturn hR ⟨rfl, h⟩ hk.1 hk.2 d_X7_init_55

def wp_X8_init (ki : Nat → ClassId) (r0 : Nat) (r1 : Nat) (r2 : Nat) (r3 : Nat) (r4 : Nat) (f : ac_hp) (Q : ac_hp → Prop) : Prop := ((0 : Nat) + 1 ≤ 8 ∧ (0 : Nat) + 4 ≤ 132) ∧ ∀ q1 : Nat, f q1 = none → ∀ f2 : ac_hp, f2 = ac_up f q1 (.inl (ki 0, 4, .inl (fun _ => 0))) → ∃ f3 : ac_hp, hw_f f2 r0 8 4 (.ref q1) f3 ∧ ((1 : Nat) + 1 ≤ 8 ∧ (4 : Nat) + 4 ≤ 132) ∧ ∀ q4 : Nat, f3 q4 = none → ∀ f5 : ac_hp, f5 = ac_up f3 q4 (.inl (ki 0, 4, .inl (fun _ => 0))) → ∃ f6 : ac_hp, hw_f f5 r0 8 5 (.ref q4) f6 ∧ ((2 : Nat) + 1 ≤ 8 ∧ (8 : Nat) + 24 ≤ 132) ∧ ∀ q7 : Nat, f6 q7 = none → ∀ f8 : ac_hp, f8 = ac_up f6 q7 (.inl (ki 0, 24, .inl (fun _ => 0))) → ∃ f9 : ac_hp, hw_f f8 r0 8 6 (.ref q7) f9 ∧ ((3 : Nat) + 1 ≤ 8 ∧ (32 : Nat) + 80 ≤ 132) ∧ ∀ q10 : Nat, f9 q10 = none → ∀ f11 : ac_hp, f11 = ac_up f9 q10 (.inl (ki 0, 80, .inl (fun _ => 0))) → ∃ f12 : ac_hp, hw_f f11 r0 8 7 (.ref q10) f12 ∧ ((4 : Nat) + 1 ≤ 8 ∧ (112 : Nat) + 4 ≤ 132) ∧ ∀ q13 : Nat, f12 q13 = none → ∀ f14 : ac_hp, f14 = ac_up f12 q13 (.inl (ki 0, 4, .inl (fun _ => 0))) → ∃ f15 : ac_hp, hw_f f14 r0 8 8 (.ref q13) f15 ∧ ((5 : Nat) + 1 ≤ 8 ∧ (116 : Nat) + 4 ≤ 132) ∧ ∀ q16 : Nat, f15 q16 = none → ∀ f17 : ac_hp, f17 = ac_up f15 q16 (.inl (ki 0, 4, .inl (fun _ => 0))) → ∃ f18 : ac_hp, hw_f f17 r0 8 9 (.ref q16) f18 ∧ ((6 : Nat) + 1 ≤ 8 ∧ (120 : Nat) + 6 ≤ 132) ∧ ∀ q19 : Nat, f18 q19 = none → ∀ f20 : ac_hp, f20 = ac_up f18 q19 (.inl (ki 0, 6, .inl (fun _ => 0))) → ∃ f21 : ac_hp, hw_f f20 r0 8 10 (.ref q19) f21 ∧ ((7 : Nat) + 1 ≤ 8 ∧ (126 : Nat) + 6 ≤ 132) ∧ ∀ q22 : Nat, f21 q22 = none → ∀ f23 : ac_hp, f23 = ac_up f21 q22 (.inl (ki 0, 6, .inl (fun _ => 0))) → ∃ f24 : ac_hp, hw_f f23 r0 8 11 (.ref q22) f24 ∧ ∃ f25 : ac_hp, hw_f f24 r0 8 12 (.int 0) f25 ∧ ∃ f26 : ac_hp, hw_f f25 r0 8 0 (.ref r1) f26 ∧ ∃ f27 : ac_hp, hw_f f26 r0 8 1 (.ref r2) f27 ∧ ∃ f28 : ac_hp, hw_f f27 r0 8 2 (.ref r3) f28 ∧ ∃ f29 : ac_hp, hw_f f28 r0 8 3 (.ref r4) f29 ∧ ((8 : Nat) ≤ 8 ∧ (132 : Nat) ≤ 132) ∧ Q f29

set_option maxRecDepth 20000 in
set_option maxHeartbeats 4000000 in
theorem c_X8_init (l : Launch) (D : va_G) (ki : Nat → ClassId) (r0 : Nat) (r1 : Nat) (r2 : Nat) (r3 : Nat) (r4 : Nat) (f : ac_hp) (Q : ac_hp → Prop) (h : wp_X8_init ki r0 r1 r2 r3 r4 f Q) : ac_met l D ki y_X8_init prog_4_method_1_code 5 none (ro_ 1 8 132) [.ref r0, .ref r1, .ref r2, .ref r3, .ref r4] f (qr_V Q) 8 132 := by
  refine ac_enter (fun ki => wp_X8_init ki r0 r1 r2 r3 r4 f Q) (by decide) (Nat.le_of_ble_eq_true rfl) h ?_
  intro x hro hR hnm h
  unfold wp_X8_init at h
  refine ac_aload_n 0 d_X8_init_0 rfl rfl ?_
  refine ac_objInit oi_X8_3 oi_inst oi_code (by rw [hro]; decide) (by rw [hro]; decide) d_X8_init_1 ?_
  refine ac_aload_n 0 d_X8_init_4 rfl rfl ?_
  refine ac_iconst (v := 4) d_X8_init_5 rfl ?_
  have hk := h.1
  have h := h.2
  refine ac_newa (a0 := (4, .inl (fun _ => 0))) (t0 := 0) ka_I rfl rfl (fun _ => rfl) (by decide) (by decide) (by decide) (by rw [hro]; exact hk.1) (by rw [hro]; exact hk.2) d_X8_init_6 (fun q1 hq => ?_)
  have h := h q1 hq
  obtain ⟨f2, ef2⟩ : ∃ z, z = ac_up f q1 (.inl (ac_ki x 0, 4, .inl (fun _ => 0))) := ⟨_, rfl⟩
  have h := h f2 ef2
  rw [← ef2]
  obtain ⟨f3, hr, h⟩ := h
  refine ak_putF hr fp_X8_9 hnm rfl rfl d_X8_init_8 ?_
  refine ac_aload_n 0 d_X8_init_11 rfl rfl ?_
  refine ac_iconst (v := 4) d_X8_init_12 rfl ?_
  have hk := h.1
  have h := h.2
  refine ac_newa (a0 := (4, .inl (fun _ => 0))) (t0 := 0) ka_I rfl rfl (fun _ => rfl) (by decide) (by decide) (by decide) (by rw [hro]; exact hk.1) (by rw [hro]; exact hk.2) d_X8_init_13 (fun q4 hq => ?_)
  have h := h q4 hq
  obtain ⟨f5, ef5⟩ : ∃ z, z = ac_up f3 q4 (.inl (ac_ki x 0, 4, .inl (fun _ => 0))) := ⟨_, rfl⟩
  have h := h f5 ef5
  rw [← ef5]
  obtain ⟨f6, hr, h⟩ := h
  refine ak_putF hr fp_X8_15 hnm rfl rfl d_X8_init_15 ?_
  refine ac_aload_n 0 d_X8_init_18 rfl rfl ?_
  refine ac_bipush (v := 24) d_X8_init_19 rfl ?_
  have hk := h.1
  have h := h.2
  refine ac_newa (a0 := (24, .inl (fun _ => 0))) (t0 := 0) ka_I rfl rfl (fun _ => rfl) (by decide) (by decide) (by decide) (by rw [hro]; exact hk.1) (by rw [hro]; exact hk.2) d_X8_init_21 (fun q7 hq => ?_)
  have h := h q7 hq
  obtain ⟨f8, ef8⟩ : ∃ z, z = ac_up f6 q7 (.inl (ac_ki x 0, 24, .inl (fun _ => 0))) := ⟨_, rfl⟩
  have h := h f8 ef8
  rw [← ef8]
  obtain ⟨f9, hr, h⟩ := h
  refine ak_putF hr fp_X8_18 hnm rfl rfl d_X8_init_23 ?_
  refine ac_aload_n 0 d_X8_init_26 rfl rfl ?_
  refine ac_bipush (v := 80) d_X8_init_27 rfl ?_
  have hk := h.1
  have h := h.2
  refine ac_newa (a0 := (80, .inl (fun _ => 0))) (t0 := 0) ka_I rfl rfl (fun _ => rfl) (by decide) (by decide) (by decide) (by rw [hro]; exact hk.1) (by rw [hro]; exact hk.2) d_X8_init_29 (fun q10 hq => ?_)
  have h := h q10 hq
  obtain ⟨f11, ef11⟩ : ∃ z, z = ac_up f9 q10 (.inl (ac_ki x 0, 80, .inl (fun _ => 0))) := ⟨_, rfl⟩
  have h := h f11 ef11
  rw [← ef11]
  obtain ⟨f12, hr, h⟩ := h
  refine ak_putF hr fp_X8_21 hnm rfl rfl d_X8_init_31 ?_
  refine ac_aload_n 0 d_X8_init_34 rfl rfl ?_
  refine ac_iconst (v := 4) d_X8_init_35 rfl ?_
  have hk := h.1
  have h := h.2
  refine ac_newa (a0 := (4, .inl (fun _ => 0))) (t0 := 0) ka_I rfl rfl (fun _ => rfl) (by decide) (by decide) (by decide) (by rw [hro]; exact hk.1) (by rw [hro]; exact hk.2) d_X8_init_36 (fun q13 hq => ?_)
  have h := h q13 hq
  obtain ⟨f14, ef14⟩ : ∃ z, z = ac_up f12 q13 (.inl (ac_ki x 0, 4, .inl (fun _ => 0))) := ⟨_, rfl⟩
  have h := h f14 ef14
  rw [← ef14]
  obtain ⟨f15, hr, h⟩ := h
  refine ak_putF hr fp_X8_24 hnm rfl rfl d_X8_init_38 ?_
  refine ac_aload_n 0 d_X8_init_41 rfl rfl ?_
  refine ac_iconst (v := 4) d_X8_init_42 rfl ?_
  have hk := h.1
  have h := h.2
  refine ac_newa (a0 := (4, .inl (fun _ => 0))) (t0 := 0) ka_I rfl rfl (fun _ => rfl) (by decide) (by decide) (by decide) (by rw [hro]; exact hk.1) (by rw [hro]; exact hk.2) d_X8_init_43 (fun q16 hq => ?_)
  have h := h q16 hq
  obtain ⟨f17, ef17⟩ : ∃ z, z = ac_up f15 q16 (.inl (ac_ki x 0, 4, .inl (fun _ => 0))) := ⟨_, rfl⟩
  have h := h f17 ef17
  rw [← ef17]
  obtain ⟨f18, hr, h⟩ := h
  refine ak_putF hr fp_X8_27 hnm rfl rfl d_X8_init_45 ?_
  refine ac_aload_n 0 d_X8_init_48 rfl rfl ?_
  refine ac_bipush (v := 6) d_X8_init_49 rfl ?_
  have hk := h.1
  have h := h.2
  refine ac_newa (a0 := (6, .inl (fun _ => 0))) (t0 := 0) ka_I rfl rfl (fun _ => rfl) (by decide) (by decide) (by decide) (by rw [hro]; exact hk.1) (by rw [hro]; exact hk.2) d_X8_init_51 (fun q19 hq => ?_)
  have h := h q19 hq
  obtain ⟨f20, ef20⟩ : ∃ z, z = ac_up f18 q19 (.inl (ac_ki x 0, 6, .inl (fun _ => 0))) := ⟨_, rfl⟩
  have h := h f20 ef20
  rw [← ef20]
  obtain ⟨f21, hr, h⟩ := h
  refine ak_putF hr fp_X8_30 hnm rfl rfl d_X8_init_53 ?_
  refine ac_aload_n 0 d_X8_init_56 rfl rfl ?_
  refine ac_bipush (v := 6) d_X8_init_57 rfl ?_
  have hk := h.1
  have h := h.2
  refine ac_newa (a0 := (6, .inl (fun _ => 0))) (t0 := 0) ka_I rfl rfl (fun _ => rfl) (by decide) (by decide) (by decide) (by rw [hro]; exact hk.1) (by rw [hro]; exact hk.2) d_X8_init_59 (fun q22 hq => ?_)
  have h := h q22 hq
  obtain ⟨f23, ef23⟩ : ∃ z, z = ac_up f21 q22 (.inl (ac_ki x 0, 6, .inl (fun _ => 0))) := ⟨_, rfl⟩
  have h := h f23 ef23
  rw [← ef23]
  obtain ⟨f24, hr, h⟩ := h
  refine ak_putF hr fp_X8_33 hnm rfl rfl d_X8_init_61 ?_
  refine ac_aload_n 0 d_X8_init_64 rfl rfl ?_
  refine ac_iconst (v := 0) d_X8_init_65 rfl ?_
  obtain ⟨f25, hr, h⟩ := h
  refine ak_putf hr fp_X8_36 rfl rfl d_X8_init_66 ?_
  refine ac_aload_n 0 d_X8_init_69 rfl rfl ?_
  refine ac_aload_n 1 d_X8_init_70 rfl rfl ?_
  obtain ⟨f26, hr, h⟩ := h
  refine ak_putF hr fp_X8_40 hnm rfl rfl d_X8_init_71 ?_
  refine ac_aload_n 0 d_X8_init_74 rfl rfl ?_
  refine ac_aload_n 2 d_X8_init_75 rfl rfl ?_
  obtain ⟨f27, hr, h⟩ := h
  refine ak_putF hr fp_X8_44 hnm rfl rfl d_X8_init_76 ?_
  refine ac_aload_n 0 d_X8_init_79 rfl rfl ?_
  refine ac_aload_n 3 d_X8_init_80 rfl rfl ?_
  obtain ⟨f28, hr, h⟩ := h
  refine ak_putF hr fp_X8_48 hnm rfl rfl d_X8_init_81 ?_
  refine ac_aload_n 0 d_X8_init_84 rfl rfl ?_
  refine ac_aload 4 d_X8_init_85 rfl ?_
  obtain ⟨f29, hr, h⟩ := h
  refine ak_putF hr fp_X8_52 hnm rfl rfl d_X8_init_87 ?_
  have hk := h.1
  have h := h.2
  exact ac_vreturn hR ⟨rfl, h⟩ hk.1 hk.2 d_X8_init_90

def wp_X0_isBelow (ki : Nat → ClassId) (x0 : Int32) (x1 : Int32) (f : ac_hp) (Q : Int32 → ac_hp → Prop) : Prop := ((x0 < 0 → Q 0 f) ∧ (¬ x0 < 0 → ((x1 ≤ x0 → Q 0 f) ∧ (¬ x1 ≤ x0 → Q 1 f))))

set_option maxRecDepth 20000 in
set_option maxHeartbeats 4000000 in
theorem c_X0_isBelow (l : Launch) (D : va_G) (ki : Nat → ClassId) (x0 : Int32) (x1 : Int32) (f : ac_hp) (Q : Int32 → ac_hp → Prop) (h : wp_X0_isBelow ki x0 x1 f Q) : ac_met l D ki y_X0_isBelow prog_1_method_18_code 2 (some .boolean) (ro_ 1 0 0) [.int x0, .int x1] f (qr_I Q) 0 0 := by
  refine ac_enter (fun ki => wp_X0_isBelow ki x0 x1 f Q) (by decide) (Nat.le_of_ble_eq_true rfl) h ?_
  intro x hro hR hnm h
  unfold wp_X0_isBelow at h
  refine ac_iload_n 0 d_X0_isBelow_0 rfl rfl ?_
  refine ac_if_lt (tgt := 13) d_X0_isBelow_1 (by decide) (fun hc => ?_) (fun hc => ?_)
  · have h := h.1 hc
    refine ac_iconst (v := 0) d_X0_isBelow_13 rfl ?_
    exact ac_ireturn hR rfl ⟨_, rfl, h⟩ (by decide) (by decide) d_X0_isBelow_14
  · have h := h.2 hc
    refine ac_iload_n 0 d_X0_isBelow_4 rfl rfl ?_
    refine ac_iload_n 1 d_X0_isBelow_5 rfl rfl ?_
    refine ac_icmp_ge (tgt := 13) d_X0_isBelow_6 (by decide) (fun hc => ?_) (fun hc => ?_)
    · have h := h.1 hc
      refine ac_iconst (v := 0) d_X0_isBelow_13 rfl ?_
      exact ac_ireturn hR rfl ⟨_, rfl, h⟩ (by decide) (by decide) d_X0_isBelow_14
    · have h := h.2 hc
      refine ac_iconst (v := 1) d_X0_isBelow_9 rfl ?_
      refine ac_goto (tgt := 14) d_X0_isBelow_10 (by decide) ?_
      exact ac_ireturn hR rfl ⟨_, rfl, h⟩ (by decide) (by decide) d_X0_isBelow_14

