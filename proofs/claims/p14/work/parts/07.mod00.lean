def wp_X9_init (ki : Nat → ClassId) (r0 : Nat) (f : ac_hp) (Q : ac_hp → Prop) : Prop := ((0 : Nat) + 1 ≤ 23 ∧ (0 : Nat) + 240 ≤ 4451) ∧ ∀ q1 : Nat, f q1 = none → ∀ f2 : ac_hp, f2 = ac_up f q1 (.inl (ki 0, 240, .inl (fun _ => 0))) → ∃ f3 : ac_hp, hw_f f2 r0 9 1 (.ref q1) f3 ∧ ((1 : Nat) + 1 ≤ 23 ∧ (240 : Nat) + 4 ≤ 4451) ∧ ∀ q4 : Nat, f3 q4 = none → ∀ f5 : ac_hp, f5 = ac_up f3 q4 (.inl (ki 0, 4, .inl (fun _ => 0))) → ∃ f6 : ac_hp, hw_f f5 r0 9 2 (.ref q4) f6 ∧ ((2 : Nat) + 1 ≤ 23 ∧ (244 : Nat) + 12 ≤ 4451) ∧ ∀ q7 : Nat, f6 q7 = none → ∀ f8 : ac_hp, f8 = ac_up f6 q7 (.inl (ki 1, 12, .inl (fun _ => 0))) → ∃ f9 : ac_hp, hw_f f8 r0 9 3 (.ref q7) f9 ∧ ((3 : Nat) + 1 ≤ 23 ∧ (256 : Nat) + 12 ≤ 4451) ∧ ∀ q10 : Nat, f9 q10 = none → ∀ f11 : ac_hp, f11 = ac_up f9 q10 (.inl (ki 0, 12, .inl (fun _ => 0))) → ∃ f12 : ac_hp, hw_f f11 r0 9 5 (.ref q10) f12 ∧ ((4 : Nat) + 1 ≤ 23 ∧ (268 : Nat) + 12 ≤ 4451) ∧ ∀ q13 : Nat, f12 q13 = none → ∀ f14 : ac_hp, f14 = ac_up f12 q13 (.inl (ki 0, 12, .inl (fun _ => 0))) → ∃ f15 : ac_hp, hw_f f14 r0 9 6 (.ref q13) f15 ∧ ((5 : Nat) + 1 ≤ 23 ∧ (280 : Nat) + 24 ≤ 4451) ∧ ∀ q16 : Nat, f15 q16 = none → ∀ f17 : ac_hp, f17 = ac_up f15 q16 (.inl (ki 0, 24, .inl (fun _ => 0))) → ∃ f18 : ac_hp, hw_f f17 r0 9 7 (.ref q16) f18 ∧ ((6 : Nat) + 1 ≤ 23 ∧ (304 : Nat) + 24 ≤ 4451) ∧ ∀ q19 : Nat, f18 q19 = none → ∀ f20 : ac_hp, f20 = ac_up f18 q19 (.inl (ki 0, 24, .inl (fun _ => 0))) → ∃ f21 : ac_hp, hw_f f20 r0 9 8 (.ref q19) f21 ∧ ((7 : Nat) + 1 ≤ 23 ∧ (328 : Nat) + 4 ≤ 4451) ∧ ∀ q22 : Nat, f21 q22 = none → ∀ f23 : ac_hp, f23 = ac_up f21 q22 (.inl (ki 0, 4, .inl (fun _ => 0))) → ∃ f24 : ac_hp, hw_f f23 r0 9 10 (.ref q22) f24 ∧ ((8 : Nat) + 1 ≤ 23 ∧ (332 : Nat) + 8 ≤ 4451) ∧ ∀ q25 : Nat, f24 q25 = none → ∀ f26 : ac_hp, f26 = ac_up f24 q25 (.inl (ki 0, 8, .inl (fun _ => 0))) → ∃ f27 : ac_hp, hw_f f26 r0 9 11 (.ref q25) f27 ∧ ((9 : Nat) + 1 ≤ 23 ∧ (340 : Nat) + 4 ≤ 4451) ∧ ∀ q28 : Nat, f27 q28 = none → ∀ f29 : ac_hp, f29 = ac_up f27 q28 (.inl (ki 0, 4, .inl (fun _ => 0))) → ∃ f30 : ac_hp, hw_f f29 r0 9 13 (.ref q28) f30 ∧ ((10 : Nat) + 1 ≤ 23 ∧ (344 : Nat) + 4 ≤ 4451) ∧ ∀ q31 : Nat, f30 q31 = none → ∀ f32 : ac_hp, f32 = ac_up f30 q31 (.inl (ki 0, 4, .inl (fun _ => 0))) → ∃ f33 : ac_hp, hw_f f32 r0 9 14 (.ref q31) f33 ∧ ((11 : Nat) + 1 ≤ 23 ∧ (348 : Nat) + 4 ≤ 4451) ∧ ∀ q34 : Nat, f33 q34 = none → ∀ f35 : ac_hp, f35 = ac_up f33 q34 (.inl (ki 0, 4, .inl (fun _ => 0))) → ∃ f36 : ac_hp, hw_f f35 r0 9 15 (.ref q34) f36 ∧ ((12 : Nat) + 1 ≤ 23 ∧ (352 : Nat) + 604 ≤ 4451) ∧ ∀ q37 : Nat, f36 q37 = none → ∀ f38 : ac_hp, f38 = ac_up f36 q37 (.inl (ki 0, 604, .inl (fun _ => 0))) → ∃ f39 : ac_hp, hw_f f38 r0 9 17 (.ref q37) f39 ∧ ((13 : Nat) + 1 ≤ 23 ∧ (956 : Nat) + 604 ≤ 4451) ∧ ∀ q40 : Nat, f39 q40 = none → ∀ f41 : ac_hp, f41 = ac_up f39 q40 (.inl (ki 0, 604, .inl (fun _ => 0))) → ∃ f42 : ac_hp, hw_f f41 r0 9 18 (.ref q40) f42 ∧ ((14 : Nat) + 1 ≤ 23 ∧ (1560 : Nat) + 151 ≤ 4451) ∧ ∀ q43 : Nat, f42 q43 = none → ∀ f44 : ac_hp, f44 = ac_up f42 q43 (.inl (ki 0, 151, .inl (fun _ => 0))) → ∃ f45 : ac_hp, hw_f f44 r0 9 19 (.ref q43) f45 ∧ ((15 : Nat) + 1 ≤ 23 ∧ (1711 : Nat) + 4 ≤ 4451) ∧ ∀ q46 : Nat, f45 q46 = none → ∀ f47 : ac_hp, f47 = ac_up f45 q46 (.inl (ki 0, 4, .inl (fun _ => 0))) → ∃ f48 : ac_hp, hw_f f47 r0 9 20 (.ref q46) f48 ∧ ((16 : Nat) + 1 ≤ 23 ∧ (1715 : Nat) + 6 ≤ 4451) ∧ ∀ q49 : Nat, f48 q49 = none → ∀ f50 : ac_hp, f50 = ac_up f48 q49 (.inl (ki 0, 6, .inl (fun _ => 0))) → ∃ f51 : ac_hp, hw_f f50 r0 9 21 (.ref q49) f51 ∧ ((17 : Nat) + 1 ≤ 23 ∧ (1721 : Nat) + 6 ≤ 4451) ∧ ∀ q52 : Nat, f51 q52 = none → ∀ f53 : ac_hp, f53 = ac_up f51 q52 (.inl (ki 0, 6, .inl (fun _ => 0))) → ∃ f54 : ac_hp, hw_f f53 r0 9 22 (.ref q52) f54 ∧ ((18 : Nat) + 1 ≤ 23 ∧ (1727 : Nat) + 6 ≤ 4451) ∧ ∀ q55 : Nat, f54 q55 = none → ∀ f56 : ac_hp, f56 = ac_up f54 q55 (.inl (ki 1, 6, .inl (fun _ => 0))) → ∃ f57 : ac_hp, hw_f f56 r0 9 24 (.ref q55) f57 ∧ ((19 : Nat) + 1 ≤ 23 ∧ (1733 : Nat) + 1812 ≤ 4451) ∧ ∀ q58 : Nat, f57 q58 = none → ∀ f59 : ac_hp, f59 = ac_up f57 q58 (.inl (ki 0, 1812, .inl (fun _ => 0))) → ∃ f60 : ac_hp, hw_f f59 r0 9 25 (.ref q58) f60 ∧ ((20 : Nat) + 1 ≤ 23 ∧ (3545 : Nat) + 302 ≤ 4451) ∧ ∀ q61 : Nat, f60 q61 = none → ∀ f62 : ac_hp, f62 = ac_up f60 q61 (.inl (ki 0, 302, .inl (fun _ => 0))) → ∃ f63 : ac_hp, hw_f f62 r0 9 26 (.ref q61) f63 ∧ ((21 : Nat) + 1 ≤ 23 ∧ (3847 : Nat) + 302 ≤ 4451) ∧ ∀ q64 : Nat, f63 q64 = none → ∀ f65 : ac_hp, f65 = ac_up f63 q64 (.inl (ki 0, 302, .inl (fun _ => 0))) → ∃ f66 : ac_hp, hw_f f65 r0 9 27 (.ref q64) f66 ∧ ((22 : Nat) + 1 ≤ 23 ∧ (4149 : Nat) + 302 ≤ 4451) ∧ ∀ q67 : Nat, f66 q67 = none → ∀ f68 : ac_hp, f68 = ac_up f66 q67 (.inl (ki 0, 302, .inl (fun _ => 0))) → ∃ f69 : ac_hp, hw_f f68 r0 9 28 (.ref q67) f69 ∧ ((23 : Nat) ≤ 23 ∧ (4451 : Nat) ≤ 4451) ∧ Q f69

set_option maxRecDepth 20000 in
set_option maxHeartbeats 4000000 in
theorem c_X9_init (l : Launch) (D : va_G) (ki : Nat → ClassId) (r0 : Nat) (f : ac_hp) (Q : ac_hp → Prop) (h : wp_X9_init ki r0 f Q) : ac_met l D ki y_X9_init prog_11_method_1_code 1 none (ro_ 1 23 4451) [.ref r0] f (qr_V Q) 23 4451 := by
  refine ac_enter (fun ki => wp_X9_init ki r0 f Q) (by decide) (Nat.le_of_ble_eq_true rfl) h ?_
  intro x hro hR hnm h
  unfold wp_X9_init at h
  refine ac_aload_n 0 d_X9_init_0 rfl rfl ?_
  refine ac_objInit oi_X9_1 oi_inst oi_code (by rw [hro]; decide) (by rw [hro]; decide) d_X9_init_1 ?_
  refine ac_aload_n 0 d_X9_init_4 rfl rfl ?_
  refine ac_sipush (v := 240) d_X9_init_5 rfl ?_
  have hk := h.1
  have h := h.2
  refine ac_newa (a0 := (240, .inl (fun _ => 0))) (t0 := 0) ka_I rfl rfl (fun _ => rfl) (by decide) (by decide) (by decide) (by rw [hro]; exact hk.1) (by rw [hro]; exact hk.2) d_X9_init_8 (fun q1 hq => ?_)
  have h := h q1 hq
  obtain ⟨f2, ef2⟩ : ∃ z, z = ac_up f q1 (.inl (ac_ki x 0, 240, .inl (fun _ => 0))) := ⟨_, rfl⟩
  have h := h f2 ef2
  rw [← ef2]
  obtain ⟨f3, hr, h⟩ := h
  refine ak_putF hr fp_X9_7 hnm rfl rfl d_X9_init_10 ?_
  refine ac_aload_n 0 d_X9_init_13 rfl rfl ?_
  refine ac_iconst (v := 4) d_X9_init_14 rfl ?_
  have hk := h.1
  have h := h.2
  refine ac_newa (a0 := (4, .inl (fun _ => 0))) (t0 := 0) ka_I rfl rfl (fun _ => rfl) (by decide) (by decide) (by decide) (by rw [hro]; exact hk.1) (by rw [hro]; exact hk.2) d_X9_init_15 (fun q4 hq => ?_)
  have h := h q4 hq
  obtain ⟨f5, ef5⟩ : ∃ z, z = ac_up f3 q4 (.inl (ac_ki x 0, 4, .inl (fun _ => 0))) := ⟨_, rfl⟩
  have h := h f5 ef5
  rw [← ef5]
  obtain ⟨f6, hr, h⟩ := h
  refine ak_putF hr fp_X9_13 hnm rfl rfl d_X9_init_17 ?_
  refine ac_aload_n 0 d_X9_init_20 rfl rfl ?_
  refine ac_bipush (v := 12) d_X9_init_21 rfl ?_
  have hk := h.1
  have h := h.2
  refine ac_newa (a0 := (12, .inl (fun _ => 0))) (t0 := 1) ka_Z rfl rfl (fun _ => rfl) (by decide) (by decide) (by decide) (by rw [hro]; exact hk.1) (by rw [hro]; exact hk.2) d_X9_init_23 (fun q7 hq => ?_)
  have h := h q7 hq
  obtain ⟨f8, ef8⟩ : ∃ z, z = ac_up f6 q7 (.inl (ac_ki x 1, 12, .inl (fun _ => 0))) := ⟨_, rfl⟩
  have h := h f8 ef8
  rw [← ef8]
  obtain ⟨f9, hr, h⟩ := h
  refine ak_putF hr fp_X9_16 hnm rfl rfl d_X9_init_25 ?_
  refine ac_aload_n 0 d_X9_init_28 rfl rfl ?_
  refine ac_bipush (v := 12) d_X9_init_29 rfl ?_
  have hk := h.1
  have h := h.2
  refine ac_newa (a0 := (12, .inl (fun _ => 0))) (t0 := 0) ka_I rfl rfl (fun _ => rfl) (by decide) (by decide) (by decide) (by rw [hro]; exact hk.1) (by rw [hro]; exact hk.2) d_X9_init_31 (fun q10 hq => ?_)
  have h := h q10 hq
  obtain ⟨f11, ef11⟩ : ∃ z, z = ac_up f9 q10 (.inl (ac_ki x 0, 12, .inl (fun _ => 0))) := ⟨_, rfl⟩
  have h := h f11 ef11
  rw [← ef11]
  obtain ⟨f12, hr, h⟩ := h
  refine ak_putF hr fp_X9_20 hnm rfl rfl d_X9_init_33 ?_
  refine ac_aload_n 0 d_X9_init_36 rfl rfl ?_
  refine ac_bipush (v := 12) d_X9_init_37 rfl ?_
  have hk := h.1
  have h := h.2
  refine ac_newa (a0 := (12, .inl (fun _ => 0))) (t0 := 0) ka_I rfl rfl (fun _ => rfl) (by decide) (by decide) (by decide) (by rw [hro]; exact hk.1) (by rw [hro]; exact hk.2) d_X9_init_39 (fun q13 hq => ?_)
  have h := h q13 hq
  obtain ⟨f14, ef14⟩ : ∃ z, z = ac_up f12 q13 (.inl (ac_ki x 0, 12, .inl (fun _ => 0))) := ⟨_, rfl⟩
  have h := h f14 ef14
  rw [← ef14]
  obtain ⟨f15, hr, h⟩ := h
  refine ak_putF hr fp_X9_23 hnm rfl rfl d_X9_init_41 ?_
  refine ac_aload_n 0 d_X9_init_44 rfl rfl ?_
  refine ac_bipush (v := 24) d_X9_init_45 rfl ?_
  have hk := h.1
  have h := h.2
  refine ac_newa (a0 := (24, .inl (fun _ => 0))) (t0 := 0) ka_I rfl rfl (fun _ => rfl) (by decide) (by decide) (by decide) (by rw [hro]; exact hk.1) (by rw [hro]; exact hk.2) d_X9_init_47 (fun q16 hq => ?_)
  have h := h q16 hq
  obtain ⟨f17, ef17⟩ : ∃ z, z = ac_up f15 q16 (.inl (ac_ki x 0, 24, .inl (fun _ => 0))) := ⟨_, rfl⟩
  have h := h f17 ef17
  rw [← ef17]
  obtain ⟨f18, hr, h⟩ := h
  refine ak_putF hr fp_X9_26 hnm rfl rfl d_X9_init_49 ?_
  refine ac_aload_n 0 d_X9_init_52 rfl rfl ?_
  refine ac_bipush (v := 24) d_X9_init_53 rfl ?_
  have hk := h.1
  have h := h.2
  refine ac_newa (a0 := (24, .inl (fun _ => 0))) (t0 := 0) ka_I rfl rfl (fun _ => rfl) (by decide) (by decide) (by decide) (by rw [hro]; exact hk.1) (by rw [hro]; exact hk.2) d_X9_init_55 (fun q19 hq => ?_)
  have h := h q19 hq
  obtain ⟨f20, ef20⟩ : ∃ z, z = ac_up f18 q19 (.inl (ac_ki x 0, 24, .inl (fun _ => 0))) := ⟨_, rfl⟩
  have h := h f20 ef20
  rw [← ef20]
  obtain ⟨f21, hr, h⟩ := h
  refine ak_putF hr fp_X9_29 hnm rfl rfl d_X9_init_57 ?_
  refine ac_aload_n 0 d_X9_init_60 rfl rfl ?_
  refine ac_iconst (v := 4) d_X9_init_61 rfl ?_
  have hk := h.1
  have h := h.2
  refine ac_newa (a0 := (4, .inl (fun _ => 0))) (t0 := 0) ka_I rfl rfl (fun _ => rfl) (by decide) (by decide) (by decide) (by rw [hro]; exact hk.1) (by rw [hro]; exact hk.2) d_X9_init_62 (fun q22 hq => ?_)
  have h := h q22 hq
  obtain ⟨f23, ef23⟩ : ∃ z, z = ac_up f21 q22 (.inl (ac_ki x 0, 4, .inl (fun _ => 0))) := ⟨_, rfl⟩
  have h := h f23 ef23
  rw [← ef23]
  obtain ⟨f24, hr, h⟩ := h
  refine ak_putF hr fp_X9_32 hnm rfl rfl d_X9_init_64 ?_
  refine ac_aload_n 0 d_X9_init_67 rfl rfl ?_
  refine ac_bipush (v := 8) d_X9_init_68 rfl ?_
  have hk := h.1
  have h := h.2
  refine ac_newa (a0 := (8, .inl (fun _ => 0))) (t0 := 0) ka_I rfl rfl (fun _ => rfl) (by decide) (by decide) (by decide) (by rw [hro]; exact hk.1) (by rw [hro]; exact hk.2) d_X9_init_70 (fun q25 hq => ?_)
  have h := h q25 hq
  obtain ⟨f26, ef26⟩ : ∃ z, z = ac_up f24 q25 (.inl (ac_ki x 0, 8, .inl (fun _ => 0))) := ⟨_, rfl⟩
  have h := h f26 ef26
  rw [← ef26]
  obtain ⟨f27, hr, h⟩ := h
  refine ak_putF hr fp_X9_35 hnm rfl rfl d_X9_init_72 ?_
  refine ac_aload_n 0 d_X9_init_75 rfl rfl ?_
  refine ac_iconst (v := 4) d_X9_init_76 rfl ?_
  have hk := h.1
  have h := h.2
  refine ac_newa (a0 := (4, .inl (fun _ => 0))) (t0 := 0) ka_I rfl rfl (fun _ => rfl) (by decide) (by decide) (by decide) (by rw [hro]; exact hk.1) (by rw [hro]; exact hk.2) d_X9_init_77 (fun q28 hq => ?_)
  have h := h q28 hq
  obtain ⟨f29, ef29⟩ : ∃ z, z = ac_up f27 q28 (.inl (ac_ki x 0, 4, .inl (fun _ => 0))) := ⟨_, rfl⟩
  have h := h f29 ef29
  rw [← ef29]
  obtain ⟨f30, hr, h⟩ := h
  refine ak_putF hr fp_X9_38 hnm rfl rfl d_X9_init_79 ?_
  refine ac_aload_n 0 d_X9_init_82 rfl rfl ?_
  refine ac_iconst (v := 4) d_X9_init_83 rfl ?_
  have hk := h.1
  have h := h.2
  refine ac_newa (a0 := (4, .inl (fun _ => 0))) (t0 := 0) ka_I rfl rfl (fun _ => rfl) (by decide) (by decide) (by decide) (by rw [hro]; exact hk.1) (by rw [hro]; exact hk.2) d_X9_init_84 (fun q31 hq => ?_)
  have h := h q31 hq
  obtain ⟨f32, ef32⟩ : ∃ z, z = ac_up f30 q31 (.inl (ac_ki x 0, 4, .inl (fun _ => 0))) := ⟨_, rfl⟩
  have h := h f32 ef32
  rw [← ef32]
  obtain ⟨f33, hr, h⟩ := h
  refine ak_putF hr fp_X9_41 hnm rfl rfl d_X9_init_86 ?_
  refine ac_aload_n 0 d_X9_init_89 rfl rfl ?_
  refine ac_iconst (v := 4) d_X9_init_90 rfl ?_
  have hk := h.1
  have h := h.2
  refine ac_newa (a0 := (4, .inl (fun _ => 0))) (t0 := 0) ka_I rfl rfl (fun _ => rfl) (by decide) (by decide) (by decide) (by rw [hro]; exact hk.1) (by rw [hro]; exact hk.2) d_X9_init_91 (fun q34 hq => ?_)
  have h := h q34 hq
  obtain ⟨f35, ef35⟩ : ∃ z, z = ac_up f33 q34 (.inl (ac_ki x 0, 4, .inl (fun _ => 0))) := ⟨_, rfl⟩
  have h := h f35 ef35
  rw [← ef35]
  obtain ⟨f36, hr, h⟩ := h
  refine ak_putF hr fp_X9_44 hnm rfl rfl d_X9_init_93 ?_
  refine ac_aload_n 0 d_X9_init_96 rfl rfl ?_
  refine ac_sipush (v := 604) d_X9_init_97 rfl ?_
  have hk := h.1
  have h := h.2
  refine ac_newa (a0 := (604, .inl (fun _ => 0))) (t0 := 0) ka_I rfl rfl (fun _ => rfl) (by decide) (by decide) (by decide) (by rw [hro]; exact hk.1) (by rw [hro]; exact hk.2) d_X9_init_100 (fun q37 hq => ?_)
  have h := h q37 hq
  obtain ⟨f38, ef38⟩ : ∃ z, z = ac_up f36 q37 (.inl (ac_ki x 0, 604, .inl (fun _ => 0))) := ⟨_, rfl⟩
  have h := h f38 ef38
  rw [← ef38]
  obtain ⟨f39, hr, h⟩ := h
  refine ak_putF hr fp_X9_47 hnm rfl rfl d_X9_init_102 ?_
  refine ac_aload_n 0 d_X9_init_105 rfl rfl ?_
  refine ac_sipush (v := 604) d_X9_init_106 rfl ?_
  have hk := h.1
  have h := h.2
  refine ac_newa (a0 := (604, .inl (fun _ => 0))) (t0 := 0) ka_I rfl rfl (fun _ => rfl) (by decide) (by decide) (by decide) (by rw [hro]; exact hk.1) (by rw [hro]; exact hk.2) d_X9_init_109 (fun q40 hq => ?_)
  have h := h q40 hq
  obtain ⟨f41, ef41⟩ : ∃ z, z = ac_up f39 q40 (.inl (ac_ki x 0, 604, .inl (fun _ => 0))) := ⟨_, rfl⟩
  have h := h f41 ef41
  rw [← ef41]
  obtain ⟨f42, hr, h⟩ := h
  refine ak_putF hr fp_X9_50 hnm rfl rfl d_X9_init_111 ?_
  refine ac_aload_n 0 d_X9_init_114 rfl rfl ?_
  refine ac_sipush (v := 151) d_X9_init_115 rfl ?_
  have hk := h.1
  have h := h.2
  refine ac_newa (a0 := (151, .inl (fun _ => 0))) (t0 := 0) ka_I rfl rfl (fun _ => rfl) (by decide) (by decide) (by decide) (by rw [hro]; exact hk.1) (by rw [hro]; exact hk.2) d_X9_init_118 (fun q43 hq => ?_)
  have h := h q43 hq
  obtain ⟨f44, ef44⟩ : ∃ z, z = ac_up f42 q43 (.inl (ac_ki x 0, 151, .inl (fun _ => 0))) := ⟨_, rfl⟩
  have h := h f44 ef44
  rw [← ef44]
  obtain ⟨f45, hr, h⟩ := h
  refine ak_putF hr fp_X9_53 hnm rfl rfl d_X9_init_120 ?_
  refine ac_aload_n 0 d_X9_init_123 rfl rfl ?_
  refine ac_iconst (v := 4) d_X9_init_124 rfl ?_
  have hk := h.1
  have h := h.2
  refine ac_newa (a0 := (4, .inl (fun _ => 0))) (t0 := 0) ka_I rfl rfl (fun _ => rfl) (by decide) (by decide) (by decide) (by rw [hro]; exact hk.1) (by rw [hro]; exact hk.2) d_X9_init_125 (fun q46 hq => ?_)
  have h := h q46 hq
  obtain ⟨f47, ef47⟩ : ∃ z, z = ac_up f45 q46 (.inl (ac_ki x 0, 4, .inl (fun _ => 0))) := ⟨_, rfl⟩
  have h := h f47 ef47
  rw [← ef47]
  obtain ⟨f48, hr, h⟩ := h
  refine ak_putF hr fp_X9_56 hnm rfl rfl d_X9_init_127 ?_
  refine ac_aload_n 0 d_X9_init_130 rfl rfl ?_
  refine ac_bipush (v := 6) d_X9_init_131 rfl ?_
  have hk := h.1
  have h := h.2
  refine ac_newa (a0 := (6, .inl (fun _ => 0))) (t0 := 0) ka_I rfl rfl (fun _ => rfl) (by decide) (by decide) (by decide) (by rw [hro]; exact hk.1) (by rw [hro]; exact hk.2) d_X9_init_133 (fun q49 hq => ?_)
  have h := h q49 hq
  obtain ⟨f50, ef50⟩ : ∃ z, z = ac_up f48 q49 (.inl (ac_ki x 0, 6, .inl (fun _ => 0))) := ⟨_, rfl⟩
  have h := h f50 ef50
  rw [← ef50]
  obtain ⟨f51, hr, h⟩ := h
  refine ak_putF hr fp_X9_59 hnm rfl rfl d_X9_init_135 ?_
  refine ac_aload_n 0 d_X9_init_138 rfl rfl ?_
  refine ac_bipush (v := 6) d_X9_init_139 rfl ?_
  have hk := h.1
  have h := h.2
  refine ac_newa (a0 := (6, .inl (fun _ => 0))) (t0 := 0) ka_I rfl rfl (fun _ => rfl) (by decide) (by decide) (by decide) (by rw [hro]; exact hk.1) (by rw [hro]; exact hk.2) d_X9_init_141 (fun q52 hq => ?_)
  have h := h q52 hq
  obtain ⟨f53, ef53⟩ : ∃ z, z = ac_up f51 q52 (.inl (ac_ki x 0, 6, .inl (fun _ => 0))) := ⟨_, rfl⟩
  have h := h f53 ef53
  rw [← ef53]
  obtain ⟨f54, hr, h⟩ := h
  refine ak_putF hr fp_X9_62 hnm rfl rfl d_X9_init_143 ?_
  refine ac_aload_n 0 d_X9_init_146 rfl rfl ?_
  refine ac_bipush (v := 6) d_X9_init_147 rfl ?_
  have hk := h.1
  have h := h.2
  refine ac_newa (a0 := (6, .inl (fun _ => 0))) (t0 := 1) ka_Z rfl rfl (fun _ => rfl) (by decide) (by decide) (by decide) (by rw [hro]; exact hk.1) (by rw [hro]; exact hk.2) d_X9_init_149 (fun q55 hq => ?_)
  have h := h q55 hq
  obtain ⟨f56, ef56⟩ : ∃ z, z = ac_up f54 q55 (.inl (ac_ki x 1, 6, .inl (fun _ => 0))) := ⟨_, rfl⟩
  have h := h f56 ef56
  rw [← ef56]
  obtain ⟨f57, hr, h⟩ := h
  refine ak_putF hr fp_X9_65 hnm rfl rfl d_X9_init_151 ?_
  refine ac_aload_n 0 d_X9_init_154 rfl rfl ?_
  refine ac_sipush (v := 1812) d_X9_init_155 rfl ?_
  have hk := h.1
  have h := h.2
  refine ac_newa (a0 := (1812, .inl (fun _ => 0))) (t0 := 0) ka_I rfl rfl (fun _ => rfl) (by decide) (by decide) (by decide) (by rw [hro]; exact hk.1) (by rw [hro]; exact hk.2) d_X9_init_158 (fun q58 hq => ?_)
  have h := h q58 hq
  obtain ⟨f59, ef59⟩ : ∃ z, z = ac_up f57 q58 (.inl (ac_ki x 0, 1812, .inl (fun _ => 0))) := ⟨_, rfl⟩
  have h := h f59 ef59
  rw [← ef59]
  obtain ⟨f60, hr, h⟩ := h
  refine ak_putF hr fp_X9_68 hnm rfl rfl d_X9_init_160 ?_
  refine ac_aload_n 0 d_X9_init_163 rfl rfl ?_
  refine ac_sipush (v := 302) d_X9_init_164 rfl ?_
  have hk := h.1
  have h := h.2
  refine ac_newa (a0 := (302, .inl (fun _ => 0))) (t0 := 0) ka_I rfl rfl (fun _ => rfl) (by decide) (by decide) (by decide) (by rw [hro]; exact hk.1) (by rw [hro]; exact hk.2) d_X9_init_167 (fun q61 hq => ?_)
  have h := h q61 hq
  obtain ⟨f62, ef62⟩ : ∃ z, z = ac_up f60 q61 (.inl (ac_ki x 0, 302, .inl (fun _ => 0))) := ⟨_, rfl⟩
  have h := h f62 ef62
  rw [← ef62]
  obtain ⟨f63, hr, h⟩ := h
  refine ak_putF hr fp_X9_71 hnm rfl rfl d_X9_init_169 ?_
  refine ac_aload_n 0 d_X9_init_172 rfl rfl ?_
  refine ac_sipush (v := 302) d_X9_init_173 rfl ?_
  have hk := h.1
  have h := h.2
  refine ac_newa (a0 := (302, .inl (fun _ => 0))) (t0 := 0) ka_I rfl rfl (fun _ => rfl) (by decide) (by decide) (by decide) (by rw [hro]; exact hk.1) (by rw [hro]; exact hk.2) d_X9_init_176 (fun q64 hq => ?_)
  have h := h q64 hq
  obtain ⟨f65, ef65⟩ : ∃ z, z = ac_up f63 q64 (.inl (ac_ki x 0, 302, .inl (fun _ => 0))) := ⟨_, rfl⟩
  have h := h f65 ef65
  rw [← ef65]
  obtain ⟨f66, hr, h⟩ := h
  refine ak_putF hr fp_X9_74 hnm rfl rfl d_X9_init_178 ?_
  refine ac_aload_n 0 d_X9_init_181 rfl rfl ?_
  refine ac_sipush (v := 302) d_X9_init_182 rfl ?_
  have hk := h.1
  have h := h.2
  refine ac_newa (a0 := (302, .inl (fun _ => 0))) (t0 := 0) ka_I rfl rfl (fun _ => rfl) (by decide) (by decide) (by decide) (by rw [hro]; exact hk.1) (by rw [hro]; exact hk.2) d_X9_init_185 (fun q67 hq => ?_)
  have h := h q67 hq
  obtain ⟨f68, ef68⟩ : ∃ z, z = ac_up f66 q67 (.inl (ac_ki x 0, 302, .inl (fun _ => 0))) := ⟨_, rfl⟩
  have h := h f68 ef68
  rw [← ef68]
  obtain ⟨f69, hr, h⟩ := h
  refine ak_putF hr fp_X9_77 hnm rfl rfl d_X9_init_187 ?_
  have hk := h.1
  have h := h.2
  exact ac_vreturn hR ⟨rfl, h⟩ hk.1 hk.2 d_X9_init_190

def wp_X9_thrown (ki : Nat → ClassId) (r0 : Nat) (f : ac_hp) (Q : Int32 → ac_hp → Prop) : Prop := ∃ v1 : Int32, hr_f f r0 9 0 (.int v1) ∧ Q v1 f

set_option maxRecDepth 20000 in
set_option maxHeartbeats 4000000 in
theorem c_X9_thrown (l : Launch) (D : va_G) (ki : Nat → ClassId) (r0 : Nat) (f : ac_hp) (Q : Int32 → ac_hp → Prop) (h : wp_X9_thrown ki r0 f Q) : ac_met l D ki y_X9_thrown prog_11_method_2_code 1 (some .int) (ro_ 1 0 0) [.ref r0] f (qr_I Q) 0 0 := by
  refine ac_enter (fun ki => wp_X9_thrown ki r0 f Q) (by decide) (Nat.le_of_ble_eq_true rfl) h ?_
  intro x hro hR hnm h
  unfold wp_X9_thrown at h
  refine ac_aload_n 0 d_X9_thrown_0 rfl rfl ?_
  obtain ⟨v1, hr, h⟩ := h
  refine ak_getf hr fl_X9_80 d_X9_thrown_1 ?_
  exact ac_ireturn hR rfl ⟨_, rfl, h⟩ (by decide) (by decide) d_X9_thrown_4

def wp_X9_in (ki : Nat → ClassId) (x0 : Int32) (x1 : Int32) (x2 : Int32) (f : ac_hp) (Q : Int32 → ac_hp → Prop) : Prop := ((x0 < x1 → Q 0 f) ∧ (¬ x0 < x1 → ((x2 < x0 → Q 0 f) ∧ (¬ x2 < x0 → Q 1 f))))

set_option maxRecDepth 20000 in
set_option maxHeartbeats 4000000 in
theorem c_X9_in (l : Launch) (D : va_G) (ki : Nat → ClassId) (x0 : Int32) (x1 : Int32) (x2 : Int32) (f : ac_hp) (Q : Int32 → ac_hp → Prop) (h : wp_X9_in ki x0 x1 x2 f Q) : ac_met l D ki y_X9_in prog_11_method_3_code 3 (some .boolean) (ro_ 1 0 0) [.int x0, .int x1, .int x2] f (qr_I Q) 0 0 := by
  refine ac_enter (fun ki => wp_X9_in ki x0 x1 x2 f Q) (by decide) (Nat.le_of_ble_eq_true rfl) h ?_
  intro x hro hR hnm h
  unfold wp_X9_in at h
  refine ac_iload_n 0 d_X9_in_0 rfl rfl ?_
  refine ac_iload_n 1 d_X9_in_1 rfl rfl ?_
  refine ac_icmp_lt (tgt := 14) d_X9_in_2 (by decide) (fun hc => ?_) (fun hc => ?_)
  · have h := h.1 hc
    refine ac_iconst (v := 0) d_X9_in_14 rfl ?_
    exact ac_ireturn hR rfl ⟨_, rfl, h⟩ (by decide) (by decide) d_X9_in_15
  · have h := h.2 hc
    refine ac_iload_n 0 d_X9_in_5 rfl rfl ?_
    refine ac_iload_n 2 d_X9_in_6 rfl rfl ?_
    refine ac_icmp_gt (tgt := 14) d_X9_in_7 (by decide) (fun hc => ?_) (fun hc => ?_)
    · have h := h.1 hc
      refine ac_iconst (v := 0) d_X9_in_14 rfl ?_
      exact ac_ireturn hR rfl ⟨_, rfl, h⟩ (by decide) (by decide) d_X9_in_15
    · have h := h.2 hc
      refine ac_iconst (v := 1) d_X9_in_10 rfl ?_
      refine ac_goto (tgt := 15) d_X9_in_11 (by decide) ?_
      exact ac_ireturn hR rfl ⟨_, rfl, h⟩ (by decide) (by decide) d_X9_in_15

def wp_X9_count_L6 (ki : Nat → ClassId) (r0 : Nat) (x1 : Int32) (x2 : Int32) (x3 : Int32) (E53 : Int32 → ac_hp → Prop) : Nat → Int32 → Int32 → ac_hp → Prop
  | 0, _, _, _ => False
  | n + 1, x4, x5, f => ∃ o1 : Nat, hr_f f r0 9 2 (.ref o1) ∧ ∃ v2 : Int32, hr_i (ki 0) f o1 x1 v2 ∧ ((v2 ≤ x5 → E53 x4 f) ∧ (¬ v2 ≤ x5 → ∃ o3 : Nat, hr_f f r0 9 1 (.ref o3) ∧ ∃ v4 : Int32, hr_i (ki 0) f o3 (((60 * x1) + (3 * x5)) + x2) v4 ∧ ((¬ v4 = x3 → ∀ v5 : Int32, v5 = x4 + 0 → ∀ v6 : Int32, v6 = x5 + 1 → wp_X9_count_L6 ki r0 x1 x2 x3 E53 n v5 v6 f) ∧ (v4 = x3 → ∀ v7 : Int32, v7 = x4 + 1 → ∀ v8 : Int32, v8 = x5 + 1 → wp_X9_count_L6 ki r0 x1 x2 x3 E53 n v7 v8 f))))

def wp_X9_count (ki : Nat → ClassId) (r0 : Nat) (x1 : Int32) (x2 : Int32) (x3 : Int32) (f : ac_hp) (Q : Int32 → ac_hp → Prop) : Prop := ∃ n9 : Nat, wp_X9_count_L6 ki r0 x1 x2 x3 (fun y10 f11 => Q y10 f11) n9 0 0 f

set_option maxRecDepth 20000 in
set_option maxHeartbeats 4000000 in
theorem ok_X9_count_L6 {x : ac_X} (hro : ac_R x = (ro_ 1 0 0)) (r0 : Nat) (x1 : Int32) (x2 : Int32) (x3 : Int32) (E53 : Int32 → ac_hp → Prop) (hE53 : ∀ (y4 : Int32) (f : ac_hp), E53 y4 f → ac_At (prog_11_method_4_code, 6, "VirtualRewriteModel") x 0 0 53 [(4, .int y4)] [] f) : ∀ (n : Nat) (x4 : Int32) (x5 : Int32) (f : ac_hp), wp_X9_count_L6 (ac_ki x) r0 x1 x2 x3 E53 n x4 x5 f → ac_At (prog_11_method_4_code, 6, "VirtualRewriteModel") x 0 0 6 [(0, .ref r0), (1, .int x1), (2, .int x2), (3, .int x3), (4, .int x4), (5, .int x5)] [] f := by
  intro n
  induction n with
  | zero => intro _ _ _ h; exact h.elim
  | succ n ih =>
    intro x4 x5 f h
    rw [wp_X9_count_L6] at h
    refine ac_iload 5 d_X9_count_6 rfl ?_
    refine ac_aload_n 0 d_X9_count_8 rfl rfl ?_
    obtain ⟨o1, hr, h⟩ := h
    refine ak_getf hr fl_X9_13 d_X9_count_9 ?_
    refine ac_iload_n 1 d_X9_count_12 rfl rfl ?_
    obtain ⟨v2, hr, h⟩ := h
    refine ak_iald 0 hr rfl d_X9_count_13 ?_
    refine ac_icmp_ge (tgt := 53) d_X9_count_14 (by decide) (fun hc => ?_) (fun hc => ?_)
    · have h := h.1 hc
      refine ac_weak [4] rfl ?_
      exact hE53 x4 f h
    · have h := h.2 hc
      refine ac_iload 4 d_X9_count_17 rfl ?_
      refine ac_aload_n 0 d_X9_count_19 rfl rfl ?_
      obtain ⟨o3, hr, h⟩ := h
      refine ak_getf hr fl_X9_7 d_X9_count_20 ?_
      refine ac_bipush (v := 60) d_X9_count_23 rfl ?_
      refine ac_iload_n 1 d_X9_count_25 rfl rfl ?_
      refine ac_imul d_X9_count_26 ?_
      refine ac_iconst (v := 3) d_X9_count_27 rfl ?_
      refine ac_iload 5 d_X9_count_28 rfl ?_
      refine ac_imul d_X9_count_30 ?_
      refine ac_iadd d_X9_count_31 ?_
      refine ac_iload_n 2 d_X9_count_32 rfl rfl ?_
      refine ac_iadd d_X9_count_33 ?_
      obtain ⟨v4, hr, h⟩ := h
      refine ak_iald 0 hr rfl d_X9_count_34 ?_
      refine ac_iload_n 3 d_X9_count_35 rfl rfl ?_
      refine ac_icmp_ne (tgt := 43) d_X9_count_36 (by decide) (fun hc => ?_) (fun hc => ?_)
      · have h := h.1 hc
        refine ac_iconst (v := 0) d_X9_count_43 rfl ?_
        refine ac_iadd d_X9_count_44 ?_
        refine ak_topi (fun v5 ev5 => ?_)
        have h := h v5 ev5
        refine ac_istore (lv' := [(4, .int v5), (0, .ref r0), (1, .int x1), (2, .int x2), (3, .int x3), (5, .int x5)]) d_X9_count_45 (by decide) rfl ?_
        obtain ⟨v6, ev6⟩ : ∃ y : Int32, y = x5 + 1 := ⟨_, rfl⟩
        have h := h v6 ev6
        refine ac_iinc (j := 5) (lv' := [(5, .int v6), (4, .int v5), (0, .ref r0), (1, .int x1), (2, .int x2), (3, .int x3)]) d_X9_count_47 rfl (by rw [ev6]; rfl) (by decide) rfl ?_
        refine ac_goto (tgt := 6) d_X9_count_50 (by decide) ?_
        refine ac_weak [2, 3, 4, 5, 1, 0] rfl ?_
        exact ih v5 v6 f h
      · have h := h.2 hc
        refine ac_iconst (v := 1) d_X9_count_39 rfl ?_
        refine ac_goto (tgt := 44) d_X9_count_40 (by decide) ?_
        refine ac_iadd d_X9_count_44 ?_
        refine ak_topi (fun v7 ev7 => ?_)
        have h := h v7 ev7
        refine ac_istore (lv' := [(4, .int v7), (0, .ref r0), (1, .int x1), (2, .int x2), (3, .int x3), (5, .int x5)]) d_X9_count_45 (by decide) rfl ?_
        obtain ⟨v8, ev8⟩ : ∃ y : Int32, y = x5 + 1 := ⟨_, rfl⟩
        have h := h v8 ev8
        refine ac_iinc (j := 5) (lv' := [(5, .int v8), (4, .int v7), (0, .ref r0), (1, .int x1), (2, .int x2), (3, .int x3)]) d_X9_count_47 rfl (by rw [ev8]; rfl) (by decide) rfl ?_
        refine ac_goto (tgt := 6) d_X9_count_50 (by decide) ?_
        refine ac_weak [2, 3, 4, 5, 1, 0] rfl ?_
        exact ih v7 v8 f h

set_option maxRecDepth 20000 in
set_option maxHeartbeats 4000000 in
theorem c_X9_count (l : Launch) (D : va_G) (ki : Nat → ClassId) (r0 : Nat) (x1 : Int32) (x2 : Int32) (x3 : Int32) (f : ac_hp) (Q : Int32 → ac_hp → Prop) (h : wp_X9_count ki r0 x1 x2 x3 f Q) : ac_met l D ki y_X9_count prog_11_method_4_code 6 (some .int) (ro_ 1 0 0) [.ref r0, .int x1, .int x2, .int x3] f (qr_I Q) 0 0 := by
  refine ac_enter (fun ki => wp_X9_count ki r0 x1 x2 x3 f Q) (by decide) (Nat.le_of_ble_eq_true rfl) h ?_
  intro x hro hR hnm h
  unfold wp_X9_count at h
  refine ac_iconst (v := 0) d_X9_count_0 rfl ?_
  refine ac_istore (lv' := [(4, .int 0), (0, .ref r0), (1, .int x1), (2, .int x2), (3, .int x3)]) d_X9_count_1 (by decide) rfl ?_
  refine ac_iconst (v := 0) d_X9_count_3 rfl ?_
  refine ac_istore (lv' := [(5, .int 0), (4, .int 0), (0, .ref r0), (1, .int x1), (2, .int x2), (3, .int x3)]) d_X9_count_4 (by decide) rfl ?_
  obtain ⟨n9, h⟩ := h
  refine ac_weak [2, 3, 4, 5, 1, 0] rfl ?_
  refine ok_X9_count_L6 hro r0 x1 x2 x3 _ (fun y10 f11 h => ?_) n9 0 0 f h
  · skip
    refine ac_iload 0 d_X9_count_53 rfl ?_
    exact ac_ireturn hR rfl ⟨_, rfl, h⟩ (by decide) (by decide) d_X9_count_55

def wp_X9_code (ki : Nat → ClassId) (r0 : Nat) (x1 : Int32) (x2 : Int32) (x3 : Int32) (f : ac_hp) (Q : Int32 → ac_hp → Prop) : Prop := ∃ o1 : Nat, hr_f f r0 9 7 (.ref o1) ∧ ∃ v2 : Int32, hr_i (ki 0) f o1 ((2 * x1) + x2) v2 ∧ ∃ o3 : Nat, hr_f f r0 9 1 (.ref o3) ∧ ∃ o4 : Nat, hr_f f r0 9 5 (.ref o4) ∧ ∃ v5 : Int32, hr_i (ki 0) f o4 x1 v5 ∧ ∃ o6 : Nat, hr_f f r0 9 8 (.ref o6) ∧ ∃ v7 : Int32, hr_i (ki 0) f o6 ((2 * x1) + x2) v7 ∧ ∃ v8 : Int32, hr_i (ki 0) f o3 (((60 * v5) + (3 * x3)) + v7) v8 ∧ Q ((10000 * v2) + v8) f

set_option maxRecDepth 20000 in
set_option maxHeartbeats 4000000 in
theorem c_X9_code (l : Launch) (D : va_G) (ki : Nat → ClassId) (r0 : Nat) (x1 : Int32) (x2 : Int32) (x3 : Int32) (f : ac_hp) (Q : Int32 → ac_hp → Prop) (h : wp_X9_code ki r0 x1 x2 x3 f Q) : ac_met l D ki y_X9_code prog_11_method_9_code 4 (some .int) (ro_ 1 0 0) [.ref r0, .int x1, .int x2, .int x3] f (qr_I Q) 0 0 := by
  refine ac_enter (fun ki => wp_X9_code ki r0 x1 x2 x3 f Q) (by decide) (Nat.le_of_ble_eq_true rfl) h ?_
  intro x hro hR hnm h
  unfold wp_X9_code at h
  refine ac_sipush (v := 10000) d_X9_code_0 rfl ?_
  refine ac_aload_n 0 d_X9_code_3 rfl rfl ?_
  obtain ⟨o1, hr, h⟩ := h
  refine ak_getf hr fl_X9_26 d_X9_code_4 ?_
  refine ac_iconst (v := 2) d_X9_code_7 rfl ?_
  refine ac_iload_n 1 d_X9_code_8 rfl rfl ?_
  refine ac_imul d_X9_code_9 ?_
  refine ac_iload_n 2 d_X9_code_10 rfl rfl ?_
  refine ac_iadd d_X9_code_11 ?_
  obtain ⟨v2, hr, h⟩ := h
  refine ak_iald 0 hr rfl d_X9_code_12 ?_
  refine ac_imul d_X9_code_13 ?_
  refine ac_aload_n 0 d_X9_code_14 rfl rfl ?_
  obtain ⟨o3, hr, h⟩ := h
  refine ak_getf hr fl_X9_7 d_X9_code_15 ?_
  refine ac_bipush (v := 60) d_X9_code_18 rfl ?_
  refine ac_aload_n 0 d_X9_code_20 rfl rfl ?_
  obtain ⟨o4, hr, h⟩ := h
  refine ak_getf hr fl_X9_20 d_X9_code_21 ?_
  refine ac_iload_n 1 d_X9_code_24 rfl rfl ?_
  obtain ⟨v5, hr, h⟩ := h
  refine ak_iald 0 hr rfl d_X9_code_25 ?_
  refine ac_imul d_X9_code_26 ?_
  refine ac_iconst (v := 3) d_X9_code_27 rfl ?_
  refine ac_iload_n 3 d_X9_code_28 rfl rfl ?_
  refine ac_imul d_X9_code_29 ?_
  refine ac_iadd d_X9_code_30 ?_
  refine ac_aload_n 0 d_X9_code_31 rfl rfl ?_
  obtain ⟨o6, hr, h⟩ := h
  refine ak_getf hr fl_X9_29 d_X9_code_32 ?_
  refine ac_iconst (v := 2) d_X9_code_35 rfl ?_
  refine ac_iload_n 1 d_X9_code_36 rfl rfl ?_
  refine ac_imul d_X9_code_37 ?_
  refine ac_iload_n 2 d_X9_code_38 rfl rfl ?_
  refine ac_iadd d_X9_code_39 ?_
  obtain ⟨v7, hr, h⟩ := h
  refine ak_iald 0 hr rfl d_X9_code_40 ?_
  refine ac_iadd d_X9_code_41 ?_
  obtain ⟨v8, hr, h⟩ := h
  refine ak_iald 0 hr rfl d_X9_code_42 ?_
  refine ac_iadd d_X9_code_43 ?_
  exact ac_ireturn hR rfl ⟨_, rfl, h⟩ (by decide) (by decide) d_X9_code_44

def wp_X9_clear (ki : Nat → ClassId) (r0 : Nat) (f : ac_hp) (Q : Int32 → ac_hp → Prop) : Prop := ∃ f1 : ac_hp, hw_f f r0 9 0 (.int 0) f1 ∧ ∃ v2 : Int32, hr_f f1 r0 9 9 (.int v2) ∧ ∃ f3 : ac_hp, hw_f f1 r0 9 9 (.int 0) f3 ∧ ∃ f4 : ac_hp, hw_f f3 r0 9 12 (.int 0) f4 ∧ Q v2 f4

set_option maxRecDepth 20000 in
set_option maxHeartbeats 4000000 in
theorem c_X9_clear (l : Launch) (D : va_G) (ki : Nat → ClassId) (r0 : Nat) (f : ac_hp) (Q : Int32 → ac_hp → Prop) (h : wp_X9_clear ki r0 f Q) : ac_met l D ki y_X9_clear prog_11_method_14_code 2 (some .int) (ro_ 1 0 0) [.ref r0] f (qr_I Q) 0 0 := by
  refine ac_enter (fun ki => wp_X9_clear ki r0 f Q) (by decide) (Nat.le_of_ble_eq_true rfl) h ?_
  intro x hro hR hnm h
  unfold wp_X9_clear at h
  refine ac_aload_n 0 d_X9_clear_0 rfl rfl ?_
  refine ac_iconst (v := 0) d_X9_clear_1 rfl ?_
  obtain ⟨f1, hr, h⟩ := h
  refine ak_putf hr fp_X9_80 rfl rfl d_X9_clear_2 ?_
  refine ac_aload_n 0 d_X9_clear_5 rfl rfl ?_
  obtain ⟨v2, hr, h⟩ := h
  refine ak_getf hr fl_X9_103 d_X9_clear_6 ?_
  refine ac_istore_n (lv' := [(1, .int v2), (0, .ref r0)]) d_X9_clear_9 rfl (by decide) rfl ?_
  refine ac_aload_n 1 d_X9_clear_10 rfl rfl ?_
  refine ac_iconst (v := 0) d_X9_clear_11 rfl ?_
  obtain ⟨f3, hr, h⟩ := h
  refine ak_putf hr fp_X9_103 rfl rfl d_X9_clear_12 ?_
  refine ac_aload_n 1 d_X9_clear_15 rfl rfl ?_
  refine ac_iconst (v := 0) d_X9_clear_16 rfl ?_
  obtain ⟨f4, hr, h⟩ := h
  refine ak_putf hr fp_X9_106 rfl rfl d_X9_clear_17 ?_
  refine ac_iload_n 0 d_X9_clear_20 rfl rfl ?_
  exact ac_ireturn hR rfl ⟨_, rfl, h⟩ (by decide) (by decide) d_X9_clear_21

def wp_X9_canMeet_L2 (ki : Nat → ClassId) (r0 : Nat) (x1 : Int32) (E21 : ac_hp → Prop) : Nat → Int32 → ac_hp → Prop
  | 0, _, _ => False
  | n + 1, x2, f => ((6 ≤ x2 → E21  f) ∧ (¬ 6 ≤ x2 → ∃ o1 : Nat, hr_f f r0 9 22 (.ref o1) ∧ ∃ f2 : ac_hp, hw_i (ki 0) f o1 x2 (-1) f2 ∧ ∀ v3 : Int32, v3 = x2 + 1 → wp_X9_canMeet_L2 ki r0 x1 E21 n v3 f2))

def wp_X9_canMeet_L68 (ki : Nat → ClassId) (r0 : Nat) (x1 : Int32) (x3 : Int32) (E189 : Int32 → ac_hp → Prop) : Nat → Int32 → Int32 → ac_hp → Prop
  | 0, _, _, _ => False
  | n + 1, x2, x4, f => ((2 ≤ x4 → E189 x2 f) ∧ (¬ 2 ≤ x4 → ∃ o13 : Nat, hr_f f r0 9 11 (.ref o13) ∧ ∃ v14 : Int32, hr_i (ki 0) f o13 ((2 * x3) + x4) v14 ∧ ∃ o15 : Nat, hr_f f r0 9 7 (.ref o15) ∧ ∃ o16 : Nat, hr_f f r0 9 17 (.ref o16) ∧ ∃ v17 : Int32, hr_i (ki 0) f o16 (x1 + x3) v17 ∧ ∃ v18 : Int32, hr_i (ki 0) f o15 ((2 * v17) + x4) v18 ∧ ((v14 < 0 → ∀ v19 : Int32, v19 = (-1) - v14 → ((x2 = 0 → ∃ o20 : Nat, hr_f f r0 9 22 (.ref o20) ∧ ∃ f21 : ac_hp, hw_i (ki 0) f o20 v19 v18 f21 ∧ ∀ v22 : Int32, v22 = x4 + 1 → wp_X9_canMeet_L68 ki r0 x1 x3 E189 n 0 v22 f21) ∧ (¬ x2 = 0 → ∃ o23 : Nat, hr_f f r0 9 22 (.ref o23) ∧ ∃ v24 : Int32, hr_i (ki 0) f o23 v19 v24 ∧ ((v24 < 0 → ∃ o25 : Nat, hr_f f r0 9 22 (.ref o25) ∧ ∃ f26 : ac_hp, hw_i (ki 0) f o25 v19 v18 f26 ∧ ∀ v27 : Int32, v27 = x4 + 1 → wp_X9_canMeet_L68 ki r0 x1 x3 E189 n 1 v27 f26) ∧ (¬ v24 < 0 → ∃ o28 : Nat, hr_f f r0 9 22 (.ref o28) ∧ ∃ v29 : Int32, hr_i (ki 0) f o28 v19 v29 ∧ ((¬ v29 = v18 → ∃ o30 : Nat, hr_f f r0 9 22 (.ref o30) ∧ ∃ f31 : ac_hp, hw_i (ki 0) f o30 v19 v18 f31 ∧ ∀ v32 : Int32, v32 = x4 + 1 → wp_X9_canMeet_L68 ki r0 x1 x3 E189 n 0 v32 f31) ∧ (v29 = v18 → ∃ o33 : Nat, hr_f f r0 9 22 (.ref o33) ∧ ∃ f34 : ac_hp, hw_i (ki 0) f o33 v19 v18 f34 ∧ ∀ v35 : Int32, v35 = x4 + 1 → wp_X9_canMeet_L68 ki r0 x1 x3 E189 n 1 v35 f34))))))) ∧ (¬ v14 < 0 → ((x2 = 0 → ∀ v36 : Int32, v36 = x4 + 1 → wp_X9_canMeet_L68 ki r0 x1 x3 E189 n 0 v36 f) ∧ (¬ x2 = 0 → ((¬ (v14 / 10000) = v18 → ∀ v37 : Int32, v37 = x4 + 1 → wp_X9_canMeet_L68 ki r0 x1 x3 E189 n 0 v37 f) ∧ ((v14 / 10000) = v18 → ∀ v38 : Int32, v38 = x4 + 1 → wp_X9_canMeet_L68 ki r0 x1 x3 E189 n 1 v38 f))))))))

def wp_X9_canMeet_L25 (ki : Nat → ClassId) (r0 : Nat) (x1 : Int32) (E195 : Int32 → ac_hp → Prop) : Nat → Int32 → Int32 → ac_hp → Prop
  | 0, _, _, _ => False
  | n + 1, x2, x3, f => ∃ v6 : Int32, hr_f f r0 9 9 (.int v6) ∧ ((v6 ≤ x3 → E195 x2 f) ∧ (¬ v6 ≤ x3 → ((x2 = 0 → E195 x2 f) ∧ (¬ x2 = 0 → ∃ o7 : Nat, hr_f f r0 9 6 (.ref o7) ∧ ∃ o8 : Nat, hr_f f r0 9 17 (.ref o8) ∧ ∃ v9 : Int32, hr_i (ki 0) f o8 (x1 + x3) v9 ∧ ∃ v10 : Int32, hr_i (ki 0) f o7 v9 v10 ∧ ∃ o11 : Nat, hr_f f r0 9 10 (.ref o11) ∧ ∃ v12 : Int32, hr_i (ki 0) f o11 x3 v12 ∧ ((¬ v10 = v12 → ∃ n39 : Nat, wp_X9_canMeet_L68 ki r0 x1 x3 (fun y40 f41 => ∀ v42 : Int32, v42 = x3 + 1 → wp_X9_canMeet_L25 ki r0 x1 E195 n y40 v42 f41) n39 0 0 f) ∧ (v10 = v12 → ∃ n43 : Nat, wp_X9_canMeet_L68 ki r0 x1 x3 (fun y44 f45 => ∀ v46 : Int32, v46 = x3 + 1 → wp_X9_canMeet_L25 ki r0 x1 E195 n y44 v46 f45) n43 1 0 f))))))

def wp_X9_canMeet (ki : Nat → ClassId) (r0 : Nat) (x1 : Int32) (f : ac_hp) (Q : Int32 → ac_hp → Prop) : Prop := ∃ n4 : Nat, wp_X9_canMeet_L2 ki r0 x1 (fun f5 => ∃ n47 : Nat, wp_X9_canMeet_L25 ki r0 x1 (fun y48 f49 => narrow .boolean (.int y48) = .int y48 ∧ Q y48 f49) n47 1 0 f5) n4 0 f

set_option maxRecDepth 20000 in
set_option maxHeartbeats 4000000 in
theorem ok_X9_canMeet_L2 {x : ac_X} (hro : ac_R x = (ro_ 1 0 0)) (r0 : Nat) (x1 : Int32) (E21 : ac_hp → Prop) (hE21 : ∀ (f : ac_hp), E21 f → ac_At (prog_11_method_15_code, 8, "VirtualRewriteModel") x 0 0 21 [(0, .ref r0), (1, .int x1)] [] f) : ∀ (n : Nat) (x2 : Int32) (f : ac_hp), wp_X9_canMeet_L2 (ac_ki x) r0 x1 E21 n x2 f → ac_At (prog_11_method_15_code, 8, "VirtualRewriteModel") x 0 0 2 [(0, .ref r0), (1, .int x1), (2, .int x2)] [] f := by
  intro n
  induction n with
  | zero => intro _ _ h; exact h.elim
  | succ n ih =>
    intro x2 f h
    rw [wp_X9_canMeet_L2] at h
    refine ac_iload_n 2 d_X9_canMeet_2 rfl rfl ?_
    refine ac_bipush (v := 6) d_X9_canMeet_3 rfl ?_
    refine ac_icmp_ge (tgt := 21) d_X9_canMeet_5 (by decide) (fun hc => ?_) (fun hc => ?_)
    · have h := h.1 hc
      refine ac_weak [0, 1] rfl ?_
      exact hE21  f h
    · have h := h.2 hc
      refine ac_aload_n 0 d_X9_canMeet_8 rfl rfl ?_
      obtain ⟨o1, hr, h⟩ := h
      refine ak_getf hr fl_X9_62 d_X9_canMeet_9 ?_
      refine ac_iload_n 2 d_X9_canMeet_12 rfl rfl ?_
      refine ac_iconst (v := -1) d_X9_canMeet_13 rfl ?_
      obtain ⟨f2, hr, h⟩ := h
      refine ak_iast 0 hr rfl d_X9_canMeet_14 ?_
      obtain ⟨v3, ev3⟩ : ∃ y : Int32, y = x2 + 1 := ⟨_, rfl⟩
      have h := h v3 ev3
      refine ac_iinc (j := 2) (lv' := [(2, .int v3), (0, .ref r0), (1, .int x1)]) d_X9_canMeet_15 rfl (by rw [ev3]; rfl) (by decide) rfl ?_
      refine ac_goto (tgt := 2) d_X9_canMeet_18 (by decide) ?_
      refine ac_weak [1, 2, 0] rfl ?_
      exact ih v3 f2 h

set_option maxRecDepth 20000 in
set_option maxHeartbeats 4000000 in
theorem ok_X9_canMeet_L68 {x : ac_X} (hro : ac_R x = (ro_ 1 0 0)) (r0 : Nat) (x1 : Int32) (x3 : Int32) (E189 : Int32 → ac_hp → Prop) (hE189 : ∀ (y2 : Int32) (f : ac_hp), E189 y2 f → ac_At (prog_11_method_15_code, 8, "VirtualRewriteModel") x 0 0 189 [(0, .ref r0), (1, .int x1), (2, .int y2), (3, .int x3)] [] f) : ∀ (n : Nat) (x2 : Int32) (x4 : Int32) (f : ac_hp), wp_X9_canMeet_L68 (ac_ki x) r0 x1 x3 E189 n x2 x4 f → ac_At (prog_11_method_15_code, 8, "VirtualRewriteModel") x 0 0 68 [(0, .ref r0), (1, .int x1), (2, .int x2), (3, .int x3), (4, .int x4)] [] f := by
  intro n
  induction n with
  | zero => intro _ _ _ h; exact h.elim
  | succ n ih =>
    intro x2 x4 f h
    rw [wp_X9_canMeet_L68] at h
    refine ac_iload 4 d_X9_canMeet_68 rfl ?_
    refine ac_iconst (v := 2) d_X9_canMeet_70 rfl ?_
    refine ac_icmp_ge (tgt := 189) d_X9_canMeet_71 (by decide) (fun hc => ?_) (fun hc => ?_)
    · have h := h.1 hc
      refine ac_weak [0, 1, 2, 3] rfl ?_
      exact hE189 x2 f h
    · have h := h.2 hc
      refine ac_aload_n 0 d_X9_canMeet_74 rfl rfl ?_
      obtain ⟨o13, hr, h⟩ := h
      refine ak_getf hr fl_X9_35 d_X9_canMeet_75 ?_
      refine ac_iconst (v := 2) d_X9_canMeet_78 rfl ?_
      refine ac_iload_n 3 d_X9_canMeet_79 rfl rfl ?_
      refine ac_imul d_X9_canMeet_80 ?_
      refine ac_iload 4 d_X9_canMeet_81 rfl ?_
      refine ac_iadd d_X9_canMeet_83 ?_
      obtain ⟨v14, hr, h⟩ := h
      refine ak_iald 0 hr rfl d_X9_canMeet_84 ?_
      refine ac_istore (lv' := [(5, .int v14), (0, .ref r0), (1, .int x1), (2, .int x2), (3, .int x3), (4, .int x4)]) d_X9_canMeet_85 (by decide) rfl ?_
      refine ac_aload_n 1 d_X9_canMeet_87 rfl rfl ?_
      obtain ⟨o15, hr, h⟩ := h
      refine ak_getf hr fl_X9_26 d_X9_canMeet_88 ?_
      refine ac_iconst (v := 2) d_X9_canMeet_91 rfl ?_
      refine ac_aload_n 1 d_X9_canMeet_92 rfl rfl ?_
      obtain ⟨o16, hr, h⟩ := h
      refine ak_getf hr fl_X9_47 d_X9_canMeet_93 ?_
      refine ac_iload_n 2 d_X9_canMeet_96 rfl rfl ?_
      refine ac_iload_n 4 d_X9_canMeet_97 rfl rfl ?_
      refine ac_iadd d_X9_canMeet_98 ?_
      obtain ⟨v17, hr, h⟩ := h
      refine ak_iald 0 hr rfl d_X9_canMeet_99 ?_
      refine ac_imul d_X9_canMeet_100 ?_
      refine ac_iload 5 d_X9_canMeet_101 rfl ?_
      refine ac_iadd d_X9_canMeet_103 ?_
      obtain ⟨v18, hr, h⟩ := h
      refine ak_iald 0 hr rfl d_X9_canMeet_104 ?_
      refine ac_istore (lv' := [(6, .int v18), (5, .int v14), (0, .ref r0), (1, .int x1), (2, .int x2), (3, .int x3), (4, .int x4)]) d_X9_canMeet_105 (by decide) rfl ?_
      refine ac_iload 1 d_X9_canMeet_107 rfl ?_
      refine ac_if_lt (tgt := 136) d_X9_canMeet_109 (by decide) (fun hc => ?_) (fun hc => ?_)
      · have h := h.1 hc
        refine ac_iconst (v := -1) d_X9_canMeet_136 rfl ?_
        refine ac_iload 1 d_X9_canMeet_137 rfl ?_
        refine ac_isub d_X9_canMeet_139 ?_
        refine ak_topi (fun v19 ev19 => ?_)
        have h := h v19 ev19
        refine ac_istore (lv' := [(7, .int v19), (6, .int v18), (5, .int v14), (0, .ref r0), (1, .int x1), (2, .int x2), (3, .int x3), (4, .int x4)]) d_X9_canMeet_140 (by decide) rfl ?_
        refine ac_iload_n 5 d_X9_canMeet_142 rfl rfl ?_
        refine ac_if_eq (tgt := 172) d_X9_canMeet_143 (by decide) (fun hc => ?_) (fun hc => ?_)
        · have h := h.1 hc
          refine ac_iconst (v := 0) d_X9_canMeet_172 rfl ?_
          refine ac_istore_n (lv' := [(2, .int 0), (7, .int v19), (6, .int v18), (5, .int v14), (0, .ref r0), (1, .int x1), (3, .int x3), (4, .int x4)]) d_X9_canMeet_173 rfl (by decide) rfl ?_
          refine ac_aload_n 4 d_X9_canMeet_174 rfl rfl ?_
          obtain ⟨o20, hr, h⟩ := h
          refine ak_getf hr fl_X9_62 d_X9_canMeet_175 ?_
          refine ac_iload 1 d_X9_canMeet_178 rfl ?_
          refine ac_iload 2 d_X9_canMeet_180 rfl ?_
          obtain ⟨f21, hr, h⟩ := h
          refine ak_iast 0 hr rfl d_X9_canMeet_182 ?_
          obtain ⟨v22, ev22⟩ : ∃ y : Int32, y = x4 + 1 := ⟨_, rfl⟩
          have h := h v22 ev22
          refine ac_iinc (j := 7) (lv' := [(4, .int v22), (2, .int 0), (7, .int v19), (6, .int v18), (5, .int v14), (0, .ref r0), (1, .int x1), (3, .int x3)]) d_X9_canMeet_183 rfl (by rw [ev22]; rfl) (by decide) rfl ?_
          refine ac_goto (tgt := 68) d_X9_canMeet_186 (by decide) ?_
          refine ac_weak [5, 6, 1, 7, 0] rfl ?_
          exact ih 0 v22 f21 h
        · have h := h.2 hc
          refine ac_aload_n 3 d_X9_canMeet_146 rfl rfl ?_
          obtain ⟨o23, hr, h⟩ := h
          refine ak_getf hr fl_X9_62 d_X9_canMeet_147 ?_
          refine ac_iload 0 d_X9_canMeet_150 rfl ?_
          obtain ⟨v24, hr, h⟩ := h
          refine ak_iald 0 hr rfl d_X9_canMeet_152 ?_
          refine ac_if_lt (tgt := 168) d_X9_canMeet_153 (by decide) (fun hc => ?_) (fun hc => ?_)
          · have h := h.1 hc
            refine ac_iconst (v := 1) d_X9_canMeet_168 rfl ?_
            refine ac_goto (tgt := 173) d_X9_canMeet_169 (by decide) ?_
            refine ac_istore_n (lv' := [(2, .int 1), (7, .int v19), (6, .int v18), (5, .int v14), (0, .ref r0), (1, .int x1), (3, .int x3), (4, .int x4)]) d_X9_canMeet_173 rfl (by decide) rfl ?_
            refine ac_aload_n 4 d_X9_canMeet_174 rfl rfl ?_
            obtain ⟨o25, hr, h⟩ := h
            refine ak_getf hr fl_X9_62 d_X9_canMeet_175 ?_
            refine ac_iload 1 d_X9_canMeet_178 rfl ?_
            refine ac_iload 2 d_X9_canMeet_180 rfl ?_
            obtain ⟨f26, hr, h⟩ := h
            refine ak_iast 0 hr rfl d_X9_canMeet_182 ?_
            obtain ⟨v27, ev27⟩ : ∃ y : Int32, y = x4 + 1 := ⟨_, rfl⟩
            have h := h v27 ev27
            refine ac_iinc (j := 7) (lv' := [(4, .int v27), (2, .int 1), (7, .int v19), (6, .int v18), (5, .int v14), (0, .ref r0), (1, .int x1), (3, .int x3)]) d_X9_canMeet_183 rfl (by rw [ev27]; rfl) (by decide) rfl ?_
            refine ac_goto (tgt := 68) d_X9_canMeet_186 (by decide) ?_
            refine ac_weak [5, 6, 1, 7, 0] rfl ?_
            exact ih 1 v27 f26 h
          · have h := h.2 hc
            refine ac_aload_n 3 d_X9_canMeet_156 rfl rfl ?_
            obtain ⟨o28, hr, h⟩ := h
            refine ak_getf hr fl_X9_62 d_X9_canMeet_157 ?_
            refine ac_iload 0 d_X9_canMeet_160 rfl ?_
            obtain ⟨v29, hr, h⟩ := h
            refine ak_iald 0 hr rfl d_X9_canMeet_162 ?_
            refine ac_iload 1 d_X9_canMeet_163 rfl ?_
            refine ac_icmp_ne (tgt := 172) d_X9_canMeet_165 (by decide) (fun hc => ?_) (fun hc => ?_)
            · have h := h.1 hc
              refine ac_iconst (v := 0) d_X9_canMeet_172 rfl ?_
              refine ac_istore_n (lv' := [(2, .int 0), (7, .int v19), (6, .int v18), (5, .int v14), (0, .ref r0), (1, .int x1), (3, .int x3), (4, .int x4)]) d_X9_canMeet_173 rfl (by decide) rfl ?_
              refine ac_aload_n 4 d_X9_canMeet_174 rfl rfl ?_
              obtain ⟨o30, hr, h⟩ := h
              refine ak_getf hr fl_X9_62 d_X9_canMeet_175 ?_
              refine ac_iload 1 d_X9_canMeet_178 rfl ?_
              refine ac_iload 2 d_X9_canMeet_180 rfl ?_
              obtain ⟨f31, hr, h⟩ := h
              refine ak_iast 0 hr rfl d_X9_canMeet_182 ?_
              obtain ⟨v32, ev32⟩ : ∃ y : Int32, y = x4 + 1 := ⟨_, rfl⟩
              have h := h v32 ev32
              refine ac_iinc (j := 7) (lv' := [(4, .int v32), (2, .int 0), (7, .int v19), (6, .int v18), (5, .int v14), (0, .ref r0), (1, .int x1), (3, .int x3)]) d_X9_canMeet_183 rfl (by rw [ev32]; rfl) (by decide) rfl ?_
              refine ac_goto (tgt := 68) d_X9_canMeet_186 (by decide) ?_
              refine ac_weak [5, 6, 1, 7, 0] rfl ?_
              exact ih 0 v32 f31 h
            · have h := h.2 hc
              refine ac_iconst (v := 1) d_X9_canMeet_168 rfl ?_
              refine ac_goto (tgt := 173) d_X9_canMeet_169 (by decide) ?_
              refine ac_istore_n (lv' := [(2, .int 1), (7, .int v19), (6, .int v18), (5, .int v14), (0, .ref r0), (1, .int x1), (3, .int x3), (4, .int x4)]) d_X9_canMeet_173 rfl (by decide) rfl ?_
              refine ac_aload_n 4 d_X9_canMeet_174 rfl rfl ?_
              obtain ⟨o33, hr, h⟩ := h
              refine ak_getf hr fl_X9_62 d_X9_canMeet_175 ?_
              refine ac_iload 1 d_X9_canMeet_178 rfl ?_
              refine ac_iload 2 d_X9_canMeet_180 rfl ?_
              obtain ⟨f34, hr, h⟩ := h
              refine ak_iast 0 hr rfl d_X9_canMeet_182 ?_
              obtain ⟨v35, ev35⟩ : ∃ y : Int32, y = x4 + 1 := ⟨_, rfl⟩
              have h := h v35 ev35
              refine ac_iinc (j := 7) (lv' := [(4, .int v35), (2, .int 1), (7, .int v19), (6, .int v18), (5, .int v14), (0, .ref r0), (1, .int x1), (3, .int x3)]) d_X9_canMeet_183 rfl (by rw [ev35]; rfl) (by decide) rfl ?_
              refine ac_goto (tgt := 68) d_X9_canMeet_186 (by decide) ?_
              refine ac_weak [5, 6, 1, 7, 0] rfl ?_
              exact ih 1 v35 f34 h
      · have h := h.2 hc
        refine ac_iload_n 4 d_X9_canMeet_112 rfl rfl ?_
        refine ac_if_eq (tgt := 131) d_X9_canMeet_113 (by decide) (fun hc => ?_) (fun hc => ?_)
        · have h := h.1 hc
          refine ac_iconst (v := 0) d_X9_canMeet_131 rfl ?_
          refine ac_istore_n (lv' := [(2, .int 0), (6, .int v18), (5, .int v14), (0, .ref r0), (1, .int x1), (3, .int x3), (4, .int x4)]) d_X9_canMeet_132 rfl (by decide) rfl ?_
          refine ac_goto (tgt := 183) d_X9_canMeet_133 (by decide) ?_
          obtain ⟨v36, ev36⟩ : ∃ y : Int32, y = x4 + 1 := ⟨_, rfl⟩
          have h := h v36 ev36
          refine ac_iinc (j := 6) (lv' := [(4, .int v36), (2, .int 0), (6, .int v18), (5, .int v14), (0, .ref r0), (1, .int x1), (3, .int x3)]) d_X9_canMeet_183 rfl (by rw [ev36]; rfl) (by decide) rfl ?_
          refine ac_goto (tgt := 68) d_X9_canMeet_186 (by decide) ?_
          refine ac_weak [4, 5, 1, 6, 0] rfl ?_
          exact ih 0 v36 f h
        · have h := h.2 hc
          refine ac_iload 1 d_X9_canMeet_116 rfl ?_
          refine ac_sipush (v := 10000) d_X9_canMeet_118 rfl ?_
          refine ac_idiv d_X9_canMeet_121 (by decide) ?_
          refine ac_iload 0 d_X9_canMeet_122 rfl ?_
          refine ac_icmp_ne (tgt := 131) d_X9_canMeet_124 (by decide) (fun hc => ?_) (fun hc => ?_)
          · have h := h.1 hc
            refine ac_iconst (v := 0) d_X9_canMeet_131 rfl ?_
            refine ac_istore_n (lv' := [(2, .int 0), (6, .int v18), (5, .int v14), (0, .ref r0), (1, .int x1), (3, .int x3), (4, .int x4)]) d_X9_canMeet_132 rfl (by decide) rfl ?_
            refine ac_goto (tgt := 183) d_X9_canMeet_133 (by decide) ?_
            obtain ⟨v37, ev37⟩ : ∃ y : Int32, y = x4 + 1 := ⟨_, rfl⟩
            have h := h v37 ev37
            refine ac_iinc (j := 6) (lv' := [(4, .int v37), (2, .int 0), (6, .int v18), (5, .int v14), (0, .ref r0), (1, .int x1), (3, .int x3)]) d_X9_canMeet_183 rfl (by rw [ev37]; rfl) (by decide) rfl ?_
            refine ac_goto (tgt := 68) d_X9_canMeet_186 (by decide) ?_
            refine ac_weak [4, 5, 1, 6, 0] rfl ?_
            exact ih 0 v37 f h
          · have h := h.2 hc
            refine ac_iconst (v := 1) d_X9_canMeet_127 rfl ?_
            refine ac_goto (tgt := 132) d_X9_canMeet_128 (by decide) ?_
            refine ac_istore_n (lv' := [(2, .int 1), (6, .int v18), (5, .int v14), (0, .ref r0), (1, .int x1), (3, .int x3), (4, .int x4)]) d_X9_canMeet_132 rfl (by decide) rfl ?_
            refine ac_goto (tgt := 183) d_X9_canMeet_133 (by decide) ?_
            obtain ⟨v38, ev38⟩ : ∃ y : Int32, y = x4 + 1 := ⟨_, rfl⟩
            have h := h v38 ev38
            refine ac_iinc (j := 6) (lv' := [(4, .int v38), (2, .int 1), (6, .int v18), (5, .int v14), (0, .ref r0), (1, .int x1), (3, .int x3)]) d_X9_canMeet_183 rfl (by rw [ev38]; rfl) (by decide) rfl ?_
            refine ac_goto (tgt := 68) d_X9_canMeet_186 (by decide) ?_
            refine ac_weak [4, 5, 1, 6, 0] rfl ?_
            exact ih 1 v38 f h

set_option maxRecDepth 20000 in
set_option maxHeartbeats 4000000 in
theorem ok_X9_canMeet_L25 {x : ac_X} (hro : ac_R x = (ro_ 1 0 0)) (r0 : Nat) (x1 : Int32) (E195 : Int32 → ac_hp → Prop) (hE195 : ∀ (y2 : Int32) (f : ac_hp), E195 y2 f → ac_At (prog_11_method_15_code, 8, "VirtualRewriteModel") x 0 0 195 [(2, .int y2)] [] f) : ∀ (n : Nat) (x2 : Int32) (x3 : Int32) (f : ac_hp), wp_X9_canMeet_L25 (ac_ki x) r0 x1 E195 n x2 x3 f → ac_At (prog_11_method_15_code, 8, "VirtualRewriteModel") x 0 0 25 [(0, .ref r0), (1, .int x1), (2, .int x2), (3, .int x3)] [] f := by
  intro n
  induction n with
  | zero => intro _ _ _ h; exact h.elim
  | succ n ih =>
    intro x2 x3 f h
    rw [wp_X9_canMeet_L25] at h
    refine ac_iload_n 3 d_X9_canMeet_25 rfl rfl ?_
    refine ac_aload_n 0 d_X9_canMeet_26 rfl rfl ?_
    obtain ⟨v6, hr, h⟩ := h
    refine ak_getf hr fl_X9_103 d_X9_canMeet_27 ?_
    refine ac_icmp_ge (tgt := 195) d_X9_canMeet_30 (by decide) (fun hc => ?_) (fun hc => ?_)
    · have h := h.1 hc
      refine ac_weak [2] rfl ?_
      exact hE195 x2 f h
    · have h := h.2 hc
      refine ac_iload_n 2 d_X9_canMeet_33 rfl rfl ?_
      refine ac_if_eq (tgt := 195) d_X9_canMeet_34 (by decide) (fun hc => ?_) (fun hc => ?_)
      · have h := h.1 hc
        refine ac_weak [2] rfl ?_
        exact hE195 x2 f h
      · have h := h.2 hc
        refine ac_aload_n 0 d_X9_canMeet_37 rfl rfl ?_
        obtain ⟨o7, hr, h⟩ := h
        refine ak_getf hr fl_X9_23 d_X9_canMeet_38 ?_
        refine ac_aload_n 0 d_X9_canMeet_41 rfl rfl ?_
        obtain ⟨o8, hr, h⟩ := h
        refine ak_getf hr fl_X9_47 d_X9_canMeet_42 ?_
        refine ac_iload_n 1 d_X9_canMeet_45 rfl rfl ?_
        refine ac_iload_n 3 d_X9_canMeet_46 rfl rfl ?_
        refine ac_iadd d_X9_canMeet_47 ?_
        obtain ⟨v9, hr, h⟩ := h
        refine ak_iald 0 hr rfl d_X9_canMeet_48 ?_
        obtain ⟨v10, hr, h⟩ := h
        refine ak_iald 0 hr rfl d_X9_canMeet_49 ?_
        refine ac_aload_n 0 d_X9_canMeet_50 rfl rfl ?_
        obtain ⟨o11, hr, h⟩ := h
        refine ak_getf hr fl_X9_32 d_X9_canMeet_51 ?_
        refine ac_iload_n 3 d_X9_canMeet_54 rfl rfl ?_
        obtain ⟨v12, hr, h⟩ := h
        refine ak_iald 0 hr rfl d_X9_canMeet_55 ?_
        refine ac_icmp_ne (tgt := 63) d_X9_canMeet_56 (by decide) (fun hc => ?_) (fun hc => ?_)
        · have h := h.1 hc
          refine ac_iconst (v := 0) d_X9_canMeet_63 rfl ?_
          refine ac_istore_n (lv' := [(2, .int 0), (0, .ref r0), (1, .int x1), (3, .int x3)]) d_X9_canMeet_64 rfl (by decide) rfl ?_
          refine ac_iconst (v := 0) d_X9_canMeet_65 rfl ?_
          refine ac_istore (lv' := [(4, .int 0), (2, .int 0), (0, .ref r0), (1, .int x1), (3, .int x3)]) d_X9_canMeet_66 (by decide) rfl ?_
          obtain ⟨n39, h⟩ := h
          refine ac_weak [2, 3, 1, 4, 0] rfl ?_
          refine ok_X9_canMeet_L68 hro r0 x1 x3 _ (fun y40 f41 h => ?_) n39 0 0 f h
          · skip
            obtain ⟨v42, ev42⟩ : ∃ y : Int32, y = x3 + 1 := ⟨_, rfl⟩
            have h := h v42 ev42
            refine ac_iinc (j := 3) (lv' := [(3, .int v42), (0, .ref r0), (1, .int x1), (2, .int y40)]) d_X9_canMeet_189 rfl (by rw [ev42]; rfl) (by decide) rfl ?_
            refine ac_goto (tgt := 25) d_X9_canMeet_192 (by decide) ?_
            refine ac_weak [1, 2, 3, 0] rfl ?_
            exact ih y40 v42 f41 h
        · have h := h.2 hc
          refine ac_iconst (v := 1) d_X9_canMeet_59 rfl ?_
          refine ac_goto (tgt := 64) d_X9_canMeet_60 (by decide) ?_
          refine ac_istore_n (lv' := [(2, .int 1), (0, .ref r0), (1, .int x1), (3, .int x3)]) d_X9_canMeet_64 rfl (by decide) rfl ?_
          refine ac_iconst (v := 0) d_X9_canMeet_65 rfl ?_
          refine ac_istore (lv' := [(4, .int 0), (2, .int 1), (0, .ref r0), (1, .int x1), (3, .int x3)]) d_X9_canMeet_66 (by decide) rfl ?_
          obtain ⟨n43, h⟩ := h
          refine ac_weak [2, 3, 1, 4, 0] rfl ?_
          refine ok_X9_canMeet_L68 hro r0 x1 x3 _ (fun y44 f45 h => ?_) n43 1 0 f h
          · skip
            obtain ⟨v46, ev46⟩ : ∃ y : Int32, y = x3 + 1 := ⟨_, rfl⟩
            have h := h v46 ev46
            refine ac_iinc (j := 3) (lv' := [(3, .int v46), (0, .ref r0), (1, .int x1), (2, .int y44)]) d_X9_canMeet_189 rfl (by rw [ev46]; rfl) (by decide) rfl ?_
            refine ac_goto (tgt := 25) d_X9_canMeet_192 (by decide) ?_
            refine ac_weak [1, 2, 3, 0] rfl ?_
            exact ih y44 v46 f45 h

set_option maxRecDepth 20000 in
set_option maxHeartbeats 4000000 in
theorem c_X9_canMeet (l : Launch) (D : va_G) (ki : Nat → ClassId) (r0 : Nat) (x1 : Int32) (f : ac_hp) (Q : Int32 → ac_hp → Prop) (h : wp_X9_canMeet ki r0 x1 f Q) : ac_met l D ki y_X9_canMeet prog_11_method_15_code 8 (some .boolean) (ro_ 1 0 0) [.ref r0, .int x1] f (qr_I Q) 0 0 := by
  refine ac_enter (fun ki => wp_X9_canMeet ki r0 x1 f Q) (by decide) (Nat.le_of_ble_eq_true rfl) h ?_
  intro x hro hR hnm h
  unfold wp_X9_canMeet at h
  refine ac_iconst (v := 0) d_X9_canMeet_0 rfl ?_
  refine ac_istore_n (lv' := [(2, .int 0), (0, .ref r0), (1, .int x1)]) d_X9_canMeet_1 rfl (by decide) rfl ?_
  obtain ⟨n4, h⟩ := h
  refine ac_weak [1, 2, 0] rfl ?_
  refine ok_X9_canMeet_L2 hro r0 x1 _ (fun f5 h => ?_) n4 0 f h
  · skip
    refine ac_iconst (v := 1) d_X9_canMeet_21 rfl ?_
    refine ac_istore_n (lv' := [(2, .int 1), (0, .ref r0), (1, .int x1)]) d_X9_canMeet_22 rfl (by decide) rfl ?_
    refine ac_iconst (v := 0) d_X9_canMeet_23 rfl ?_
    refine ac_istore_n (lv' := [(3, .int 0), (2, .int 1), (0, .ref r0), (1, .int x1)]) d_X9_canMeet_24 rfl (by decide) rfl ?_
    obtain ⟨n47, h⟩ := h
    refine ac_weak [2, 3, 1, 0] rfl ?_
    refine ok_X9_canMeet_L25 hro r0 x1 _ (fun y48 f49 h => ?_) n47 1 0 f5 h
    · skip
      refine ac_iload_n 0 d_X9_canMeet_195 rfl rfl ?_
      have hz := h.1
      have h := h.2
      exact ac_ireturn hR hz ⟨_, rfl, h⟩ (by decide) (by decide) d_X9_canMeet_196

