def wp_X6_areOfOneRow_L63 (ki : Nat → ClassId) (r0 : Nat) (x2 : Int32) (x3 : Int32) (r4 : Nat) (r5 : Nat) (r6 : Nat) (x7 : Int32) (Q : Int32 → ac_hp → Prop) (E145 : ac_hp → Prop) : Nat → Int32 → ac_hp → Prop
  | 0, _, _ => False
  | n + 1, x8, f => ((2 ≤ x8 → E145  f) ∧ (¬ 2 ≤ x8 → ∃ o13 : Nat, hr_f f r4 3 1 (.ref o13) ∧ ∃ v14 : Int32, hr_i (ki 0) f o13 x7 v14 ∧ ∃ o15 : Nat, hr_f f r5 3 1 (.ref o15) ∧ ∃ v16 : Int32, hr_i (ki 0) f o15 x8 v16 ∧ ((¬ v14 = v16 → ∀ v17 : Int32, v17 = x8 + 1 → wp_X6_areOfOneRow_L63 ki r0 x2 x3 r4 r5 r6 x7 Q E145 n v17 f) ∧ (v14 = v16 → ∃ o18 : Nat, hr_f f r4 3 1 (.ref o18) ∧ ∃ v19 : Int32, hr_i (ki 0) f o18 x7 v19 ∧ ∃ v20 : Int32, hr_i (ki 1) f r6 v19 v20 ∧ ((v20 = 0 → ∀ v21 : Int32, v21 = x8 + 1 → wp_X6_areOfOneRow_L63 ki r0 x2 x3 r4 r5 r6 x7 Q E145 n v21 f) ∧ (¬ v20 = 0 → ∃ o22 : Nat, hr_f f r0 6 1 (.ref o22) ∧ hr_o f o22 4 ∧ wp_X4_told ki o22 x2 x7 f (fun v24 f23 => ∃ o25 : Nat, hr_f f23 r0 6 1 (.ref o25) ∧ hr_o f23 o25 4 ∧ wp_X4_told ki o25 x3 x8 f23 (fun v27 f26 => ((¬ v24 = v27 → ∀ v28 : Int32, v28 = x8 + 1 → wp_X6_areOfOneRow_L63 ki r0 x2 x3 r4 r5 r6 x7 Q E145 n v28 f26) ∧ (v24 = v27 → Q 1 f26))))))))))

def wp_X6_areOfOneRow_L54 (ki : Nat → ClassId) (r0 : Nat) (x2 : Int32) (x3 : Int32) (r4 : Nat) (r5 : Nat) (r6 : Nat) (Q : Int32 → ac_hp → Prop) (E151 : ac_hp → Prop) : Nat → Int32 → ac_hp → Prop
  | 0, _, _ => False
  | n + 1, x7, f => ((2 ≤ x7 → E151  f) ∧ (¬ 2 ≤ x7 → ∃ n29 : Nat, wp_X6_areOfOneRow_L63 ki r0 x2 x3 r4 r5 r6 x7 Q (fun f30 => ∀ v31 : Int32, v31 = x7 + 1 → wp_X6_areOfOneRow_L54 ki r0 x2 x3 r4 r5 r6 Q E151 n v31 f30) n29 0 f))

def wp_X6_areOfOneRow (ki : Nat → ClassId) (r0 : Nat) (x1 : Int32) (x2 : Int32) (x3 : Int32) (f : ac_hp) (Q : Int32 → ac_hp → Prop) : Prop := ∃ o1 : Nat, hr_f f r0 6 2 (.ref o1) ∧ hr_o f o1 5 ∧ wp_X5_mappingOf ki o1 x1 x2 f (fun o3 f2 => ∃ o4 : Nat, hr_f f2 r0 6 2 (.ref o4) ∧ hr_o f2 o4 5 ∧ wp_X5_mappingOf ki o4 x1 x3 f2 (fun o6 f5 => ∃ v7 : Int32, hr_f f5 o3 3 2 (.int v7) ∧ ∃ v8 : Int32, hr_f f5 o6 3 2 (.int v8) ∧ ((v7 = v8 → ∃ o9 : Nat, hr_f f5 r0 6 0 (.ref o9) ∧ hr_o f5 o9 1 ∧ wp_X1_tableOf ki o9 o3 f5 (fun o11 f10 => ∃ o12 : Nat, hr_f f10 o11 2 1 (.ref o12) ∧ ∃ n32 : Nat, wp_X6_areOfOneRow_L54 ki r0 x2 x3 o3 o6 o12 Q (fun f33 => Q 0 f33) n32 0 f10)) ∧ (¬ v7 = v8 → Q 0 f5))))

set_option maxRecDepth 20000 in
set_option maxHeartbeats 4000000 in
theorem ok_X6_areOfOneRow_L63 {x : ac_X} (hro : ac_R x = (ro_ 3 0 0)) (r0 : Nat) (x2 : Int32) (x3 : Int32) (r4 : Nat) (r5 : Nat) (r6 : Nat) (x7 : Int32) (Q : Int32 → ac_hp → Prop) (hR : ac_rt x (some .boolean) (qr_I Q) 0 0) (E145 : ac_hp → Prop) (hE145 : ∀ (f : ac_hp), E145 f → ac_At (prog_8_method_4_code, 10, "VirtualRewrite$Slots") x 0 0 145 [(0, .ref r0), (2, .int x2), (3, .int x3), (4, .ref r4), (5, .ref r5), (6, .ref r6), (7, .int x7)] [] f) : ∀ (n : Nat) (x8 : Int32) (f : ac_hp), wp_X6_areOfOneRow_L63 (ac_ki x) r0 x2 x3 r4 r5 r6 x7 Q E145 n x8 f → ac_At (prog_8_method_4_code, 10, "VirtualRewrite$Slots") x 0 0 63 [(0, .ref r0), (2, .int x2), (3, .int x3), (4, .ref r4), (5, .ref r5), (6, .ref r6), (7, .int x7), (8, .int x8)] [] f := by
  intro n
  induction n with
  | zero => intro _ _ h; exact h.elim
  | succ n ih =>
    intro x8 f h
    rw [wp_X6_areOfOneRow_L63] at h
    refine ac_iload 7 d_X6_areOfOneRow_63 rfl ?_
    refine ac_iconst (v := 2) d_X6_areOfOneRow_65 rfl ?_
    refine ac_icmp_ge (tgt := 145) d_X6_areOfOneRow_66 (by decide) (fun hc => ?_) (fun hc => ?_)
    · have h := h.1 hc
      refine ac_weak [0, 1, 2, 3, 4, 5, 6] rfl ?_
      exact hE145  f h
    · have h := h.2 hc
      refine ac_aload 3 d_X6_areOfOneRow_69 rfl ?_
      obtain ⟨o13, hr, h⟩ := h
      refine ak_getf hr fl_X6_67 d_X6_areOfOneRow_71 ?_
      refine ac_iload 6 d_X6_areOfOneRow_74 rfl ?_
      obtain ⟨v14, hr, h⟩ := h
      refine ak_iald 0 hr rfl d_X6_areOfOneRow_76 ?_
      refine ac_aload 4 d_X6_areOfOneRow_77 rfl ?_
      obtain ⟨o15, hr, h⟩ := h
      refine ak_getf hr fl_X6_67 d_X6_areOfOneRow_79 ?_
      refine ac_iload 7 d_X6_areOfOneRow_82 rfl ?_
      obtain ⟨v16, hr, h⟩ := h
      refine ak_iald 0 hr rfl d_X6_areOfOneRow_84 ?_
      refine ac_icmp_ne (tgt := 106) d_X6_areOfOneRow_85 (by decide) (fun hc => ?_) (fun hc => ?_)
      · have h := h.1 hc
        refine ac_iconst (v := 0) d_X6_areOfOneRow_106 rfl ?_
        refine ac_istore (lv' := [(9, .int 0), (0, .ref r0), (2, .int x2), (3, .int x3), (4, .ref r4), (5, .ref r5), (6, .ref r6), (7, .int x7), (8, .int x8)]) d_X6_areOfOneRow_107 (by decide) rfl ?_
        refine ac_iload 0 d_X6_areOfOneRow_109 rfl ?_
        refine ac_if_eq (tgt := 139) d_X6_areOfOneRow_111 (by decide) (fun hc => ?_) (fun hc => absurd hc (by decide))
        obtain ⟨v17, ev17⟩ : ∃ y : Int32, y = x8 + 1 := ⟨_, rfl⟩
        have h := h v17 ev17
        refine ac_iinc (j := 8) (lv' := [(8, .int v17), (9, .int 0), (0, .ref r0), (2, .int x2), (3, .int x3), (4, .ref r4), (5, .ref r5), (6, .ref r6), (7, .int x7)]) d_X6_areOfOneRow_139 rfl (by rw [ev17]; rfl) (by decide) rfl ?_
        refine ac_goto (tgt := 63) d_X6_areOfOneRow_142 (by decide) ?_
        refine ac_weak [2, 3, 4, 5, 6, 7, 8, 0] rfl ?_
        exact ih v17 f h
      · have h := h.2 hc
        refine ac_aload 5 d_X6_areOfOneRow_88 rfl ?_
        refine ac_aload 3 d_X6_areOfOneRow_90 rfl ?_
        obtain ⟨o18, hr, h⟩ := h
        refine ak_getf hr fl_X6_67 d_X6_areOfOneRow_92 ?_
        refine ac_iload 6 d_X6_areOfOneRow_95 rfl ?_
        obtain ⟨v19, hr, h⟩ := h
        refine ak_iald 0 hr rfl d_X6_areOfOneRow_97 ?_
        obtain ⟨v20, hr, h⟩ := h
        refine ak_zald 1 hr rfl d_X6_areOfOneRow_98 ?_
        refine ac_if_eq (tgt := 106) d_X6_areOfOneRow_99 (by decide) (fun hc => ?_) (fun hc => ?_)
        · have h := h.1 hc
          refine ac_iconst (v := 0) d_X6_areOfOneRow_106 rfl ?_
          refine ac_istore (lv' := [(9, .int 0), (0, .ref r0), (2, .int x2), (3, .int x3), (4, .ref r4), (5, .ref r5), (6, .ref r6), (7, .int x7), (8, .int x8)]) d_X6_areOfOneRow_107 (by decide) rfl ?_
          refine ac_iload 0 d_X6_areOfOneRow_109 rfl ?_
          refine ac_if_eq (tgt := 139) d_X6_areOfOneRow_111 (by decide) (fun hc => ?_) (fun hc => absurd hc (by decide))
          obtain ⟨v21, ev21⟩ : ∃ y : Int32, y = x8 + 1 := ⟨_, rfl⟩
          have h := h v21 ev21
          refine ac_iinc (j := 8) (lv' := [(8, .int v21), (9, .int 0), (0, .ref r0), (2, .int x2), (3, .int x3), (4, .ref r4), (5, .ref r5), (6, .ref r6), (7, .int x7)]) d_X6_areOfOneRow_139 rfl (by rw [ev21]; rfl) (by decide) rfl ?_
          refine ac_goto (tgt := 63) d_X6_areOfOneRow_142 (by decide) ?_
          refine ac_weak [2, 3, 4, 5, 6, 7, 8, 0] rfl ?_
          exact ih v21 f h
        · have h := h.2 hc
          refine ac_iconst (v := 1) d_X6_areOfOneRow_102 rfl ?_
          refine ac_goto (tgt := 107) d_X6_areOfOneRow_103 (by decide) ?_
          refine ac_istore (lv' := [(9, .int 1), (0, .ref r0), (2, .int x2), (3, .int x3), (4, .ref r4), (5, .ref r5), (6, .ref r6), (7, .int x7), (8, .int x8)]) d_X6_areOfOneRow_107 (by decide) rfl ?_
          refine ac_iload 0 d_X6_areOfOneRow_109 rfl ?_
          refine ac_if_eq (tgt := 139) d_X6_areOfOneRow_111 (by decide) (fun hc => absurd hc (by decide)) (fun hc => ?_)
          refine ac_aload_n 1 d_X6_areOfOneRow_114 rfl rfl ?_
          obtain ⟨o22, hr, h⟩ := h
          refine ak_getf hr fl_X6_23 d_X6_areOfOneRow_115 ?_
          refine ac_iload_n 2 d_X6_areOfOneRow_118 rfl rfl ?_
          refine ac_iload 7 d_X6_areOfOneRow_119 rfl ?_
          obtain ⟨⟨fs, hb⟩, h⟩ := h
          refine ac_callV0 cd_X4_told ml_X6_70 in_X4_told se_X4_told rfl hb (c_X4_told _ _ _ o22 x2 x7 f _ h) rfl rfl (by rw [hro]; decide) rfl (rest := []) rfl (Nat.le_of_ble_eq_true rfl) (by rw [hro]; decide) d_X6_areOfOneRow_121 (ac_I (fun v24 f23 h => ?_))
          refine ac_aload_n 1 d_X6_areOfOneRow_124 rfl rfl ?_
          obtain ⟨o25, hr, h⟩ := h
          refine ak_getf hr fl_X6_23 d_X6_areOfOneRow_125 ?_
          refine ac_iload_n 3 d_X6_areOfOneRow_128 rfl rfl ?_
          refine ac_iload 8 d_X6_areOfOneRow_129 rfl ?_
          obtain ⟨⟨fs, hb⟩, h⟩ := h
          refine ac_callV0 cd_X4_told ml_X6_70 in_X4_told se_X4_told rfl hb (c_X4_told _ _ _ o25 x3 x8 f23 _ h) rfl rfl (by rw [hro]; decide) rfl (rest := [.int v24]) rfl (Nat.le_of_ble_eq_true rfl) (by rw [hro]; decide) d_X6_areOfOneRow_131 (ac_I (fun v27 f26 h => ?_))
          refine ac_icmp_ne (tgt := 139) d_X6_areOfOneRow_134 (by decide) (fun hc => ?_) (fun hc => ?_)
          · have h := h.1 hc
            obtain ⟨v28, ev28⟩ : ∃ y : Int32, y = x8 + 1 := ⟨_, rfl⟩
            have h := h v28 ev28
            refine ac_iinc (j := 8) (lv' := [(8, .int v28), (9, .int 1), (0, .ref r0), (2, .int x2), (3, .int x3), (4, .ref r4), (5, .ref r5), (6, .ref r6), (7, .int x7)]) d_X6_areOfOneRow_139 rfl (by rw [ev28]; rfl) (by decide) rfl ?_
            refine ac_goto (tgt := 63) d_X6_areOfOneRow_142 (by decide) ?_
            refine ac_weak [2, 3, 4, 5, 6, 7, 8, 0] rfl ?_
            exact ih v28 f26 h
          · have h := h.2 hc
            refine ac_iconst (v := 1) d_X6_areOfOneRow_137 rfl ?_
            exact ac_ireturn hR rfl ⟨_, rfl, h⟩ (by decide) (by decide) d_X6_areOfOneRow_138

set_option maxRecDepth 20000 in
set_option maxHeartbeats 4000000 in
theorem ok_X6_areOfOneRow_L54 {x : ac_X} (hro : ac_R x = (ro_ 3 0 0)) (r0 : Nat) (x2 : Int32) (x3 : Int32) (r4 : Nat) (r5 : Nat) (r6 : Nat) (Q : Int32 → ac_hp → Prop) (hR : ac_rt x (some .boolean) (qr_I Q) 0 0) (E151 : ac_hp → Prop) (hE151 : ∀ (f : ac_hp), E151 f → ac_At (prog_8_method_4_code, 10, "VirtualRewrite$Slots") x 0 0 151 [] [] f) : ∀ (n : Nat) (x7 : Int32) (f : ac_hp), wp_X6_areOfOneRow_L54 (ac_ki x) r0 x2 x3 r4 r5 r6 Q E151 n x7 f → ac_At (prog_8_method_4_code, 10, "VirtualRewrite$Slots") x 0 0 54 [(0, .ref r0), (2, .int x2), (3, .int x3), (4, .ref r4), (5, .ref r5), (6, .ref r6), (7, .int x7)] [] f := by
  intro n
  induction n with
  | zero => intro _ _ h; exact h.elim
  | succ n ih =>
    intro x7 f h
    rw [wp_X6_areOfOneRow_L54] at h
    refine ac_iload 6 d_X6_areOfOneRow_54 rfl ?_
    refine ac_iconst (v := 2) d_X6_areOfOneRow_56 rfl ?_
    refine ac_icmp_ge (tgt := 151) d_X6_areOfOneRow_57 (by decide) (fun hc => ?_) (fun hc => ?_)
    · have h := h.1 hc
      refine ac_weak [] rfl ?_
      exact hE151  f h
    · have h := h.2 hc
      refine ac_iconst (v := 0) d_X6_areOfOneRow_60 rfl ?_
      refine ac_istore (lv' := [(8, .int 0), (0, .ref r0), (2, .int x2), (3, .int x3), (4, .ref r4), (5, .ref r5), (6, .ref r6), (7, .int x7)]) d_X6_areOfOneRow_61 (by decide) rfl ?_
      obtain ⟨n29, h⟩ := h
      refine ac_weak [1, 2, 3, 4, 5, 6, 7, 0] rfl ?_
      refine ok_X6_areOfOneRow_L63 hro r0 x2 x3 r4 r5 r6 x7 Q hR _ (fun f30 h => ?_) n29 0 f h
      · skip
        obtain ⟨v31, ev31⟩ : ∃ y : Int32, y = x7 + 1 := ⟨_, rfl⟩
        have h := h v31 ev31
        refine ac_iinc (j := 6) (lv' := [(7, .int v31), (0, .ref r0), (2, .int x2), (3, .int x3), (4, .ref r4), (5, .ref r5), (6, .ref r6)]) d_X6_areOfOneRow_145 rfl (by rw [ev31]; rfl) (by decide) rfl ?_
        refine ac_goto (tgt := 54) d_X6_areOfOneRow_148 (by decide) ?_
        refine ac_weak [1, 2, 3, 4, 5, 6, 0] rfl ?_
        exact ih v31 f30 h

set_option maxRecDepth 20000 in
set_option maxHeartbeats 4000000 in
theorem c_X6_areOfOneRow (l : Launch) (D : va_G) (ki : Nat → ClassId) (r0 : Nat) (x1 : Int32) (x2 : Int32) (x3 : Int32) (f : ac_hp) (Q : Int32 → ac_hp → Prop) (h : wp_X6_areOfOneRow ki r0 x1 x2 x3 f Q) : ac_met l D ki y_X6_areOfOneRow prog_8_method_4_code 10 (some .boolean) (ro_ 3 0 0) [.ref r0, .int x1, .int x2, .int x3] f (qr_I Q) 0 0 := by
  refine ac_enter (fun ki => wp_X6_areOfOneRow ki r0 x1 x2 x3 f Q) (by decide) (Nat.le_of_ble_eq_true rfl) h ?_
  intro x hro hR hnm h
  unfold wp_X6_areOfOneRow at h
  refine ac_aload_n 0 d_X6_areOfOneRow_0 rfl rfl ?_
  obtain ⟨o1, hr, h⟩ := h
  refine ak_getf hr fl_X6_27 d_X6_areOfOneRow_1 ?_
  refine ac_iload_n 1 d_X6_areOfOneRow_4 rfl rfl ?_
  refine ac_iload_n 2 d_X6_areOfOneRow_5 rfl rfl ?_
  obtain ⟨⟨fs, hb⟩, h⟩ := h
  refine ac_callV0 cd_X5_mappingOf ml_X6_44 in_X5_mappingOf se_X5_mappingOf rfl hb (c_X5_mappingOf _ _ _ o1 x1 x2 f _ h) rfl rfl (by rw [hro]; decide) rfl (rest := []) rfl (Nat.le_of_ble_eq_true rfl) (by rw [hro]; decide) d_X6_areOfOneRow_6 (ac_Rf (fun o3 f2 h => ?_))
  refine ac_astore (lv' := [(4, .ref o3), (0, .ref r0), (1, .int x1), (2, .int x2), (3, .int x3)]) d_X6_areOfOneRow_9 (by decide) rfl ?_
  refine ac_aload_n 1 d_X6_areOfOneRow_11 rfl rfl ?_
  obtain ⟨o4, hr, h⟩ := h
  refine ak_getf hr fl_X6_27 d_X6_areOfOneRow_12 ?_
  refine ac_iload_n 2 d_X6_areOfOneRow_15 rfl rfl ?_
  refine ac_iload_n 4 d_X6_areOfOneRow_16 rfl rfl ?_
  obtain ⟨⟨fs, hb⟩, h⟩ := h
  refine ac_callV0 cd_X5_mappingOf ml_X6_44 in_X5_mappingOf se_X5_mappingOf rfl hb (c_X5_mappingOf _ _ _ o4 x1 x3 f2 _ h) rfl rfl (by rw [hro]; decide) rfl (rest := []) rfl (Nat.le_of_ble_eq_true rfl) (by rw [hro]; decide) d_X6_areOfOneRow_17 (ac_Rf (fun o6 f5 h => ?_))
  refine ac_astore (lv' := [(5, .ref o6), (4, .ref o3), (0, .ref r0), (1, .int x1), (2, .int x2), (3, .int x3)]) d_X6_areOfOneRow_20 (by decide) rfl ?_
  refine ac_aload 1 d_X6_areOfOneRow_22 rfl ?_
  obtain ⟨v7, hr, h⟩ := h
  refine ak_getf hr fl_X6_50 d_X6_areOfOneRow_24 ?_
  refine ac_aload 0 d_X6_areOfOneRow_27 rfl ?_
  obtain ⟨v8, hr, h⟩ := h
  refine ak_getf hr fl_X6_50 d_X6_areOfOneRow_29 ?_
  refine ac_icmp_eq (tgt := 37) d_X6_areOfOneRow_32 (by decide) (fun hc => ?_) (fun hc => ?_)
  · have h := h.1 hc
    refine ac_aload_n 2 d_X6_areOfOneRow_37 rfl rfl ?_
    obtain ⟨o9, hr, h⟩ := h
    refine ak_getf hr fl_X6_19 d_X6_areOfOneRow_38 ?_
    refine ac_aload 1 d_X6_areOfOneRow_41 rfl ?_
    obtain ⟨⟨fs, hb⟩, h⟩ := h
    refine ac_callV0 cd_X1_tableOf ml_X6_55 in_X1_tableOf se_X1_tableOf rfl hb (c_X1_tableOf _ _ _ o9 o3 f5 _ h) rfl rfl (by rw [hro]; decide) rfl (rest := []) rfl (Nat.le_of_ble_eq_true rfl) (by rw [hro]; decide) d_X6_areOfOneRow_43 (ac_Rf (fun o11 f10 h => ?_))
    obtain ⟨o12, hr, h⟩ := h
    refine ak_getf hr fl_X6_61 d_X6_areOfOneRow_46 ?_
    refine ac_astore (lv' := [(6, .ref o12), (5, .ref o6), (4, .ref o3), (0, .ref r0), (1, .int x1), (2, .int x2), (3, .int x3)]) d_X6_areOfOneRow_49 (by decide) rfl ?_
    refine ac_iconst (v := 0) d_X6_areOfOneRow_51 rfl ?_
    refine ac_istore (lv' := [(7, .int 0), (6, .ref o12), (5, .ref o6), (4, .ref o3), (0, .ref r0), (1, .int x1), (2, .int x2), (3, .int x3)]) d_X6_areOfOneRow_52 (by decide) rfl ?_
    obtain ⟨n32, h⟩ := h
    refine ac_weak [4, 6, 7, 3, 2, 1, 0] rfl ?_
    refine ok_X6_areOfOneRow_L54 hro r0 x2 x3 o3 o6 o12 Q hR _ (fun f33 h => ?_) n32 0 f10 h
    · skip
      refine ac_iconst (v := 0) d_X6_areOfOneRow_151 rfl ?_
      exact ac_ireturn hR rfl ⟨_, rfl, h⟩ (by decide) (by decide) d_X6_areOfOneRow_152
  · have h := h.2 hc
    refine ac_iconst (v := 0) d_X6_areOfOneRow_35 rfl ?_
    exact ac_ireturn hR rfl ⟨_, rfl, h⟩ (by decide) (by decide) d_X6_areOfOneRow_36

def wp_X5_tableOf (ki : Nat → ClassId) (r0 : Nat) (x1 : Int32) (x2 : Int32) (f : ac_hp) (Q : Nat → ac_hp → Prop) : Prop := ∃ o1 : Nat, hr_f f r0 5 0 (.ref o1) ∧ hr_o f r0 5 ∧ wp_X5_mappingOf ki r0 x1 x2 f (fun o3 f2 => hr_o f2 o1 1 ∧ wp_X1_tableOf ki o1 o3 f2 (fun o5 f4 => Q o5 f4))

set_option maxRecDepth 20000 in
set_option maxHeartbeats 4000000 in
theorem c_X5_tableOf (l : Launch) (D : va_G) (ki : Nat → ClassId) (r0 : Nat) (x1 : Int32) (x2 : Int32) (f : ac_hp) (Q : Nat → ac_hp → Prop) (h : wp_X5_tableOf ki r0 x1 x2 f Q) : ac_met l D ki y_X5_tableOf prog_7_method_4_code 3 (some (.object "VirtualRewrite$Table")) (ro_ 3 0 0) [.ref r0, .int x1, .int x2] f (qr_R Q) 0 0 := by
  refine ac_enter (fun ki => wp_X5_tableOf ki r0 x1 x2 f Q) (by decide) (Nat.le_of_ble_eq_true rfl) h ?_
  intro x hro hR hnm h
  unfold wp_X5_tableOf at h
  refine ac_aload_n 0 d_X5_tableOf_0 rfl rfl ?_
  obtain ⟨o1, hr, h⟩ := h
  refine ak_getf hr fl_X5_32 d_X5_tableOf_1 ?_
  refine ac_aload_n 0 d_X5_tableOf_4 rfl rfl ?_
  refine ac_iload_n 1 d_X5_tableOf_5 rfl rfl ?_
  refine ac_iload_n 2 d_X5_tableOf_6 rfl rfl ?_
  obtain ⟨⟨fs, hb⟩, h⟩ := h
  refine ac_callV0 cd_X5_mappingOf ml_X5_50 in_X5_mappingOf se_X5_mappingOf rfl hb (c_X5_mappingOf _ _ _ r0 x1 x2 f _ h) rfl rfl (by rw [hro]; decide) rfl (rest := [.ref o1]) rfl (Nat.le_of_ble_eq_true rfl) (by rw [hro]; decide) d_X5_tableOf_7 (ac_Rf (fun o3 f2 h => ?_))
  obtain ⟨⟨fs, hb⟩, h⟩ := h
  refine ac_callV0 cd_X1_tableOf ml_X5_54 in_X1_tableOf se_X1_tableOf rfl hb (c_X1_tableOf _ _ _ o1 o3 f2 _ h) rfl rfl (by rw [hro]; decide) rfl (rest := []) rfl (Nat.le_of_ble_eq_true rfl) (by rw [hro]; decide) d_X5_tableOf_10 (ac_Rf (fun o5 f4 h => ?_))
  exact ac_areturn hR (Or.inl ⟨_, rfl⟩) ⟨_, rfl, h⟩ (by decide) (by decide) d_X5_tableOf_13

def wp_X8_layOutVariable (ki : Nat → ClassId) (r0 : Nat) (x1 : Int32) (x2 : Int32) (f : ac_hp) (Q : ac_hp → Prop) : Prop := ∃ o1 : Nat, hr_f f r0 8 0 (.ref o1) ∧ hr_o f o1 4 ∧ wp_X4_told ki o1 x1 x2 f (fun v3 f2 => wp_X0_variableOf ki v3 f2 (fun v5 f4 => ∃ o6 : Nat, hr_f f4 r0 8 2 (.ref o6) ∧ ∃ o7 : Nat, hr_f f4 o6 6 3 (.ref o7) ∧ ∃ v8 : Int32, hr_i (ki 0) f4 o7 x1 v8 ∧ ∃ o9 : Nat, hr_f f4 r0 8 1 (.ref o9) ∧ ∃ v10 : Int32, hr_f f4 r0 8 12 (.int v10) ∧ hr_o f4 o9 5 ∧ wp_X5_mappingOf ki o9 v10 x1 f4 (fun o12 f11 => ∃ o13 : Nat, hr_f f11 r0 8 10 (.ref o13) ∧ ∃ o14 : Nat, hr_f f11 o12 3 0 (.ref o14) ∧ ∃ v15 : Int32, hr_i (ki 0) f11 o14 x2 v15 ∧ ∃ f16 : ac_hp, hw_i (ki 0) f11 o13 v5 v15 f16 ∧ ∃ o17 : Nat, hr_f f16 r0 8 6 (.ref o17) ∧ ∃ o18 : Nat, hr_f f16 o12 3 1 (.ref o18) ∧ ∃ v19 : Int32, hr_i (ki 0) f16 o18 x2 v19 ∧ ∃ f20 : ac_hp, hw_i (ki 0) f16 o17 ((v8 * 6) + v5) v19 f20 ∧ ∃ o21 : Nat, hr_f f20 r0 8 5 (.ref o21) ∧ ∃ o22 : Nat, hr_f f20 r0 8 5 (.ref o22) ∧ ∃ v23 : Int32, hr_i (ki 0) f20 o22 v8 v23 ∧ wp_X0_with ki v23 v5 f20 (fun v25 f24 => ∃ f26 : ac_hp, hw_i (ki 0) f24 o21 v8 v25 f26 ∧ Q f26))))

set_option maxRecDepth 20000 in
set_option maxHeartbeats 4000000 in
theorem c_X8_layOutVariable (l : Launch) (D : va_G) (ki : Nat → ClassId) (r0 : Nat) (x1 : Int32) (x2 : Int32) (f : ac_hp) (Q : ac_hp → Prop) (h : wp_X8_layOutVariable ki r0 x1 x2 f Q) : ac_met l D ki y_X8_layOutVariable prog_4_method_4_code 6 none (ro_ 3 0 0) [.ref r0, .int x1, .int x2] f (qr_V Q) 0 0 := by
  refine ac_enter (fun ki => wp_X8_layOutVariable ki r0 x1 x2 f Q) (by decide) (Nat.le_of_ble_eq_true rfl) h ?_
  intro x hro hR hnm h
  unfold wp_X8_layOutVariable at h
  refine ac_aload_n 0 d_X8_layOutVariable_0 rfl rfl ?_
  obtain ⟨o1, hr, h⟩ := h
  refine ak_getf hr fl_X8_40 d_X8_layOutVariable_1 ?_
  refine ac_iload_n 1 d_X8_layOutVariable_4 rfl rfl ?_
  refine ac_iload_n 2 d_X8_layOutVariable_5 rfl rfl ?_
  obtain ⟨⟨fs, hb⟩, h⟩ := h
  refine ac_callV0 cd_X4_told ml_X8_86 in_X4_told se_X4_told rfl hb (c_X4_told _ _ _ o1 x1 x2 f _ h) rfl rfl (by rw [hro]; decide) rfl (rest := []) rfl (Nat.le_of_ble_eq_true rfl) (by rw [hro]; decide) d_X8_layOutVariable_6 (ac_I (fun v3 f2 h => ?_))
  refine ac_callSN0 cd_X0_variableOf ml_X8_97 st_X0_variableOf (c_X0_variableOf _ _ _ v3 f2 _ h) rfl rfl (by rw [hro]; decide) rfl (rest := []) rfl (Nat.le_of_ble_eq_true rfl) (by rw [hro]; decide) d_X8_layOutVariable_9 (ac_I (fun v5 f4 h => ?_))
  refine ac_istore_n (lv' := [(3, .int v5), (0, .ref r0), (1, .int x1), (2, .int x2)]) d_X8_layOutVariable_12 rfl (by decide) rfl ?_
  refine ac_aload_n 1 d_X8_layOutVariable_13 rfl rfl ?_
  obtain ⟨o6, hr, h⟩ := h
  refine ak_getf hr fl_X8_48 d_X8_layOutVariable_14 ?_
  obtain ⟨o7, hr, h⟩ := h
  refine ak_getf hr fl_X8_83 d_X8_layOutVariable_17 ?_
  refine ac_iload_n 2 d_X8_layOutVariable_20 rfl rfl ?_
  obtain ⟨v8, hr, h⟩ := h
  refine ak_iald 0 hr rfl d_X8_layOutVariable_21 ?_
  refine ac_istore (lv' := [(4, .int v8), (3, .int v5), (0, .ref r0), (1, .int x1), (2, .int x2)]) d_X8_layOutVariable_22 (by decide) rfl ?_
  refine ac_aload_n 2 d_X8_layOutVariable_24 rfl rfl ?_
  obtain ⟨o9, hr, h⟩ := h
  refine ak_getf hr fl_X8_44 d_X8_layOutVariable_25 ?_
  refine ac_aload_n 2 d_X8_layOutVariable_28 rfl rfl ?_
  obtain ⟨v10, hr, h⟩ := h
  refine ak_getf hr fl_X8_36 d_X8_layOutVariable_29 ?_
  refine ac_iload_n 3 d_X8_layOutVariable_32 rfl rfl ?_
  obtain ⟨⟨fs, hb⟩, h⟩ := h
  refine ac_callV0 cd_X5_mappingOf ml_X8_101 in_X5_mappingOf se_X5_mappingOf rfl hb (c_X5_mappingOf _ _ _ o9 v10 x1 f4 _ h) rfl rfl (by rw [hro]; decide) rfl (rest := []) rfl (Nat.le_of_ble_eq_true rfl) (by rw [hro]; decide) d_X8_layOutVariable_33 (ac_Rf (fun o12 f11 h => ?_))
  refine ac_astore (lv' := [(5, .ref o12), (4, .int v8), (3, .int v5), (0, .ref r0), (1, .int x1), (2, .int x2)]) d_X8_layOutVariable_36 (by decide) rfl ?_
  refine ac_aload_n 3 d_X8_layOutVariable_38 rfl rfl ?_
  obtain ⟨o13, hr, h⟩ := h
  refine ak_getf hr fl_X8_30 d_X8_layOutVariable_39 ?_
  refine ac_iload_n 2 d_X8_layOutVariable_42 rfl rfl ?_
  refine ac_aload 0 d_X8_layOutVariable_43 rfl ?_
  obtain ⟨o14, hr, h⟩ := h
  refine ak_getf hr fl_X8_107 d_X8_layOutVariable_45 ?_
  refine ac_iload_n 5 d_X8_layOutVariable_48 rfl rfl ?_
  obtain ⟨v15, hr, h⟩ := h
  refine ak_iald 0 hr rfl d_X8_layOutVariable_49 ?_
  obtain ⟨f16, hr, h⟩ := h
  refine ak_iast 0 hr rfl d_X8_layOutVariable_50 ?_
  refine ac_aload_n 3 d_X8_layOutVariable_51 rfl rfl ?_
  obtain ⟨o17, hr, h⟩ := h
  refine ak_getf hr fl_X8_18 d_X8_layOutVariable_52 ?_
  refine ac_iload 1 d_X8_layOutVariable_55 rfl ?_
  refine ac_bipush (v := 6) d_X8_layOutVariable_57 rfl ?_
  refine ac_imul d_X8_layOutVariable_59 ?_
  refine ac_iload_n 2 d_X8_layOutVariable_60 rfl rfl ?_
  refine ac_iadd d_X8_layOutVariable_61 ?_
  refine ac_aload 0 d_X8_layOutVariable_62 rfl ?_
  obtain ⟨o18, hr, h⟩ := h
  refine ak_getf hr fl_X8_110 d_X8_layOutVariable_64 ?_
  refine ac_iload_n 5 d_X8_layOutVariable_67 rfl rfl ?_
  obtain ⟨v19, hr, h⟩ := h
  refine ak_iald 0 hr rfl d_X8_layOutVariable_68 ?_
  obtain ⟨f20, hr, h⟩ := h
  refine ak_iast 0 hr rfl d_X8_layOutVariable_69 ?_
  refine ac_aload_n 3 d_X8_layOutVariable_70 rfl rfl ?_
  obtain ⟨o21, hr, h⟩ := h
  refine ak_getf hr fl_X8_15 d_X8_layOutVariable_71 ?_
  refine ac_iload 1 d_X8_layOutVariable_74 rfl ?_
  refine ac_aload_n 3 d_X8_layOutVariable_76 rfl rfl ?_
  obtain ⟨o22, hr, h⟩ := h
  refine ak_getf hr fl_X8_15 d_X8_layOutVariable_77 ?_
  refine ac_iload 1 d_X8_layOutVariable_80 rfl ?_
  obtain ⟨v23, hr, h⟩ := h
  refine ak_iald 0 hr rfl d_X8_layOutVariable_82 ?_
  refine ac_iload_n 2 d_X8_layOutVariable_83 rfl rfl ?_
  refine ac_callSN0 cd_X0_with ml_X8_111 st_X0_with (c_X0_with _ _ _ v23 v5 f20 _ h) rfl rfl (by rw [hro]; decide) rfl (rest := [.int v8, .ref o21]) rfl (Nat.le_of_ble_eq_true rfl) (by rw [hro]; decide) d_X8_layOutVariable_84 (ac_I (fun v25 f24 h => ?_))
  obtain ⟨f26, hr, h⟩ := h
  refine ak_iast 0 hr rfl d_X8_layOutVariable_87 ?_
  exact ac_vreturn hR ⟨rfl, h⟩ (by decide) (by decide) d_X8_layOutVariable_88

def wp_X8_suitsAtom_L17 (ki : Nat → ClassId) (r0 : Nat) (x1 : Int32) (r2 : Nat) (x3 : Int32) (r4 : Nat) (Q : Int32 → ac_hp → Prop) (E134 : ac_hp → Prop) : Nat → Int32 → ac_hp → Prop
  | 0, _, _ => False
  | n + 1, x5, f => ((2 ≤ x5 → E134  f) ∧ (¬ 2 ≤ x5 → ∃ o5 : Nat, hr_f f r0 8 0 (.ref o5) ∧ hr_o f o5 4 ∧ wp_X4_told ki o5 x1 x5 f (fun v7 f6 => ∃ o8 : Nat, hr_f f6 r4 3 1 (.ref o8) ∧ ∃ v9 : Int32, hr_i (ki 0) f6 o8 x5 v9 ∧ hr_o f6 r2 2 ∧ wp_X2_cell ki r2 x3 v9 f6 (fun v11 f10 => wp_X0_isVariable ki v7 f10 (fun v13 f12 => ((¬ v13 = 0 → wp_X0_variableOf ki v7 f12 (fun v15 f14 => ∃ o16 : Nat, hr_f f14 r0 8 6 (.ref o16) ∧ ∃ o17 : Nat, hr_f f14 r0 8 2 (.ref o17) ∧ ∃ o18 : Nat, hr_f f14 o17 6 3 (.ref o18) ∧ ∃ v19 : Int32, hr_i (ki 0) f14 o18 x1 v19 ∧ ∃ v20 : Int32, hr_i (ki 0) f14 o16 ((v19 * 6) + v15) v20 ∧ hr_o f14 r2 2 ∧ wp_X2_cell ki r2 x3 v20 f14 (fun v22 f21 => ((¬ v11 = v22 → Q 0 f21) ∧ (v11 = v22 → ∃ o23 : Nat, hr_f f21 r0 8 0 (.ref o23) ∧ hr_o f21 o23 4 ∧ wp_X4_allows ki o23 v15 v11 f21 (fun v25 f24 => ((¬ v25 = 0 → ∀ v26 : Int32, v26 = x5 + 1 → wp_X8_suitsAtom_L17 ki r0 x1 r2 x3 r4 Q E134 n v26 f24) ∧ (v25 = 0 → Q 0 f24)))))))) ∧ (v13 = 0 → (((v7 - v7 / 10000 * 10000) = v11 → ∀ v27 : Int32, v27 = x5 + 1 → wp_X8_suitsAtom_L17 ki r0 x1 r2 x3 r4 Q E134 n v27 f12) ∧ (¬ (v7 - v7 / 10000 * 10000) = v11 → Q 0 f12)))))))))

def wp_X8_suitsAtom (ki : Nat → ClassId) (r0 : Nat) (x1 : Int32) (r2 : Nat) (x3 : Int32) (f : ac_hp) (Q : Int32 → ac_hp → Prop) : Prop := ∃ o1 : Nat, hr_f f r0 8 1 (.ref o1) ∧ ∃ v2 : Int32, hr_f f r0 8 12 (.int v2) ∧ hr_o f o1 5 ∧ wp_X5_mappingOf ki o1 v2 x1 f (fun o4 f3 => ∃ n28 : Nat, wp_X8_suitsAtom_L17 ki r0 x1 r2 x3 o4 Q (fun f29 => Q 1 f29) n28 0 f3)

set_option maxRecDepth 20000 in
set_option maxHeartbeats 4000000 in
theorem ok_X8_suitsAtom_L17 {x : ac_X} (hro : ac_R x = (ro_ 3 0 0)) (r0 : Nat) (x1 : Int32) (r2 : Nat) (x3 : Int32) (r4 : Nat) (Q : Int32 → ac_hp → Prop) (hR : ac_rt x (some .boolean) (qr_I Q) 0 0) (E134 : ac_hp → Prop) (hE134 : ∀ (f : ac_hp), E134 f → ac_At (prog_4_method_8_code, 10, "VirtualRewrite$Finder") x 0 0 134 [] [] f) : ∀ (n : Nat) (x5 : Int32) (f : ac_hp), wp_X8_suitsAtom_L17 (ac_ki x) r0 x1 r2 x3 r4 Q E134 n x5 f → ac_At (prog_4_method_8_code, 10, "VirtualRewrite$Finder") x 0 0 17 [(0, .ref r0), (1, .int x1), (2, .ref r2), (3, .int x3), (4, .ref r4), (5, .int x5)] [] f := by
  intro n
  induction n with
  | zero => intro _ _ h; exact h.elim
  | succ n ih =>
    intro x5 f h
    rw [wp_X8_suitsAtom_L17] at h
    refine ac_iload 5 d_X8_suitsAtom_17 rfl ?_
    refine ac_iconst (v := 2) d_X8_suitsAtom_19 rfl ?_
    refine ac_icmp_ge (tgt := 134) d_X8_suitsAtom_20 (by decide) (fun hc => ?_) (fun hc => ?_)
    · have h := h.1 hc
      refine ac_weak [] rfl ?_
      exact hE134  f h
    · have h := h.2 hc
      refine ac_aload_n 0 d_X8_suitsAtom_23 rfl rfl ?_
      obtain ⟨o5, hr, h⟩ := h
      refine ak_getf hr fl_X8_40 d_X8_suitsAtom_24 ?_
      refine ac_iload_n 1 d_X8_suitsAtom_27 rfl rfl ?_
      refine ac_iload 5 d_X8_suitsAtom_28 rfl ?_
      obtain ⟨⟨fs, hb⟩, h⟩ := h
      refine ac_callV0 cd_X4_told ml_X8_86 in_X4_told se_X4_told rfl hb (c_X4_told _ _ _ o5 x1 x5 f _ h) rfl rfl (by rw [hro]; decide) rfl (rest := []) rfl (Nat.le_of_ble_eq_true rfl) (by rw [hro]; decide) d_X8_suitsAtom_30 (ac_I (fun v7 f6 h => ?_))
      refine ac_istore (lv' := [(6, .int v7), (0, .ref r0), (1, .int x1), (2, .ref r2), (3, .int x3), (4, .ref r4), (5, .int x5)]) d_X8_suitsAtom_33 (by decide) rfl ?_
      refine ac_aload_n 3 d_X8_suitsAtom_35 rfl rfl ?_
      refine ac_iload_n 4 d_X8_suitsAtom_36 rfl rfl ?_
      refine ac_aload 5 d_X8_suitsAtom_37 rfl ?_
      obtain ⟨o8, hr, h⟩ := h
      refine ak_getf hr fl_X8_110 d_X8_suitsAtom_39 ?_
      refine ac_iload 6 d_X8_suitsAtom_42 rfl ?_
      obtain ⟨v9, hr, h⟩ := h
      refine ak_iald 0 hr rfl d_X8_suitsAtom_44 ?_
      obtain ⟨⟨fs, hb⟩, h⟩ := h
      refine ac_callV0 cd_X2_cell ml_X8_137 in_X2_cell se_X2_cell rfl hb (c_X2_cell _ _ _ r2 x3 v9 f6 _ h) rfl rfl (by rw [hro]; decide) rfl (rest := []) rfl (Nat.le_of_ble_eq_true rfl) (by rw [hro]; decide) d_X8_suitsAtom_45 (ac_I (fun v11 f10 h => ?_))
      refine ac_istore (lv' := [(7, .int v11), (6, .int v7), (0, .ref r0), (1, .int x1), (2, .ref r2), (3, .int x3), (4, .ref r4), (5, .int x5)]) d_X8_suitsAtom_48 (by decide) rfl ?_
      refine ac_iload 1 d_X8_suitsAtom_50 rfl ?_
      refine ac_callSN0 cd_X0_isVariable ml_X8_89 st_X0_isVariable (c_X0_isVariable _ _ _ v7 f10 _ h) rfl rfl (by rw [hro]; decide) rfl (rest := []) rfl (Nat.le_of_ble_eq_true rfl) (by rw [hro]; decide) d_X8_suitsAtom_52 (ac_I (fun v13 f12 h => ?_))
      refine ac_if_ne (tgt := 71) d_X8_suitsAtom_55 (by decide) (fun hc => ?_) (fun hc => ?_)
      · have h := h.1 hc
        refine ac_iload 1 d_X8_suitsAtom_71 rfl ?_
        refine ac_callSN0 cd_X0_variableOf ml_X8_97 st_X0_variableOf (c_X0_variableOf _ _ _ v7 f12 _ h) rfl rfl (by rw [hro]; decide) rfl (rest := []) rfl (Nat.le_of_ble_eq_true rfl) (by rw [hro]; decide) d_X8_suitsAtom_73 (ac_I (fun v15 f14 h => ?_))
        refine ac_istore (lv' := [(8, .int v15), (7, .int v11), (6, .int v7), (0, .ref r0), (1, .int x1), (2, .ref r2), (3, .int x3), (4, .ref r4), (5, .int x5)]) d_X8_suitsAtom_76 (by decide) rfl ?_
        refine ac_aload_n 3 d_X8_suitsAtom_78 rfl rfl ?_
        obtain ⟨o16, hr, h⟩ := h
        refine ak_getf hr fl_X8_18 d_X8_suitsAtom_79 ?_
        refine ac_aload_n 3 d_X8_suitsAtom_82 rfl rfl ?_
        obtain ⟨o17, hr, h⟩ := h
        refine ak_getf hr fl_X8_48 d_X8_suitsAtom_83 ?_
        obtain ⟨o18, hr, h⟩ := h
        refine ak_getf hr fl_X8_83 d_X8_suitsAtom_86 ?_
        refine ac_iload_n 4 d_X8_suitsAtom_89 rfl rfl ?_
        obtain ⟨v19, hr, h⟩ := h
        refine ak_iald 0 hr rfl d_X8_suitsAtom_90 ?_
        refine ac_bipush (v := 6) d_X8_suitsAtom_91 rfl ?_
        refine ac_imul d_X8_suitsAtom_93 ?_
        refine ac_iload 0 d_X8_suitsAtom_94 rfl ?_
        refine ac_iadd d_X8_suitsAtom_96 ?_
        obtain ⟨v20, hr, h⟩ := h
        refine ak_iald 0 hr rfl d_X8_suitsAtom_97 ?_
        refine ac_istore (lv' := [(9, .int v20), (8, .int v15), (7, .int v11), (6, .int v7), (0, .ref r0), (1, .int x1), (2, .ref r2), (3, .int x3), (4, .ref r4), (5, .int x5)]) d_X8_suitsAtom_98 (by decide) rfl ?_
        refine ac_iload 2 d_X8_suitsAtom_100 rfl ?_
        refine ac_aload_n 6 d_X8_suitsAtom_102 rfl rfl ?_
        refine ac_iload_n 7 d_X8_suitsAtom_103 rfl rfl ?_
        refine ac_iload 0 d_X8_suitsAtom_104 rfl ?_
        obtain ⟨⟨fs, hb⟩, h⟩ := h
        refine ac_callV0 cd_X2_cell ml_X8_137 in_X2_cell se_X2_cell rfl hb (c_X2_cell _ _ _ r2 x3 v20 f14 _ h) rfl rfl (by rw [hro]; decide) rfl (rest := [.int v11]) rfl (Nat.le_of_ble_eq_true rfl) (by rw [hro]; decide) d_X8_suitsAtom_106 (ac_I (fun v22 f21 h => ?_))
        refine ac_icmp_ne (tgt := 126) d_X8_suitsAtom_109 (by decide) (fun hc => ?_) (fun hc => ?_)
        · have h := h.1 hc
          refine ac_iconst (v := 0) d_X8_suitsAtom_126 rfl ?_
          exact ac_ireturn hR rfl ⟨_, rfl, h⟩ (by decide) (by decide) d_X8_suitsAtom_127
        · have h := h.2 hc
          refine ac_aload_n 4 d_X8_suitsAtom_112 rfl rfl ?_
          obtain ⟨o23, hr, h⟩ := h
          refine ak_getf hr fl_X8_40 d_X8_suitsAtom_113 ?_
          refine ac_iload 1 d_X8_suitsAtom_116 rfl ?_
          refine ac_iload 2 d_X8_suitsAtom_118 rfl ?_
          obtain ⟨⟨fs, hb⟩, h⟩ := h
          refine ac_callV0 cd_X4_allows ml_X8_140 in_X4_allows se_X4_allows rfl hb (c_X4_allows _ _ _ o23 v15 v11 f21 _ h) rfl rfl (by rw [hro]; decide) rfl (rest := []) rfl (Nat.le_of_ble_eq_true rfl) (by rw [hro]; decide) d_X8_suitsAtom_120 (ac_I (fun v25 f24 h => ?_))
          refine ac_if_ne (tgt := 128) d_X8_suitsAtom_123 (by decide) (fun hc => ?_) (fun hc => ?_)
          · have h := h.1 hc
            obtain ⟨v26, ev26⟩ : ∃ y : Int32, y = x5 + 1 := ⟨_, rfl⟩
            have h := h v26 ev26
            refine ac_iinc (j := 9) (lv' := [(5, .int v26), (9, .int v20), (8, .int v15), (7, .int v11), (6, .int v7), (0, .ref r0), (1, .int x1), (2, .ref r2), (3, .int x3), (4, .ref r4)]) d_X8_suitsAtom_128 rfl (by rw [ev26]; rfl) (by decide) rfl ?_
            refine ac_goto (tgt := 17) d_X8_suitsAtom_131 (by decide) ?_
            refine ac_weak [5, 6, 7, 8, 9, 0] rfl ?_
            exact ih v26 f24 h
          · have h := h.2 hc
            refine ac_iconst (v := 0) d_X8_suitsAtom_126 rfl ?_
            exact ac_ireturn hR rfl ⟨_, rfl, h⟩ (by decide) (by decide) d_X8_suitsAtom_127
      · have h := h.2 hc
        refine ac_iload 1 d_X8_suitsAtom_58 rfl ?_
        refine ac_sipush (v := 10000) d_X8_suitsAtom_60 rfl ?_
        refine ac_irem d_X8_suitsAtom_63 (by decide) ?_
        refine ac_iload 0 d_X8_suitsAtom_64 rfl ?_
        refine ac_icmp_eq (tgt := 128) d_X8_suitsAtom_66 (by decide) (fun hc => ?_) (fun hc => ?_)
        · have h := h.1 hc
          obtain ⟨v27, ev27⟩ : ∃ y : Int32, y = x5 + 1 := ⟨_, rfl⟩
          have h := h v27 ev27
          refine ac_iinc (j := 7) (lv' := [(5, .int v27), (7, .int v11), (6, .int v7), (0, .ref r0), (1, .int x1), (2, .ref r2), (3, .int x3), (4, .ref r4)]) d_X8_suitsAtom_128 rfl (by rw [ev27]; rfl) (by decide) rfl ?_
          refine ac_goto (tgt := 17) d_X8_suitsAtom_131 (by decide) ?_
          refine ac_weak [3, 4, 5, 6, 7, 0] rfl ?_
          exact ih v27 f12 h
        · have h := h.2 hc
          refine ac_iconst (v := 0) d_X8_suitsAtom_69 rfl ?_
          exact ac_ireturn hR rfl ⟨_, rfl, h⟩ (by decide) (by decide) d_X8_suitsAtom_70

set_option maxRecDepth 20000 in
set_option maxHeartbeats 4000000 in
theorem c_X8_suitsAtom (l : Launch) (D : va_G) (ki : Nat → ClassId) (r0 : Nat) (x1 : Int32) (r2 : Nat) (x3 : Int32) (f : ac_hp) (Q : Int32 → ac_hp → Prop) (h : wp_X8_suitsAtom ki r0 x1 r2 x3 f Q) : ac_met l D ki y_X8_suitsAtom prog_4_method_8_code 10 (some .boolean) (ro_ 3 0 0) [.ref r0, .int x1, .ref r2, .int x3] f (qr_I Q) 0 0 := by
  refine ac_enter (fun ki => wp_X8_suitsAtom ki r0 x1 r2 x3 f Q) (by decide) (Nat.le_of_ble_eq_true rfl) h ?_
  intro x hro hR hnm h
  unfold wp_X8_suitsAtom at h
  refine ac_aload_n 0 d_X8_suitsAtom_0 rfl rfl ?_
  obtain ⟨o1, hr, h⟩ := h
  refine ak_getf hr fl_X8_44 d_X8_suitsAtom_1 ?_
  refine ac_aload_n 0 d_X8_suitsAtom_4 rfl rfl ?_
  obtain ⟨v2, hr, h⟩ := h
  refine ak_getf hr fl_X8_36 d_X8_suitsAtom_5 ?_
  refine ac_iload_n 1 d_X8_suitsAtom_8 rfl rfl ?_
  obtain ⟨⟨fs, hb⟩, h⟩ := h
  refine ac_callV0 cd_X5_mappingOf ml_X8_101 in_X5_mappingOf se_X5_mappingOf rfl hb (c_X5_mappingOf _ _ _ o1 v2 x1 f _ h) rfl rfl (by rw [hro]; decide) rfl (rest := []) rfl (Nat.le_of_ble_eq_true rfl) (by rw [hro]; decide) d_X8_suitsAtom_9 (ac_Rf (fun o4 f3 h => ?_))
  refine ac_astore (lv' := [(4, .ref o4), (0, .ref r0), (1, .int x1), (2, .ref r2), (3, .int x3)]) d_X8_suitsAtom_12 (by decide) rfl ?_
  refine ac_iconst (v := 0) d_X8_suitsAtom_14 rfl ?_
  refine ac_istore (lv' := [(5, .int 0), (4, .ref o4), (0, .ref r0), (1, .int x1), (2, .ref r2), (3, .int x3)]) d_X8_suitsAtom_15 (by decide) rfl ?_
  obtain ⟨n28, h⟩ := h
  refine ac_weak [2, 3, 4, 5, 1, 0] rfl ?_
  refine ok_X8_suitsAtom_L17 hro r0 x1 r2 x3 o4 Q hR _ (fun f29 h => ?_) n28 0 f3 h
  · skip
    refine ac_iconst (v := 1) d_X8_suitsAtom_134 rfl ?_
    exact ac_ireturn hR rfl ⟨_, rfl, h⟩ (by decide) (by decide) d_X8_suitsAtom_135

def wp_X8_isTold_L3 (ki : Nat → ClassId) (r0 : Nat) (x1 : Int32) (r2 : Nat) (x3 : Int32) (x4 : Int32) (Q : Int32 → ac_hp → Prop) (E40 : ac_hp → Prop) : Nat → Int32 → ac_hp → Prop
  | 0, _, _ => False
  | n + 1, x5, f => ((x4 ≤ x5 → E40  f) ∧ (¬ x4 ≤ x5 → ∃ o1 : Nat, hr_f f r0 8 7 (.ref o1) ∧ ∃ v2 : Int32, hr_i (ki 0) f o1 ((x1 * 20) + x5) v2 ∧ hr_o f r0 8 ∧ wp_X8_areAlike ki r0 x1 r2 x3 v2 f (fun v4 f3 => ((v4 = 0 → ∀ v5 : Int32, v5 = x5 + 1 → wp_X8_isTold_L3 ki r0 x1 r2 x3 x4 Q E40 n v5 f3) ∧ (¬ v4 = 0 → Q 1 f3)))))

def wp_X8_isTold (ki : Nat → ClassId) (r0 : Nat) (x1 : Int32) (r2 : Nat) (x3 : Int32) (x4 : Int32) (f : ac_hp) (Q : Int32 → ac_hp → Prop) : Prop := ∃ n6 : Nat, wp_X8_isTold_L3 ki r0 x1 r2 x3 x4 Q (fun f7 => Q 0 f7) n6 0 f

set_option maxRecDepth 20000 in
set_option maxHeartbeats 4000000 in
theorem ok_X8_isTold_L3 {x : ac_X} (hro : ac_R x = (ro_ 3 0 0)) (r0 : Nat) (x1 : Int32) (r2 : Nat) (x3 : Int32) (x4 : Int32) (Q : Int32 → ac_hp → Prop) (hR : ac_rt x (some .boolean) (qr_I Q) 0 0) (E40 : ac_hp → Prop) (hE40 : ∀ (f : ac_hp), E40 f → ac_At (prog_4_method_9_code, 6, "VirtualRewrite$Finder") x 0 0 40 [] [] f) : ∀ (n : Nat) (x5 : Int32) (f : ac_hp), wp_X8_isTold_L3 (ac_ki x) r0 x1 r2 x3 x4 Q E40 n x5 f → ac_At (prog_4_method_9_code, 6, "VirtualRewrite$Finder") x 0 0 3 [(0, .ref r0), (1, .int x1), (2, .ref r2), (3, .int x3), (4, .int x4), (5, .int x5)] [] f := by
  intro n
  induction n with
  | zero => intro _ _ h; exact h.elim
  | succ n ih =>
    intro x5 f h
    rw [wp_X8_isTold_L3] at h
    refine ac_iload 5 d_X8_isTold_3 rfl ?_
    refine ac_iload 4 d_X8_isTold_5 rfl ?_
    refine ac_icmp_ge (tgt := 40) d_X8_isTold_7 (by decide) (fun hc => ?_) (fun hc => ?_)
    · have h := h.1 hc
      refine ac_weak [] rfl ?_
      exact hE40  f h
    · have h := h.2 hc
      refine ac_aload_n 0 d_X8_isTold_10 rfl rfl ?_
      refine ac_iload_n 1 d_X8_isTold_11 rfl rfl ?_
      refine ac_aload_n 2 d_X8_isTold_12 rfl rfl ?_
      refine ac_iload_n 3 d_X8_isTold_13 rfl rfl ?_
      refine ac_aload_n 0 d_X8_isTold_14 rfl rfl ?_
      obtain ⟨o1, hr, h⟩ := h
      refine ak_getf hr fl_X8_21 d_X8_isTold_15 ?_
      refine ac_iload_n 1 d_X8_isTold_18 rfl rfl ?_
      refine ac_bipush (v := 20) d_X8_isTold_19 rfl ?_
      refine ac_imul d_X8_isTold_21 ?_
      refine ac_iload 5 d_X8_isTold_22 rfl ?_
      refine ac_iadd d_X8_isTold_24 ?_
      obtain ⟨v2, hr, h⟩ := h
      refine ak_iald 0 hr rfl d_X8_isTold_25 ?_
      obtain ⟨⟨fs, hb⟩, h⟩ := h
      refine ac_callV0 cd_X8_areAlike ml_X8_144 in_X8_areAlike se_X8_areAlike rfl hb (c_X8_areAlike _ _ _ r0 x1 r2 x3 v2 f _ h) rfl rfl (by rw [hro]; decide) rfl (rest := []) rfl (Nat.le_of_ble_eq_true rfl) (by rw [hro]; decide) d_X8_isTold_26 (ac_I (fun v4 f3 h => ?_))
      refine ac_if_eq (tgt := 34) d_X8_isTold_29 (by decide) (fun hc => ?_) (fun hc => ?_)
      · have h := h.1 hc
        obtain ⟨v5, ev5⟩ : ∃ y : Int32, y = x5 + 1 := ⟨_, rfl⟩
        have h := h v5 ev5
        refine ac_iinc (j := 5) (lv' := [(5, .int v5), (0, .ref r0), (1, .int x1), (2, .ref r2), (3, .int x3), (4, .int x4)]) d_X8_isTold_34 rfl (by rw [ev5]; rfl) (by decide) rfl ?_
        refine ac_goto (tgt := 3) d_X8_isTold_37 (by decide) ?_
        refine ac_weak [1, 2, 3, 4, 5, 0] rfl ?_
        exact ih v5 f3 h
      · have h := h.2 hc
        refine ac_iconst (v := 1) d_X8_isTold_32 rfl ?_
        exact ac_ireturn hR rfl ⟨_, rfl, h⟩ (by decide) (by decide) d_X8_isTold_33

set_option maxRecDepth 20000 in
set_option maxHeartbeats 4000000 in
theorem c_X8_isTold (l : Launch) (D : va_G) (ki : Nat → ClassId) (r0 : Nat) (x1 : Int32) (r2 : Nat) (x3 : Int32) (x4 : Int32) (f : ac_hp) (Q : Int32 → ac_hp → Prop) (h : wp_X8_isTold ki r0 x1 r2 x3 x4 f Q) : ac_met l D ki y_X8_isTold prog_4_method_9_code 6 (some .boolean) (ro_ 3 0 0) [.ref r0, .int x1, .ref r2, .int x3, .int x4] f (qr_I Q) 0 0 := by
  refine ac_enter (fun ki => wp_X8_isTold ki r0 x1 r2 x3 x4 f Q) (by decide) (Nat.le_of_ble_eq_true rfl) h ?_
  intro x hro hR hnm h
  unfold wp_X8_isTold at h
  refine ac_iconst (v := 0) d_X8_isTold_0 rfl ?_
  refine ac_istore (lv' := [(5, .int 0), (0, .ref r0), (1, .int x1), (2, .ref r2), (3, .int x3), (4, .int x4)]) d_X8_isTold_1 (by decide) rfl ?_
  obtain ⟨n6, h⟩ := h
  refine ac_weak [1, 2, 3, 4, 5, 0] rfl ?_
  refine ok_X8_isTold_L3 hro r0 x1 r2 x3 x4 Q hR _ (fun f7 h => ?_) n6 0 f h
  · skip
    refine ac_iconst (v := 0) d_X8_isTold_40 rfl ?_
    exact ac_ireturn hR rfl ⟨_, rfl, h⟩ (by decide) (by decide) d_X8_isTold_41

def wp_X8_orderSlots_L2 (ki : Nat → ClassId) (r0 : Nat) (E26 : ac_hp → Prop) : Nat → Int32 → ac_hp → Prop
  | 0, _, _ => False
  | n + 1, x1, f => ∃ o1 : Nat, hr_f f r0 8 2 (.ref o1) ∧ ∃ v2 : Int32, hr_f f o1 6 4 (.int v2) ∧ ((v2 ≤ x1 → E26  f) ∧ (¬ v2 ≤ x1 → ∃ o3 : Nat, hr_f f r0 8 9 (.ref o3) ∧ ∃ f4 : ac_hp, hw_i (ki 0) f o3 x1 x1 f4 ∧ ∀ v5 : Int32, v5 = x1 + 1 → wp_X8_orderSlots_L2 ki r0 E26 n v5 f4))

def wp_X8_orderSlots_L48 (ki : Nat → ClassId) (r0 : Nat) (x1 : Int32) (x2 : Int32) (E90 : Int32 → ac_hp → Prop) : Nat → Int32 → Int32 → ac_hp → Prop
  | 0, _, _, _ => False
  | n + 1, x3, x4, f => ∃ o11 : Nat, hr_f f r0 8 2 (.ref o11) ∧ ∃ v12 : Int32, hr_f f o11 6 4 (.int v12) ∧ ((v12 ≤ x4 → E90 x3 f) ∧ (¬ v12 ≤ x4 → ∃ o13 : Nat, hr_f f r0 8 9 (.ref o13) ∧ ∃ v14 : Int32, hr_i (ki 0) f o13 x4 v14 ∧ ∃ o15 : Nat, hr_f f r0 8 9 (.ref o15) ∧ ∃ v16 : Int32, hr_i (ki 0) f o15 x3 v16 ∧ hr_o f r0 8 ∧ wp_X8_isBetter ki r0 v14 v16 x1 f (fun v18 f17 => ((v18 = 0 → ∀ v19 : Int32, v19 = x4 + 1 → wp_X8_orderSlots_L48 ki r0 x1 x2 E90 n x3 v19 f17) ∧ (¬ v18 = 0 → ∀ v20 : Int32, v20 = x4 + 1 → wp_X8_orderSlots_L48 ki r0 x1 x2 E90 n x4 v20 f17)))))

def wp_X8_orderSlots_L30 (ki : Nat → ClassId) (r0 : Nat) (E134 : ac_hp → Prop) : Nat → Int32 → Int32 → ac_hp → Prop
  | 0, _, _, _ => False
  | n + 1, x1, x2, f => ∃ o8 : Nat, hr_f f r0 8 2 (.ref o8) ∧ ∃ v9 : Int32, hr_f f o8 6 4 (.int v9) ∧ ((v9 ≤ x2 → E134  f) ∧ (¬ v9 ≤ x2 → ∀ v10 : Int32, v10 = x2 + 1 → ∃ n21 : Nat, wp_X8_orderSlots_L48 ki r0 x1 x2 (fun y22 f23 => ∃ o24 : Nat, hr_f f23 r0 8 9 (.ref o24) ∧ ∃ v25 : Int32, hr_i (ki 0) f23 o24 y22 v25 ∧ ∃ o26 : Nat, hr_f f23 r0 8 9 (.ref o26) ∧ ∃ o27 : Nat, hr_f f23 r0 8 9 (.ref o27) ∧ ∃ v28 : Int32, hr_i (ki 0) f23 o27 x2 v28 ∧ ∃ f29 : ac_hp, hw_i (ki 0) f23 o26 y22 v28 f29 ∧ ∃ o30 : Nat, hr_f f29 r0 8 9 (.ref o30) ∧ ∃ f31 : ac_hp, hw_i (ki 0) f29 o30 x2 v25 f31 ∧ ∃ o32 : Nat, hr_f f31 r0 8 5 (.ref o32) ∧ ∃ v33 : Int32, hr_i (ki 0) f31 o32 v25 v33 ∧ ∀ v34 : Int32, v34 = x1 ||| v33 → ∀ v35 : Int32, v35 = x2 + 1 → wp_X8_orderSlots_L30 ki r0 E134 n v34 v35 f31) n21 x2 v10 f))

def wp_X8_orderSlots (ki : Nat → ClassId) (r0 : Nat) (f : ac_hp) (Q : ac_hp → Prop) : Prop := ∃ n6 : Nat, wp_X8_orderSlots_L2 ki r0 (fun f7 => ∃ n36 : Nat, wp_X8_orderSlots_L30 ki r0 (fun f37 => Q f37) n36 0 0 f7) n6 0 f

set_option maxRecDepth 20000 in
set_option maxHeartbeats 4000000 in
theorem ok_X8_orderSlots_L2 {x : ac_X} (hro : ac_R x = (ro_ 3 0 0)) (r0 : Nat) (E26 : ac_hp → Prop) (hE26 : ∀ (f : ac_hp), E26 f → ac_At (prog_4_method_11_code, 5, "VirtualRewrite$Finder") x 0 0 26 [(0, .ref r0)] [] f) : ∀ (n : Nat) (x1 : Int32) (f : ac_hp), wp_X8_orderSlots_L2 (ac_ki x) r0 E26 n x1 f → ac_At (prog_4_method_11_code, 5, "VirtualRewrite$Finder") x 0 0 2 [(0, .ref r0), (1, .int x1)] [] f := by
  intro n
  induction n with
  | zero => intro _ _ h; exact h.elim
  | succ n ih =>
    intro x1 f h
    rw [wp_X8_orderSlots_L2] at h
    refine ac_iload_n 1 d_X8_orderSlots_2 rfl rfl ?_
    refine ac_aload_n 0 d_X8_orderSlots_3 rfl rfl ?_
    obtain ⟨o1, hr, h⟩ := h
    refine ak_getf hr fl_X8_48 d_X8_orderSlots_4 ?_
    obtain ⟨v2, hr, h⟩ := h
    refine ak_getf hr fl_X8_65 d_X8_orderSlots_7 ?_
    refine ac_icmp_ge (tgt := 26) d_X8_orderSlots_10 (by decide) (fun hc => ?_) (fun hc => ?_)
    · have h := h.1 hc
      refine ac_weak [0] rfl ?_
      exact hE26  f h
    · have h := h.2 hc
      refine ac_aload_n 0 d_X8_orderSlots_13 rfl rfl ?_
      obtain ⟨o3, hr, h⟩ := h
      refine ak_getf hr fl_X8_27 d_X8_orderSlots_14 ?_
      refine ac_iload_n 1 d_X8_orderSlots_17 rfl rfl ?_
      refine ac_iload_n 1 d_X8_orderSlots_18 rfl rfl ?_
      obtain ⟨f4, hr, h⟩ := h
      refine ak_iast 0 hr rfl d_X8_orderSlots_19 ?_
      obtain ⟨v5, ev5⟩ : ∃ y : Int32, y = x1 + 1 := ⟨_, rfl⟩
      have h := h v5 ev5
      refine ac_iinc (j := 1) (lv' := [(1, .int v5), (0, .ref r0)]) d_X8_orderSlots_20 rfl (by rw [ev5]; rfl) (by decide) rfl ?_
      refine ac_goto (tgt := 2) d_X8_orderSlots_23 (by decide) ?_
      refine ac_weak [1, 0] rfl ?_
      exact ih v5 f4 h

set_option maxRecDepth 20000 in
set_option maxHeartbeats 4000000 in
theorem ok_X8_orderSlots_L48 {x : ac_X} (hro : ac_R x = (ro_ 3 0 0)) (r0 : Nat) (x1 : Int32) (x2 : Int32) (E90 : Int32 → ac_hp → Prop) (hE90 : ∀ (y3 : Int32) (f : ac_hp), E90 y3 f → ac_At (prog_4_method_11_code, 5, "VirtualRewrite$Finder") x 0 0 90 [(0, .ref r0), (1, .int x1), (2, .int x2), (3, .int y3)] [] f) : ∀ (n : Nat) (x3 : Int32) (x4 : Int32) (f : ac_hp), wp_X8_orderSlots_L48 (ac_ki x) r0 x1 x2 E90 n x3 x4 f → ac_At (prog_4_method_11_code, 5, "VirtualRewrite$Finder") x 0 0 48 [(0, .ref r0), (1, .int x1), (2, .int x2), (3, .int x3), (4, .int x4)] [] f := by
  intro n
  induction n with
  | zero => intro _ _ _ h; exact h.elim
  | succ n ih =>
    intro x3 x4 f h
    rw [wp_X8_orderSlots_L48] at h
    refine ac_iload 4 d_X8_orderSlots_48 rfl ?_
    refine ac_aload_n 0 d_X8_orderSlots_50 rfl rfl ?_
    obtain ⟨o11, hr, h⟩ := h
    refine ak_getf hr fl_X8_48 d_X8_orderSlots_51 ?_
    obtain ⟨v12, hr, h⟩ := h
    refine ak_getf hr fl_X8_65 d_X8_orderSlots_54 ?_
    refine ac_icmp_ge (tgt := 90) d_X8_orderSlots_57 (by decide) (fun hc => ?_) (fun hc => ?_)
    · have h := h.1 hc
      refine ac_weak [0, 1, 2, 3] rfl ?_
      exact hE90 x3 f h
    · have h := h.2 hc
      refine ac_aload_n 0 d_X8_orderSlots_60 rfl rfl ?_
      refine ac_aload_n 0 d_X8_orderSlots_61 rfl rfl ?_
      obtain ⟨o13, hr, h⟩ := h
      refine ak_getf hr fl_X8_27 d_X8_orderSlots_62 ?_
      refine ac_iload 4 d_X8_orderSlots_65 rfl ?_
      obtain ⟨v14, hr, h⟩ := h
      refine ak_iald 0 hr rfl d_X8_orderSlots_67 ?_
      refine ac_aload_n 0 d_X8_orderSlots_68 rfl rfl ?_
      obtain ⟨o15, hr, h⟩ := h
      refine ak_getf hr fl_X8_27 d_X8_orderSlots_69 ?_
      refine ac_iload_n 3 d_X8_orderSlots_72 rfl rfl ?_
      obtain ⟨v16, hr, h⟩ := h
      refine ak_iald 0 hr rfl d_X8_orderSlots_73 ?_
      refine ac_iload_n 1 d_X8_orderSlots_74 rfl rfl ?_
      obtain ⟨⟨fs, hb⟩, h⟩ := h
      refine ac_callV0 cd_X8_isBetter ml_X8_147 in_X8_isBetter se_X8_isBetter rfl hb (c_X8_isBetter _ _ _ r0 v14 v16 x1 f _ h) rfl rfl (by rw [hro]; decide) rfl (rest := []) rfl (Nat.le_of_ble_eq_true rfl) (by rw [hro]; decide) d_X8_orderSlots_75 (ac_I (fun v18 f17 h => ?_))
      refine ac_if_eq (tgt := 84) d_X8_orderSlots_78 (by decide) (fun hc => ?_) (fun hc => ?_)
      · have h := h.1 hc
        obtain ⟨v19, ev19⟩ : ∃ y : Int32, y = x4 + 1 := ⟨_, rfl⟩
        have h := h v19 ev19
        refine ac_iinc (j := 4) (lv' := [(4, .int v19), (0, .ref r0), (1, .int x1), (2, .int x2), (3, .int x3)]) d_X8_orderSlots_84 rfl (by rw [ev19]; rfl) (by decide) rfl ?_
        refine ac_goto (tgt := 48) d_X8_orderSlots_87 (by decide) ?_
        refine ac_weak [1, 2, 3, 4, 0] rfl ?_
        exact ih x3 v19 f17 h
      · have h := h.2 hc
        refine ac_iload 4 d_X8_orderSlots_81 rfl ?_
        refine ac_istore_n (lv' := [(3, .int x4), (0, .ref r0), (1, .int x1), (2, .int x2), (4, .int x4)]) d_X8_orderSlots_83 rfl (by decide) rfl ?_
        obtain ⟨v20, ev20⟩ : ∃ y : Int32, y = x4 + 1 := ⟨_, rfl⟩
        have h := h v20 ev20
        refine ac_iinc (j := 4) (lv' := [(4, .int v20), (3, .int x4), (0, .ref r0), (1, .int x1), (2, .int x2)]) d_X8_orderSlots_84 rfl (by rw [ev20]; rfl) (by decide) rfl ?_
        refine ac_goto (tgt := 48) d_X8_orderSlots_87 (by decide) ?_
        refine ac_weak [2, 3, 4, 1, 0] rfl ?_
        exact ih x4 v20 f17 h

set_option maxRecDepth 20000 in
set_option maxHeartbeats 4000000 in
theorem ok_X8_orderSlots_L30 {x : ac_X} (hro : ac_R x = (ro_ 3 0 0)) (r0 : Nat) (E134 : ac_hp → Prop) (hE134 : ∀ (f : ac_hp), E134 f → ac_At (prog_4_method_11_code, 5, "VirtualRewrite$Finder") x 0 0 134 [] [] f) : ∀ (n : Nat) (x1 : Int32) (x2 : Int32) (f : ac_hp), wp_X8_orderSlots_L30 (ac_ki x) r0 E134 n x1 x2 f → ac_At (prog_4_method_11_code, 5, "VirtualRewrite$Finder") x 0 0 30 [(0, .ref r0), (1, .int x1), (2, .int x2)] [] f := by
  intro n
  induction n with
  | zero => intro _ _ _ h; exact h.elim
  | succ n ih =>
    intro x1 x2 f h
    rw [wp_X8_orderSlots_L30] at h
    refine ac_iload_n 2 d_X8_orderSlots_30 rfl rfl ?_
    refine ac_aload_n 0 d_X8_orderSlots_31 rfl rfl ?_
    obtain ⟨o8, hr, h⟩ := h
    refine ak_getf hr fl_X8_48 d_X8_orderSlots_32 ?_
    obtain ⟨v9, hr, h⟩ := h
    refine ak_getf hr fl_X8_65 d_X8_orderSlots_35 ?_
    refine ac_icmp_ge (tgt := 134) d_X8_orderSlots_38 (by decide) (fun hc => ?_) (fun hc => ?_)
    · have h := h.1 hc
      refine ac_weak [] rfl ?_
      exact hE134  f h
    · have h := h.2 hc
      refine ac_iload_n 2 d_X8_orderSlots_41 rfl rfl ?_
      refine ac_istore_n (lv' := [(3, .int x2), (0, .ref r0), (1, .int x1), (2, .int x2)]) d_X8_orderSlots_42 rfl (by decide) rfl ?_
      refine ac_iload_n 3 d_X8_orderSlots_43 rfl rfl ?_
      refine ac_iconst (v := 1) d_X8_orderSlots_44 rfl ?_
      refine ac_iadd d_X8_orderSlots_45 ?_
      refine ak_topi (fun v10 ev10 => ?_)
      have h := h v10 ev10
      refine ac_istore (lv' := [(4, .int v10), (3, .int x2), (0, .ref r0), (1, .int x1), (2, .int x2)]) d_X8_orderSlots_46 (by decide) rfl ?_
      obtain ⟨n21, h⟩ := h
      refine ac_weak [2, 3, 4, 1, 0] rfl ?_
      refine ok_X8_orderSlots_L48 hro r0 x1 x2 _ (fun y22 f23 h => ?_) n21 x2 v10 f h
      · skip
        refine ac_aload_n 0 d_X8_orderSlots_90 rfl rfl ?_
        obtain ⟨o24, hr, h⟩ := h
        refine ak_getf hr fl_X8_27 d_X8_orderSlots_91 ?_
        refine ac_iload_n 3 d_X8_orderSlots_94 rfl rfl ?_
        obtain ⟨v25, hr, h⟩ := h
        refine ak_iald 0 hr rfl d_X8_orderSlots_95 ?_
        refine ac_istore (lv' := [(4, .int v25), (0, .ref r0), (1, .int x1), (2, .int x2), (3, .int y22)]) d_X8_orderSlots_96 (by decide) rfl ?_
        refine ac_aload_n 1 d_X8_orderSlots_98 rfl rfl ?_
        obtain ⟨o26, hr, h⟩ := h
        refine ak_getf hr fl_X8_27 d_X8_orderSlots_99 ?_
        refine ac_iload_n 4 d_X8_orderSlots_102 rfl rfl ?_
        refine ac_aload_n 1 d_X8_orderSlots_103 rfl rfl ?_
        obtain ⟨o27, hr, h⟩ := h
        refine ak_getf hr fl_X8_27 d_X8_orderSlots_104 ?_
        refine ac_iload_n 3 d_X8_orderSlots_107 rfl rfl ?_
        obtain ⟨v28, hr, h⟩ := h
        refine ak_iald 0 hr rfl d_X8_orderSlots_108 ?_
        obtain ⟨f29, hr, h⟩ := h
        refine ak_iast 0 hr rfl d_X8_orderSlots_109 ?_
        refine ac_aload_n 1 d_X8_orderSlots_110 rfl rfl ?_
        obtain ⟨o30, hr, h⟩ := h
        refine ak_getf hr fl_X8_27 d_X8_orderSlots_111 ?_
        refine ac_iload_n 3 d_X8_orderSlots_114 rfl rfl ?_
        refine ac_iload 0 d_X8_orderSlots_115 rfl ?_
        obtain ⟨f31, hr, h⟩ := h
        refine ak_iast 0 hr rfl d_X8_orderSlots_117 ?_
        refine ac_iload_n 2 d_X8_orderSlots_118 rfl rfl ?_
        refine ac_aload_n 1 d_X8_orderSlots_119 rfl rfl ?_
        obtain ⟨o32, hr, h⟩ := h
        refine ak_getf hr fl_X8_15 d_X8_orderSlots_120 ?_
        refine ac_iload 0 d_X8_orderSlots_123 rfl ?_
        obtain ⟨v33, hr, h⟩ := h
        refine ak_iald 0 hr rfl d_X8_orderSlots_125 ?_
        refine ac_ior d_X8_orderSlots_126 ?_
        refine ak_topi (fun v34 ev34 => ?_)
        have h := h v34 ev34
        refine ac_istore_n (lv' := [(1, .int v34), (4, .int v25), (0, .ref r0), (2, .int x2), (3, .int y22)]) d_X8_orderSlots_127 rfl (by decide) rfl ?_
        obtain ⟨v35, ev35⟩ : ∃ y : Int32, y = x2 + 1 := ⟨_, rfl⟩
        have h := h v35 ev35
        refine ac_iinc (j := 3) (lv' := [(2, .int v35), (1, .int v34), (4, .int v25), (0, .ref r0), (3, .int y22)]) d_X8_orderSlots_128 rfl (by rw [ev35]; rfl) (by decide) rfl ?_
        refine ac_goto (tgt := 30) d_X8_orderSlots_131 (by decide) ?_
        refine ac_weak [3, 1, 0] rfl ?_
        exact ih v34 v35 f31 h

set_option maxRecDepth 20000 in
set_option maxHeartbeats 4000000 in
theorem c_X8_orderSlots (l : Launch) (D : va_G) (ki : Nat → ClassId) (r0 : Nat) (f : ac_hp) (Q : ac_hp → Prop) (h : wp_X8_orderSlots ki r0 f Q) : ac_met l D ki y_X8_orderSlots prog_4_method_11_code 5 none (ro_ 3 0 0) [.ref r0] f (qr_V Q) 0 0 := by
  refine ac_enter (fun ki => wp_X8_orderSlots ki r0 f Q) (by decide) (Nat.le_of_ble_eq_true rfl) h ?_
  intro x hro hR hnm h
  unfold wp_X8_orderSlots at h
  refine ac_iconst (v := 0) d_X8_orderSlots_0 rfl ?_
  refine ac_istore_n (lv' := [(1, .int 0), (0, .ref r0)]) d_X8_orderSlots_1 rfl (by decide) rfl ?_
  obtain ⟨n6, h⟩ := h
  refine ac_weak [1, 0] rfl ?_
  refine ok_X8_orderSlots_L2 hro r0 _ (fun f7 h => ?_) n6 0 f h
  · skip
    refine ac_iconst (v := 0) d_X8_orderSlots_26 rfl ?_
    refine ac_istore_n (lv' := [(1, .int 0), (0, .ref r0)]) d_X8_orderSlots_27 rfl (by decide) rfl ?_
    refine ac_iconst (v := 0) d_X8_orderSlots_28 rfl ?_
    refine ac_istore_n (lv' := [(2, .int 0), (1, .int 0), (0, .ref r0)]) d_X8_orderSlots_29 rfl (by decide) rfl ?_
    obtain ⟨n36, h⟩ := h
    refine ac_weak [2, 1, 0] rfl ?_
    refine ok_X8_orderSlots_L30 hro r0 _ (fun f37 h => ?_) n36 0 0 f7 h
    · skip
      exact ac_vreturn hR ⟨rfl, h⟩ (by decide) (by decide) d_X8_orderSlots_134

