def wp_X5_refresh (ki : Nat → ClassId) (r0 : Nat) (f : ac_hp) (Q : ac_hp → Prop) : Prop := ∃ v1 : Int32, hr_f f r0 5 7 (.int v1) ∧ ((v1 = 0 → ∃ f2 : ac_hp, hw_f f r0 5 5 (.int 0) f2 ∧ ∃ f3 : ac_hp, hw_f f2 r0 5 6 (.int 0) f3 ∧ hr_o f3 r0 5 ∧ ∃ d : Nat, d ≤ 6 ∧ wp_X5_extend ki d r0 0 0 f3 (fun f4 => ∃ f5 : ac_hp, hw_f f4 r0 5 7 (.int 1) f5 ∧ Q f5)) ∧ (¬ v1 = 0 → Q f))

set_option maxRecDepth 20000 in
set_option maxHeartbeats 4000000 in
theorem c_X5_refresh (l : Launch) (D : va_G) (ki : Nat → ClassId) (r0 : Nat) (f : ac_hp) (Q : ac_hp → Prop) (h : wp_X5_refresh ki r0 f Q) : ac_met l D ki y_X5_refresh prog_7_method_6_code 1 none (ro_ 10 0 0) [.ref r0] f (qr_V Q) 0 0 := by
  refine ac_enter (fun ki => wp_X5_refresh ki r0 f Q) (by decide) (Nat.le_of_ble_eq_true rfl) h ?_
  intro x hro hR hnm h
  unfold wp_X5_refresh at h
  refine ac_aload_n 0 d_X5_refresh_0 rfl rfl ?_
  obtain ⟨v1, hr, h⟩ := h
  refine ak_getf hr fl_X5_29 d_X5_refresh_1 ?_
  refine ac_if_eq (tgt := 8) d_X5_refresh_4 (by decide) (fun hc => ?_) (fun hc => ?_)
  · have h := h.1 hc
    refine ac_aload_n 0 d_X5_refresh_8 rfl rfl ?_
    refine ac_iconst (v := 0) d_X5_refresh_9 rfl ?_
    obtain ⟨f2, hr, h⟩ := h
    refine ak_putf hr fp_X5_21 rfl rfl d_X5_refresh_10 ?_
    refine ac_aload_n 0 d_X5_refresh_13 rfl rfl ?_
    refine ac_iconst (v := 0) d_X5_refresh_14 rfl ?_
    obtain ⟨f3, hr, h⟩ := h
    refine ak_putf hr fp_X5_25 rfl rfl d_X5_refresh_15 ?_
    refine ac_aload_n 0 d_X5_refresh_18 rfl rfl ?_
    refine ac_iconst (v := 0) d_X5_refresh_19 rfl ?_
    refine ac_iconst (v := 0) d_X5_refresh_20 rfl ?_
    obtain ⟨⟨fs, hb⟩, h⟩ := h
    obtain ⟨d, hd6, h⟩ := h
    refine ac_callV0 cd_X5_extend ml_X5_58 in_X5_extend se_X5_extend rfl hb (c_X5_extend d _ _ _ r0 0 0 f3 _ h) rfl rfl (by rw [hro]; constructor <;> simp only [ro_] <;> omega) rfl (rest := []) rfl (Nat.le_of_ble_eq_true rfl) (by rw [hro]; constructor <;> simp only [ro_] <;> omega) d_X5_refresh_21 (ac_V (fun f4 h => ?_))
    refine ac_aload_n 0 d_X5_refresh_24 rfl rfl ?_
    refine ac_iconst (v := 1) d_X5_refresh_25 rfl ?_
    obtain ⟨f5, hr, h⟩ := h
    refine ak_putf hr fp_X5_29 rfl rfl d_X5_refresh_26 ?_
    exact ac_vreturn hR ⟨rfl, h⟩ (by decide) (by decide) d_X5_refresh_29
  · have h := h.2 hc
    exact ac_vreturn hR ⟨rfl, h⟩ (by decide) (by decide) d_X5_refresh_7

def wp_X0_unions (ki : Nat → ClassId) (r0 : Nat) (f : ac_hp) (Q : Int32 → ac_hp → Prop) : Prop := ∃ o1 : Nat, hr_f f r0 0 1 (.ref o1) ∧ ∃ v2 : Int32, hr_f f o1 4 4 (.int v2) ∧ ((¬ v2 = 0 → ∃ o3 : Nat, hr_f f r0 0 2 (.ref o3) ∧ hr_o f o3 5 ∧ wp_X5_refresh ki o3 f (fun f4 => ∃ o5 : Nat, hr_f f4 r0 0 2 (.ref o5) ∧ ∃ v6 : Int32, hr_f f4 o5 5 6 (.int v6) ∧ ((v6 = 0 → ∃ o7 : Nat, hr_f f4 r0 0 2 (.ref o7) ∧ ∃ v8 : Int32, hr_f f4 o7 5 5 (.int v8) ∧ Q v8 f4) ∧ (¬ v6 = 0 → Q (-3) f4)))) ∧ (v2 = 0 → Q (-1) f))

set_option maxRecDepth 20000 in
set_option maxHeartbeats 4000000 in
theorem c_X0_unions (l : Launch) (D : va_G) (ki : Nat → ClassId) (r0 : Nat) (f : ac_hp) (Q : Int32 → ac_hp → Prop) (h : wp_X0_unions ki r0 f Q) : ac_met l D ki y_X0_unions prog_1_method_10_code 1 (some .int) (ro_ 11 0 0) [.ref r0] f (qr_I Q) 0 0 := by
  refine ac_enter (fun ki => wp_X0_unions ki r0 f Q) (by decide) (Nat.le_of_ble_eq_true rfl) h ?_
  intro x hro hR hnm h
  unfold wp_X0_unions at h
  refine ac_aload_n 0 d_X0_unions_0 rfl rfl ?_
  obtain ⟨o1, hr, h⟩ := h
  refine ak_getf hr fl_X0_19 d_X0_unions_1 ?_
  obtain ⟨v2, hr, h⟩ := h
  refine ak_getf hr fl_X0_116 d_X0_unions_4 ?_
  refine ac_if_ne (tgt := 12) d_X0_unions_7 (by decide) (fun hc => ?_) (fun hc => ?_)
  · have h := h.1 hc
    refine ac_aload_n 0 d_X0_unions_12 rfl rfl ?_
    obtain ⟨o3, hr, h⟩ := h
    refine ak_getf hr fl_X0_28 d_X0_unions_13 ?_
    obtain ⟨⟨fs, hb⟩, h⟩ := h
    refine ac_callV0 cd_X5_refresh ml_X0_129 in_X5_refresh se_X5_refresh rfl hb (c_X5_refresh _ _ _ o3 f _ h) rfl rfl (by rw [hro]; decide) rfl (rest := []) rfl (Nat.le_of_ble_eq_true rfl) (by rw [hro]; decide) d_X0_unions_16 (ac_V (fun f4 h => ?_))
    refine ac_aload_n 0 d_X0_unions_19 rfl rfl ?_
    obtain ⟨o5, hr, h⟩ := h
    refine ak_getf hr fl_X0_28 d_X0_unions_20 ?_
    obtain ⟨v6, hr, h⟩ := h
    refine ak_getf hr fl_X0_132 d_X0_unions_23 ?_
    refine ac_if_eq (tgt := 34) d_X0_unions_26 (by decide) (fun hc => ?_) (fun hc => ?_)
    · have h := h.1 hc
      refine ac_aload_n 0 d_X0_unions_34 rfl rfl ?_
      obtain ⟨o7, hr, h⟩ := h
      refine ak_getf hr fl_X0_28 d_X0_unions_35 ?_
      obtain ⟨v8, hr, h⟩ := h
      refine ak_getf hr fl_X0_136 d_X0_unions_38 ?_
      exact ac_ireturn hR rfl ⟨_, rfl, h⟩ (by decide) (by decide) d_X0_unions_41
    · have h := h.2 hc
      refine ac_bipush (v := -3) d_X0_unions_29 rfl ?_
      refine ac_goto (tgt := 41) d_X0_unions_31 (by decide) ?_
      exact ac_ireturn hR rfl ⟨_, rfl, h⟩ (by decide) (by decide) d_X0_unions_41
  · have h := h.2 hc
    refine ac_iconst (v := -1) d_X0_unions_10 rfl ?_
    exact ac_ireturn hR rfl ⟨_, rfl, h⟩ (by decide) (by decide) d_X0_unions_11

def wp_X0_troubleWith (ki : Nat → ClassId) (r0 : Nat) (x1 : Int32) (f : ac_hp) (Q : Int32 → ac_hp → Prop) : Prop := ((x1 < 0 → Q (-1) f) ∧ (¬ x1 < 0 → ∃ o1 : Nat, hr_f f r0 0 1 (.ref o1) ∧ ∃ v2 : Int32, hr_f f o1 4 4 (.int v2) ∧ ((¬ v2 = 0 → ∃ o3 : Nat, hr_f f r0 0 2 (.ref o3) ∧ hr_o f o3 5 ∧ wp_X5_refresh ki o3 f (fun f4 => ∃ o5 : Nat, hr_f f4 r0 0 2 (.ref o5) ∧ ∃ v6 : Int32, hr_f f4 o5 5 6 (.int v6) ∧ ((v6 = 0 → ∃ o7 : Nat, hr_f f4 r0 0 2 (.ref o7) ∧ ∃ v8 : Int32, hr_f f4 o7 5 5 (.int v8) ∧ ((v8 ≤ x1 → Q (-1) f4) ∧ (¬ v8 ≤ x1 → Q 0 f4))) ∧ (¬ v6 = 0 → Q (-3) f4)))) ∧ (v2 = 0 → Q (-1) f))))

set_option maxRecDepth 20000 in
set_option maxHeartbeats 4000000 in
theorem c_X0_troubleWith (l : Launch) (D : va_G) (ki : Nat → ClassId) (r0 : Nat) (x1 : Int32) (f : ac_hp) (Q : Int32 → ac_hp → Prop) (h : wp_X0_troubleWith ki r0 x1 f Q) : ac_met l D ki y_X0_troubleWith prog_1_method_17_code 2 (some .int) (ro_ 11 0 0) [.ref r0, .int x1] f (qr_I Q) 0 0 := by
  refine ac_enter (fun ki => wp_X0_troubleWith ki r0 x1 f Q) (by decide) (Nat.le_of_ble_eq_true rfl) h ?_
  intro x hro hR hnm h
  unfold wp_X0_troubleWith at h
  refine ac_iload_n 1 d_X0_troubleWith_0 rfl rfl ?_
  refine ac_if_lt (tgt := 14) d_X0_troubleWith_1 (by decide) (fun hc => ?_) (fun hc => ?_)
  · have h := h.1 hc
    refine ac_iconst (v := -1) d_X0_troubleWith_14 rfl ?_
    exact ac_ireturn hR rfl ⟨_, rfl, h⟩ (by decide) (by decide) d_X0_troubleWith_15
  · have h := h.2 hc
    refine ac_aload_n 0 d_X0_troubleWith_4 rfl rfl ?_
    obtain ⟨o1, hr, h⟩ := h
    refine ak_getf hr fl_X0_19 d_X0_troubleWith_5 ?_
    obtain ⟨v2, hr, h⟩ := h
    refine ak_getf hr fl_X0_116 d_X0_troubleWith_8 ?_
    refine ac_if_ne (tgt := 16) d_X0_troubleWith_11 (by decide) (fun hc => ?_) (fun hc => ?_)
    · have h := h.1 hc
      refine ac_aload_n 0 d_X0_troubleWith_16 rfl rfl ?_
      obtain ⟨o3, hr, h⟩ := h
      refine ak_getf hr fl_X0_28 d_X0_troubleWith_17 ?_
      obtain ⟨⟨fs, hb⟩, h⟩ := h
      refine ac_callV0 cd_X5_refresh ml_X0_129 in_X5_refresh se_X5_refresh rfl hb (c_X5_refresh _ _ _ o3 f _ h) rfl rfl (by rw [hro]; decide) rfl (rest := []) rfl (Nat.le_of_ble_eq_true rfl) (by rw [hro]; decide) d_X0_troubleWith_20 (ac_V (fun f4 h => ?_))
      refine ac_aload_n 0 d_X0_troubleWith_23 rfl rfl ?_
      obtain ⟨o5, hr, h⟩ := h
      refine ak_getf hr fl_X0_28 d_X0_troubleWith_24 ?_
      obtain ⟨v6, hr, h⟩ := h
      refine ak_getf hr fl_X0_132 d_X0_troubleWith_27 ?_
      refine ac_if_eq (tgt := 36) d_X0_troubleWith_30 (by decide) (fun hc => ?_) (fun hc => ?_)
      · have h := h.1 hc
        refine ac_iload_n 1 d_X0_troubleWith_36 rfl rfl ?_
        refine ac_aload_n 0 d_X0_troubleWith_37 rfl rfl ?_
        obtain ⟨o7, hr, h⟩ := h
        refine ak_getf hr fl_X0_28 d_X0_troubleWith_38 ?_
        obtain ⟨v8, hr, h⟩ := h
        refine ak_getf hr fl_X0_136 d_X0_troubleWith_41 ?_
        refine ac_icmp_ge (tgt := 51) d_X0_troubleWith_44 (by decide) (fun hc => ?_) (fun hc => ?_)
        · have h := h.1 hc
          refine ac_iconst (v := -1) d_X0_troubleWith_51 rfl ?_
          exact ac_ireturn hR rfl ⟨_, rfl, h⟩ (by decide) (by decide) d_X0_troubleWith_52
        · have h := h.2 hc
          refine ac_iconst (v := 0) d_X0_troubleWith_47 rfl ?_
          refine ac_goto (tgt := 52) d_X0_troubleWith_48 (by decide) ?_
          exact ac_ireturn hR rfl ⟨_, rfl, h⟩ (by decide) (by decide) d_X0_troubleWith_52
      · have h := h.2 hc
        refine ac_bipush (v := -3) d_X0_troubleWith_33 rfl ?_
        exact ac_ireturn hR rfl ⟨_, rfl, h⟩ (by decide) (by decide) d_X0_troubleWith_35
    · have h := h.2 hc
      refine ac_iconst (v := -1) d_X0_troubleWith_14 rfl ?_
      exact ac_ireturn hR rfl ⟨_, rfl, h⟩ (by decide) (by decide) d_X0_troubleWith_15

def wp_X0_union (ki : Nat → ClassId) (r0 : Nat) (x1 : Int32) (x2 : Int32) (f : ac_hp) (Q : Int32 → ac_hp → Prop) : Prop := hr_o f r0 0 ∧ wp_X0_isAsked ki r0 x2 f (fun v2 f1 => ((¬ v2 = 0 → hr_o f1 r0 0 ∧ wp_X0_troubleWith ki r0 x1 f1 (fun v4 f3 => ((v4 = 0 → ((4 ≤ x2 → ∃ o5 : Nat, hr_f f3 r0 0 3 (.ref o5) ∧ hr_o f3 o5 6 ∧ wp_X6_assign ki o5 x1 f3 (fun f6 => ((8 ≤ x2 → ∃ o7 : Nat, hr_f f6 r0 0 3 (.ref o7) ∧ ∃ v8 : Int32, hr_f f6 o7 6 4 (.int v8) ∧ Q v8 f6) ∧ (¬ 8 ≤ x2 → ∃ o9 : Nat, hr_f f6 r0 0 3 (.ref o9) ∧ ∃ o10 : Nat, hr_f f6 o9 6 3 (.ref o10) ∧ ∃ v11 : Int32, hr_i (ki 0) f6 o10 (x2 - 4) v11 ∧ Q v11 f6)))) ∧ (¬ 4 ≤ x2 → ∃ o12 : Nat, hr_f f3 r0 0 2 (.ref o12) ∧ hr_o f3 o12 5 ∧ wp_X5_chosen ki o12 x1 x2 f3 (fun v14 f13 => Q v14 f13)))) ∧ (¬ v4 = 0 → Q v4 f3)))) ∧ (v2 = 0 → Q (-1) f1)))

set_option maxRecDepth 20000 in
set_option maxHeartbeats 4000000 in
theorem c_X0_union (l : Launch) (D : va_G) (ki : Nat → ClassId) (r0 : Nat) (x1 : Int32) (x2 : Int32) (f : ac_hp) (Q : Int32 → ac_hp → Prop) (h : wp_X0_union ki r0 x1 x2 f Q) : ac_met l D ki y_X0_union prog_1_method_11_code 4 (some .int) (ro_ 12 0 0) [.ref r0, .int x1, .int x2] f (qr_I Q) 0 0 := by
  refine ac_enter (fun ki => wp_X0_union ki r0 x1 x2 f Q) (by decide) (Nat.le_of_ble_eq_true rfl) h ?_
  intro x hro hR hnm h
  unfold wp_X0_union at h
  refine ac_aload_n 0 d_X0_union_0 rfl rfl ?_
  refine ac_iload_n 2 d_X0_union_1 rfl rfl ?_
  obtain ⟨⟨fs, hb⟩, h⟩ := h
  refine ac_callV0 cd_X0_isAsked ml_X0_137 in_X0_isAsked se_X0_isAsked rfl hb (c_X0_isAsked _ _ _ r0 x2 f _ h) rfl rfl (by rw [hro]; decide) rfl (rest := []) rfl (Nat.le_of_ble_eq_true rfl) (by rw [hro]; decide) d_X0_union_2 (ac_I (fun v2 f1 h => ?_))
  refine ac_if_ne (tgt := 10) d_X0_union_5 (by decide) (fun hc => ?_) (fun hc => ?_)
  · have h := h.1 hc
    refine ac_aload_n 0 d_X0_union_10 rfl rfl ?_
    refine ac_iload_n 1 d_X0_union_11 rfl rfl ?_
    obtain ⟨⟨fs, hb⟩, h⟩ := h
    refine ac_callV0 cd_X0_troubleWith ml_X0_140 in_X0_troubleWith se_X0_troubleWith rfl hb (c_X0_troubleWith _ _ _ r0 x1 f1 _ h) rfl rfl (by rw [hro]; decide) rfl (rest := []) rfl (Nat.le_of_ble_eq_true rfl) (by rw [hro]; decide) d_X0_union_12 (ac_I (fun v4 f3 h => ?_))
    refine ac_istore_n (lv' := [(3, .int v4), (0, .ref r0), (1, .int x1), (2, .int x2)]) d_X0_union_15 rfl (by decide) rfl ?_
    refine ac_iload_n 0 d_X0_union_16 rfl rfl ?_
    refine ac_if_eq (tgt := 22) d_X0_union_17 (by decide) (fun hc => ?_) (fun hc => ?_)
    · have h := h.1 hc
      refine ac_iload_n 3 d_X0_union_22 rfl rfl ?_
      refine ac_iconst (v := 4) d_X0_union_23 rfl ?_
      refine ac_icmp_ge (tgt := 37) d_X0_union_24 (by decide) (fun hc => ?_) (fun hc => ?_)
      · have h := h.1 hc
        refine ac_aload_n 1 d_X0_union_37 rfl rfl ?_
        obtain ⟨o5, hr, h⟩ := h
        refine ak_getf hr fl_X0_37 d_X0_union_38 ?_
        refine ac_iload_n 2 d_X0_union_41 rfl rfl ?_
        obtain ⟨⟨fs, hb⟩, h⟩ := h
        refine ac_callV0 cd_X6_assign ml_X0_148 in_X6_assign se_X6_assign rfl hb (c_X6_assign _ _ _ o5 x1 f3 _ h) rfl rfl (by rw [hro]; decide) rfl (rest := []) rfl (Nat.le_of_ble_eq_true rfl) (by rw [hro]; decide) d_X0_union_42 (ac_V (fun f6 h => ?_))
        refine ac_iload_n 3 d_X0_union_45 rfl rfl ?_
        refine ac_bipush (v := 8) d_X0_union_46 rfl ?_
        refine ac_icmp_ge (tgt := 65) d_X0_union_48 (by decide) (fun hc => ?_) (fun hc => ?_)
        · have h := h.1 hc
          refine ac_aload_n 1 d_X0_union_65 rfl rfl ?_
          obtain ⟨o7, hr, h⟩ := h
          refine ak_getf hr fl_X0_37 d_X0_union_66 ?_
          obtain ⟨v8, hr, h⟩ := h
          refine ak_getf hr fl_X0_155 d_X0_union_69 ?_
          exact ac_ireturn hR rfl ⟨_, rfl, h⟩ (by decide) (by decide) d_X0_union_72
        · have h := h.2 hc
          refine ac_aload_n 1 d_X0_union_51 rfl rfl ?_
          obtain ⟨o9, hr, h⟩ := h
          refine ak_getf hr fl_X0_37 d_X0_union_52 ?_
          obtain ⟨o10, hr, h⟩ := h
          refine ak_getf hr fl_X0_151 d_X0_union_55 ?_
          refine ac_iload_n 3 d_X0_union_58 rfl rfl ?_
          refine ac_iconst (v := 4) d_X0_union_59 rfl ?_
          refine ac_isub d_X0_union_60 ?_
          obtain ⟨v11, hr, h⟩ := h
          refine ak_iald 0 hr rfl d_X0_union_61 ?_
          refine ac_goto (tgt := 72) d_X0_union_62 (by decide) ?_
          exact ac_ireturn hR rfl ⟨_, rfl, h⟩ (by decide) (by decide) d_X0_union_72
      · have h := h.2 hc
        refine ac_aload_n 1 d_X0_union_27 rfl rfl ?_
        obtain ⟨o12, hr, h⟩ := h
        refine ak_getf hr fl_X0_28 d_X0_union_28 ?_
        refine ac_iload_n 2 d_X0_union_31 rfl rfl ?_
        refine ac_iload_n 3 d_X0_union_32 rfl rfl ?_
        obtain ⟨⟨fs, hb⟩, h⟩ := h
        refine ac_callV0 cd_X5_chosen ml_X0_144 in_X5_chosen se_X5_chosen rfl hb (c_X5_chosen _ _ _ o12 x1 x2 f3 _ h) rfl rfl (by rw [hro]; decide) rfl (rest := []) rfl (Nat.le_of_ble_eq_true rfl) (by rw [hro]; decide) d_X0_union_33 (ac_I (fun v14 f13 h => ?_))
        exact ac_ireturn hR rfl ⟨_, rfl, h⟩ (by decide) (by decide) d_X0_union_36
    · have h := h.2 hc
      refine ac_iload_n 0 d_X0_union_20 rfl rfl ?_
      exact ac_ireturn hR rfl ⟨_, rfl, h⟩ (by decide) (by decide) d_X0_union_21
  · have h := h.2 hc
    refine ac_iconst (v := -1) d_X0_union_8 rfl ?_
    exact ac_ireturn hR rfl ⟨_, rfl, h⟩ (by decide) (by decide) d_X0_union_9

def wp_X0_estimate (ki : Nat → ClassId) (r0 : Nat) (x1 : Int32) (f : ac_hp) (Q : Int32 → ac_hp → Prop) : Prop := hr_o f r0 0 ∧ wp_X0_troubleWith ki r0 x1 f (fun v2 f1 => ((v2 = 0 → ∃ o3 : Nat, hr_f f1 r0 0 3 (.ref o3) ∧ hr_o f1 o3 6 ∧ wp_X6_assign ki o3 x1 f1 (fun f4 => ∃ o5 : Nat, hr_f f4 r0 0 3 (.ref o5) ∧ hr_o f4 o5 6 ∧ wp_X6_productOfRows ki o5 x1 f4 (fun v7 f6 => Q v7 f6))) ∧ (¬ v2 = 0 → Q v2 f1)))

set_option maxRecDepth 20000 in
set_option maxHeartbeats 4000000 in
theorem c_X0_estimate (l : Launch) (D : va_G) (ki : Nat → ClassId) (r0 : Nat) (x1 : Int32) (f : ac_hp) (Q : Int32 → ac_hp → Prop) (h : wp_X0_estimate ki r0 x1 f Q) : ac_met l D ki y_X0_estimate prog_1_method_12_code 3 (some .int) (ro_ 12 0 0) [.ref r0, .int x1] f (qr_I Q) 0 0 := by
  refine ac_enter (fun ki => wp_X0_estimate ki r0 x1 f Q) (by decide) (Nat.le_of_ble_eq_true rfl) h ?_
  intro x hro hR hnm h
  unfold wp_X0_estimate at h
  refine ac_aload_n 0 d_X0_estimate_0 rfl rfl ?_
  refine ac_iload_n 1 d_X0_estimate_1 rfl rfl ?_
  obtain ⟨⟨fs, hb⟩, h⟩ := h
  refine ac_callV0 cd_X0_troubleWith ml_X0_140 in_X0_troubleWith se_X0_troubleWith rfl hb (c_X0_troubleWith _ _ _ r0 x1 f _ h) rfl rfl (by rw [hro]; decide) rfl (rest := []) rfl (Nat.le_of_ble_eq_true rfl) (by rw [hro]; decide) d_X0_estimate_2 (ac_I (fun v2 f1 h => ?_))
  refine ac_istore_n (lv' := [(2, .int v2), (0, .ref r0), (1, .int x1)]) d_X0_estimate_5 rfl (by decide) rfl ?_
  refine ac_iload_n 0 d_X0_estimate_6 rfl rfl ?_
  refine ac_if_eq (tgt := 12) d_X0_estimate_7 (by decide) (fun hc => ?_) (fun hc => ?_)
  · have h := h.1 hc
    refine ac_aload_n 1 d_X0_estimate_12 rfl rfl ?_
    obtain ⟨o3, hr, h⟩ := h
    refine ak_getf hr fl_X0_37 d_X0_estimate_13 ?_
    refine ac_iload_n 2 d_X0_estimate_16 rfl rfl ?_
    obtain ⟨⟨fs, hb⟩, h⟩ := h
    refine ac_callV0 cd_X6_assign ml_X0_148 in_X6_assign se_X6_assign rfl hb (c_X6_assign _ _ _ o3 x1 f1 _ h) rfl rfl (by rw [hro]; decide) rfl (rest := []) rfl (Nat.le_of_ble_eq_true rfl) (by rw [hro]; decide) d_X0_estimate_17 (ac_V (fun f4 h => ?_))
    refine ac_aload_n 1 d_X0_estimate_20 rfl rfl ?_
    obtain ⟨o5, hr, h⟩ := h
    refine ak_getf hr fl_X0_37 d_X0_estimate_21 ?_
    refine ac_iload_n 2 d_X0_estimate_24 rfl rfl ?_
    obtain ⟨⟨fs, hb⟩, h⟩ := h
    refine ac_callV0 cd_X6_productOfRows ml_X0_158 in_X6_productOfRows se_X6_productOfRows rfl hb (c_X6_productOfRows _ _ _ o5 x1 f4 _ h) rfl rfl (by rw [hro]; decide) rfl (rest := []) rfl (Nat.le_of_ble_eq_true rfl) (by rw [hro]; decide) d_X0_estimate_25 (ac_I (fun v7 f6 h => ?_))
    exact ac_ireturn hR rfl ⟨_, rfl, h⟩ (by decide) (by decide) d_X0_estimate_28
  · have h := h.2 hc
    refine ac_iload_n 0 d_X0_estimate_10 rfl rfl ?_
    exact ac_ireturn hR rfl ⟨_, rfl, h⟩ (by decide) (by decide) d_X0_estimate_11

def wp_X8_find_L21 (ki : Nat → ClassId) (r0 : Nat) (E62 : Int32 → ac_hp → Prop) : Nat → Int32 → Int32 → ac_hp → Prop
  | 0, _, _, _ => False
  | n + 1, x2, x3, f => ∃ o5 : Nat, hr_f f r0 8 2 (.ref o5) ∧ ∃ v6 : Int32, hr_f f o5 6 4 (.int v6) ∧ ((v6 ≤ x3 → E62 x2 f) ∧ (¬ v6 ≤ x3 → ((x2 = 0 → E62 x2 f) ∧ (¬ x2 = 0 → hr_o f r0 8 ∧ wp_X8_gatherRows ki r0 x3 f (fun f7 => ∃ o8 : Nat, hr_f f7 r0 8 8 (.ref o8) ∧ ∃ v9 : Int32, hr_i (ki 0) f7 o8 x3 v9 ∧ ((v9 ≤ 0 → ∀ v10 : Int32, v10 = x3 + 1 → wp_X8_find_L21 ki r0 E62 n 0 v10 f7) ∧ (¬ v9 ≤ 0 → ∀ v11 : Int32, v11 = x3 + 1 → wp_X8_find_L21 ki r0 E62 n 1 v11 f7)))))))

def wp_X8_find (ki : Nat → ClassId) (r0 : Nat) (x1 : Int32) (f : ac_hp) (Q : ac_hp → Prop) : Prop := ∃ f1 : ac_hp, hw_f f r0 8 12 (.int x1) f1 ∧ ∃ o2 : Nat, hr_f f1 r0 8 2 (.ref o2) ∧ hr_o f1 o2 6 ∧ wp_X6_assign ki o2 x1 f1 (fun f3 => hr_o f3 r0 8 ∧ wp_X8_layOut ki r0 f3 (fun f4 => ∃ n12 : Nat, wp_X8_find_L21 ki r0 (fun y13 f14 => ((y13 = 0 → Q f14) ∧ (¬ y13 = 0 → hr_o f14 r0 8 ∧ wp_X8_orderSlots ki r0 f14 (fun f15 => hr_o f15 r0 8 ∧ ∃ d : Nat, d ≤ 6 ∧ wp_X8_search ki d r0 0 0 f15 (fun v17 f16 => Q f16))))) n12 1 0 f4))

set_option maxRecDepth 20000 in
set_option maxHeartbeats 4000000 in
theorem ok_X8_find_L21 {x : ac_X} (hro : ac_R x = (ro_ 12 0 0)) (r0 : Nat) (E62 : Int32 → ac_hp → Prop) (hE62 : ∀ (y2 : Int32) (f : ac_hp), E62 y2 f → ac_At (prog_4_method_2_code, 4, "VirtualRewrite$Finder") x 0 0 62 [(0, .ref r0), (2, .int y2)] [] f) : ∀ (n : Nat) (x2 : Int32) (x3 : Int32) (f : ac_hp), wp_X8_find_L21 (ac_ki x) r0 E62 n x2 x3 f → ac_At (prog_4_method_2_code, 4, "VirtualRewrite$Finder") x 0 0 21 [(0, .ref r0), (2, .int x2), (3, .int x3)] [] f := by
  intro n
  induction n with
  | zero => intro _ _ _ h; exact h.elim
  | succ n ih =>
    intro x2 x3 f h
    rw [wp_X8_find_L21] at h
    refine ac_iload_n 2 d_X8_find_21 rfl rfl ?_
    refine ac_aload_n 0 d_X8_find_22 rfl rfl ?_
    obtain ⟨o5, hr, h⟩ := h
    refine ak_getf hr fl_X8_48 d_X8_find_23 ?_
    obtain ⟨v6, hr, h⟩ := h
    refine ak_getf hr fl_X8_65 d_X8_find_26 ?_
    refine ac_icmp_ge (tgt := 62) d_X8_find_29 (by decide) (fun hc => ?_) (fun hc => ?_)
    · have h := h.1 hc
      refine ac_weak [0, 1] rfl ?_
      exact hE62 x2 f h
    · have h := h.2 hc
      refine ac_iload_n 1 d_X8_find_32 rfl rfl ?_
      refine ac_if_eq (tgt := 62) d_X8_find_33 (by decide) (fun hc => ?_) (fun hc => ?_)
      · have h := h.1 hc
        refine ac_weak [0, 1] rfl ?_
        exact hE62 x2 f h
      · have h := h.2 hc
        refine ac_aload_n 0 d_X8_find_36 rfl rfl ?_
        refine ac_iload_n 2 d_X8_find_37 rfl rfl ?_
        obtain ⟨⟨fs, hb⟩, h⟩ := h
        refine ac_callV0 cd_X8_gatherRows ml_X8_68 in_X8_gatherRows se_X8_gatherRows rfl hb (c_X8_gatherRows _ _ _ r0 x3 f _ h) rfl rfl (by rw [hro]; decide) rfl (rest := []) rfl (Nat.le_of_ble_eq_true rfl) (by rw [hro]; decide) d_X8_find_38 (ac_V (fun f7 h => ?_))
        refine ac_aload_n 0 d_X8_find_41 rfl rfl ?_
        obtain ⟨o8, hr, h⟩ := h
        refine ak_getf hr fl_X8_24 d_X8_find_42 ?_
        refine ac_iload_n 2 d_X8_find_45 rfl rfl ?_
        obtain ⟨v9, hr, h⟩ := h
        refine ak_iald 0 hr rfl d_X8_find_46 ?_
        refine ac_if_le (tgt := 54) d_X8_find_47 (by decide) (fun hc => ?_) (fun hc => ?_)
        · have h := h.1 hc
          refine ac_iconst (v := 0) d_X8_find_54 rfl ?_
          refine ac_istore_n (lv' := [(2, .int 0), (0, .ref r0), (3, .int x3)]) d_X8_find_55 rfl (by decide) rfl ?_
          obtain ⟨v10, ev10⟩ : ∃ y : Int32, y = x3 + 1 := ⟨_, rfl⟩
          have h := h v10 ev10
          refine ac_iinc (j := 2) (lv' := [(3, .int v10), (2, .int 0), (0, .ref r0)]) d_X8_find_56 rfl (by rw [ev10]; rfl) (by decide) rfl ?_
          refine ac_goto (tgt := 21) d_X8_find_59 (by decide) ?_
          refine ac_weak [2, 1, 0] rfl ?_
          exact ih 0 v10 f7 h
        · have h := h.2 hc
          refine ac_iconst (v := 1) d_X8_find_50 rfl ?_
          refine ac_goto (tgt := 55) d_X8_find_51 (by decide) ?_
          refine ac_istore_n (lv' := [(2, .int 1), (0, .ref r0), (3, .int x3)]) d_X8_find_55 rfl (by decide) rfl ?_
          obtain ⟨v11, ev11⟩ : ∃ y : Int32, y = x3 + 1 := ⟨_, rfl⟩
          have h := h v11 ev11
          refine ac_iinc (j := 2) (lv' := [(3, .int v11), (2, .int 1), (0, .ref r0)]) d_X8_find_56 rfl (by rw [ev11]; rfl) (by decide) rfl ?_
          refine ac_goto (tgt := 21) d_X8_find_59 (by decide) ?_
          refine ac_weak [2, 1, 0] rfl ?_
          exact ih 1 v11 f7 h

set_option maxRecDepth 20000 in
set_option maxHeartbeats 4000000 in
theorem c_X8_find (l : Launch) (D : va_G) (ki : Nat → ClassId) (r0 : Nat) (x1 : Int32) (f : ac_hp) (Q : ac_hp → Prop) (h : wp_X8_find ki r0 x1 f Q) : ac_met l D ki y_X8_find prog_4_method_2_code 4 none (ro_ 12 0 0) [.ref r0, .int x1] f (qr_V Q) 0 0 := by
  refine ac_enter (fun ki => wp_X8_find ki r0 x1 f Q) (by decide) (Nat.le_of_ble_eq_true rfl) h ?_
  intro x hro hR hnm h
  unfold wp_X8_find at h
  refine ac_aload_n 0 d_X8_find_0 rfl rfl ?_
  refine ac_iload_n 1 d_X8_find_1 rfl rfl ?_
  obtain ⟨f1, hr, h⟩ := h
  refine ak_putf hr fp_X8_36 rfl rfl d_X8_find_2 ?_
  refine ac_aload_n 0 d_X8_find_5 rfl rfl ?_
  obtain ⟨o2, hr, h⟩ := h
  refine ak_getf hr fl_X8_48 d_X8_find_6 ?_
  refine ac_iload_n 1 d_X8_find_9 rfl rfl ?_
  obtain ⟨⟨fs, hb⟩, h⟩ := h
  refine ac_callV0 cd_X6_assign ml_X8_56 in_X6_assign se_X6_assign rfl hb (c_X6_assign _ _ _ o2 x1 f1 _ h) rfl rfl (by rw [hro]; decide) rfl (rest := []) rfl (Nat.le_of_ble_eq_true rfl) (by rw [hro]; decide) d_X8_find_10 (ac_V (fun f3 h => ?_))
  refine ac_aload_n 0 d_X8_find_13 rfl rfl ?_
  obtain ⟨⟨fs, hb⟩, h⟩ := h
  refine ac_callV0 cd_X8_layOut ml_X8_62 in_X8_layOut se_X8_layOut rfl hb (c_X8_layOut _ _ _ r0 f3 _ h) rfl rfl (by rw [hro]; decide) rfl (rest := []) rfl (Nat.le_of_ble_eq_true rfl) (by rw [hro]; decide) d_X8_find_14 (ac_V (fun f4 h => ?_))
  refine ac_iconst (v := 1) d_X8_find_17 rfl ?_
  refine ac_istore_n (lv' := [(2, .int 1), (0, .ref r0), (1, .int x1)]) d_X8_find_18 rfl (by decide) rfl ?_
  refine ac_iconst (v := 0) d_X8_find_19 rfl ?_
  refine ac_istore_n (lv' := [(3, .int 0), (2, .int 1), (0, .ref r0), (1, .int x1)]) d_X8_find_20 rfl (by decide) rfl ?_
  obtain ⟨n12, h⟩ := h
  refine ac_weak [2, 1, 0] rfl ?_
  refine ok_X8_find_L21 hro r0 _ (fun y13 f14 h => ?_) n12 1 0 f4 h
  · skip
    refine ac_iload_n 1 d_X8_find_62 rfl rfl ?_
    refine ac_if_eq (tgt := 77) d_X8_find_63 (by decide) (fun hc => ?_) (fun hc => ?_)
    · have h := h.1 hc
      exact ac_vreturn hR ⟨rfl, h⟩ (by decide) (by decide) d_X8_find_77
    · have h := h.2 hc
      refine ac_aload_n 0 d_X8_find_66 rfl rfl ?_
      obtain ⟨⟨fs, hb⟩, h⟩ := h
      refine ac_callV0 cd_X8_orderSlots ml_X8_71 in_X8_orderSlots se_X8_orderSlots rfl hb (c_X8_orderSlots _ _ _ r0 f14 _ h) rfl rfl (by rw [hro]; decide) rfl (rest := []) rfl (Nat.le_of_ble_eq_true rfl) (by rw [hro]; decide) d_X8_find_67 (ac_V (fun f15 h => ?_))
      refine ac_aload_n 0 d_X8_find_70 rfl rfl ?_
      refine ac_iconst (v := 0) d_X8_find_71 rfl ?_
      refine ac_iconst (v := 0) d_X8_find_72 rfl ?_
      obtain ⟨⟨fs, hb⟩, h⟩ := h
      obtain ⟨d, hd6, h⟩ := h
      refine ac_callV0 cd_X8_search ml_X8_74 in_X8_search se_X8_search rfl hb (c_X8_search d _ _ _ r0 0 0 f15 _ h) rfl rfl (by rw [hro]; constructor <;> simp only [ro_] <;> omega) rfl (rest := []) rfl (Nat.le_of_ble_eq_true rfl) (by rw [hro]; constructor <;> simp only [ro_] <;> omega) d_X8_find_73 (ac_I (fun v17 f16 h => ?_))
      refine ac_pop d_X8_find_76 rfl ?_
      exact ac_vreturn hR ⟨rfl, h⟩ (by decide) (by decide) d_X8_find_77

def wp_X0_run_L48 (ki : Nat → ClassId) (r0 : Nat) (E83 : ac_hp → Prop) : Nat → Int32 → ac_hp → Prop
  | 0, _, _ => False
  | n + 1, x1, f => ∃ o12 : Nat, hr_f f r0 0 2 (.ref o12) ∧ ∃ v13 : Int32, hr_f f o12 5 5 (.int v13) ∧ ((v13 ≤ x1 → E83  f) ∧ (¬ v13 ≤ x1 → ∃ o14 : Nat, hr_f f r0 0 4 (.ref o14) ∧ ∃ v15 : Int32, hr_f f o14 7 6 (.int v15) ∧ ((¬ v15 = 0 → E83  f) ∧ (v15 = 0 → ∃ o16 : Nat, hr_f f r0 0 5 (.ref o16) ∧ hr_o f o16 8 ∧ wp_X8_find ki o16 x1 f (fun f17 => ∀ v18 : Int32, v18 = x1 + 1 → wp_X0_run_L48 ki r0 E83 n v18 f17)))))

def wp_X0_run (ki : Nat → ClassId) (r0 : Nat) (f : ac_hp) (Q : Int32 → ac_hp → Prop) : Prop := ∃ o1 : Nat, hr_f f r0 0 4 (.ref o1) ∧ ∃ o2 : Nat, hr_f f r0 0 1 (.ref o2) ∧ hr_o f o2 4 ∧ wp_X4_variables ki o2 f (fun v4 f3 => hr_o f3 o1 7 ∧ wp_X7_begin ki o1 v4 f3 (fun f5 => ∃ o6 : Nat, hr_f f5 r0 0 1 (.ref o6) ∧ ∃ v7 : Int32, hr_f f5 o6 4 4 (.int v7) ∧ ((¬ v7 = 0 → ∃ o8 : Nat, hr_f f5 r0 0 2 (.ref o8) ∧ hr_o f5 o8 5 ∧ wp_X5_refresh ki o8 f5 (fun f9 => ∃ o10 : Nat, hr_f f9 r0 0 2 (.ref o10) ∧ ∃ v11 : Int32, hr_f f9 o10 5 6 (.int v11) ∧ ((v11 = 0 → ∃ n19 : Nat, wp_X0_run_L48 ki r0 (fun f20 => ∃ o21 : Nat, hr_f f20 r0 0 4 (.ref o21) ∧ ∃ v22 : Int32, hr_f f20 o21 7 6 (.int v22) ∧ ((v22 = 0 → ∃ o23 : Nat, hr_f f20 r0 0 4 (.ref o23) ∧ ∃ v24 : Int32, hr_f f20 o23 7 4 (.int v24) ∧ Q v24 f20) ∧ (¬ v22 = 0 → ∃ o25 : Nat, hr_f f20 r0 0 4 (.ref o25) ∧ ∃ f26 : ac_hp, hw_f f20 o25 7 4 (.int 0) f26 ∧ Q (-3) f26))) n19 0 f9) ∧ (¬ v11 = 0 → Q (-3) f9)))) ∧ (v7 = 0 → Q (-1) f5))))

set_option maxRecDepth 20000 in
set_option maxHeartbeats 4000000 in
theorem ok_X0_run_L48 {x : ac_X} (hro : ac_R x = (ro_ 13 0 0)) (r0 : Nat) (E83 : ac_hp → Prop) (hE83 : ∀ (f : ac_hp), E83 f → ac_At (prog_1_method_13_code, 2, "VirtualRewrite") x 0 0 83 [(0, .ref r0)] [] f) : ∀ (n : Nat) (x1 : Int32) (f : ac_hp), wp_X0_run_L48 (ac_ki x) r0 E83 n x1 f → ac_At (prog_1_method_13_code, 2, "VirtualRewrite") x 0 0 48 [(0, .ref r0), (1, .int x1)] [] f := by
  intro n
  induction n with
  | zero => intro _ _ h; exact h.elim
  | succ n ih =>
    intro x1 f h
    rw [wp_X0_run_L48] at h
    refine ac_iload_n 1 d_X0_run_48 rfl rfl ?_
    refine ac_aload_n 0 d_X0_run_49 rfl rfl ?_
    obtain ⟨o12, hr, h⟩ := h
    refine ak_getf hr fl_X0_28 d_X0_run_50 ?_
    obtain ⟨v13, hr, h⟩ := h
    refine ak_getf hr fl_X0_136 d_X0_run_53 ?_
    refine ac_icmp_ge (tgt := 83) d_X0_run_56 (by decide) (fun hc => ?_) (fun hc => ?_)
    · have h := h.1 hc
      refine ac_weak [0] rfl ?_
      exact hE83  f h
    · have h := h.2 hc
      refine ac_aload_n 0 d_X0_run_59 rfl rfl ?_
      obtain ⟨o14, hr, h⟩ := h
      refine ak_getf hr fl_X0_44 d_X0_run_60 ?_
      obtain ⟨v15, hr, h⟩ := h
      refine ak_getf hr fl_X0_167 d_X0_run_63 ?_
      refine ac_if_ne (tgt := 83) d_X0_run_66 (by decide) (fun hc => ?_) (fun hc => ?_)
      · have h := h.1 hc
        refine ac_weak [0] rfl ?_
        exact hE83  f h
      · have h := h.2 hc
        refine ac_aload_n 0 d_X0_run_69 rfl rfl ?_
        obtain ⟨o16, hr, h⟩ := h
        refine ak_getf hr fl_X0_53 d_X0_run_70 ?_
        refine ac_iload_n 1 d_X0_run_73 rfl rfl ?_
        obtain ⟨⟨fs, hb⟩, h⟩ := h
        refine ac_callV0 cd_X8_find ml_X0_168 in_X8_find se_X8_find rfl hb (c_X8_find _ _ _ o16 x1 f _ h) rfl rfl (by rw [hro]; decide) rfl (rest := []) rfl (Nat.le_of_ble_eq_true rfl) (by rw [hro]; decide) d_X0_run_74 (ac_V (fun f17 h => ?_))
        obtain ⟨v18, ev18⟩ : ∃ y : Int32, y = x1 + 1 := ⟨_, rfl⟩
        have h := h v18 ev18
        refine ac_iinc (j := 1) (lv' := [(1, .int v18), (0, .ref r0)]) d_X0_run_77 rfl (by rw [ev18]; rfl) (by decide) rfl ?_
        refine ac_goto (tgt := 48) d_X0_run_80 (by decide) ?_
        refine ac_weak [1, 0] rfl ?_
        exact ih v18 f17 h

set_option maxRecDepth 20000 in
set_option maxHeartbeats 4000000 in
theorem c_X0_run (l : Launch) (D : va_G) (ki : Nat → ClassId) (r0 : Nat) (f : ac_hp) (Q : Int32 → ac_hp → Prop) (h : wp_X0_run ki r0 f Q) : ac_met l D ki y_X0_run prog_1_method_13_code 2 (some .int) (ro_ 13 0 0) [.ref r0] f (qr_I Q) 0 0 := by
  refine ac_enter (fun ki => wp_X0_run ki r0 f Q) (by decide) (Nat.le_of_ble_eq_true rfl) h ?_
  intro x hro hR hnm h
  unfold wp_X0_run at h
  refine ac_aload_n 0 d_X0_run_0 rfl rfl ?_
  obtain ⟨o1, hr, h⟩ := h
  refine ak_getf hr fl_X0_44 d_X0_run_1 ?_
  refine ac_aload_n 0 d_X0_run_4 rfl rfl ?_
  obtain ⟨o2, hr, h⟩ := h
  refine ak_getf hr fl_X0_19 d_X0_run_5 ?_
  obtain ⟨⟨fs, hb⟩, h⟩ := h
  refine ac_callV0 cd_X4_variables ml_X0_161 in_X4_variables se_X4_variables rfl hb (c_X4_variables _ _ _ o2 f _ h) rfl rfl (by rw [hro]; decide) rfl (rest := [.ref o1]) rfl (Nat.le_of_ble_eq_true rfl) (by rw [hro]; decide) d_X0_run_8 (ac_I (fun v4 f3 h => ?_))
  obtain ⟨⟨fs, hb⟩, h⟩ := h
  refine ac_callV0 cd_X7_begin ml_X0_164 in_X7_begin se_X7_begin rfl hb (c_X7_begin _ _ _ o1 v4 f3 _ h) rfl rfl (by rw [hro]; decide) rfl (rest := []) rfl (Nat.le_of_ble_eq_true rfl) (by rw [hro]; decide) d_X0_run_11 (ac_V (fun f5 h => ?_))
  refine ac_aload_n 0 d_X0_run_14 rfl rfl ?_
  obtain ⟨o6, hr, h⟩ := h
  refine ak_getf hr fl_X0_19 d_X0_run_15 ?_
  obtain ⟨v7, hr, h⟩ := h
  refine ak_getf hr fl_X0_116 d_X0_run_18 ?_
  refine ac_if_ne (tgt := 26) d_X0_run_21 (by decide) (fun hc => ?_) (fun hc => ?_)
  · have h := h.1 hc
    refine ac_aload_n 0 d_X0_run_26 rfl rfl ?_
    obtain ⟨o8, hr, h⟩ := h
    refine ak_getf hr fl_X0_28 d_X0_run_27 ?_
    obtain ⟨⟨fs, hb⟩, h⟩ := h
    refine ac_callV0 cd_X5_refresh ml_X0_129 in_X5_refresh se_X5_refresh rfl hb (c_X5_refresh _ _ _ o8 f5 _ h) rfl rfl (by rw [hro]; decide) rfl (rest := []) rfl (Nat.le_of_ble_eq_true rfl) (by rw [hro]; decide) d_X0_run_30 (ac_V (fun f9 h => ?_))
    refine ac_aload_n 0 d_X0_run_33 rfl rfl ?_
    obtain ⟨o10, hr, h⟩ := h
    refine ak_getf hr fl_X0_28 d_X0_run_34 ?_
    obtain ⟨v11, hr, h⟩ := h
    refine ak_getf hr fl_X0_132 d_X0_run_37 ?_
    refine ac_if_eq (tgt := 46) d_X0_run_40 (by decide) (fun hc => ?_) (fun hc => ?_)
    · have h := h.1 hc
      refine ac_iconst (v := 0) d_X0_run_46 rfl ?_
      refine ac_istore_n (lv' := [(1, .int 0), (0, .ref r0)]) d_X0_run_47 rfl (by decide) rfl ?_
      obtain ⟨n19, h⟩ := h
      refine ac_weak [1, 0] rfl ?_
      refine ok_X0_run_L48 hro r0 _ (fun f20 h => ?_) n19 0 f9 h
      · skip
        refine ac_aload_n 0 d_X0_run_83 rfl rfl ?_
        obtain ⟨o21, hr, h⟩ := h
        refine ak_getf hr fl_X0_44 d_X0_run_84 ?_
        obtain ⟨v22, hr, h⟩ := h
        refine ak_getf hr fl_X0_167 d_X0_run_87 ?_
        refine ac_if_eq (tgt := 104) d_X0_run_90 (by decide) (fun hc => ?_) (fun hc => ?_)
        · have h := h.1 hc
          refine ac_aload_n 0 d_X0_run_104 rfl rfl ?_
          obtain ⟨o23, hr, h⟩ := h
          refine ak_getf hr fl_X0_44 d_X0_run_105 ?_
          obtain ⟨v24, hr, h⟩ := h
          refine ak_getf hr fl_X0_171 d_X0_run_108 ?_
          exact ac_ireturn hR rfl ⟨_, rfl, h⟩ (by decide) (by decide) d_X0_run_111
        · have h := h.2 hc
          refine ac_aload_n 0 d_X0_run_93 rfl rfl ?_
          obtain ⟨o25, hr, h⟩ := h
          refine ak_getf hr fl_X0_44 d_X0_run_94 ?_
          refine ac_iconst (v := 0) d_X0_run_97 rfl ?_
          obtain ⟨f26, hr, h⟩ := h
          refine ak_putf hr fp_X0_171 rfl rfl d_X0_run_98 ?_
          refine ac_bipush (v := -3) d_X0_run_101 rfl ?_
          exact ac_ireturn hR rfl ⟨_, rfl, h⟩ (by decide) (by decide) d_X0_run_103
    · have h := h.2 hc
      refine ac_bipush (v := -3) d_X0_run_43 rfl ?_
      exact ac_ireturn hR rfl ⟨_, rfl, h⟩ (by decide) (by decide) d_X0_run_45
  · have h := h.2 hc
    refine ac_iconst (v := -1) d_X0_run_24 rfl ?_
    exact ac_ireturn hR rfl ⟨_, rfl, h⟩ (by decide) (by decide) d_X0_run_25

