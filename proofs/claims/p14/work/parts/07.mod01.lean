def wp_X9_isOneRow_L35 (ki : Nat → ClassId) (r0 : Nat) (x2 : Int32) (x3 : Int32) (x4 : Int32) (x5 : Int32) (x7 : Int32) (E153 : Int32 → ac_hp → Prop) : Nat → Int32 → Int32 → ac_hp → Prop
  | 0, _, _, _ => False
  | n + 1, x6, x8, f => ((2 ≤ x8 → E153 x6 f) ∧ (¬ 2 ≤ x8 → ∃ o5 : Nat, hr_f f r0 9 8 (.ref o5) ∧ ∃ v6 : Int32, hr_i (ki 0) f o5 ((2 * x4) + x7) v6 ∧ ∃ o7 : Nat, hr_f f r0 9 8 (.ref o7) ∧ ∃ v8 : Int32, hr_i (ki 0) f o7 ((2 * x5) + x8) v8 ∧ ((¬ v6 = v8 → ((¬ x6 = 0 → ∀ v9 : Int32, v9 = x8 + 1 → wp_X9_isOneRow_L35 ki r0 x2 x3 x4 x5 x7 E153 n 1 v9 f) ∧ (x6 = 0 → ∀ v10 : Int32, v10 = x8 + 1 → wp_X9_isOneRow_L35 ki r0 x2 x3 x4 x5 x7 E153 n 0 v10 f))) ∧ (v6 = v8 → ∃ o11 : Nat, hr_f f r0 9 3 (.ref o11) ∧ ∃ o12 : Nat, hr_f f r0 9 5 (.ref o12) ∧ ∃ v13 : Int32, hr_i (ki 0) f o12 x4 v13 ∧ ∃ o14 : Nat, hr_f f r0 9 8 (.ref o14) ∧ ∃ v15 : Int32, hr_i (ki 0) f o14 ((2 * x4) + x7) v15 ∧ ∃ v16 : Int32, hr_i (ki 1) f o11 ((3 * v13) + v15) v16 ∧ ((v16 = 0 → ((¬ x6 = 0 → ∀ v17 : Int32, v17 = x8 + 1 → wp_X9_isOneRow_L35 ki r0 x2 x3 x4 x5 x7 E153 n 1 v17 f) ∧ (x6 = 0 → ∀ v18 : Int32, v18 = x8 + 1 → wp_X9_isOneRow_L35 ki r0 x2 x3 x4 x5 x7 E153 n 0 v18 f))) ∧ (¬ v16 = 0 → ((¬ x6 = 0 → ∀ v19 : Int32, v19 = x8 + 1 → wp_X9_isOneRow_L35 ki r0 x2 x3 x4 x5 x7 E153 n 1 v19 f) ∧ (x6 = 0 → ∃ o20 : Nat, hr_f f r0 9 11 (.ref o20) ∧ ∃ v21 : Int32, hr_i (ki 0) f o20 ((2 * x2) + x7) v21 ∧ ∃ o22 : Nat, hr_f f r0 9 11 (.ref o22) ∧ ∃ v23 : Int32, hr_i (ki 0) f o22 ((2 * x3) + x8) v23 ∧ ((¬ v21 = v23 → ∀ v24 : Int32, v24 = x8 + 1 → wp_X9_isOneRow_L35 ki r0 x2 x3 x4 x5 x7 E153 n 0 v24 f) ∧ (v21 = v23 → ∀ v25 : Int32, v25 = x8 + 1 → wp_X9_isOneRow_L35 ki r0 x2 x3 x4 x5 x7 E153 n 1 v25 f))))))))))

def wp_X9_isOneRow_L26 (ki : Nat → ClassId) (r0 : Nat) (x2 : Int32) (x3 : Int32) (x4 : Int32) (x5 : Int32) (E159 : Int32 → ac_hp → Prop) : Nat → Int32 → Int32 → ac_hp → Prop
  | 0, _, _, _ => False
  | n + 1, x6, x7, f => ((2 ≤ x7 → E159 x6 f) ∧ (¬ 2 ≤ x7 → ∃ n26 : Nat, wp_X9_isOneRow_L35 ki r0 x2 x3 x4 x5 x7 (fun y27 f28 => ∀ v29 : Int32, v29 = x7 + 1 → wp_X9_isOneRow_L26 ki r0 x2 x3 x4 x5 E159 n y27 v29 f28) n26 x6 0 f))

def wp_X9_isOneRow (ki : Nat → ClassId) (r0 : Nat) (x1 : Int32) (x2 : Int32) (x3 : Int32) (f : ac_hp) (Q : Int32 → ac_hp → Prop) : Prop := ∃ o1 : Nat, hr_f f r0 9 17 (.ref o1) ∧ ∃ v2 : Int32, hr_i (ki 0) f o1 (x1 + x2) v2 ∧ ∃ o3 : Nat, hr_f f r0 9 17 (.ref o3) ∧ ∃ v4 : Int32, hr_i (ki 0) f o3 (x1 + x3) v4 ∧ ∃ n30 : Nat, wp_X9_isOneRow_L26 ki r0 x2 x3 v2 v4 (fun y31 f32 => ((y31 = 0 → Q 0 f32) ∧ (¬ y31 = 0 → ∃ o33 : Nat, hr_f f32 r0 9 5 (.ref o33) ∧ ∃ v34 : Int32, hr_i (ki 0) f32 o33 v2 v34 ∧ ∃ o35 : Nat, hr_f f32 r0 9 5 (.ref o35) ∧ ∃ v36 : Int32, hr_i (ki 0) f32 o35 v4 v36 ∧ ((¬ v34 = v36 → Q 0 f32) ∧ (v34 = v36 → Q 1 f32))))) n30 0 0 f

set_option maxRecDepth 20000 in
set_option maxHeartbeats 4000000 in
theorem ok_X9_isOneRow_L35 {x : ac_X} (hro : ac_R x = (ro_ 1 0 0)) (r0 : Nat) (x2 : Int32) (x3 : Int32) (x4 : Int32) (x5 : Int32) (x7 : Int32) (E153 : Int32 → ac_hp → Prop) (hE153 : ∀ (y6 : Int32) (f : ac_hp), E153 y6 f → ac_At (prog_11_method_16_code, 10, "VirtualRewriteModel") x 0 0 153 [(0, .ref r0), (2, .int x2), (3, .int x3), (4, .int x4), (5, .int x5), (6, .int y6), (7, .int x7)] [] f) : ∀ (n : Nat) (x6 : Int32) (x8 : Int32) (f : ac_hp), wp_X9_isOneRow_L35 (ac_ki x) r0 x2 x3 x4 x5 x7 E153 n x6 x8 f → ac_At (prog_11_method_16_code, 10, "VirtualRewriteModel") x 0 0 35 [(0, .ref r0), (2, .int x2), (3, .int x3), (4, .int x4), (5, .int x5), (6, .int x6), (7, .int x7), (8, .int x8)] [] f := by
  intro n
  induction n with
  | zero => intro _ _ _ h; exact h.elim
  | succ n ih =>
    intro x6 x8 f h
    rw [wp_X9_isOneRow_L35] at h
    refine ac_iload 7 d_X9_isOneRow_35 rfl ?_
    refine ac_iconst (v := 2) d_X9_isOneRow_37 rfl ?_
    refine ac_icmp_ge (tgt := 153) d_X9_isOneRow_38 (by decide) (fun hc => ?_) (fun hc => ?_)
    · have h := h.1 hc
      refine ac_weak [0, 1, 2, 3, 4, 5, 6] rfl ?_
      exact hE153 x6 f h
    · have h := h.2 hc
      refine ac_aload_n 0 d_X9_isOneRow_41 rfl rfl ?_
      obtain ⟨o5, hr, h⟩ := h
      refine ak_getf hr fl_X9_29 d_X9_isOneRow_42 ?_
      refine ac_iconst (v := 2) d_X9_isOneRow_45 rfl ?_
      refine ac_iload 3 d_X9_isOneRow_46 rfl ?_
      refine ac_imul d_X9_isOneRow_48 ?_
      refine ac_iload 6 d_X9_isOneRow_49 rfl ?_
      refine ac_iadd d_X9_isOneRow_51 ?_
      obtain ⟨v6, hr, h⟩ := h
      refine ak_iald 0 hr rfl d_X9_isOneRow_52 ?_
      refine ac_aload_n 0 d_X9_isOneRow_53 rfl rfl ?_
      obtain ⟨o7, hr, h⟩ := h
      refine ak_getf hr fl_X9_29 d_X9_isOneRow_54 ?_
      refine ac_iconst (v := 2) d_X9_isOneRow_57 rfl ?_
      refine ac_iload 4 d_X9_isOneRow_58 rfl ?_
      refine ac_imul d_X9_isOneRow_60 ?_
      refine ac_iload 7 d_X9_isOneRow_61 rfl ?_
      refine ac_iadd d_X9_isOneRow_63 ?_
      obtain ⟨v8, hr, h⟩ := h
      refine ak_iald 0 hr rfl d_X9_isOneRow_64 ?_
      refine ac_icmp_ne (tgt := 102) d_X9_isOneRow_65 (by decide) (fun hc => ?_) (fun hc => ?_)
      · have h := h.1 hc
        refine ac_iconst (v := 0) d_X9_isOneRow_102 rfl ?_
        refine ac_istore (lv' := [(9, .int 0), (0, .ref r0), (2, .int x2), (3, .int x3), (4, .int x4), (5, .int x5), (6, .int x6), (7, .int x7), (8, .int x8)]) d_X9_isOneRow_103 (by decide) rfl ?_
        refine ac_iload 6 d_X9_isOneRow_105 rfl ?_
        refine ac_if_ne (tgt := 140) d_X9_isOneRow_107 (by decide) (fun hc => ?_) (fun hc => ?_)
        · have h := h.1 hc
          refine ac_iconst (v := 1) d_X9_isOneRow_140 rfl ?_
          refine ac_goto (tgt := 145) d_X9_isOneRow_141 (by decide) ?_
          refine ac_istore (lv' := [(6, .int 1), (9, .int 0), (0, .ref r0), (2, .int x2), (3, .int x3), (4, .int x4), (5, .int x5), (7, .int x7), (8, .int x8)]) d_X9_isOneRow_145 (by decide) rfl ?_
          obtain ⟨v9, ev9⟩ : ∃ y : Int32, y = x8 + 1 := ⟨_, rfl⟩
          have h := h v9 ev9
          refine ac_iinc (j := 8) (lv' := [(8, .int v9), (6, .int 1), (9, .int 0), (0, .ref r0), (2, .int x2), (3, .int x3), (4, .int x4), (5, .int x5), (7, .int x7)]) d_X9_isOneRow_147 rfl (by rw [ev9]; rfl) (by decide) rfl ?_
          refine ac_goto (tgt := 35) d_X9_isOneRow_150 (by decide) ?_
          refine ac_weak [3, 4, 5, 6, 7, 1, 8, 0] rfl ?_
          exact ih 1 v9 f h
        · have h := h.2 hc
          refine ac_iload 0 d_X9_isOneRow_110 rfl ?_
          refine ac_if_eq (tgt := 144) d_X9_isOneRow_112 (by decide) (fun hc => ?_) (fun hc => absurd hc (by decide))
          refine ac_iconst (v := 0) d_X9_isOneRow_144 rfl ?_
          refine ac_istore (lv' := [(6, .int 0), (9, .int 0), (0, .ref r0), (2, .int x2), (3, .int x3), (4, .int x4), (5, .int x5), (7, .int x7), (8, .int x8)]) d_X9_isOneRow_145 (by decide) rfl ?_
          obtain ⟨v10, ev10⟩ : ∃ y : Int32, y = x8 + 1 := ⟨_, rfl⟩
          have h := h v10 ev10
          refine ac_iinc (j := 8) (lv' := [(8, .int v10), (6, .int 0), (9, .int 0), (0, .ref r0), (2, .int x2), (3, .int x3), (4, .int x4), (5, .int x5), (7, .int x7)]) d_X9_isOneRow_147 rfl (by rw [ev10]; rfl) (by decide) rfl ?_
          refine ac_goto (tgt := 35) d_X9_isOneRow_150 (by decide) ?_
          refine ac_weak [3, 4, 5, 6, 7, 1, 8, 0] rfl ?_
          exact ih 0 v10 f h
      · have h := h.2 hc
        refine ac_aload_n 0 d_X9_isOneRow_68 rfl rfl ?_
        obtain ⟨o11, hr, h⟩ := h
        refine ak_getf hr fl_X9_16 d_X9_isOneRow_69 ?_
        refine ac_iconst (v := 3) d_X9_isOneRow_72 rfl ?_
        refine ac_aload_n 0 d_X9_isOneRow_73 rfl rfl ?_
        obtain ⟨o12, hr, h⟩ := h
        refine ak_getf hr fl_X9_20 d_X9_isOneRow_74 ?_
        refine ac_iload 3 d_X9_isOneRow_77 rfl ?_
        obtain ⟨v13, hr, h⟩ := h
        refine ak_iald 0 hr rfl d_X9_isOneRow_79 ?_
        refine ac_imul d_X9_isOneRow_80 ?_
        refine ac_aload_n 0 d_X9_isOneRow_81 rfl rfl ?_
        obtain ⟨o14, hr, h⟩ := h
        refine ak_getf hr fl_X9_29 d_X9_isOneRow_82 ?_
        refine ac_iconst (v := 2) d_X9_isOneRow_85 rfl ?_
        refine ac_iload 3 d_X9_isOneRow_86 rfl ?_
        refine ac_imul d_X9_isOneRow_88 ?_
        refine ac_iload 6 d_X9_isOneRow_89 rfl ?_
        refine ac_iadd d_X9_isOneRow_91 ?_
        obtain ⟨v15, hr, h⟩ := h
        refine ak_iald 0 hr rfl d_X9_isOneRow_92 ?_
        refine ac_iadd d_X9_isOneRow_93 ?_
        obtain ⟨v16, hr, h⟩ := h
        refine ak_zald 1 hr rfl d_X9_isOneRow_94 ?_
        refine ac_if_eq (tgt := 102) d_X9_isOneRow_95 (by decide) (fun hc => ?_) (fun hc => ?_)
        · have h := h.1 hc
          refine ac_iconst (v := 0) d_X9_isOneRow_102 rfl ?_
          refine ac_istore (lv' := [(9, .int 0), (0, .ref r0), (2, .int x2), (3, .int x3), (4, .int x4), (5, .int x5), (6, .int x6), (7, .int x7), (8, .int x8)]) d_X9_isOneRow_103 (by decide) rfl ?_
          refine ac_iload 6 d_X9_isOneRow_105 rfl ?_
          refine ac_if_ne (tgt := 140) d_X9_isOneRow_107 (by decide) (fun hc => ?_) (fun hc => ?_)
          · have h := h.1 hc
            refine ac_iconst (v := 1) d_X9_isOneRow_140 rfl ?_
            refine ac_goto (tgt := 145) d_X9_isOneRow_141 (by decide) ?_
            refine ac_istore (lv' := [(6, .int 1), (9, .int 0), (0, .ref r0), (2, .int x2), (3, .int x3), (4, .int x4), (5, .int x5), (7, .int x7), (8, .int x8)]) d_X9_isOneRow_145 (by decide) rfl ?_
            obtain ⟨v17, ev17⟩ : ∃ y : Int32, y = x8 + 1 := ⟨_, rfl⟩
            have h := h v17 ev17
            refine ac_iinc (j := 8) (lv' := [(8, .int v17), (6, .int 1), (9, .int 0), (0, .ref r0), (2, .int x2), (3, .int x3), (4, .int x4), (5, .int x5), (7, .int x7)]) d_X9_isOneRow_147 rfl (by rw [ev17]; rfl) (by decide) rfl ?_
            refine ac_goto (tgt := 35) d_X9_isOneRow_150 (by decide) ?_
            refine ac_weak [3, 4, 5, 6, 7, 1, 8, 0] rfl ?_
            exact ih 1 v17 f h
          · have h := h.2 hc
            refine ac_iload 0 d_X9_isOneRow_110 rfl ?_
            refine ac_if_eq (tgt := 144) d_X9_isOneRow_112 (by decide) (fun hc => ?_) (fun hc => absurd hc (by decide))
            refine ac_iconst (v := 0) d_X9_isOneRow_144 rfl ?_
            refine ac_istore (lv' := [(6, .int 0), (9, .int 0), (0, .ref r0), (2, .int x2), (3, .int x3), (4, .int x4), (5, .int x5), (7, .int x7), (8, .int x8)]) d_X9_isOneRow_145 (by decide) rfl ?_
            obtain ⟨v18, ev18⟩ : ∃ y : Int32, y = x8 + 1 := ⟨_, rfl⟩
            have h := h v18 ev18
            refine ac_iinc (j := 8) (lv' := [(8, .int v18), (6, .int 0), (9, .int 0), (0, .ref r0), (2, .int x2), (3, .int x3), (4, .int x4), (5, .int x5), (7, .int x7)]) d_X9_isOneRow_147 rfl (by rw [ev18]; rfl) (by decide) rfl ?_
            refine ac_goto (tgt := 35) d_X9_isOneRow_150 (by decide) ?_
            refine ac_weak [3, 4, 5, 6, 7, 1, 8, 0] rfl ?_
            exact ih 0 v18 f h
        · have h := h.2 hc
          refine ac_iconst (v := 1) d_X9_isOneRow_98 rfl ?_
          refine ac_goto (tgt := 103) d_X9_isOneRow_99 (by decide) ?_
          refine ac_istore (lv' := [(9, .int 1), (0, .ref r0), (2, .int x2), (3, .int x3), (4, .int x4), (5, .int x5), (6, .int x6), (7, .int x7), (8, .int x8)]) d_X9_isOneRow_103 (by decide) rfl ?_
          refine ac_iload 6 d_X9_isOneRow_105 rfl ?_
          refine ac_if_ne (tgt := 140) d_X9_isOneRow_107 (by decide) (fun hc => ?_) (fun hc => ?_)
          · have h := h.1 hc
            refine ac_iconst (v := 1) d_X9_isOneRow_140 rfl ?_
            refine ac_goto (tgt := 145) d_X9_isOneRow_141 (by decide) ?_
            refine ac_istore (lv' := [(6, .int 1), (9, .int 1), (0, .ref r0), (2, .int x2), (3, .int x3), (4, .int x4), (5, .int x5), (7, .int x7), (8, .int x8)]) d_X9_isOneRow_145 (by decide) rfl ?_
            obtain ⟨v19, ev19⟩ : ∃ y : Int32, y = x8 + 1 := ⟨_, rfl⟩
            have h := h v19 ev19
            refine ac_iinc (j := 8) (lv' := [(8, .int v19), (6, .int 1), (9, .int 1), (0, .ref r0), (2, .int x2), (3, .int x3), (4, .int x4), (5, .int x5), (7, .int x7)]) d_X9_isOneRow_147 rfl (by rw [ev19]; rfl) (by decide) rfl ?_
            refine ac_goto (tgt := 35) d_X9_isOneRow_150 (by decide) ?_
            refine ac_weak [3, 4, 5, 6, 7, 1, 8, 0] rfl ?_
            exact ih 1 v19 f h
          · have h := h.2 hc
            refine ac_iload 0 d_X9_isOneRow_110 rfl ?_
            refine ac_if_eq (tgt := 144) d_X9_isOneRow_112 (by decide) (fun hc => absurd hc (by decide)) (fun hc => ?_)
            refine ac_aload_n 1 d_X9_isOneRow_115 rfl rfl ?_
            obtain ⟨o20, hr, h⟩ := h
            refine ak_getf hr fl_X9_35 d_X9_isOneRow_116 ?_
            refine ac_iconst (v := 2) d_X9_isOneRow_119 rfl ?_
            refine ac_iload_n 2 d_X9_isOneRow_120 rfl rfl ?_
            refine ac_imul d_X9_isOneRow_121 ?_
            refine ac_iload 7 d_X9_isOneRow_122 rfl ?_
            refine ac_iadd d_X9_isOneRow_124 ?_
            obtain ⟨v21, hr, h⟩ := h
            refine ak_iald 0 hr rfl d_X9_isOneRow_125 ?_
            refine ac_aload_n 1 d_X9_isOneRow_126 rfl rfl ?_
            obtain ⟨o22, hr, h⟩ := h
            refine ak_getf hr fl_X9_35 d_X9_isOneRow_127 ?_
            refine ac_iconst (v := 2) d_X9_isOneRow_130 rfl ?_
            refine ac_iload_n 3 d_X9_isOneRow_131 rfl rfl ?_
            refine ac_imul d_X9_isOneRow_132 ?_
            refine ac_iload 8 d_X9_isOneRow_133 rfl ?_
            refine ac_iadd d_X9_isOneRow_135 ?_
            obtain ⟨v23, hr, h⟩ := h
            refine ak_iald 0 hr rfl d_X9_isOneRow_136 ?_
            refine ac_icmp_ne (tgt := 144) d_X9_isOneRow_137 (by decide) (fun hc => ?_) (fun hc => ?_)
            · have h := h.1 hc
              refine ac_iconst (v := 0) d_X9_isOneRow_144 rfl ?_
              refine ac_istore (lv' := [(6, .int 0), (9, .int 1), (0, .ref r0), (2, .int x2), (3, .int x3), (4, .int x4), (5, .int x5), (7, .int x7), (8, .int x8)]) d_X9_isOneRow_145 (by decide) rfl ?_
              obtain ⟨v24, ev24⟩ : ∃ y : Int32, y = x8 + 1 := ⟨_, rfl⟩
              have h := h v24 ev24
              refine ac_iinc (j := 8) (lv' := [(8, .int v24), (6, .int 0), (9, .int 1), (0, .ref r0), (2, .int x2), (3, .int x3), (4, .int x4), (5, .int x5), (7, .int x7)]) d_X9_isOneRow_147 rfl (by rw [ev24]; rfl) (by decide) rfl ?_
              refine ac_goto (tgt := 35) d_X9_isOneRow_150 (by decide) ?_
              refine ac_weak [3, 4, 5, 6, 7, 1, 8, 0] rfl ?_
              exact ih 0 v24 f h
            · have h := h.2 hc
              refine ac_iconst (v := 1) d_X9_isOneRow_140 rfl ?_
              refine ac_goto (tgt := 145) d_X9_isOneRow_141 (by decide) ?_
              refine ac_istore (lv' := [(6, .int 1), (9, .int 1), (0, .ref r0), (2, .int x2), (3, .int x3), (4, .int x4), (5, .int x5), (7, .int x7), (8, .int x8)]) d_X9_isOneRow_145 (by decide) rfl ?_
              obtain ⟨v25, ev25⟩ : ∃ y : Int32, y = x8 + 1 := ⟨_, rfl⟩
              have h := h v25 ev25
              refine ac_iinc (j := 8) (lv' := [(8, .int v25), (6, .int 1), (9, .int 1), (0, .ref r0), (2, .int x2), (3, .int x3), (4, .int x4), (5, .int x5), (7, .int x7)]) d_X9_isOneRow_147 rfl (by rw [ev25]; rfl) (by decide) rfl ?_
              refine ac_goto (tgt := 35) d_X9_isOneRow_150 (by decide) ?_
              refine ac_weak [3, 4, 5, 6, 7, 1, 8, 0] rfl ?_
              exact ih 1 v25 f h

set_option maxRecDepth 20000 in
set_option maxHeartbeats 4000000 in
theorem ok_X9_isOneRow_L26 {x : ac_X} (hro : ac_R x = (ro_ 1 0 0)) (r0 : Nat) (x2 : Int32) (x3 : Int32) (x4 : Int32) (x5 : Int32) (E159 : Int32 → ac_hp → Prop) (hE159 : ∀ (y6 : Int32) (f : ac_hp), E159 y6 f → ac_At (prog_11_method_16_code, 10, "VirtualRewriteModel") x 0 0 159 [(0, .ref r0), (4, .int x4), (5, .int x5), (6, .int y6)] [] f) : ∀ (n : Nat) (x6 : Int32) (x7 : Int32) (f : ac_hp), wp_X9_isOneRow_L26 (ac_ki x) r0 x2 x3 x4 x5 E159 n x6 x7 f → ac_At (prog_11_method_16_code, 10, "VirtualRewriteModel") x 0 0 26 [(0, .ref r0), (2, .int x2), (3, .int x3), (4, .int x4), (5, .int x5), (6, .int x6), (7, .int x7)] [] f := by
  intro n
  induction n with
  | zero => intro _ _ _ h; exact h.elim
  | succ n ih =>
    intro x6 x7 f h
    rw [wp_X9_isOneRow_L26] at h
    refine ac_iload 6 d_X9_isOneRow_26 rfl ?_
    refine ac_iconst (v := 2) d_X9_isOneRow_28 rfl ?_
    refine ac_icmp_ge (tgt := 159) d_X9_isOneRow_29 (by decide) (fun hc => ?_) (fun hc => ?_)
    · have h := h.1 hc
      refine ac_weak [0, 3, 4, 5] rfl ?_
      exact hE159 x6 f h
    · have h := h.2 hc
      refine ac_iconst (v := 0) d_X9_isOneRow_32 rfl ?_
      refine ac_istore (lv' := [(8, .int 0), (0, .ref r0), (2, .int x2), (3, .int x3), (4, .int x4), (5, .int x5), (6, .int x6), (7, .int x7)]) d_X9_isOneRow_33 (by decide) rfl ?_
      obtain ⟨n26, h⟩ := h
      refine ac_weak [1, 2, 3, 4, 5, 6, 7, 0] rfl ?_
      refine ok_X9_isOneRow_L35 hro r0 x2 x3 x4 x5 x7 _ (fun y27 f28 h => ?_) n26 x6 0 f h
      · skip
        obtain ⟨v29, ev29⟩ : ∃ y : Int32, y = x7 + 1 := ⟨_, rfl⟩
        have h := h v29 ev29
        refine ac_iinc (j := 6) (lv' := [(7, .int v29), (0, .ref r0), (2, .int x2), (3, .int x3), (4, .int x4), (5, .int x5), (6, .int y27)]) d_X9_isOneRow_153 rfl (by rw [ev29]; rfl) (by decide) rfl ?_
        refine ac_goto (tgt := 26) d_X9_isOneRow_156 (by decide) ?_
        refine ac_weak [1, 2, 3, 4, 5, 6, 0] rfl ?_
        exact ih y27 v29 f28 h

set_option maxRecDepth 20000 in
set_option maxHeartbeats 4000000 in
theorem c_X9_isOneRow (l : Launch) (D : va_G) (ki : Nat → ClassId) (r0 : Nat) (x1 : Int32) (x2 : Int32) (x3 : Int32) (f : ac_hp) (Q : Int32 → ac_hp → Prop) (h : wp_X9_isOneRow ki r0 x1 x2 x3 f Q) : ac_met l D ki y_X9_isOneRow prog_11_method_16_code 10 (some .boolean) (ro_ 1 0 0) [.ref r0, .int x1, .int x2, .int x3] f (qr_I Q) 0 0 := by
  refine ac_enter (fun ki => wp_X9_isOneRow ki r0 x1 x2 x3 f Q) (by decide) (Nat.le_of_ble_eq_true rfl) h ?_
  intro x hro hR hnm h
  unfold wp_X9_isOneRow at h
  refine ac_aload_n 0 d_X9_isOneRow_0 rfl rfl ?_
  obtain ⟨o1, hr, h⟩ := h
  refine ak_getf hr fl_X9_47 d_X9_isOneRow_1 ?_
  refine ac_iload_n 1 d_X9_isOneRow_4 rfl rfl ?_
  refine ac_iload_n 2 d_X9_isOneRow_5 rfl rfl ?_
  refine ac_iadd d_X9_isOneRow_6 ?_
  obtain ⟨v2, hr, h⟩ := h
  refine ak_iald 0 hr rfl d_X9_isOneRow_7 ?_
  refine ac_istore (lv' := [(4, .int v2), (0, .ref r0), (1, .int x1), (2, .int x2), (3, .int x3)]) d_X9_isOneRow_8 (by decide) rfl ?_
  refine ac_aload_n 1 d_X9_isOneRow_10 rfl rfl ?_
  obtain ⟨o3, hr, h⟩ := h
  refine ak_getf hr fl_X9_47 d_X9_isOneRow_11 ?_
  refine ac_iload_n 2 d_X9_isOneRow_14 rfl rfl ?_
  refine ac_iload_n 4 d_X9_isOneRow_15 rfl rfl ?_
  refine ac_iadd d_X9_isOneRow_16 ?_
  obtain ⟨v4, hr, h⟩ := h
  refine ak_iald 0 hr rfl d_X9_isOneRow_17 ?_
  refine ac_istore (lv' := [(5, .int v4), (4, .int v2), (0, .ref r0), (1, .int x1), (2, .int x2), (3, .int x3)]) d_X9_isOneRow_18 (by decide) rfl ?_
  refine ac_iconst (v := 0) d_X9_isOneRow_20 rfl ?_
  refine ac_istore (lv' := [(6, .int 0), (5, .int v4), (4, .int v2), (0, .ref r0), (1, .int x1), (2, .int x2), (3, .int x3)]) d_X9_isOneRow_21 (by decide) rfl ?_
  refine ac_iconst (v := 0) d_X9_isOneRow_23 rfl ?_
  refine ac_istore (lv' := [(7, .int 0), (6, .int 0), (5, .int v4), (4, .int v2), (0, .ref r0), (1, .int x1), (2, .int x2), (3, .int x3)]) d_X9_isOneRow_24 (by decide) rfl ?_
  obtain ⟨n30, h⟩ := h
  refine ac_weak [4, 6, 7, 3, 2, 1, 0] rfl ?_
  refine ok_X9_isOneRow_L26 hro r0 x2 x3 v2 v4 _ (fun y31 f32 h => ?_) n30 0 0 f h
  · skip
    refine ac_iload 3 d_X9_isOneRow_159 rfl ?_
    refine ac_if_eq (tgt := 185) d_X9_isOneRow_161 (by decide) (fun hc => ?_) (fun hc => ?_)
    · have h := h.1 hc
      refine ac_iconst (v := 0) d_X9_isOneRow_185 rfl ?_
      exact ac_ireturn hR rfl ⟨_, rfl, h⟩ (by decide) (by decide) d_X9_isOneRow_186
    · have h := h.2 hc
      refine ac_aload_n 0 d_X9_isOneRow_164 rfl rfl ?_
      obtain ⟨o33, hr, h⟩ := h
      refine ak_getf hr fl_X9_20 d_X9_isOneRow_165 ?_
      refine ac_iload 1 d_X9_isOneRow_168 rfl ?_
      obtain ⟨v34, hr, h⟩ := h
      refine ak_iald 0 hr rfl d_X9_isOneRow_170 ?_
      refine ac_aload_n 0 d_X9_isOneRow_171 rfl rfl ?_
      obtain ⟨o35, hr, h⟩ := h
      refine ak_getf hr fl_X9_20 d_X9_isOneRow_172 ?_
      refine ac_iload 2 d_X9_isOneRow_175 rfl ?_
      obtain ⟨v36, hr, h⟩ := h
      refine ak_iald 0 hr rfl d_X9_isOneRow_177 ?_
      refine ac_icmp_ne (tgt := 185) d_X9_isOneRow_178 (by decide) (fun hc => ?_) (fun hc => ?_)
      · have h := h.1 hc
        refine ac_iconst (v := 0) d_X9_isOneRow_185 rfl ?_
        exact ac_ireturn hR rfl ⟨_, rfl, h⟩ (by decide) (by decide) d_X9_isOneRow_186
      · have h := h.2 hc
        refine ac_iconst (v := 1) d_X9_isOneRow_181 rfl ?_
        refine ac_goto (tgt := 186) d_X9_isOneRow_182 (by decide) ?_
        exact ac_ireturn hR rfl ⟨_, rfl, h⟩ (by decide) (by decide) d_X9_isOneRow_186

def wp_X9_tableOf_L2 (ki : Nat → ClassId) (r0 : Nat) (x1 : Int32) (x2 : Int32) (E22 : Int32 → ac_hp → Prop) : Nat → Int32 → ac_hp → Prop
  | 0, _, _ => False
  | n + 1, x3, f => ∃ o1 : Nat, hr_f f r0 9 18 (.ref o1) ∧ ∃ v2 : Int32, hr_i (ki 0) f o1 ((4 * x1) + x3) v2 ∧ ((v2 = x2 → E22 x3 f) ∧ (¬ v2 = x2 → ∀ v3 : Int32, v3 = x3 + 1 → wp_X9_tableOf_L2 ki r0 x1 x2 E22 n v3 f))

def wp_X9_tableOf (ki : Nat → ClassId) (r0 : Nat) (x1 : Int32) (x2 : Int32) (f : ac_hp) (Q : Int32 → ac_hp → Prop) : Prop := ∃ n4 : Nat, wp_X9_tableOf_L2 ki r0 x1 x2 (fun y5 f6 => ∃ o7 : Nat, hr_f f6 r0 9 5 (.ref o7) ∧ ∃ o8 : Nat, hr_f f6 r0 9 17 (.ref o8) ∧ ∃ v9 : Int32, hr_i (ki 0) f6 o8 ((4 * x1) + y5) v9 ∧ ∃ v10 : Int32, hr_i (ki 0) f6 o7 v9 v10 ∧ Q v10 f6) n4 0 f

set_option maxRecDepth 20000 in
set_option maxHeartbeats 4000000 in
theorem ok_X9_tableOf_L2 {x : ac_X} (hro : ac_R x = (ro_ 1 0 0)) (r0 : Nat) (x1 : Int32) (x2 : Int32) (E22 : Int32 → ac_hp → Prop) (hE22 : ∀ (y3 : Int32) (f : ac_hp), E22 y3 f → ac_At (prog_11_method_21_code, 4, "VirtualRewriteModel") x 0 0 22 [(0, .ref r0), (1, .int x1), (3, .int y3)] [] f) : ∀ (n : Nat) (x3 : Int32) (f : ac_hp), wp_X9_tableOf_L2 (ac_ki x) r0 x1 x2 E22 n x3 f → ac_At (prog_11_method_21_code, 4, "VirtualRewriteModel") x 0 0 2 [(0, .ref r0), (1, .int x1), (2, .int x2), (3, .int x3)] [] f := by
  intro n
  induction n with
  | zero => intro _ _ h; exact h.elim
  | succ n ih =>
    intro x3 f h
    rw [wp_X9_tableOf_L2] at h
    refine ac_aload_n 0 d_X9_tableOf_2 rfl rfl ?_
    obtain ⟨o1, hr, h⟩ := h
    refine ak_getf hr fl_X9_50 d_X9_tableOf_3 ?_
    refine ac_iconst (v := 4) d_X9_tableOf_6 rfl ?_
    refine ac_iload_n 1 d_X9_tableOf_7 rfl rfl ?_
    refine ac_imul d_X9_tableOf_8 ?_
    refine ac_iload_n 3 d_X9_tableOf_9 rfl rfl ?_
    refine ac_iadd d_X9_tableOf_10 ?_
    obtain ⟨v2, hr, h⟩ := h
    refine ak_iald 0 hr rfl d_X9_tableOf_11 ?_
    refine ac_iload_n 2 d_X9_tableOf_12 rfl rfl ?_
    refine ac_icmp_eq (tgt := 22) d_X9_tableOf_13 (by decide) (fun hc => ?_) (fun hc => ?_)
    · have h := h.1 hc
      refine ac_weak [0, 1, 3] rfl ?_
      exact hE22 x3 f h
    · have h := h.2 hc
      obtain ⟨v3, ev3⟩ : ∃ y : Int32, y = x3 + 1 := ⟨_, rfl⟩
      have h := h v3 ev3
      refine ac_iinc (j := 3) (lv' := [(3, .int v3), (0, .ref r0), (1, .int x1), (2, .int x2)]) d_X9_tableOf_16 rfl (by rw [ev3]; rfl) (by decide) rfl ?_
      refine ac_goto (tgt := 2) d_X9_tableOf_19 (by decide) ?_
      refine ac_weak [1, 2, 3, 0] rfl ?_
      exact ih v3 f h

set_option maxRecDepth 20000 in
set_option maxHeartbeats 4000000 in
theorem c_X9_tableOf (l : Launch) (D : va_G) (ki : Nat → ClassId) (r0 : Nat) (x1 : Int32) (x2 : Int32) (f : ac_hp) (Q : Int32 → ac_hp → Prop) (h : wp_X9_tableOf ki r0 x1 x2 f Q) : ac_met l D ki y_X9_tableOf prog_11_method_21_code 4 (some .int) (ro_ 1 0 0) [.ref r0, .int x1, .int x2] f (qr_I Q) 0 0 := by
  refine ac_enter (fun ki => wp_X9_tableOf ki r0 x1 x2 f Q) (by decide) (Nat.le_of_ble_eq_true rfl) h ?_
  intro x hro hR hnm h
  unfold wp_X9_tableOf at h
  refine ac_iconst (v := 0) d_X9_tableOf_0 rfl ?_
  refine ac_istore_n (lv' := [(3, .int 0), (0, .ref r0), (1, .int x1), (2, .int x2)]) d_X9_tableOf_1 rfl (by decide) rfl ?_
  obtain ⟨n4, h⟩ := h
  refine ac_weak [1, 2, 3, 0] rfl ?_
  refine ok_X9_tableOf_L2 hro r0 x1 x2 _ (fun y5 f6 h => ?_) n4 0 f h
  · skip
    refine ac_aload_n 0 d_X9_tableOf_22 rfl rfl ?_
    obtain ⟨o7, hr, h⟩ := h
    refine ak_getf hr fl_X9_20 d_X9_tableOf_23 ?_
    refine ac_aload_n 0 d_X9_tableOf_26 rfl rfl ?_
    obtain ⟨o8, hr, h⟩ := h
    refine ak_getf hr fl_X9_47 d_X9_tableOf_27 ?_
    refine ac_iconst (v := 4) d_X9_tableOf_30 rfl ?_
    refine ac_iload_n 1 d_X9_tableOf_31 rfl rfl ?_
    refine ac_imul d_X9_tableOf_32 ?_
    refine ac_iload_n 2 d_X9_tableOf_33 rfl rfl ?_
    refine ac_iadd d_X9_tableOf_34 ?_
    obtain ⟨v9, hr, h⟩ := h
    refine ak_iald 0 hr rfl d_X9_tableOf_35 ?_
    obtain ⟨v10, hr, h⟩ := h
    refine ak_iald 0 hr rfl d_X9_tableOf_36 ?_
    exact ac_ireturn hR rfl ⟨_, rfl, h⟩ (by decide) (by decide) d_X9_tableOf_37

def wp_X9_agree_L2 (ki : Nat → ClassId) (r0 : Nat) (x1 : Int32) (x2 : Int32) (E21 : ac_hp → Prop) : Nat → Int32 → ac_hp → Prop
  | 0, _, _ => False
  | n + 1, x3, f => ((6 ≤ x3 → E21  f) ∧ (¬ 6 ≤ x3 → ∃ o1 : Nat, hr_f f r0 9 21 (.ref o1) ∧ ∃ f2 : ac_hp, hw_i (ki 0) f o1 x3 (-1) f2 ∧ ∀ v3 : Int32, v3 = x3 + 1 → wp_X9_agree_L2 ki r0 x1 x2 E21 n v3 f2))

def wp_X9_agree_L55 (ki : Nat → ClassId) (r0 : Nat) (x1 : Int32) (x2 : Int32) (x4 : Int32) (x5 : Int32) (E216 : Int32 → ac_hp → Prop) : Nat → Int32 → Int32 → ac_hp → Prop
  | 0, _, _, _ => False
  | n + 1, x3, x6, f => ((2 ≤ x6 → E216 x3 f) ∧ (¬ 2 ≤ x6 → ((x2 < x5 → E216 x3 f) ∧ (¬ x2 < x5 → ∃ o9 : Nat, hr_f f r0 9 17 (.ref o9) ∧ ∃ v10 : Int32, hr_i (ki 0) f o9 ((4 * x1) + x4) v10 ∧ ∃ o11 : Nat, hr_f f r0 9 1 (.ref o11) ∧ ∃ o12 : Nat, hr_f f r0 9 5 (.ref o12) ∧ ∃ v13 : Int32, hr_i (ki 0) f o12 v10 v13 ∧ ∃ o14 : Nat, hr_f f r0 9 20 (.ref o14) ∧ ∃ v15 : Int32, hr_i (ki 0) f o14 x5 v15 ∧ ∃ o16 : Nat, hr_f f r0 9 8 (.ref o16) ∧ ∃ v17 : Int32, hr_i (ki 0) f o16 ((2 * v10) + x6) v17 ∧ ∃ v18 : Int32, hr_i (ki 0) f o11 (((60 * v13) + (3 * v15)) + v17) v18 ∧ ∃ o19 : Nat, hr_f f r0 9 11 (.ref o19) ∧ ∃ v20 : Int32, hr_i (ki 0) f o19 ((2 * x4) + x6) v20 ∧ ((v20 < 0 → ∀ v21 : Int32, v21 = (-1) - v20 → ((x3 = 0 → ∃ o22 : Nat, hr_f f r0 9 21 (.ref o22) ∧ ∃ f23 : ac_hp, hw_i (ki 0) f o22 v21 v18 f23 ∧ ∀ v24 : Int32, v24 = x6 + 1 → wp_X9_agree_L55 ki r0 x1 x2 x4 x5 E216 n 0 v24 f23) ∧ (¬ x3 = 0 → ∃ o25 : Nat, hr_f f r0 9 21 (.ref o25) ∧ ∃ v26 : Int32, hr_i (ki 0) f o25 v21 v26 ∧ ((v26 < 0 → ∃ o27 : Nat, hr_f f r0 9 21 (.ref o27) ∧ ∃ f28 : ac_hp, hw_i (ki 0) f o27 v21 v18 f28 ∧ ∀ v29 : Int32, v29 = x6 + 1 → wp_X9_agree_L55 ki r0 x1 x2 x4 x5 E216 n 1 v29 f28) ∧ (¬ v26 < 0 → ∃ o30 : Nat, hr_f f r0 9 21 (.ref o30) ∧ ∃ v31 : Int32, hr_i (ki 0) f o30 v21 v31 ∧ ((¬ v31 = v18 → ∃ o32 : Nat, hr_f f r0 9 21 (.ref o32) ∧ ∃ f33 : ac_hp, hw_i (ki 0) f o32 v21 v18 f33 ∧ ∀ v34 : Int32, v34 = x6 + 1 → wp_X9_agree_L55 ki r0 x1 x2 x4 x5 E216 n 0 v34 f33) ∧ (v31 = v18 → ∃ o35 : Nat, hr_f f r0 9 21 (.ref o35) ∧ ∃ f36 : ac_hp, hw_i (ki 0) f o35 v21 v18 f36 ∧ ∀ v37 : Int32, v37 = x6 + 1 → wp_X9_agree_L55 ki r0 x1 x2 x4 x5 E216 n 1 v37 f36))))))) ∧ (¬ v20 < 0 → ((x3 = 0 → ∀ v38 : Int32, v38 = x6 + 1 → wp_X9_agree_L55 ki r0 x1 x2 x4 x5 E216 n 0 v38 f) ∧ (¬ x3 = 0 → ((¬ (v20 - v20 / 10000 * 10000) = v18 → ∀ v39 : Int32, v39 = x6 + 1 → wp_X9_agree_L55 ki r0 x1 x2 x4 x5 E216 n 0 v39 f) ∧ ((v20 - v20 / 10000 * 10000) = v18 → ∀ v40 : Int32, v40 = x6 + 1 → wp_X9_agree_L55 ki r0 x1 x2 x4 x5 E216 n 1 v40 f))))))))))

def wp_X9_agree_L26 (ki : Nat → ClassId) (r0 : Nat) (x1 : Int32) (x2 : Int32) (E222 : Int32 → ac_hp → Prop) : Nat → Int32 → Int32 → ac_hp → Prop
  | 0, _, _, _ => False
  | n + 1, x3, x4, f => ∃ v6 : Int32, hr_f f r0 9 9 (.int v6) ∧ ((v6 ≤ x4 → E222 x3 f) ∧ (¬ v6 ≤ x4 → ((x3 = 0 → E222 x3 f) ∧ (¬ x3 = 0 → ∃ o7 : Nat, hr_f f r0 9 18 (.ref o7) ∧ ∃ v8 : Int32, hr_i (ki 0) f o7 ((4 * x1) + x4) v8 ∧ ∃ n41 : Nat, wp_X9_agree_L55 ki r0 x1 x2 x4 v8 (fun y42 f43 => ∀ v44 : Int32, v44 = x4 + 1 → wp_X9_agree_L26 ki r0 x1 x2 E222 n y42 v44 f43) n41 x3 0 f))))

def wp_X9_agree_L225 (ki : Nat → ClassId) (r0 : Nat) (E293 : Int32 → ac_hp → Prop) : Nat → Int32 → Int32 → ac_hp → Prop
  | 0, _, _, _ => False
  | n + 1, x3, x4, f => ∃ v48 : Int32, hr_f f r0 9 12 (.int v48) ∧ ((v48 ≤ x4 → E293 x3 f) ∧ (¬ v48 ≤ x4 → ∃ o49 : Nat, hr_f f r0 9 21 (.ref o49) ∧ ∃ o50 : Nat, hr_f f r0 9 13 (.ref o50) ∧ ∃ v51 : Int32, hr_i (ki 0) f o50 x4 v51 ∧ ∃ v52 : Int32, hr_i (ki 0) f o49 v51 v52 ∧ ((x3 = 0 → ∀ v53 : Int32, v53 = x4 + 1 → wp_X9_agree_L225 ki r0 E293 n 0 v53 f) ∧ (¬ x3 = 0 → ((v52 < 0 → ∀ v54 : Int32, v54 = x4 + 1 → wp_X9_agree_L225 ki r0 E293 n 1 v54 f) ∧ (¬ v52 < 0 → ∃ o55 : Nat, hr_f f r0 9 14 (.ref o55) ∧ ∃ v56 : Int32, hr_i (ki 0) f o55 x4 v56 ∧ ((v52 < v56 → ∀ v57 : Int32, v57 = x4 + 1 → wp_X9_agree_L225 ki r0 E293 n 0 v57 f) ∧ (¬ v52 < v56 → ∃ o58 : Nat, hr_f f r0 9 15 (.ref o58) ∧ ∃ v59 : Int32, hr_i (ki 0) f o58 x4 v59 ∧ ((v59 < v52 → ∀ v60 : Int32, v60 = x4 + 1 → wp_X9_agree_L225 ki r0 E293 n 0 v60 f) ∧ (¬ v59 < v52 → ∀ v61 : Int32, v61 = x4 + 1 → wp_X9_agree_L225 ki r0 E293 n 1 v61 f))))))))))

def wp_X9_agree (ki : Nat → ClassId) (r0 : Nat) (x1 : Int32) (x2 : Int32) (f : ac_hp) (Q : Int32 → ac_hp → Prop) : Prop := ∃ n4 : Nat, wp_X9_agree_L2 ki r0 x1 x2 (fun f5 => ∃ n45 : Nat, wp_X9_agree_L26 ki r0 x1 x2 (fun y46 f47 => ∃ n62 : Nat, wp_X9_agree_L225 ki r0 (fun y63 f64 => narrow .boolean (.int y63) = .int y63 ∧ Q y63 f64) n62 y46 0 f47) n45 1 0 f5) n4 0 f

set_option maxRecDepth 20000 in
set_option maxHeartbeats 4000000 in
theorem ok_X9_agree_L2 {x : ac_X} (hro : ac_R x = (ro_ 1 0 0)) (r0 : Nat) (x1 : Int32) (x2 : Int32) (E21 : ac_hp → Prop) (hE21 : ∀ (f : ac_hp), E21 f → ac_At (prog_11_method_23_code, 11, "VirtualRewriteModel") x 0 0 21 [(0, .ref r0), (1, .int x1), (2, .int x2)] [] f) : ∀ (n : Nat) (x3 : Int32) (f : ac_hp), wp_X9_agree_L2 (ac_ki x) r0 x1 x2 E21 n x3 f → ac_At (prog_11_method_23_code, 11, "VirtualRewriteModel") x 0 0 2 [(0, .ref r0), (1, .int x1), (2, .int x2), (3, .int x3)] [] f := by
  intro n
  induction n with
  | zero => intro _ _ h; exact h.elim
  | succ n ih =>
    intro x3 f h
    rw [wp_X9_agree_L2] at h
    refine ac_iload_n 3 d_X9_agree_2 rfl rfl ?_
    refine ac_bipush (v := 6) d_X9_agree_3 rfl ?_
    refine ac_icmp_ge (tgt := 21) d_X9_agree_5 (by decide) (fun hc => ?_) (fun hc => ?_)
    · have h := h.1 hc
      refine ac_weak [0, 1, 2] rfl ?_
      exact hE21  f h
    · have h := h.2 hc
      refine ac_aload_n 0 d_X9_agree_8 rfl rfl ?_
      obtain ⟨o1, hr, h⟩ := h
      refine ak_getf hr fl_X9_59 d_X9_agree_9 ?_
      refine ac_iload_n 3 d_X9_agree_12 rfl rfl ?_
      refine ac_iconst (v := -1) d_X9_agree_13 rfl ?_
      obtain ⟨f2, hr, h⟩ := h
      refine ak_iast 0 hr rfl d_X9_agree_14 ?_
      obtain ⟨v3, ev3⟩ : ∃ y : Int32, y = x3 + 1 := ⟨_, rfl⟩
      have h := h v3 ev3
      refine ac_iinc (j := 3) (lv' := [(3, .int v3), (0, .ref r0), (1, .int x1), (2, .int x2)]) d_X9_agree_15 rfl (by rw [ev3]; rfl) (by decide) rfl ?_
      refine ac_goto (tgt := 2) d_X9_agree_18 (by decide) ?_
      refine ac_weak [1, 2, 3, 0] rfl ?_
      exact ih v3 f2 h

set_option maxRecDepth 20000 in
set_option maxHeartbeats 4000000 in
theorem ok_X9_agree_L55 {x : ac_X} (hro : ac_R x = (ro_ 1 0 0)) (r0 : Nat) (x1 : Int32) (x2 : Int32) (x4 : Int32) (x5 : Int32) (E216 : Int32 → ac_hp → Prop) (hE216 : ∀ (y3 : Int32) (f : ac_hp), E216 y3 f → ac_At (prog_11_method_23_code, 11, "VirtualRewriteModel") x 0 0 216 [(0, .ref r0), (1, .int x1), (2, .int x2), (3, .int y3), (4, .int x4)] [] f) : ∀ (n : Nat) (x3 : Int32) (x6 : Int32) (f : ac_hp), wp_X9_agree_L55 (ac_ki x) r0 x1 x2 x4 x5 E216 n x3 x6 f → ac_At (prog_11_method_23_code, 11, "VirtualRewriteModel") x 0 0 55 [(0, .ref r0), (1, .int x1), (2, .int x2), (3, .int x3), (4, .int x4), (5, .int x5), (6, .int x6)] [] f := by
  intro n
  induction n with
  | zero => intro _ _ _ h; exact h.elim
  | succ n ih =>
    intro x3 x6 f h
    rw [wp_X9_agree_L55] at h
    refine ac_iload 6 d_X9_agree_55 rfl ?_
    refine ac_iconst (v := 2) d_X9_agree_57 rfl ?_
    refine ac_icmp_ge (tgt := 216) d_X9_agree_58 (by decide) (fun hc => ?_) (fun hc => ?_)
    · have h := h.1 hc
      refine ac_weak [0, 1, 2, 3, 4] rfl ?_
      exact hE216 x3 f h
    · have h := h.2 hc
      refine ac_iload 5 d_X9_agree_61 rfl ?_
      refine ac_iload_n 2 d_X9_agree_63 rfl rfl ?_
      refine ac_icmp_gt (tgt := 216) d_X9_agree_64 (by decide) (fun hc => ?_) (fun hc => ?_)
      · have h := h.1 hc
        refine ac_weak [0, 1, 2, 3, 4] rfl ?_
        exact hE216 x3 f h
      · have h := h.2 hc
        refine ac_aload_n 0 d_X9_agree_67 rfl rfl ?_
        obtain ⟨o9, hr, h⟩ := h
        refine ak_getf hr fl_X9_47 d_X9_agree_68 ?_
        refine ac_iconst (v := 4) d_X9_agree_71 rfl ?_
        refine ac_iload_n 1 d_X9_agree_72 rfl rfl ?_
        refine ac_imul d_X9_agree_73 ?_
        refine ac_iload 4 d_X9_agree_74 rfl ?_
        refine ac_iadd d_X9_agree_76 ?_
        obtain ⟨v10, hr, h⟩ := h
        refine ak_iald 0 hr rfl d_X9_agree_77 ?_
        refine ac_istore (lv' := [(7, .int v10), (0, .ref r0), (1, .int x1), (2, .int x2), (3, .int x3), (4, .int x4), (5, .int x5), (6, .int x6)]) d_X9_agree_78 (by decide) rfl ?_
        refine ac_aload_n 1 d_X9_agree_80 rfl rfl ?_
        obtain ⟨o11, hr, h⟩ := h
        refine ak_getf hr fl_X9_7 d_X9_agree_81 ?_
        refine ac_bipush (v := 60) d_X9_agree_84 rfl ?_
        refine ac_aload_n 1 d_X9_agree_86 rfl rfl ?_
        obtain ⟨o12, hr, h⟩ := h
        refine ak_getf hr fl_X9_20 d_X9_agree_87 ?_
        refine ac_iload 0 d_X9_agree_90 rfl ?_
        obtain ⟨v13, hr, h⟩ := h
        refine ak_iald 0 hr rfl d_X9_agree_92 ?_
        refine ac_imul d_X9_agree_93 ?_
        refine ac_iconst (v := 3) d_X9_agree_94 rfl ?_
        refine ac_aload_n 1 d_X9_agree_95 rfl rfl ?_
        obtain ⟨o14, hr, h⟩ := h
        refine ak_getf hr fl_X9_56 d_X9_agree_96 ?_
        refine ac_iload 6 d_X9_agree_99 rfl ?_
        obtain ⟨v15, hr, h⟩ := h
        refine ak_iald 0 hr rfl d_X9_agree_101 ?_
        refine ac_imul d_X9_agree_102 ?_
        refine ac_iadd d_X9_agree_103 ?_
        refine ac_aload_n 1 d_X9_agree_104 rfl rfl ?_
        obtain ⟨o16, hr, h⟩ := h
        refine ak_getf hr fl_X9_29 d_X9_agree_105 ?_
        refine ac_iconst (v := 2) d_X9_agree_108 rfl ?_
        refine ac_iload 0 d_X9_agree_109 rfl ?_
        refine ac_imul d_X9_agree_111 ?_
        refine ac_iload 7 d_X9_agree_112 rfl ?_
        refine ac_iadd d_X9_agree_114 ?_
        obtain ⟨v17, hr, h⟩ := h
        refine ak_iald 0 hr rfl d_X9_agree_115 ?_
        refine ac_iadd d_X9_agree_116 ?_
        obtain ⟨v18, hr, h⟩ := h
        refine ak_iald 0 hr rfl d_X9_agree_117 ?_
        refine ac_istore (lv' := [(8, .int v18), (7, .int v10), (0, .ref r0), (1, .int x1), (2, .int x2), (3, .int x3), (4, .int x4), (5, .int x5), (6, .int x6)]) d_X9_agree_118 (by decide) rfl ?_
        refine ac_aload_n 2 d_X9_agree_120 rfl rfl ?_
        obtain ⟨o19, hr, h⟩ := h
        refine ak_getf hr fl_X9_35 d_X9_agree_121 ?_
        refine ac_iconst (v := 2) d_X9_agree_124 rfl ?_
        refine ac_iload 6 d_X9_agree_125 rfl ?_
        refine ac_imul d_X9_agree_127 ?_
        refine ac_iload 8 d_X9_agree_128 rfl ?_
        refine ac_iadd d_X9_agree_130 ?_
        obtain ⟨v20, hr, h⟩ := h
        refine ak_iald 0 hr rfl d_X9_agree_131 ?_
        refine ac_istore (lv' := [(9, .int v20), (8, .int v18), (7, .int v10), (0, .ref r0), (1, .int x1), (2, .int x2), (3, .int x3), (4, .int x4), (5, .int x5), (6, .int x6)]) d_X9_agree_132 (by decide) rfl ?_
        refine ac_iload 0 d_X9_agree_134 rfl ?_
        refine ac_if_lt (tgt := 163) d_X9_agree_136 (by decide) (fun hc => ?_) (fun hc => ?_)
        · have h := h.1 hc
          refine ac_iconst (v := -1) d_X9_agree_163 rfl ?_
          refine ac_iload 0 d_X9_agree_164 rfl ?_
          refine ac_isub d_X9_agree_166 ?_
          refine ak_topi (fun v21 ev21 => ?_)
          have h := h v21 ev21
          refine ac_istore (lv' := [(10, .int v21), (9, .int v20), (8, .int v18), (7, .int v10), (0, .ref r0), (1, .int x1), (2, .int x2), (3, .int x3), (4, .int x4), (5, .int x5), (6, .int x6)]) d_X9_agree_167 (by decide) rfl ?_
          refine ac_iload_n 7 d_X9_agree_169 rfl rfl ?_
          refine ac_if_eq (tgt := 199) d_X9_agree_170 (by decide) (fun hc => ?_) (fun hc => ?_)
          · have h := h.1 hc
            refine ac_iconst (v := 0) d_X9_agree_199 rfl ?_
            refine ac_istore_n (lv' := [(3, .int 0), (10, .int v21), (9, .int v20), (8, .int v18), (7, .int v10), (0, .ref r0), (1, .int x1), (2, .int x2), (4, .int x4), (5, .int x5), (6, .int x6)]) d_X9_agree_200 rfl (by decide) rfl ?_
            refine ac_aload_n 5 d_X9_agree_201 rfl rfl ?_
            obtain ⟨o22, hr, h⟩ := h
            refine ak_getf hr fl_X9_59 d_X9_agree_202 ?_
            refine ac_iload 1 d_X9_agree_205 rfl ?_
            refine ac_iload 3 d_X9_agree_207 rfl ?_
            obtain ⟨f23, hr, h⟩ := h
            refine ak_iast 0 hr rfl d_X9_agree_209 ?_
            obtain ⟨v24, ev24⟩ : ∃ y : Int32, y = x6 + 1 := ⟨_, rfl⟩
            have h := h v24 ev24
            refine ac_iinc (j := 10) (lv' := [(6, .int v24), (3, .int 0), (10, .int v21), (9, .int v20), (8, .int v18), (7, .int v10), (0, .ref r0), (1, .int x1), (2, .int x2), (4, .int x4), (5, .int x5)]) d_X9_agree_210 rfl (by rw [ev24]; rfl) (by decide) rfl ?_
            refine ac_goto (tgt := 55) d_X9_agree_213 (by decide) ?_
            refine ac_weak [6, 7, 8, 1, 9, 10, 0] rfl ?_
            exact ih 0 v24 f23 h
          · have h := h.2 hc
            refine ac_aload_n 4 d_X9_agree_173 rfl rfl ?_
            obtain ⟨o25, hr, h⟩ := h
            refine ak_getf hr fl_X9_59 d_X9_agree_174 ?_
            refine ac_iload 0 d_X9_agree_177 rfl ?_
            obtain ⟨v26, hr, h⟩ := h
            refine ak_iald 0 hr rfl d_X9_agree_179 ?_
            refine ac_if_lt (tgt := 195) d_X9_agree_180 (by decide) (fun hc => ?_) (fun hc => ?_)
            · have h := h.1 hc
              refine ac_iconst (v := 1) d_X9_agree_195 rfl ?_
              refine ac_goto (tgt := 200) d_X9_agree_196 (by decide) ?_
              refine ac_istore_n (lv' := [(3, .int 1), (10, .int v21), (9, .int v20), (8, .int v18), (7, .int v10), (0, .ref r0), (1, .int x1), (2, .int x2), (4, .int x4), (5, .int x5), (6, .int x6)]) d_X9_agree_200 rfl (by decide) rfl ?_
              refine ac_aload_n 5 d_X9_agree_201 rfl rfl ?_
              obtain ⟨o27, hr, h⟩ := h
              refine ak_getf hr fl_X9_59 d_X9_agree_202 ?_
              refine ac_iload 1 d_X9_agree_205 rfl ?_
              refine ac_iload 3 d_X9_agree_207 rfl ?_
              obtain ⟨f28, hr, h⟩ := h
              refine ak_iast 0 hr rfl d_X9_agree_209 ?_
              obtain ⟨v29, ev29⟩ : ∃ y : Int32, y = x6 + 1 := ⟨_, rfl⟩
              have h := h v29 ev29
              refine ac_iinc (j := 10) (lv' := [(6, .int v29), (3, .int 1), (10, .int v21), (9, .int v20), (8, .int v18), (7, .int v10), (0, .ref r0), (1, .int x1), (2, .int x2), (4, .int x4), (5, .int x5)]) d_X9_agree_210 rfl (by rw [ev29]; rfl) (by decide) rfl ?_
              refine ac_goto (tgt := 55) d_X9_agree_213 (by decide) ?_
              refine ac_weak [6, 7, 8, 1, 9, 10, 0] rfl ?_
              exact ih 1 v29 f28 h
            · have h := h.2 hc
              refine ac_aload_n 4 d_X9_agree_183 rfl rfl ?_
              obtain ⟨o30, hr, h⟩ := h
              refine ak_getf hr fl_X9_59 d_X9_agree_184 ?_
              refine ac_iload 0 d_X9_agree_187 rfl ?_
              obtain ⟨v31, hr, h⟩ := h
              refine ak_iald 0 hr rfl d_X9_agree_189 ?_
              refine ac_iload 2 d_X9_agree_190 rfl ?_
              refine ac_icmp_ne (tgt := 199) d_X9_agree_192 (by decide) (fun hc => ?_) (fun hc => ?_)
              · have h := h.1 hc
                refine ac_iconst (v := 0) d_X9_agree_199 rfl ?_
                refine ac_istore_n (lv' := [(3, .int 0), (10, .int v21), (9, .int v20), (8, .int v18), (7, .int v10), (0, .ref r0), (1, .int x1), (2, .int x2), (4, .int x4), (5, .int x5), (6, .int x6)]) d_X9_agree_200 rfl (by decide) rfl ?_
                refine ac_aload_n 5 d_X9_agree_201 rfl rfl ?_
                obtain ⟨o32, hr, h⟩ := h
                refine ak_getf hr fl_X9_59 d_X9_agree_202 ?_
                refine ac_iload 1 d_X9_agree_205 rfl ?_
                refine ac_iload 3 d_X9_agree_207 rfl ?_
                obtain ⟨f33, hr, h⟩ := h
                refine ak_iast 0 hr rfl d_X9_agree_209 ?_
                obtain ⟨v34, ev34⟩ : ∃ y : Int32, y = x6 + 1 := ⟨_, rfl⟩
                have h := h v34 ev34
                refine ac_iinc (j := 10) (lv' := [(6, .int v34), (3, .int 0), (10, .int v21), (9, .int v20), (8, .int v18), (7, .int v10), (0, .ref r0), (1, .int x1), (2, .int x2), (4, .int x4), (5, .int x5)]) d_X9_agree_210 rfl (by rw [ev34]; rfl) (by decide) rfl ?_
                refine ac_goto (tgt := 55) d_X9_agree_213 (by decide) ?_
                refine ac_weak [6, 7, 8, 1, 9, 10, 0] rfl ?_
                exact ih 0 v34 f33 h
              · have h := h.2 hc
                refine ac_iconst (v := 1) d_X9_agree_195 rfl ?_
                refine ac_goto (tgt := 200) d_X9_agree_196 (by decide) ?_
                refine ac_istore_n (lv' := [(3, .int 1), (10, .int v21), (9, .int v20), (8, .int v18), (7, .int v10), (0, .ref r0), (1, .int x1), (2, .int x2), (4, .int x4), (5, .int x5), (6, .int x6)]) d_X9_agree_200 rfl (by decide) rfl ?_
                refine ac_aload_n 5 d_X9_agree_201 rfl rfl ?_
                obtain ⟨o35, hr, h⟩ := h
                refine ak_getf hr fl_X9_59 d_X9_agree_202 ?_
                refine ac_iload 1 d_X9_agree_205 rfl ?_
                refine ac_iload 3 d_X9_agree_207 rfl ?_
                obtain ⟨f36, hr, h⟩ := h
                refine ak_iast 0 hr rfl d_X9_agree_209 ?_
                obtain ⟨v37, ev37⟩ : ∃ y : Int32, y = x6 + 1 := ⟨_, rfl⟩
                have h := h v37 ev37
                refine ac_iinc (j := 10) (lv' := [(6, .int v37), (3, .int 1), (10, .int v21), (9, .int v20), (8, .int v18), (7, .int v10), (0, .ref r0), (1, .int x1), (2, .int x2), (4, .int x4), (5, .int x5)]) d_X9_agree_210 rfl (by rw [ev37]; rfl) (by decide) rfl ?_
                refine ac_goto (tgt := 55) d_X9_agree_213 (by decide) ?_
                refine ac_weak [6, 7, 8, 1, 9, 10, 0] rfl ?_
                exact ih 1 v37 f36 h
        · have h := h.2 hc
          refine ac_iload_n 6 d_X9_agree_139 rfl rfl ?_
          refine ac_if_eq (tgt := 158) d_X9_agree_140 (by decide) (fun hc => ?_) (fun hc => ?_)
          · have h := h.1 hc
            refine ac_iconst (v := 0) d_X9_agree_158 rfl ?_
            refine ac_istore_n (lv' := [(3, .int 0), (9, .int v20), (8, .int v18), (7, .int v10), (0, .ref r0), (1, .int x1), (2, .int x2), (4, .int x4), (5, .int x5), (6, .int x6)]) d_X9_agree_159 rfl (by decide) rfl ?_
            refine ac_goto (tgt := 210) d_X9_agree_160 (by decide) ?_
            obtain ⟨v38, ev38⟩ : ∃ y : Int32, y = x6 + 1 := ⟨_, rfl⟩
            have h := h v38 ev38
            refine ac_iinc (j := 9) (lv' := [(6, .int v38), (3, .int 0), (9, .int v20), (8, .int v18), (7, .int v10), (0, .ref r0), (1, .int x1), (2, .int x2), (4, .int x4), (5, .int x5)]) d_X9_agree_210 rfl (by rw [ev38]; rfl) (by decide) rfl ?_
            refine ac_goto (tgt := 55) d_X9_agree_213 (by decide) ?_
            refine ac_weak [5, 6, 7, 1, 8, 9, 0] rfl ?_
            exact ih 0 v38 f h
          · have h := h.2 hc
            refine ac_iload 0 d_X9_agree_143 rfl ?_
            refine ac_sipush (v := 10000) d_X9_agree_145 rfl ?_
            refine ac_irem d_X9_agree_148 (by decide) ?_
            refine ac_iload 1 d_X9_agree_149 rfl ?_
            refine ac_icmp_ne (tgt := 158) d_X9_agree_151 (by decide) (fun hc => ?_) (fun hc => ?_)
            · have h := h.1 hc
              refine ac_iconst (v := 0) d_X9_agree_158 rfl ?_
              refine ac_istore_n (lv' := [(3, .int 0), (9, .int v20), (8, .int v18), (7, .int v10), (0, .ref r0), (1, .int x1), (2, .int x2), (4, .int x4), (5, .int x5), (6, .int x6)]) d_X9_agree_159 rfl (by decide) rfl ?_
              refine ac_goto (tgt := 210) d_X9_agree_160 (by decide) ?_
              obtain ⟨v39, ev39⟩ : ∃ y : Int32, y = x6 + 1 := ⟨_, rfl⟩
              have h := h v39 ev39
              refine ac_iinc (j := 9) (lv' := [(6, .int v39), (3, .int 0), (9, .int v20), (8, .int v18), (7, .int v10), (0, .ref r0), (1, .int x1), (2, .int x2), (4, .int x4), (5, .int x5)]) d_X9_agree_210 rfl (by rw [ev39]; rfl) (by decide) rfl ?_
              refine ac_goto (tgt := 55) d_X9_agree_213 (by decide) ?_
              refine ac_weak [5, 6, 7, 1, 8, 9, 0] rfl ?_
              exact ih 0 v39 f h
            · have h := h.2 hc
              refine ac_iconst (v := 1) d_X9_agree_154 rfl ?_
              refine ac_goto (tgt := 159) d_X9_agree_155 (by decide) ?_
              refine ac_istore_n (lv' := [(3, .int 1), (9, .int v20), (8, .int v18), (7, .int v10), (0, .ref r0), (1, .int x1), (2, .int x2), (4, .int x4), (5, .int x5), (6, .int x6)]) d_X9_agree_159 rfl (by decide) rfl ?_
              refine ac_goto (tgt := 210) d_X9_agree_160 (by decide) ?_
              obtain ⟨v40, ev40⟩ : ∃ y : Int32, y = x6 + 1 := ⟨_, rfl⟩
              have h := h v40 ev40
              refine ac_iinc (j := 9) (lv' := [(6, .int v40), (3, .int 1), (9, .int v20), (8, .int v18), (7, .int v10), (0, .ref r0), (1, .int x1), (2, .int x2), (4, .int x4), (5, .int x5)]) d_X9_agree_210 rfl (by rw [ev40]; rfl) (by decide) rfl ?_
              refine ac_goto (tgt := 55) d_X9_agree_213 (by decide) ?_
              refine ac_weak [5, 6, 7, 1, 8, 9, 0] rfl ?_
              exact ih 1 v40 f h

set_option maxRecDepth 20000 in
set_option maxHeartbeats 4000000 in
theorem ok_X9_agree_L26 {x : ac_X} (hro : ac_R x = (ro_ 1 0 0)) (r0 : Nat) (x1 : Int32) (x2 : Int32) (E222 : Int32 → ac_hp → Prop) (hE222 : ∀ (y3 : Int32) (f : ac_hp), E222 y3 f → ac_At (prog_11_method_23_code, 11, "VirtualRewriteModel") x 0 0 222 [(0, .ref r0), (3, .int y3)] [] f) : ∀ (n : Nat) (x3 : Int32) (x4 : Int32) (f : ac_hp), wp_X9_agree_L26 (ac_ki x) r0 x1 x2 E222 n x3 x4 f → ac_At (prog_11_method_23_code, 11, "VirtualRewriteModel") x 0 0 26 [(0, .ref r0), (1, .int x1), (2, .int x2), (3, .int x3), (4, .int x4)] [] f := by
  intro n
  induction n with
  | zero => intro _ _ _ h; exact h.elim
  | succ n ih =>
    intro x3 x4 f h
    rw [wp_X9_agree_L26] at h
    refine ac_iload 4 d_X9_agree_26 rfl ?_
    refine ac_aload_n 0 d_X9_agree_28 rfl rfl ?_
    obtain ⟨v6, hr, h⟩ := h
    refine ak_getf hr fl_X9_103 d_X9_agree_29 ?_
    refine ac_icmp_ge (tgt := 222) d_X9_agree_32 (by decide) (fun hc => ?_) (fun hc => ?_)
    · have h := h.1 hc
      refine ac_weak [0, 3] rfl ?_
      exact hE222 x3 f h
    · have h := h.2 hc
      refine ac_iload_n 3 d_X9_agree_35 rfl rfl ?_
      refine ac_if_eq (tgt := 222) d_X9_agree_36 (by decide) (fun hc => ?_) (fun hc => ?_)
      · have h := h.1 hc
        refine ac_weak [0, 3] rfl ?_
        exact hE222 x3 f h
      · have h := h.2 hc
        refine ac_aload_n 0 d_X9_agree_39 rfl rfl ?_
        obtain ⟨o7, hr, h⟩ := h
        refine ak_getf hr fl_X9_50 d_X9_agree_40 ?_
        refine ac_iconst (v := 4) d_X9_agree_43 rfl ?_
        refine ac_iload_n 1 d_X9_agree_44 rfl rfl ?_
        refine ac_imul d_X9_agree_45 ?_
        refine ac_iload 4 d_X9_agree_46 rfl ?_
        refine ac_iadd d_X9_agree_48 ?_
        obtain ⟨v8, hr, h⟩ := h
        refine ak_iald 0 hr rfl d_X9_agree_49 ?_
        refine ac_istore (lv' := [(5, .int v8), (0, .ref r0), (1, .int x1), (2, .int x2), (3, .int x3), (4, .int x4)]) d_X9_agree_50 (by decide) rfl ?_
        refine ac_iconst (v := 0) d_X9_agree_52 rfl ?_
        refine ac_istore (lv' := [(6, .int 0), (5, .int v8), (0, .ref r0), (1, .int x1), (2, .int x2), (3, .int x3), (4, .int x4)]) d_X9_agree_53 (by decide) rfl ?_
        obtain ⟨n41, h⟩ := h
        refine ac_weak [2, 3, 4, 5, 6, 1, 0] rfl ?_
        refine ok_X9_agree_L55 hro r0 x1 x2 x4 v8 _ (fun y42 f43 h => ?_) n41 x3 0 f h
        · skip
          obtain ⟨v44, ev44⟩ : ∃ y : Int32, y = x4 + 1 := ⟨_, rfl⟩
          have h := h v44 ev44
          refine ac_iinc (j := 4) (lv' := [(4, .int v44), (0, .ref r0), (1, .int x1), (2, .int x2), (3, .int y42)]) d_X9_agree_216 rfl (by rw [ev44]; rfl) (by decide) rfl ?_
          refine ac_goto (tgt := 26) d_X9_agree_219 (by decide) ?_
          refine ac_weak [1, 2, 3, 4, 0] rfl ?_
          exact ih y42 v44 f43 h

set_option maxRecDepth 20000 in
set_option maxHeartbeats 4000000 in
theorem ok_X9_agree_L225 {x : ac_X} (hro : ac_R x = (ro_ 1 0 0)) (r0 : Nat) (E293 : Int32 → ac_hp → Prop) (hE293 : ∀ (y3 : Int32) (f : ac_hp), E293 y3 f → ac_At (prog_11_method_23_code, 11, "VirtualRewriteModel") x 0 0 293 [(3, .int y3)] [] f) : ∀ (n : Nat) (x3 : Int32) (x4 : Int32) (f : ac_hp), wp_X9_agree_L225 (ac_ki x) r0 E293 n x3 x4 f → ac_At (prog_11_method_23_code, 11, "VirtualRewriteModel") x 0 0 225 [(0, .ref r0), (3, .int x3), (4, .int x4)] [] f := by
  intro n
  induction n with
  | zero => intro _ _ _ h; exact h.elim
  | succ n ih =>
    intro x3 x4 f h
    rw [wp_X9_agree_L225] at h
    refine ac_iload 2 d_X9_agree_225 rfl ?_
    refine ac_aload_n 0 d_X9_agree_227 rfl rfl ?_
    obtain ⟨v48, hr, h⟩ := h
    refine ak_getf hr fl_X9_106 d_X9_agree_228 ?_
    refine ac_icmp_ge (tgt := 293) d_X9_agree_231 (by decide) (fun hc => ?_) (fun hc => ?_)
    · have h := h.1 hc
      refine ac_weak [1] rfl ?_
      exact hE293 x3 f h
    · have h := h.2 hc
      refine ac_aload_n 0 d_X9_agree_234 rfl rfl ?_
      obtain ⟨o49, hr, h⟩ := h
      refine ak_getf hr fl_X9_59 d_X9_agree_235 ?_
      refine ac_aload_n 0 d_X9_agree_238 rfl rfl ?_
      obtain ⟨o50, hr, h⟩ := h
      refine ak_getf hr fl_X9_38 d_X9_agree_239 ?_
      refine ac_iload 2 d_X9_agree_242 rfl ?_
      obtain ⟨v51, hr, h⟩ := h
      refine ak_iald 0 hr rfl d_X9_agree_244 ?_
      obtain ⟨v52, hr, h⟩ := h
      refine ak_iald 0 hr rfl d_X9_agree_245 ?_
      refine ac_istore (lv' := [(5, .int v52), (0, .ref r0), (3, .int x3), (4, .int x4)]) d_X9_agree_246 (by decide) rfl ?_
      refine ac_iload_n 2 d_X9_agree_248 rfl rfl ?_
      refine ac_if_eq (tgt := 285) d_X9_agree_249 (by decide) (fun hc => ?_) (fun hc => ?_)
      · have h := h.1 hc
        refine ac_iconst (v := 0) d_X9_agree_285 rfl ?_
        refine ac_istore_n (lv' := [(3, .int 0), (5, .int v52), (0, .ref r0), (4, .int x4)]) d_X9_agree_286 rfl (by decide) rfl ?_
        obtain ⟨v53, ev53⟩ : ∃ y : Int32, y = x4 + 1 := ⟨_, rfl⟩
        have h := h v53 ev53
        refine ac_iinc (j := 3) (lv' := [(4, .int v53), (3, .int 0), (5, .int v52), (0, .ref r0)]) d_X9_agree_287 rfl (by rw [ev53]; rfl) (by decide) rfl ?_
        refine ac_goto (tgt := 225) d_X9_agree_290 (by decide) ?_
        refine ac_weak [3, 1, 0] rfl ?_
        exact ih 0 v53 f h
      · have h := h.2 hc
        refine ac_iload 0 d_X9_agree_252 rfl ?_
        refine ac_if_lt (tgt := 281) d_X9_agree_254 (by decide) (fun hc => ?_) (fun hc => ?_)
        · have h := h.1 hc
          refine ac_iconst (v := 1) d_X9_agree_281 rfl ?_
          refine ac_goto (tgt := 286) d_X9_agree_282 (by decide) ?_
          refine ac_istore_n (lv' := [(3, .int 1), (5, .int v52), (0, .ref r0), (4, .int x4)]) d_X9_agree_286 rfl (by decide) rfl ?_
          obtain ⟨v54, ev54⟩ : ∃ y : Int32, y = x4 + 1 := ⟨_, rfl⟩
          have h := h v54 ev54
          refine ac_iinc (j := 3) (lv' := [(4, .int v54), (3, .int 1), (5, .int v52), (0, .ref r0)]) d_X9_agree_287 rfl (by rw [ev54]; rfl) (by decide) rfl ?_
          refine ac_goto (tgt := 225) d_X9_agree_290 (by decide) ?_
          refine ac_weak [3, 1, 0] rfl ?_
          exact ih 1 v54 f h
        · have h := h.2 hc
          refine ac_iload 0 d_X9_agree_257 rfl ?_
          refine ac_aload_n 1 d_X9_agree_259 rfl rfl ?_
          obtain ⟨o55, hr, h⟩ := h
          refine ak_getf hr fl_X9_41 d_X9_agree_260 ?_
          refine ac_iload 3 d_X9_agree_263 rfl ?_
          obtain ⟨v56, hr, h⟩ := h
          refine ak_iald 0 hr rfl d_X9_agree_265 ?_
          refine ac_icmp_lt (tgt := 285) d_X9_agree_266 (by decide) (fun hc => ?_) (fun hc => ?_)
          · have h := h.1 hc
            refine ac_iconst (v := 0) d_X9_agree_285 rfl ?_
            refine ac_istore_n (lv' := [(3, .int 0), (5, .int v52), (0, .ref r0), (4, .int x4)]) d_X9_agree_286 rfl (by decide) rfl ?_
            obtain ⟨v57, ev57⟩ : ∃ y : Int32, y = x4 + 1 := ⟨_, rfl⟩
            have h := h v57 ev57
            refine ac_iinc (j := 3) (lv' := [(4, .int v57), (3, .int 0), (5, .int v52), (0, .ref r0)]) d_X9_agree_287 rfl (by rw [ev57]; rfl) (by decide) rfl ?_
            refine ac_goto (tgt := 225) d_X9_agree_290 (by decide) ?_
            refine ac_weak [3, 1, 0] rfl ?_
            exact ih 0 v57 f h
          · have h := h.2 hc
            refine ac_iload 0 d_X9_agree_269 rfl ?_
            refine ac_aload_n 1 d_X9_agree_271 rfl rfl ?_
            obtain ⟨o58, hr, h⟩ := h
            refine ak_getf hr fl_X9_44 d_X9_agree_272 ?_
            refine ac_iload 3 d_X9_agree_275 rfl ?_
            obtain ⟨v59, hr, h⟩ := h
            refine ak_iald 0 hr rfl d_X9_agree_277 ?_
            refine ac_icmp_gt (tgt := 285) d_X9_agree_278 (by decide) (fun hc => ?_) (fun hc => ?_)
            · have h := h.1 hc
              refine ac_iconst (v := 0) d_X9_agree_285 rfl ?_
              refine ac_istore_n (lv' := [(3, .int 0), (5, .int v52), (0, .ref r0), (4, .int x4)]) d_X9_agree_286 rfl (by decide) rfl ?_
              obtain ⟨v60, ev60⟩ : ∃ y : Int32, y = x4 + 1 := ⟨_, rfl⟩
              have h := h v60 ev60
              refine ac_iinc (j := 3) (lv' := [(4, .int v60), (3, .int 0), (5, .int v52), (0, .ref r0)]) d_X9_agree_287 rfl (by rw [ev60]; rfl) (by decide) rfl ?_
              refine ac_goto (tgt := 225) d_X9_agree_290 (by decide) ?_
              refine ac_weak [3, 1, 0] rfl ?_
              exact ih 0 v60 f h
            · have h := h.2 hc
              refine ac_iconst (v := 1) d_X9_agree_281 rfl ?_
              refine ac_goto (tgt := 286) d_X9_agree_282 (by decide) ?_
              refine ac_istore_n (lv' := [(3, .int 1), (5, .int v52), (0, .ref r0), (4, .int x4)]) d_X9_agree_286 rfl (by decide) rfl ?_
              obtain ⟨v61, ev61⟩ : ∃ y : Int32, y = x4 + 1 := ⟨_, rfl⟩
              have h := h v61 ev61
              refine ac_iinc (j := 3) (lv' := [(4, .int v61), (3, .int 1), (5, .int v52), (0, .ref r0)]) d_X9_agree_287 rfl (by rw [ev61]; rfl) (by decide) rfl ?_
              refine ac_goto (tgt := 225) d_X9_agree_290 (by decide) ?_
              refine ac_weak [3, 1, 0] rfl ?_
              exact ih 1 v61 f h

set_option maxRecDepth 20000 in
set_option maxHeartbeats 4000000 in
theorem c_X9_agree (l : Launch) (D : va_G) (ki : Nat → ClassId) (r0 : Nat) (x1 : Int32) (x2 : Int32) (f : ac_hp) (Q : Int32 → ac_hp → Prop) (h : wp_X9_agree ki r0 x1 x2 f Q) : ac_met l D ki y_X9_agree prog_11_method_23_code 11 (some .boolean) (ro_ 1 0 0) [.ref r0, .int x1, .int x2] f (qr_I Q) 0 0 := by
  refine ac_enter (fun ki => wp_X9_agree ki r0 x1 x2 f Q) (by decide) (Nat.le_of_ble_eq_true rfl) h ?_
  intro x hro hR hnm h
  unfold wp_X9_agree at h
  refine ac_iconst (v := 0) d_X9_agree_0 rfl ?_
  refine ac_istore_n (lv' := [(3, .int 0), (0, .ref r0), (1, .int x1), (2, .int x2)]) d_X9_agree_1 rfl (by decide) rfl ?_
  obtain ⟨n4, h⟩ := h
  refine ac_weak [1, 2, 3, 0] rfl ?_
  refine ok_X9_agree_L2 hro r0 x1 x2 _ (fun f5 h => ?_) n4 0 f h
  · skip
    refine ac_iconst (v := 1) d_X9_agree_21 rfl ?_
    refine ac_istore_n (lv' := [(3, .int 1), (0, .ref r0), (1, .int x1), (2, .int x2)]) d_X9_agree_22 rfl (by decide) rfl ?_
    refine ac_iconst (v := 0) d_X9_agree_23 rfl ?_
    refine ac_istore (lv' := [(4, .int 0), (3, .int 1), (0, .ref r0), (1, .int x1), (2, .int x2)]) d_X9_agree_24 (by decide) rfl ?_
    obtain ⟨n45, h⟩ := h
    refine ac_weak [2, 3, 4, 1, 0] rfl ?_
    refine ok_X9_agree_L26 hro r0 x1 x2 _ (fun y46 f47 h => ?_) n45 1 0 f5 h
    · skip
      refine ac_iconst (v := 0) d_X9_agree_222 rfl ?_
      refine ac_istore (lv' := [(4, .int 0), (0, .ref r0), (3, .int y46)]) d_X9_agree_223 (by decide) rfl ?_
      obtain ⟨n62, h⟩ := h
      refine ac_weak [1, 2, 0] rfl ?_
      refine ok_X9_agree_L225 hro r0 _ (fun y63 f64 h => ?_) n62 y46 0 f47 h
      · skip
        refine ac_iload_n 0 d_X9_agree_293 rfl rfl ?_
        have hz := h.1
        have h := h.2
        exact ac_ireturn hR hz ⟨_, rfl, h⟩ (by decide) (by decide) d_X9_agree_294

