/-! the reference: agree; keep -/
section R6
variable {F : ac_hp} {ki : Nat → ClassId} {am : Nat → Nat} {s : Nat → Nat → Int32} {f : ac_hp}
variable {sz : Nat → Nat} {nn : Nat → Nat → Nat → Nat} {kk : Nat → Nat → Int32} {mc n sp : Nat}
theorem va_up_id (i : Nat) : va_up s i (s i) = s := by
  funext j
  by_cases hj : j = i
  · rw [hj, va_up_self]
  · rw [va_up_ne _ _ hj]
theorem rs_agree {u ct la : Nat} {Q : Int32 → ac_hp → Prop} (h : mr_R F ki am s f) (hx : RX s sz nn kk mc n sp) (hu : u ≤ 150) (hc : cho s mc n (4 * u)) (hg : gs (s 14) (4 * u) n ct) (hla : la < ct) (hgv : ∀ k, k ≤ la → ∃ r, r < 20 ∧ s 16 k = nI r) (hq : ∀ v w f', (v = 0 ∨ v = 1) → mr_R F ki am (va_up s 17 w) f' → Q v f') : wp_X9_agree ki (am 0) (nI u) (nI la) f Q := by
  obtain ⟨-, -, ⟨h4, h5, h6⟩, ⟨h7, h8, h9⟩, h10, h11, h12⟩ := id hx
  obtain ⟨g1, g2, g, g3, g4⟩ := hg
  unfold wp_X9_agree
  refine ⟨7, ?_⟩
  have L225 : ∀ (d q : Nat) (x3 : Int32) (w : Nat → Int32) (f : ac_hp), d + q = sp → (x3 = 0 ∨ x3 = 1) → mr_R F ki am (va_up s 17 w) f → wp_X9_agree_L225 ki (am 0) (fun y63 f64 => narrow .boolean (.int y63) = .int y63 ∧ Q y63 f64) (d + 1) x3 (nI q) f := by
    have fin : ∀ (x2 : Int32) (w : Nat → Int32) (f : ac_hp), (x2 = 0 ∨ x2 = 1) → mr_R F ki am (va_up s 17 w) f → narrow .boolean (.int x2) = .int x2 ∧ Q x2 f := fun x2 w f hx2 hf => ⟨by rcases hx2 with rfl | rfl <;> rfl, hq x2 w f hx2 hf⟩
    intro d
    induction d with
    | zero =>
      intro q x3 w f hq2 hx3 hf
      rw [wp_X9_agree_L225]
      refine ⟨_, rm_f hf rfl, ?_⟩
      rw [va_up_ne _ _ (by omega), h11]
      exact ⟨fun _ => fin x3 w f hx3 hf, fun z => absurd (nI_le (by omega) (by omega)) z⟩
    | succ d ih =>
      intro q x3 w f hq2 hx3 hf
      rw [wp_X9_agree_L225]
      refine ⟨_, rm_f hf rfl, ?_⟩
      rw [va_up_ne _ _ (by omega), h11]
      obtain ⟨v, hv, ev⟩ := h12 q (by omega)
      have r10 := rm_i (i := 10) (j := q) (c := ki 0) (n := 4) (x := nI q) hf (by omega) rfl rfl (by omega) (by omega)
      rw [va_up_ne _ _ (by omega), ev] at r10
      have nx : ∀ (y : Int32), (y = 0 ∨ y = 1) → ∀ v : Int32, v = nI q + 1 → wp_X9_agree_L225 ki (am 0) (fun y63 f64 => narrow .boolean (.int y63) = .int y63 ∧ Q y63 f64) (d + 1) y v f := fun y hy v hv => by
        rw [hv, nI_1]; exact ih (q + 1) y w f (by omega) hy hf
      exact ⟨fun z => absurd z (nI_ge (by omega) (by omega)), fun _ => ⟨_, rm_f hf rfl, _, rm_f hf rfl, _, r10, _, rm_i (i := 17) (j := v) hf (by omega) rfl rfl (by omega) (by omega), fun _ => nx 0 (Or.inl rfl), fun _ => ⟨fun _ => nx 1 (Or.inr rfl), fun _ => ⟨_, rm_f hf rfl, _, rm_i (i := 11) (j := q) hf (by omega) rfl rfl (by omega) (by omega), fun _ => nx 0 (Or.inl rfl), fun _ => ⟨_, rm_f hf rfl, _, rm_i (i := 12) (j := q) hf (by omega) rfl rfl (by omega) (by omega), fun _ => nx 0 (Or.inl rfl), fun _ => nx 1 (Or.inr rfl)⟩⟩⟩⟩⟩
  have L55 : ∀ (E : Int32 → ac_hp → Prop) (a : Nat), a < n → (∀ y w f', (y = 0 ∨ y = 1) → mr_R F ki am (va_up s 17 w) f' → E y f') → ∀ (d p : Nat) (x3 : Int32) (w : Nat → Int32) (f : ac_hp), d + p = 2 → (x3 = 0 ∨ x3 = 1) → mr_R F ki am (va_up s 17 w) f → wp_X9_agree_L55 ki (am 0) (nI u) (nI la) (nI a) (nI (g a)) E (d + 1) x3 (nI p) f := by
    intro E a ha hE d
    induction d with
    | zero =>
      intro p x3 w f hp hx3 hf
      rw [wp_X9_agree_L55]
      exact ⟨fun _ => hE x3 w f hx3 hf, fun z => absurd (nI_le (a := 2) (by omega) (by omega)) z⟩
    | succ d ih =>
      intro p x3 w f hp hx3 hf
      rw [wp_X9_agree_L55]
      refine ⟨fun z => absurd z (nI_ge (b := 2) (by omega) (by omega)), fun _ => ⟨fun _ => hE x3 w f hx3 hf, fun hle => ?_⟩⟩
      have hga := (g3 a ha).1
      have hgl : g a ≤ la := by
        rcases Nat.lt_or_ge la (g a) with z | z
        · exact absurd (nI_lt z (by omega)) hle
        · exact z
      obtain ⟨m, hm, em⟩ := hc a ha
      obtain ⟨⟨t, ht, et⟩, hcol⟩ := h6 m hm
      obtain ⟨c, hc1, ec⟩ := hcol p (by omega)
      obtain ⟨r, hr, er⟩ := hgv (g a) hgl
      have r13 := rm_i (i := 13) (j := 4 * u + a) (c := ki 0) (n := 604) (x := (4 * nI u) + nI a) hf (by omega) rfl pm_41 (by omega) (by omega)
      rw [va_up_ne _ _ (by omega), em] at r13
      have r4 := rm_i (i := 4) (j := m) (c := ki 0) (n := 12) (x := nI m) hf (by omega) rfl rfl (by omega) (by omega)
      rw [va_up_ne _ _ (by omega), et] at r4
      have r16 := rm_i (i := 16) (j := g a) (c := ki 0) (n := 4) (x := nI (g a)) hf (by omega) rfl rfl (by omega) (by omega)
      rw [va_up_ne _ _ (by omega), er] at r16
      have r7 := rm_i (i := 7) (j := 2 * m + p) (c := ki 0) (n := 24) (x := (2 * nI m) + nI p) hf (by omega) rfl pm_12 (by omega) (by omega)
      rw [va_up_ne _ _ (by omega), ec] at r7
      have r9 := rm_i (i := 9) (j := 2 * a + p) (c := ki 0) (n := 8) (x := (2 * nI a) + nI p) hf (by omega) rfl pm_12 (by omega) (by omega)
      rw [va_up_ne _ _ (by omega)] at r9
      refine ⟨_, rm_f hf rfl, _, r13, _, rm_f hf rfl, _, rm_f hf rfl, _, r4, _, rm_f hf rfl, _, r16, _, rm_f hf rfl, _, r7, _, rm_i (i := 1) (j := 60 * t + 3 * r + c) hf (by omega) rfl pm_lin (by omega) (by omega), _, rm_f hf rfl, _, r9, ?_⟩
      have nx : ∀ (y : Int32) (w' : Nat → Int32) (f' : ac_hp), (y = 0 ∨ y = 1) → mr_R F ki am (va_up s 17 w') f' → ∀ v : Int32, v = nI p + 1 → wp_X9_agree_L55 ki (am 0) (nI u) (nI la) (nI a) (nI (g a)) E (d + 1) y v f' := fun y w' f' hy hf' v hv => by
        rw [hv, nI_1]; exact ih (p + 1) y w' f' (by omega) hy hf'
      have pl := h9 (2 * a + p) (by omega)
      refine ⟨fun hlt v21 e21 => ?_, fun _ => ⟨fun _ v hv => nx 0 w f (Or.inl rfl) hf v hv, fun _ => ⟨fun _ v hv => nx 0 w f (Or.inl rfl) hf v hv, fun _ v hv => nx 1 w f (Or.inr rfl) hf v hv⟩⟩⟩
      rcases pl_cases pl with ⟨c, hc1, hc2⟩ | ⟨v, hv1, hv2⟩
      · rw [hc2] at hlt; exact absurd hlt (nI_pos (by omega))
      · rw [hv2, pm_neg] at e21
        subst e21
        have wr : ∀ (y : Int32) (val : Int32), (y = 0 ∨ y = 1) → ∃ o22 : Nat, hr_f f (am 0) 9 21 (.ref o22) ∧ ∃ f23 : ac_hp, hw_i (ki 0) f o22 (nI v) val f23 ∧ ∀ v24 : Int32, v24 = nI p + 1 → wp_X9_agree_L55 ki (am 0) (nI u) (nI la) (nI a) (nI (g a)) E (d + 1) y v24 f23 := by
          intro y val hy
          refine ⟨_, rm_f hf rfl, wm_i (i := 17) (j := v) hf (by omega) (fun _ => rfl) rfl (by omega) (by omega) (fun f' hf' => ?_)⟩
          rw [bx_uu] at hf'
          exact fun v22 e22 => nx y _ f' hy hf' v22 e22
        have e17 := rm_i (i := 17) (j := v) (c := ki 0) (n := 6) (x := nI v) hf (by omega) rfl rfl (by omega) (by omega)
        exact ⟨fun _ => wr 0 _ (Or.inl rfl), fun _ => ⟨_, rm_f hf rfl, _, e17, fun _ => wr 1 _ (Or.inr rfl), fun _ => ⟨_, rm_f hf rfl, _, e17, fun _ => wr 0 _ (Or.inl rfl), fun _ => wr 1 _ (Or.inr rfl)⟩⟩⟩
  have L26 : ∀ (d a : Nat) (x3 : Int32) (w : Nat → Int32) (f : ac_hp), d + a = n → (x3 = 0 ∨ x3 = 1) → mr_R F ki am (va_up s 17 w) f → wp_X9_agree_L26 ki (am 0) (nI u) (nI la) (fun y46 f47 => ∃ n62 : Nat, wp_X9_agree_L225 ki (am 0) (fun y63 f64 => narrow .boolean (.int y63) = .int y63 ∧ Q y63 f64) n62 y46 0 f47) (d + 1) x3 (nI a) f := by
    intro d
    induction d with
    | zero =>
      intro a x3 w f ha hx3 hf
      rw [wp_X9_agree_L26]
      refine ⟨_, rm_f hf rfl, ?_⟩
      rw [va_up_ne _ _ (by omega), h8]
      exact ⟨fun _ => ⟨sp + 1, L225 sp 0 x3 w f (by omega) hx3 hf⟩, fun z => absurd (nI_le (by omega) (by omega)) z⟩
    | succ d ih =>
      intro a x3 w f ha hx3 hf
      rw [wp_X9_agree_L26]
      refine ⟨_, rm_f hf rfl, ?_⟩
      rw [va_up_ne _ _ (by omega), h8]
      have r14 := rm_i (i := 14) (j := 4 * u + a) (c := ki 0) (n := 604) (x := (4 * nI u) + nI a) hf (by omega) rfl pm_41 (by omega) (by omega)
      rw [va_up_ne _ _ (by omega), (g3 a (by omega)).2] at r14
      exact ⟨fun z => absurd z (nI_ge (by omega) (by omega)), fun _ => ⟨fun _ => ⟨sp + 1, L225 sp 0 x3 w f (by omega) hx3 hf⟩, fun _ => ⟨_, rm_f hf rfl, _, r14, 3, L55 _ a (by omega) (fun y w' f' hy hf' v hv => by rw [hv, nI_1]; exact ih (a + 1) y w' f' (by omega) hy hf') 2 0 x3 w f rfl hx3 hf⟩⟩⟩
  have L2 : ∀ (d v : Nat) (w : Nat → Int32) (f : ac_hp), d + v = 6 → mr_R F ki am (va_up s 17 w) f → wp_X9_agree_L2 ki (am 0) (nI u) (nI la) (fun f5 => ∃ n45 : Nat, wp_X9_agree_L26 ki (am 0) (nI u) (nI la) (fun y46 f47 => ∃ n62 : Nat, wp_X9_agree_L225 ki (am 0) (fun y63 f64 => narrow .boolean (.int y63) = .int y63 ∧ Q y63 f64) n62 y46 0 f47) n45 1 0 f5) (d + 1) (nI v) f := by
    intro d
    induction d with
    | zero =>
      intro v w f hv hf
      rw [wp_X9_agree_L2]
      exact ⟨fun _ => ⟨n + 1, L26 n 0 1 w f (by omega) (Or.inr rfl) hf⟩, fun z => absurd (nI_le (a := 6) (by omega) (by omega)) z⟩
    | succ d ih =>
      intro v w f hv hf
      rw [wp_X9_agree_L2]
      refine ⟨fun z => absurd z (nI_ge (a := v) (b := 6) (by omega) (by omega)), fun _ => ⟨_, rm_f hf rfl, wm_i (i := 17) (j := v) hf (by omega) (fun _ => rfl) rfl (by omega) (by omega) (fun f' hf' => ?_)⟩⟩
      intro v3 e3
      rw [e3, nI_1]
      rw [bx_uu] at hf'
      exact ih (v + 1) _ f' (by omega) hf'
  exact L2 6 0 (s 17) f rfl (mr_eq h (va_up_id 17).symm)
end R6
