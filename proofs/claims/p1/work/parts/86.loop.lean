/-! THE LAW'S LOOP, out of agreements: class and reference answer alike, and the invariant goes on -/
def ag (r2 : Nat) (A : (Int32 → ac_hp → Prop) → Prop) (B : ac_hp → (Int32 → ac_hp → Prop) → Prop) (N : ac_hp → Prop) : Prop := ∃ (v : Int32) (M : ac_hp → Prop), (∀ P : Int32 → ac_hp → Prop, (∀ f', M f' → P v f') → A P) ∧ ∀ f', M f' → hr_o f' r2 9 ∧ ∀ Q : Int32 → ac_hp → Prop, (∀ f'', N f'' → Q v f'') → B f' Q
def agv (ki : Nat → ClassId) (r1 r2 r3 : Nat) (a b : Int32) (f : ac_hp) (N : ac_hp → Prop) : Prop := ∃ (v : Int32) (M : ac_hp → Prop), (∀ P : Int32 → ac_hp → Prop, (∀ f', M f' → P v f') → wp_X0_value ki r1 a b f P) ∧ ∀ f', M f' → ∃ f1 : ac_hp, hw_l (ki 2) f' r3 0 v.toInt64 f1 ∧ hr_o f1 r2 9 ∧ ∀ Q : Int32 → ac_hp → Prop, (∀ f'', N f'' → hr_o f'' r2 9 → hr_f f'' r2 9 0 (.int 0) → hr_l (ki 2) f'' r3 0 v.toInt64 → Q v f'') → wp_X9_value ki r2 a b f1 Q
def agree_all (ki : Nat → ClassId) (r1 r2 r3 : Nat) (f : ac_hp) (N : ac_hp → Prop) : Prop := hr_o f r1 0 ∧ N f
  ∧ (∀ a b c : Int32, c = 0 ∨ c = 1 → ag r2 (wp_X0_key ki r1 a b c f) (fun f' => wp_X9_key ki r2 a b c f') N)
  ∧ (∀ a b c d : Int32, ag r2 (wp_X0_row ki r1 a b c d f) (fun f' => wp_X9_row ki r2 a b c d f') N)
  ∧ (∀ a b : Int32, ag r2 (wp_X0_drop ki r1 a b f) (fun f' => wp_X9_drop ki r2 a b f') N)
  ∧ (∀ a b c d e g : Int32, ag r2 (wp_X0_mapping ki r1 a b c d e g f) (fun f' => wp_X9_mapping ki r2 a b c d e g f') N)
  ∧ (ag r2 (wp_X0_triples ki r1 f) (fun f' => wp_X9_triples ki r2 f') N)
  ∧ (∀ a b c : Int32, ag r2 (wp_X0_atom ki r1 a b c f) (fun f' => wp_X9_atom ki r2 a b c f') N)
  ∧ (∀ a b c : Int32, ag r2 (wp_X0_span ki r1 a b c f) (fun f' => wp_X9_span ki r2 a b c f') N)
  ∧ (ag r2 (wp_X0_clear ki r1 f) (fun f' => wp_X9_clear ki r2 f') N)
  ∧ (ag r2 (wp_X0_unions ki r1 f) (fun f' => wp_X9_unions ki r2 f') N)
  ∧ (∀ a b : Int32, ag r2 (wp_X0_union ki r1 a b f) (fun f' => wp_X9_union ki r2 a b f') N)
  ∧ (∀ a : Int32, ag r2 (wp_X0_estimate ki r1 a f) (fun f' => wp_X9_estimate ki r2 a f') N)
  ∧ (ag r2 (wp_X0_run ki r1 f) (fun f' => wp_X9_run ki r2 f') N)
  ∧ (∀ a b : Int32, agv ki r1 r2 r3 a b f N)
  ∧ (∀ a b : Int32, ag r2 (wp_X0_found ki r1 a b f) (fun f' => wp_X9_found ki r2 a b f') N)
theorem lg_cmp_self (v : Int64) : lg_cmp v v = 0 := by
  unfold lg_cmp
  simp
theorem lw_loop {ki : Nat → ClassId} {L : Nat} {xs : Nat → Int32} {r1 r2 r3 : Nat} {E : Nat → Nat → ac_hp → Prop} {kc ks : Nat} (hkk : kc + 0 ≤ 600002 ∧ ks + 0 ≤ 7302232) (hL : L < 100000) (Inv : Nat → ac_hp → Prop) (hE : ∀ j f, Inv j f → E kc ks f) (hst : ∀ j f, 7 * j + 7 ≤ L → Inv j f → agree_all ki r1 r2 r3 f (Inv (j + 1))) :
    ∀ (d j : Nat) (f : ac_hp), d + j = L / 7 → Inv j f → wp_law_L23 ki L xs r1 r2 r3 E (d + 1) (nI (7 * j)) kc ks f := by
  have t1 : (Int32.ofNat L - 7).toInt = (L : Int) - 7 := by
    have e1 : (Int32.ofNat L).toInt = (L : Int) := nI_toInt (n := L) (by omega)
    rw [Int32.toInt_sub, e1, show (7 : Int32).toInt = 7 by decide]
    exact Int.bmod_eq_of_le (by omega) (by omega)
  intro d
  induction d with
  | zero =>
    intro j f hj hI
    rw [wp_law_L23]
    refine ⟨fun _ => hE j f hI, fun z => absurd ?_ z⟩
    rw [Int32.lt_iff_toInt_lt, t1, nI_toInt (by omega)]
    omega
  | succ d ih =>
    intro j f hj hI
    rw [wp_law_L23]
    have hin : 7 * j + 7 ≤ L := by omega
    refine ⟨fun z => absurd z ?_, fun _ => ?_⟩
    · rw [Int32.lt_iff_toInt_lt, t1, nI_toInt (by omega)]
      omega
    have i0 : vp_in (nI (7 * j)) L := vp_in_nI (by omega) (by omega)
    have i1 : vp_in (nI (7 * j) + 1) L := by rw [show (nI (7 * j) + 1) = nI (7 * j + 1) from nI_add _ 1]; exact vp_in_nI (by omega) (by omega)
    have i2 : vp_in (nI (7 * j) + 2) L := by rw [show (nI (7 * j) + 2) = nI (7 * j + 2) from nI_add _ 2]; exact vp_in_nI (by omega) (by omega)
    have i3 : vp_in (nI (7 * j) + 3) L := by rw [show (nI (7 * j) + 3) = nI (7 * j + 3) from nI_add _ 3]; exact vp_in_nI (by omega) (by omega)
    have i4 : vp_in (nI (7 * j) + 4) L := by rw [show (nI (7 * j) + 4) = nI (7 * j + 4) from nI_add _ 4]; exact vp_in_nI (by omega) (by omega)
    have i5 : vp_in (nI (7 * j) + 5) L := by rw [show (nI (7 * j) + 5) = nI (7 * j + 5) from nI_add _ 5]; exact vp_in_nI (by omega) (by omega)
    have i6 : vp_in (nI (7 * j) + 6) L := by rw [show (nI (7 * j) + 6) = nI (7 * j + 6) from nI_add _ 6]; exact vp_in_nI (by omega) (by omega)
    have nxt : ∀ f', Inv (j + 1) f' → ∀ w : Int32, w = nI (7 * j) + 7 → wp_law_L23 ki L xs r1 r2 r3 E (d + 1) w kc ks f' := by
      intro f' hI' w hw
      rw [hw, show (nI (7 * j) + 7) = nI (7 * (j + 1)) from nI_add _ 7]
      exact ih (j + 1) f' (by omega) hI'
    obtain ⟨ho, hdf, g_key, g_row, g_drop, g_mapping, g_triples, g_atom, g_span, g_clear, g_unions, g_union, g_estimate, g_run, g_value, g_found⟩ := hst j f hin hI
    refine ⟨i0, fun v9 e9 v10 e10 => ⟨⟨?_, ?_, ?_, ?_, ?_, ?_, ?_, ?_, ?_, ?_, ?_, ?_, ?_, ?_⟩, fun _ => nxt f hdf⟩⟩
    · intro _
      refine ⟨i1, fun a ea => ⟨i2, fun b eb => ⟨i3, fun c ec => ⟨fun hc => ?_, fun hc => ?_⟩⟩⟩⟩
      · obtain ⟨v, M, hA, hB⟩ := g_key a b 0 (Or.inl rfl)
        refine ⟨hkk, ho, hA _ (fun f' hM => ⟨i1, fun a' ea' => ⟨i2, fun b' eb' => ⟨i3, fun c' ec' => ?_⟩⟩⟩)⟩
        have z : a' = a := ea'.trans ea.symm
        subst z
        have z : b' = b := eb'.trans eb.symm
        subst z
        have z : c' = c := ec'.trans ec.symm
        subst z
        exact ⟨fun _ => ⟨hkk, (hB f' hM).1, (hB f' hM).2 _ (fun f'' hN => ⟨fun _ w hw => nxt f'' hN w hw, fun z => absurd rfl z⟩)⟩, fun z => absurd hc z⟩
      · obtain ⟨v, M, hA, hB⟩ := g_key a b 1 (Or.inr rfl)
        refine ⟨hkk, ho, hA _ (fun f' hM => ⟨i1, fun a' ea' => ⟨i2, fun b' eb' => ⟨i3, fun c' ec' => ?_⟩⟩⟩)⟩
        have z : a' = a := ea'.trans ea.symm
        subst z
        have z : b' = b := eb'.trans eb.symm
        subst z
        have z : c' = c := ec'.trans ec.symm
        subst z
        exact ⟨fun z => absurd z hc, fun _ => ⟨hkk, (hB f' hM).1, (hB f' hM).2 _ (fun f'' hN => ⟨fun _ w hw => nxt f'' hN w hw, fun z => absurd rfl z⟩)⟩⟩
    · intro _
      refine ⟨i1, fun a ea => ⟨i2, fun b eb => ⟨i3, fun c ec => ⟨i4, fun d ed => ?_⟩⟩⟩⟩
      obtain ⟨v, M, hA, hB⟩ := g_row a b c d
      refine ⟨hkk, ho, hA _ (fun f' hM => ⟨i1, fun a' ea' => ⟨i2, fun b' eb' => ⟨i3, fun c' ec' => ⟨i4, fun d' ed' => ?_⟩⟩⟩⟩)⟩
      have z : a' = a := ea'.trans ea.symm
      subst z
      have z : b' = b := eb'.trans eb.symm
      subst z
      have z : c' = c := ec'.trans ec.symm
      subst z
      have z : d' = d := ed'.trans ed.symm
      subst z
      exact ⟨hkk, (hB f' hM).1, (hB f' hM).2 _ (fun f'' hN => ⟨fun _ w hw => nxt f'' hN w hw, fun z => absurd rfl z⟩)⟩
    · intro _
      refine ⟨i1, fun a ea => ⟨i2, fun b eb => ?_⟩⟩
      obtain ⟨v, M, hA, hB⟩ := g_drop a b
      refine ⟨hkk, ho, hA _ (fun f' hM => ⟨i1, fun a' ea' => ⟨i2, fun b' eb' => ?_⟩⟩)⟩
      have z : a' = a := ea'.trans ea.symm
      subst z
      have z : b' = b := eb'.trans eb.symm
      subst z
      exact ⟨hkk, (hB f' hM).1, (hB f' hM).2 _ (fun f'' hN => ⟨fun _ w hw => nxt f'' hN w hw, fun z => absurd rfl z⟩)⟩
    · intro _
      refine ⟨i1, fun a ea => ⟨i2, fun b eb => ⟨i3, fun c ec => ⟨i4, fun d ed => ⟨i5, fun e ee => ⟨i6, fun g eg => ?_⟩⟩⟩⟩⟩⟩
      obtain ⟨v, M, hA, hB⟩ := g_mapping a b c d e g
      refine ⟨hkk, ho, hA _ (fun f' hM => ⟨i1, fun a' ea' => ⟨i2, fun b' eb' => ⟨i3, fun c' ec' => ⟨i4, fun d' ed' => ⟨i5, fun e' ee' => ⟨i6, fun g' eg' => ?_⟩⟩⟩⟩⟩⟩)⟩
      have z : a' = a := ea'.trans ea.symm
      subst z
      have z : b' = b := eb'.trans eb.symm
      subst z
      have z : c' = c := ec'.trans ec.symm
      subst z
      have z : d' = d := ed'.trans ed.symm
      subst z
      have z : e' = e := ee'.trans ee.symm
      subst z
      have z : g' = g := eg'.trans eg.symm
      subst z
      exact ⟨hkk, (hB f' hM).1, (hB f' hM).2 _ (fun f'' hN => ⟨fun _ w hw => nxt f'' hN w hw, fun z => absurd rfl z⟩)⟩
    · intro _
      obtain ⟨v, M, hA, hB⟩ := g_triples
      refine ⟨hkk, ho, hA _ (fun f' hM => ?_)⟩
      exact ⟨hkk, (hB f' hM).1, (hB f' hM).2 _ (fun f'' hN => ⟨fun _ w hw => nxt f'' hN w hw, fun z => absurd rfl z⟩)⟩
    · intro _
      refine ⟨i1, fun a ea => ⟨i2, fun b eb => ⟨i3, fun c ec => ?_⟩⟩⟩
      obtain ⟨v, M, hA, hB⟩ := g_atom a b c
      refine ⟨hkk, ho, hA _ (fun f' hM => ⟨i1, fun a' ea' => ⟨i2, fun b' eb' => ⟨i3, fun c' ec' => ?_⟩⟩⟩)⟩
      have z : a' = a := ea'.trans ea.symm
      subst z
      have z : b' = b := eb'.trans eb.symm
      subst z
      have z : c' = c := ec'.trans ec.symm
      subst z
      exact ⟨hkk, (hB f' hM).1, (hB f' hM).2 _ (fun f'' hN => ⟨fun _ w hw => nxt f'' hN w hw, fun z => absurd rfl z⟩)⟩
    · intro _
      refine ⟨i1, fun a ea => ⟨i2, fun b eb => ⟨i3, fun c ec => ?_⟩⟩⟩
      obtain ⟨v, M, hA, hB⟩ := g_span a b c
      refine ⟨hkk, ho, hA _ (fun f' hM => ⟨i1, fun a' ea' => ⟨i2, fun b' eb' => ⟨i3, fun c' ec' => ?_⟩⟩⟩)⟩
      have z : a' = a := ea'.trans ea.symm
      subst z
      have z : b' = b := eb'.trans eb.symm
      subst z
      have z : c' = c := ec'.trans ec.symm
      subst z
      exact ⟨hkk, (hB f' hM).1, (hB f' hM).2 _ (fun f'' hN => ⟨fun _ w hw => nxt f'' hN w hw, fun z => absurd rfl z⟩)⟩
    · intro _
      obtain ⟨v, M, hA, hB⟩ := g_clear
      refine ⟨hkk, ho, hA _ (fun f' hM => ?_)⟩
      exact ⟨hkk, (hB f' hM).1, (hB f' hM).2 _ (fun f'' hN => ⟨fun _ w hw => nxt f'' hN w hw, fun z => absurd rfl z⟩)⟩
    · intro _
      obtain ⟨v, M, hA, hB⟩ := g_unions
      refine ⟨hkk, ho, hA _ (fun f' hM => ?_)⟩
      exact ⟨hkk, (hB f' hM).1, (hB f' hM).2 _ (fun f'' hN => ⟨fun _ w hw => nxt f'' hN w hw, fun z => absurd rfl z⟩)⟩
    · intro _
      refine ⟨i1, fun a ea => ⟨i2, fun b eb => ?_⟩⟩
      obtain ⟨v, M, hA, hB⟩ := g_union a b
      refine ⟨hkk, ho, hA _ (fun f' hM => ⟨i1, fun a' ea' => ⟨i2, fun b' eb' => ?_⟩⟩)⟩
      have z : a' = a := ea'.trans ea.symm
      subst z
      have z : b' = b := eb'.trans eb.symm
      subst z
      exact ⟨hkk, (hB f' hM).1, (hB f' hM).2 _ (fun f'' hN => ⟨fun _ w hw => nxt f'' hN w hw, fun z => absurd rfl z⟩)⟩
    · intro _
      refine ⟨i1, fun a ea => ?_⟩
      obtain ⟨v, M, hA, hB⟩ := g_estimate a
      refine ⟨hkk, ho, hA _ (fun f' hM => ⟨i1, fun a' ea' => ?_⟩)⟩
      have z : a' = a := ea'.trans ea.symm
      subst z
      exact ⟨hkk, (hB f' hM).1, (hB f' hM).2 _ (fun f'' hN => ⟨fun _ w hw => nxt f'' hN w hw, fun z => absurd rfl z⟩)⟩
    · intro _
      obtain ⟨v, M, hA, hB⟩ := g_run
      refine ⟨hkk, ho, hA _ (fun f' hM => ?_)⟩
      exact ⟨hkk, (hB f' hM).1, (hB f' hM).2 _ (fun f'' hN => ⟨fun _ w hw => nxt f'' hN w hw, fun z => absurd rfl z⟩)⟩
    · intro _
      refine ⟨i1, fun a ea => ⟨i2, fun b eb => ?_⟩⟩
      obtain ⟨v, M, hA, hB⟩ := g_value a b
      unfold wp_XL_value
      refine ⟨hkk, ho, hA _ (fun f' hM => ?_)⟩
      obtain ⟨f1, hw1, ho2, hQ⟩ := hB f' hM
      refine ⟨f1, hw1, ⟨i1, fun a' ea' => ⟨i2, fun b' eb' => ?_⟩⟩⟩
      have z : a' = a := ea'.trans ea.symm
      subst z
      have z : b' = b := eb'.trans eb.symm
      subst z
      refine ⟨hkk, ho2, hQ _ (fun f'' hN ho3 ht hl => ⟨hkk, ho3, ?_⟩)⟩
      unfold wp_X9_thrown
      exact ⟨0, ht, fun _ => ⟨fun z => absurd rfl z, fun _ => ⟨_, hl, fun _ w hw => nxt f'' hN w hw, fun z => absurd (lg_cmp_self _) z⟩⟩, fun z => absurd rfl z⟩
    · intro _
      refine ⟨i1, fun a ea => ⟨i2, fun b eb => ?_⟩⟩
      obtain ⟨v, M, hA, hB⟩ := g_found a b
      refine ⟨hkk, ho, hA _ (fun f' hM => ⟨i1, fun a' ea' => ⟨i2, fun b' eb' => ?_⟩⟩)⟩
      have z : a' = a := ea'.trans ea.symm
      subst z
      have z : b' = b := eb'.trans eb.symm
      subst z
      exact ⟨hkk, (hB f' hM).1, (hB f' hM).2 _ (fun f'' hN => ⟨fun _ w hw => nxt f'' hN w hw, fun z => absurd rfl z⟩)⟩
