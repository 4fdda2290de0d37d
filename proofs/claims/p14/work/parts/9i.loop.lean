/-! THE LAW'S LOOP: the answers of value are compared, the others only go on -/
theorem lw_loop {ki : Nat → ClassId} {L : Nat} {xs : Nat → Int32} {r1 r2 r3 : Nat} {E : Nat → Nat → ac_hp → Prop} (hL : L < 100000) (Inv : ac_hp → Prop) (hE : ∀ kc ks f, kc ≤ 601024 → ks ≤ 7293034 → E kc ks f) (hst : ∀ f, Inv f → agree_part6 ki r1 r2 r3 f Inv) :
    ∀ (d j kc ks : Nat) (f : ac_hp), d + j = L / 7 → kc + d ≤ 601024 → ks + 6 * d ≤ 7293034 → Inv f → wp_law_L23 ki L xs r1 r2 r3 E (d + 1) (nI (7 * j)) kc ks f := by
  have t1 : (Int32.ofNat L - 7).toInt = (L : Int) - 7 := by
    have e1 : (Int32.ofNat L).toInt = (L : Int) := nI_toInt (n := L) (by omega)
    rw [Int32.toInt_sub, e1, show (7 : Int32).toInt = 7 by decide]
    exact Int.bmod_eq_of_le (by omega) (by omega)
  intro d
  induction d with
  | zero =>
    intro j kc ks f hj hk1 hk2 hI
    rw [wp_law_L23]
    refine ⟨fun _ => hE kc ks f (by omega) (by omega), fun z => absurd ?_ z⟩
    rw [Int32.lt_iff_toInt_lt, t1, nI_toInt (by omega)]
    omega
  | succ d ih =>
    intro j kc ks f hj hk1 hk2 hI
    rw [wp_law_L23]
    have hin : 7 * j + 7 ≤ L := by omega
    have hkk : kc + 0 ≤ 601024 ∧ ks + 0 ≤ 7293034 := ⟨by omega, by omega⟩
    refine ⟨fun z => absurd z ?_, fun _ => ?_⟩
    · rw [Int32.lt_iff_toInt_lt, t1, nI_toInt (by omega)]
      omega
    have i0 : vp_in (nI (7 * j)) L := vp_in_nI (by omega) (by omega)
    have i1 : vp_in (nI (7 * j) + 1) L := by rw [show (nI (7 * j) + 1) = nI (7 * j + 1) from nI_add _ 1]; exact vp_in_nI (by omega) (by omega)
    have i2 : vp_in (nI (7 * j) + 2) L := by rw [show (nI (7 * j) + 2) = nI (7 * j + 2) from nI_add _ 2]; exact vp_in_nI (by omega) (by omega)
    have i3 : vp_in (nI (7 * j) + 3) L := by rw [show (nI (7 * j) + 3) = nI (7 * j + 3) from nI_add _ 3]; exact vp_in_nI (by omega) (by omega)
    have i4 : vp_in (nI (7 * j) + 4) L := by rw [show (nI (7 * j) + 4) = nI (7 * j + 4) from nI_add _ 4]; exact vp_in_nI (by omega) (by omega)
    have i5 : vp_in (nI (7 * j) + 5) L := by rw [show (nI (7 * j) + 5) = nI (7 * j + 5) from nI_add _ 5]; exact vp_in_nI (by omega) (by omega)
    have i6 : vp_in (nI (7 * j) + 6) L := by rw [show (nI (7 * j) + 6) = nI (7 * j + 6) from nI_add _ 6]; exact vp_in_nI (by omega) (by omega)
    have nxt : ∀ f', Inv f' → ∀ w : Int32, w = nI (7 * j) + 7 → wp_law_L23 ki L xs r1 r2 r3 E (d + 1) w kc ks f' := by
      intro f' hI' w hw
      rw [hw, show (nI (7 * j) + 7) = nI (7 * (j + 1)) from nI_add _ 7]
      exact ih (j + 1) kc ks f' (by omega) (by omega) (by omega) hI'
    have nxv : ∀ f', Inv f' → ∀ w : Int32, w = nI (7 * j) + 7 → wp_law_L23 ki L xs r1 r2 r3 E (d + 1) w (kc + 1) (ks + 6) f' := by
      intro f' hI' w hw
      rw [hw, show (nI (7 * j) + 7) = nI (7 * (j + 1)) from nI_add _ 7]
      exact ih (j + 1) (kc + 1) (ks + 6) f' (by omega) (by omega) (by omega) hI'
    obtain ⟨ho, hdf, g_key, g_row, g_drop, g_mapping, g_triples, g_atom, g_span, g_clear, g_unions, g_union, g_estimate, g_run, g_value, g_found⟩ := hst f hI
    refine ⟨i0, fun v9 e9 v10 e10 => ⟨⟨?_, ?_, ?_, ?_, ?_, ?_, ?_, ?_, ?_, ?_, ?_, ?_, ?_, ?_⟩, fun _ => nxt f hdf⟩⟩
    · intro _
      refine ⟨i1, fun a ea => ⟨i2, fun b eb => ⟨i3, fun c ec => ⟨fun hc => ?_, fun hc => ?_⟩⟩⟩⟩
      · obtain ⟨M, hA, hB⟩ := (g_key a b 0 (Or.inl rfl)).go
        refine ⟨hkk, ho, hA _ (fun _ f' hM => ⟨i1, fun a' ea' => ⟨i2, fun b' eb' => ⟨i3, fun c' ec' => ?_⟩⟩⟩)⟩
        have z : a' = a := ea'.trans ea.symm
        subst z
        have z : b' = b := eb'.trans eb.symm
        subst z
        have z : c' = c := ec'.trans ec.symm
        subst z
        exact ⟨fun _ => ⟨hkk, (hB f' hM).1, (hB f' hM).2 _ (fun _ f'' hN w hw => nxt f'' hN w hw)⟩, fun z => absurd hc z⟩
      · obtain ⟨M, hA, hB⟩ := (g_key a b 1 (Or.inr rfl)).go
        refine ⟨hkk, ho, hA _ (fun _ f' hM => ⟨i1, fun a' ea' => ⟨i2, fun b' eb' => ⟨i3, fun c' ec' => ?_⟩⟩⟩)⟩
        have z : a' = a := ea'.trans ea.symm
        subst z
        have z : b' = b := eb'.trans eb.symm
        subst z
        have z : c' = c := ec'.trans ec.symm
        subst z
        exact ⟨fun z => absurd z hc, fun _ => ⟨hkk, (hB f' hM).1, (hB f' hM).2 _ (fun _ f'' hN w hw => nxt f'' hN w hw)⟩⟩
    · intro _
      refine ⟨i1, fun a ea => ⟨i2, fun b eb => ⟨i3, fun c ec => ⟨i4, fun d ed => ?_⟩⟩⟩⟩
      obtain ⟨M, hA, hB⟩ := (g_row a b c d).go
      refine ⟨hkk, ho, hA _ (fun _ f' hM => ⟨i1, fun a' ea' => ⟨i2, fun b' eb' => ⟨i3, fun c' ec' => ⟨i4, fun d' ed' => ?_⟩⟩⟩⟩)⟩
      have z : a' = a := ea'.trans ea.symm
      subst z
      have z : b' = b := eb'.trans eb.symm
      subst z
      have z : c' = c := ec'.trans ec.symm
      subst z
      have z : d' = d := ed'.trans ed.symm
      subst z
      exact ⟨hkk, (hB f' hM).1, (hB f' hM).2 _ (fun _ f'' hN w hw => nxt f'' hN w hw)⟩
    · intro _
      refine ⟨i1, fun a ea => ⟨i2, fun b eb => ?_⟩⟩
      obtain ⟨M, hA, hB⟩ := (g_drop a b).go
      refine ⟨hkk, ho, hA _ (fun _ f' hM => ⟨i1, fun a' ea' => ⟨i2, fun b' eb' => ?_⟩⟩)⟩
      have z : a' = a := ea'.trans ea.symm
      subst z
      have z : b' = b := eb'.trans eb.symm
      subst z
      exact ⟨hkk, (hB f' hM).1, (hB f' hM).2 _ (fun _ f'' hN w hw => nxt f'' hN w hw)⟩
    · intro _
      refine ⟨i1, fun a ea => ⟨i2, fun b eb => ⟨i3, fun c ec => ⟨i4, fun d ed => ⟨i5, fun e ee => ⟨i6, fun g eg => ?_⟩⟩⟩⟩⟩⟩
      obtain ⟨M, hA, hB⟩ := (g_mapping a b c d e g).go
      refine ⟨hkk, ho, hA _ (fun _ f' hM => ⟨i1, fun a' ea' => ⟨i2, fun b' eb' => ⟨i3, fun c' ec' => ⟨i4, fun d' ed' => ⟨i5, fun e' ee' => ⟨i6, fun g' eg' => ?_⟩⟩⟩⟩⟩⟩)⟩
      have z : a' = a := ea'.trans ea.symm
      subst z
      have z : b' = b := eb'.trans eb.symm
      subst z
      have z : c' = c := ec'.trans ec.symm
      subst z
      have z : d' = d := ed'.trans ed.symm
      subst z
      have z : e' = e := ee'.trans ee.symm
      subst z
      have z : g' = g := eg'.trans eg.symm
      subst z
      exact ⟨hkk, (hB f' hM).1, (hB f' hM).2 _ (fun _ f'' hN w hw => nxt f'' hN w hw)⟩
    · intro _
      obtain ⟨M, hA, hB⟩ := (g_triples).go
      refine ⟨hkk, ho, hA _ (fun _ f' hM => ?_)⟩
      exact ⟨hkk, (hB f' hM).1, (hB f' hM).2 _ (fun _ f'' hN w hw => nxt f'' hN w hw)⟩
    · intro _
      refine ⟨i1, fun a ea => ⟨i2, fun b eb => ⟨i3, fun c ec => ?_⟩⟩⟩
      obtain ⟨M, hA, hB⟩ := (g_atom a b c).go
      refine ⟨hkk, ho, hA _ (fun _ f' hM => ⟨i1, fun a' ea' => ⟨i2, fun b' eb' => ⟨i3, fun c' ec' => ?_⟩⟩⟩)⟩
      have z : a' = a := ea'.trans ea.symm
      subst z
      have z : b' = b := eb'.trans eb.symm
      subst z
      have z : c' = c := ec'.trans ec.symm
      subst z
      exact ⟨hkk, (hB f' hM).1, (hB f' hM).2 _ (fun _ f'' hN w hw => nxt f'' hN w hw)⟩
    · intro _
      refine ⟨i1, fun a ea => ⟨i2, fun b eb => ⟨i3, fun c ec => ?_⟩⟩⟩
      obtain ⟨M, hA, hB⟩ := (g_span a b c).go
      refine ⟨hkk, ho, hA _ (fun _ f' hM => ⟨i1, fun a' ea' => ⟨i2, fun b' eb' => ⟨i3, fun c' ec' => ?_⟩⟩⟩)⟩
      have z : a' = a := ea'.trans ea.symm
      subst z
      have z : b' = b := eb'.trans eb.symm
      subst z
      have z : c' = c := ec'.trans ec.symm
      subst z
      exact ⟨hkk, (hB f' hM).1, (hB f' hM).2 _ (fun _ f'' hN w hw => nxt f'' hN w hw)⟩
    · intro _
      obtain ⟨M, hA, hB⟩ := (g_clear).go
      refine ⟨hkk, ho, hA _ (fun _ f' hM => ?_)⟩
      exact ⟨hkk, (hB f' hM).1, (hB f' hM).2 _ (fun _ f'' hN w hw => nxt f'' hN w hw)⟩
    · intro _
      obtain ⟨M, hA, hB⟩ := (g_unions)
      refine ⟨hkk, ho, hA _ (fun _ f' hM => ?_)⟩
      exact ⟨hkk, (hB f' hM).1, (hB f' hM).2 _ (fun _ f'' hN w hw => nxt f'' hN w hw)⟩
    · intro _
      refine ⟨i1, fun a ea => ⟨i2, fun b eb => ?_⟩⟩
      obtain ⟨M, hA, hB⟩ := (g_union a b)
      refine ⟨hkk, ho, hA _ (fun _ f' hM => ⟨i1, fun a' ea' => ⟨i2, fun b' eb' => ?_⟩⟩)⟩
      have z : a' = a := ea'.trans ea.symm
      subst z
      have z : b' = b := eb'.trans eb.symm
      subst z
      exact ⟨hkk, (hB f' hM).1, (hB f' hM).2 _ (fun _ f'' hN w hw => nxt f'' hN w hw)⟩
    · intro _
      refine ⟨i1, fun a ea => ?_⟩
      obtain ⟨M, hA, hB⟩ := (g_estimate a)
      refine ⟨hkk, ho, hA _ (fun _ f' hM => ⟨i1, fun a' ea' => ?_⟩)⟩
      have z : a' = a := ea'.trans ea.symm
      subst z
      exact ⟨hkk, (hB f' hM).1, (hB f' hM).2 _ (fun _ f'' hN w hw => nxt f'' hN w hw)⟩
    · intro _
      obtain ⟨M, hA, hB⟩ := (g_run).go
      refine ⟨hkk, ho, hA _ (fun _ f' hM => ?_)⟩
      exact ⟨hkk, (hB f' hM).1, (hB f' hM).2 _ (fun _ f'' hN w hw => nxt f'' hN w hw)⟩
    · intro _
      refine ⟨i1, fun a ea => ⟨i2, fun b eb => ?_⟩⟩
      obtain ⟨k, v, M, hA, hB⟩ := g_value a b
      refine ⟨⟨by omega, by omega⟩, hA _ (fun f' hM => ⟨i1, fun a' ea' => ⟨i2, fun b' eb' => ?_⟩⟩)⟩
      have z : a' = a := ea'.trans ea.symm
      subst z
      have z : b' = b := eb'.trans eb.symm
      subst z
      refine ⟨⟨by omega, by omega⟩, (hB f' hM).1, (hB f' hM).2 _ (fun v' f'' hN ho3 ht hl => ⟨⟨by omega, by omega⟩, ho3, ?_⟩)⟩
      unfold wp_X9_thrown
      refine ⟨k, ht, fun _ => ⟨fun _ w hw => nxv f'' hN w hw, fun hk => ?_⟩, fun z => absurd rfl z⟩
      obtain ⟨hv, hl⟩ := hl hk
      rw [hv]
      exact ⟨_, hl, fun _ w hw => nxv f'' hN w hw, fun z => absurd (lg_cmp_self _) z⟩
    · intro _
      refine ⟨i1, fun a ea => ⟨i2, fun b eb => ?_⟩⟩
      obtain ⟨M, hA, hB⟩ := (g_found a b).go
      refine ⟨hkk, ho, hA _ (fun _ f' hM => ⟨i1, fun a' ea' => ⟨i2, fun b' eb' => ?_⟩⟩)⟩
      have z : a' = a := ea'.trans ea.symm
      subst z
      have z : b' = b := eb'.trans eb.symm
      subst z
      exact ⟨hkk, (hB f' hM).1, (hB f' hM).2 _ (fun _ f'' hN w hw => nxt f'' hN w hw)⟩
