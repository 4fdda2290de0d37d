/-! THE FIRST CALL ON NEW OBJECTS: class and reference answer alike -/
section FR3
variable {ki : Nat → ClassId} {ad am : Nat → Nat} {r3 : Nat} {f f' : ac_hp} {N : ac_hp → Prop}
def FM (ki : Nat → ClassId) (am : Nat → Nat) (r3 : Nat) (f : ac_hp) : Prop := mr_R f ki am ms0 f ∧ (∀ j, j < 24 → am j ≠ r3) ∧ ∃ g : Nat → Int64, f r3 = some (.inl (ki 2, 1, .inr (.inl g)))
def FS (ki : Nat → ClassId) (ad am : Nat → Nat) (r3 : Nat) (f : ac_hp) : Prop := vr_R f ki ad vs0 (fun _ => 0) f ∧ FM ki am r3 f ∧ (∀ i j, i < 78 → j < 24 → ad i ≠ am j) ∧ ∀ i, i < 78 → ad i ≠ r3
theorem fs_m {s' : Nat → Nat → Int32} {tl' : Nat → Int64} (h : FS ki ad am r3 f) (h' : vr_R f ki ad s' tl' f') : FM ki am r3 f' := by
  obtain ⟨hv, ⟨hm, hne, g, hg⟩, hd, hr⟩ := h
  refine ⟨⟨fun i hi => ?_, hm.2.1, fun _ _ => rfl⟩, hne, g, ?_⟩
  · rw [h'.2.2 (am i) (fun k hk => hd k i hk hi)]
    exact hm.1 i hi
  · rw [h'.2.2 r3 (fun k hk => hr k hk)]
    exact hg
theorem vs0_ne {i k : Nat} (h : i ≠ 9) : vs0 i k = 0 := by
  unfold vs0
  rw [if_neg h]
theorem vs0_sz : vs_sz vs0 := fun t _ => ⟨0, by omega, by rw [vs0_ne (by omega), nI_0]⟩
theorem ms0_sz : ∀ t, t < 4 → ∃ n, n ≤ 20 ∧ ms0 2 t = nI n := fun t _ => ⟨0, by omega, nI_0.symm⟩
theorem z_of {n : Nat} (hn : n ≤ 20) (h : (0 : Int32) = nI n) : n = 0 := ((nI_eq (a := 0) (b := n) (by omega) (by omega)).mp (nI_0.trans h)).symm
theorem a_key (h : FS ki ad am r3 f) (hN : ∀ f, N f) (a b c : Int32) (hc : c = 0 ∨ c = 1) : ag (am 0) (wp_X0_key ki (ad 0) a b c f) (fun f' => wp_X9_key ki (am 0) a b c f') N := by
  by_cases hp : (∃ t : Nat, t < 4 ∧ a = nI t) ∧ (∃ c : Nat, c < 3 ∧ b = nI c)
  · rcases hc with rfl | rfl
    · refine ⟨0, FM ki am r3, fun P hP => sp_key h.1 vs0_sz (Or.inl rfl) (fun z => z.elim (fun z => absurd hp.1 z) (fun z => absurd hp.2 z)) (fun t c n ht hc hn e1 e2 hs => ⟨fun _ => hP f h.2.1, fun z => absurd (vs0_ne (by omega)) z⟩), fun f' hM => ⟨rm_o hM.1, fun Q hQ => sm_key hM.1 ms0_sz (Or.inl rfl) (fun z => z.elim (fun z => absurd hp.1 z) (fun z => absurd hp.2 z)) (fun t c n ht hc hn e1 e2 hs => ⟨fun _ f'' _ => hQ f'' (hN f''), fun z => absurd rfl z⟩)⟩⟩
    · refine ⟨1, FM ki am r3, fun P hP => sp_key h.1 vs0_sz (Or.inr rfl) (fun z => z.elim (fun z => absurd hp.1 z) (fun z => absurd hp.2 z)) (fun t c n ht hc hn e1 e2 hs => ⟨fun z => absurd (z.symm.trans (vs0_ne (by omega))) ne10, fun _ => ⟨fun z => ?_, fun _ f' h' => hP f' (fs_m h h')⟩⟩), fun f' hM => ⟨rm_o hM.1, fun Q hQ => sm_key hM.1 ms0_sz (Or.inr rfl) (fun z => z.elim (fun z => absurd hp.1 z) (fun z => absurd hp.2 z)) (fun t c n ht hc hn e1 e2 hs => ⟨fun z => absurd z.symm ne10, fun _ => ⟨fun z => ?_, fun _ f'' _ => hQ f'' (hN f'')⟩⟩)⟩⟩
      · have e := z_of hn ((vs0_ne (by omega)).symm.trans hs)
        obtain ⟨r, hr, _⟩ := z.2
        omega
      · have e := z_of hn hs
        obtain ⟨r, hr, _⟩ := z.2
        omega
  · refine ⟨-1, FM ki am r3, fun P hP => sp_key h.1 vs0_sz hc (fun _ => hP f h.2.1) (fun t c n ht hc hn e1 e2 hs => absurd ⟨⟨t, ht, e1⟩, c, hc, e2⟩ hp), fun f' hM => ⟨rm_o hM.1, fun Q hQ => sm_key hM.1 ms0_sz hc (fun _ f'' _ => hQ f'' (hN f'')) (fun t c n ht hc hn e1 e2 hs => absurd ⟨⟨t, ht, e1⟩, c, hc, e2⟩ hp)⟩⟩
theorem a_row (h : FS ki ad am r3 f) (hN : ∀ f, N f) (a b c d : Int32) : ag (am 0) (wp_X0_row ki (ad 0) a b c d f) (fun f' => wp_X9_row ki (am 0) a b c d f') N := by
  by_cases hp : (∃ t : Nat, t < 4 ∧ a = nI t) ∧ (∃ x : Nat, x < 10000 ∧ b = nI x) ∧ (∃ x : Nat, x < 10000 ∧ c = nI x) ∧ (∃ x : Nat, x < 10000 ∧ d = nI x)
  · refine ⟨nI (0 + 1), FM ki am r3, fun P hP => sp_row h.1 vs0_sz (fun z => absurd hp z) (fun t x y w n ht _ _ _ hn e1 e2 e3 e4 hs => ?_), fun f' hM => ⟨rm_o hM.1, fun Q hQ => sm_row hM.1 ms0_sz (fun z => absurd hp z) (fun t x y w n ht _ _ _ hn e1 e2 e3 e4 hs => ?_)⟩⟩
    · have e := z_of hn ((vs0_ne (by omega)).symm.trans hs)
      subst e
      have no : ∀ c v, ¬ vt_no vs0 t 0 c v := fun c v z => z.1 (vs0_ne (by omega))
      exact ⟨fun z => (z.elim (no _ _) (fun z => z.elim (no _ _) (no _ _))).elim, fun _ => ⟨fun z => absurd z (by omega), fun _ f' h' => hP f' (fs_m h h')⟩⟩
    · have e := z_of hn hs
      subst e
      have no : ∀ c v, ¬ mno ms0 t 0 c v := fun c v z => z.1 rfl
      exact ⟨fun z => (z.elim (no _ _) (fun z => z.elim (no _ _) (no _ _))).elim, fun _ => ⟨fun z => absurd z (by omega), fun _ f'' _ => hQ f'' (hN f'')⟩⟩
  · exact ⟨-1, FM ki am r3, fun P hP => sp_row h.1 vs0_sz (fun _ => hP f h.2.1) (fun t x y w n ht h1 h2 h3 hn e1 e2 e3 e4 hs => absurd ⟨⟨t, ht, e1⟩, ⟨x, h1, e2⟩, ⟨y, h2, e3⟩, w, h3, e4⟩ hp), fun f' hM => ⟨rm_o hM.1, fun Q hQ => sm_row hM.1 ms0_sz (fun _ f'' _ => hQ f'' (hN f'')) (fun t x y w n ht h1 h2 h3 hn e1 e2 e3 e4 hs => absurd ⟨⟨t, ht, e1⟩, ⟨x, h1, e2⟩, ⟨y, h2, e3⟩, w, h3, e4⟩ hp)⟩⟩
theorem a_drop (h : FS ki ad am r3 f) (hN : ∀ f, N f) (a b : Int32) : ag (am 0) (wp_X0_drop ki (ad 0) a b f) (fun f' => wp_X9_drop ki (am 0) a b f') N := by
  refine ⟨-1, FM ki am r3, fun P hP => sp_drop h.1 vs0_sz (fun _ => hP f h.2.1) (fun t n ht hn e1 hs => ⟨fun _ => hP f h.2.1, fun i hi => ?_⟩), fun f' hM => ⟨rm_o hM.1, fun Q hQ => sm_drop hM.1 ms0_sz (fun _ f'' _ => hQ f'' (hN f'')) (fun t n ht hn e1 hs => ⟨fun _ f'' _ => hQ f'' (hN f''), fun i hi => ?_⟩)⟩⟩
  · have e := z_of hn ((vs0_ne (by omega)).symm.trans hs)
    omega
  · have e := z_of hn hs
    omega
theorem a_mapping (h : FS ki ad am r3 f) (hN : ∀ f, N f) (a b c d e g : Int32) : ag (am 0) (wp_X0_mapping ki (ad 0) a b c d e g f) (fun f' => wp_X9_mapping ki (am 0) a b c d e g f') N := by
  have q1 : vs0 1 3 = nI 0 := (vs0_ne (by omega)).trans nI_0.symm
  have q2 : ms0 0 4 = nI 0 := nI_0.symm
  by_cases hp : (∃ t : Nat, t < 4 ∧ a = nI t) ∧ (∃ p : Nat, p < 8 ∧ b = nI p) ∧ (∃ x : Nat, x < 6 ∧ c = nI x) ∧ (∃ x : Nat, x < 3 ∧ d = nI x) ∧ (∃ x : Nat, x < 6 ∧ e = nI x) ∧ (∃ x : Nat, x < 3 ∧ g = nI x)
  · exact ⟨nI 0, FM ki am r3, fun P hP => sp_mapping h.1 q1 (by omega) (fun z => absurd hp z) (fun _ _ _ _ _ _ => ⟨fun z => absurd z (by omega), fun _ f' h' => hP f' (fs_m h h')⟩), fun f' hM => ⟨rm_o hM.1, fun Q hQ => sm_mapping hM.1 q2 (by omega) (fun z => absurd hp z) (fun _ _ _ _ _ _ => ⟨fun z => absurd z (by omega), fun _ f'' _ => hQ f'' (hN f'')⟩)⟩⟩
  · exact ⟨-1, FM ki am r3, fun P hP => sp_mapping h.1 q1 (by omega) (fun _ => hP f h.2.1) (fun h1 h2 h3 h4 h5 h6 => absurd ⟨h1, h2, h3, h4, h5, h6⟩ hp), fun f' hM => ⟨rm_o hM.1, fun Q hQ => sm_mapping hM.1 q2 (by omega) (fun _ f'' _ => hQ f'' (hN f'')) (fun h1 h2 h3 h4 h5 h6 => absurd ⟨h1, h2, h3, h4, h5, h6⟩ hp)⟩⟩
theorem a_atom (h : FS ki ad am r3 f) (hN : ∀ f, N f) (a b c : Int32) : ag (am 0) (wp_X0_atom ki (ad 0) a b c f) (fun f' => wp_X9_atom ki (am 0) a b c f') N := by
  have q1 : vs0 5 4 = nI 0 := (vs0_ne (by omega)).trans nI_0.symm
  have q2 : ms0 0 9 = nI 0 := nI_0.symm
  by_cases hp : (∃ p : Nat, p < 8 ∧ a = nI p) ∧ (¬ b < (-6) ∧ b < 60000) ∧ (¬ c < (-6) ∧ c < 60000)
  · exact ⟨nI (0 + 1), FM ki am r3, fun P hP => sp_atom h.1 q1 (by omega) (fun z => absurd hp z) (fun _ _ _ => ⟨fun z => absurd z (by omega), fun _ f' h' => hP f' (fs_m h h')⟩), fun f' hM => ⟨rm_o hM.1, fun Q hQ => sm_atom hM.1 q2 (by omega) (fun z => absurd hp z) (fun _ _ _ => ⟨fun z => absurd z (by omega), fun _ f'' _ => hQ f'' (hN f'')⟩)⟩⟩
  · exact ⟨-1, FM ki am r3, fun P hP => sp_atom h.1 q1 (by omega) (fun _ => hP f h.2.1) (fun h1 h2 h3 => absurd ⟨h1, h2, h3⟩ hp), fun f' hM => ⟨rm_o hM.1, fun Q hQ => sm_atom hM.1 q2 (by omega) (fun _ f'' _ => hQ f'' (hN f'')) (fun h1 h2 h3 => absurd ⟨h1, h2, h3⟩ hp)⟩⟩
theorem a_span (h : FS ki ad am r3 f) (hN : ∀ f, N f) (a b c : Int32) : ag (am 0) (wp_X0_span ki (ad 0) a b c f) (fun f' => wp_X9_span ki (am 0) a b c f') N := by
  have q1 : vs0 5 5 = nI 0 := (vs0_ne (by omega)).trans nI_0.symm
  have q2 : ms0 0 12 = nI 0 := nI_0.symm
  by_cases hp : ∃ v : Nat, v < 6 ∧ a = nI v
  · exact ⟨nI (0 + 1), FM ki am r3, fun P hP => sp_span h.1 q1 (by omega) (fun z => absurd hp z) (fun _ _ _ => ⟨fun z => absurd z (by omega), fun _ f' h' => hP f' (fs_m h h')⟩), fun f' hM => ⟨rm_o hM.1, fun Q hQ => sm_span hM.1 q2 (by omega) (fun z => absurd hp z) (fun _ _ _ => ⟨fun z => absurd z (by omega), fun _ f'' _ => hQ f'' (hN f'')⟩)⟩⟩
  · exact ⟨-1, FM ki am r3, fun P hP => sp_span h.1 q1 (by omega) (fun _ => hP f h.2.1) (fun v h1 h2 => absurd ⟨v, h1, h2⟩ hp), fun f' hM => ⟨rm_o hM.1, fun Q hQ => sm_span hM.1 q2 (by omega) (fun _ f'' _ => hQ f'' (hN f'')) (fun v h1 h2 => absurd ⟨v, h1, h2⟩ hp)⟩⟩
theorem a_clear (h : FS ki ad am r3 f) (hN : ∀ f, N f) : ag (am 0) (wp_X0_clear ki (ad 0) f) (fun f' => wp_X9_clear ki (am 0) f') N :=
  ⟨nI 0, FM ki am r3, fun P hP => sp_clear h.1 (fun f' h' => by rw [(vs0_ne (by omega) : vs0 5 4 = 0), ← nI_0]; exact hP f' (fs_m h h')), fun f' hM => ⟨rm_o hM.1, fun Q hQ => sm_clear (n := 0) hM.1 nI_0.symm (fun f'' _ => hQ f'' (hN f''))⟩⟩
theorem a_triples (h : FS ki ad am r3 f) (hN : ∀ f, N f) : ag (am 0) (wp_X0_triples ki (ad 0) f) (fun f' => wp_X9_triples ki (am 0) f') N :=
  ⟨0, FM ki am r3, fun P hP => sp_triples0 h.1 (vs0_ne (by omega)) (fun f' h' => hP f' (fs_m h h')), fun f' hM => ⟨rm_o hM.1, fun Q hQ => sm_triples0 hM.1 rfl (fun f'' _ => hQ f'' (hN f''))⟩⟩
theorem a_unions (h : FS ki ad am r3 f) (hN : ∀ f, N f) : ag (am 0) (wp_X0_unions ki (ad 0) f) (fun f' => wp_X9_unions ki (am 0) f') N :=
  ⟨-1, FM ki am r3, fun P hP => sp_unions0 h.1 (vs0_ne (by omega)) (hP f h.2.1), fun f' hM => ⟨rm_o hM.1, fun Q hQ => sm_unions0 hM.1 rfl (fun f'' _ => hQ f'' (hN f''))⟩⟩
theorem a_union (h : FS ki ad am r3 f) (hN : ∀ f, N f) (a b : Int32) : ag (am 0) (wp_X0_union ki (ad 0) a b f) (fun f' => wp_X9_union ki (am 0) a b f') N :=
  ⟨-1, FM ki am r3, fun P hP => sp_union0 h.1 (vs0_ne (by omega)) (hP f h.2.1), fun f' hM => ⟨rm_o hM.1, fun Q hQ => sm_union0 hM.1 rfl (fun f'' _ => hQ f'' (hN f''))⟩⟩
theorem a_estimate (h : FS ki ad am r3 f) (hN : ∀ f, N f) (a : Int32) : ag (am 0) (wp_X0_estimate ki (ad 0) a f) (fun f' => wp_X9_estimate ki (am 0) a f') N :=
  ⟨-1, FM ki am r3, fun P hP => sp_estimate0 h.1 (vs0_ne (by omega)) (hP f h.2.1), fun f' hM => ⟨rm_o hM.1, fun Q hQ => sm_estimate0 hM.1 rfl (fun f'' _ => hQ f'' (hN f''))⟩⟩
theorem a_run (h : FS ki ad am r3 f) (hN : ∀ f, N f) : ag (am 0) (wp_X0_run ki (ad 0) f) (fun f' => wp_X9_run ki (am 0) f') N :=
  ⟨-1, FM ki am r3, fun P hP => sp_run0 h.1 (vs0_ne (by omega)) (fun f' h' => hP f' (fs_m h h')), fun f' hM => ⟨rm_o hM.1, fun Q hQ => sm_run0 hM.1 rfl (fun f'' _ => hQ f'' (hN f''))⟩⟩
theorem a_found (h : FS ki ad am r3 f) (hN : ∀ f, N f) (a b : Int32) : ag (am 0) (wp_X0_found ki (ad 0) a b f) (fun f' => wp_X9_found ki (am 0) a b f') N :=
  ⟨-1, FM ki am r3, fun P hP => sp_found0 h.1 (vs0_ne (by omega)) (hP f h.2.1), fun f' hM => ⟨rm_o hM.1, fun Q hQ => sm_found0 hM.1 rfl (fun f'' _ => hQ f'' (hN f''))⟩⟩
theorem a_value (h : FS ki ad am r3 f) (hN : ∀ f, N f) (a b : Int32) : agv ki (ad 0) (am 0) r3 a b f N := by
  refine ⟨-1, FM ki am r3, fun P hP => sp_value0 h.1 (vs0_ne (by omega)) (hP f h.2.1), fun f' hM => ?_⟩
  obtain ⟨hm, hne, g, hg⟩ := hM
  have h1 : mr_R (ac_up f' r3 (.inl (ki 2, 1, .inr (.inl (vp_updL g (0 : Int32).toNatClampNeg (-1 : Int32).toInt64))))) ki am ms0 (ac_up f' r3 (.inl (ki 2, 1, .inr (.inl (vp_updL g (0 : Int32).toNatClampNeg (-1 : Int32).toInt64))))) := ⟨fun i hi => by rw [ac_up_ne _ _ (hne i hi)]; exact hm.1 i hi, hm.2.1, fun _ _ => rfl⟩
  refine ⟨_, ⟨1, g, hg, vp_in_nI (n := 0) (by omega) (by omega), rfl⟩, rm_o h1, fun Q hQ => sm_value0 h1 rfl (fun f'' h'' => hQ f'' (hN f'') (rm_o h'') (rm_f h'' rfl) ⟨1, _, by rw [h''.2.2 r3 (fun i hi => hne i hi), ac_up_self], vp_in_nI (n := 0) (by omega) (by omega), ?_⟩)⟩
  simp [vp_updL]
theorem a_all (h : FS ki ad am r3 f) (hN : ∀ f, N f) : agree_all ki (ad 0) (am 0) r3 f N :=
  ⟨rd_o (i := 0) h.1 (by omega) rfl, hN f, a_key h hN, a_row h hN, a_drop h hN, a_mapping h hN, a_triples h hN, a_atom h hN, a_span h hN, a_clear h hN, a_unions h hN, a_union h hN, a_estimate h hN, a_run h hN, a_value h hN, a_found h hN⟩
end FR3
