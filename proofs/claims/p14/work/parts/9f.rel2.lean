/-! CLASS AND REFERENCE SIDE BY SIDE: one tables, mappings, question -/
def ag (r2 : Nat) (A : (Int32 → ac_hp → Prop) → Prop) (B : ac_hp → (Int32 → ac_hp → Prop) → Prop) (N : ac_hp → Prop) : Prop := ∃ (v : Int32) (M : ac_hp → Prop), (∀ P : Int32 → ac_hp → Prop, (∀ f', M f' → P v f') → A P) ∧ ∀ f', M f' → hr_o f' r2 9 ∧ ∀ Q : Int32 → ac_hp → Prop, (∀ f'', N f'' → Q v f'') → B f' Q
def go (r2 : Nat) (A : (Int32 → ac_hp → Prop) → Prop) (B : ac_hp → (Int32 → ac_hp → Prop) → Prop) (N : ac_hp → Prop) : Prop := ∃ M : ac_hp → Prop, (∀ P : Int32 → ac_hp → Prop, (∀ v f', M f' → P v f') → A P) ∧ ∀ f', M f' → hr_o f' r2 9 ∧ ∀ Q : Int32 → ac_hp → Prop, (∀ v f'', N f'' → Q v f'') → B f' Q
theorem ag.go {r2 : Nat} {A : (Int32 → ac_hp → Prop) → Prop} {B : ac_hp → (Int32 → ac_hp → Prop) → Prop} {N : ac_hp → Prop} (h : ag r2 A B N) : go r2 A B N := by
  obtain ⟨v, M, hA, hB⟩ := h
  exact ⟨M, fun P hP => hA P (fun f' hM => hP v f' hM), fun f' hM => ⟨(hB f' hM).1, fun Q hQ => (hB f' hM).2 Q (fun f'' hN => hQ v f'' hN)⟩⟩
def JA (ki : Nat → ClassId) (ad am : Nat → Nat) (r3 : Nat) (s : Nat → Nat → Int32) (tl : Nat → Int64) (t : Nat → Nat → Int32) (f : ac_hp) : Prop := vr_R f ki ad s tl f ∧ mr_R f ki am t f ∧ (∀ i j, i < 78 → j < 24 → ad i ≠ am j) ∧ (∀ i, i < 78 → ad i ≠ r3) ∧ (∀ j, j < 24 → am j ≠ r3) ∧ ∃ g : Nat → Int64, f r3 = some (.inl (ki 2, 1, .inr (.inl g)))
def JJ (ki : Nat → ClassId) (ad am : Nat → Nat) (r3 : Nat) (f : ac_hp) : Prop := ∃ (s : Nat → Nat → Int32) (tl : Nat → Int64) (t : Nat → Nat → Int32) (sz : Nat → Nat) (nn : Nat → Nat → Nat → Nat) (kk : Nat → Nat → Int32) (mc n sp : Nat), JA ki ad am r3 s tl t f ∧ CI s sz nn kk mc n sp ∧ RI t sz nn kk mc n sp
section RL2
variable {ki : Nat → ClassId} {ad am : Nat → Nat} {r3 : Nat} {s : Nat → Nat → Int32} {tl : Nat → Int64} {t : Nat → Nat → Int32} {f f' : ac_hp}
variable {sz : Nat → Nat} {nn : Nat → Nat → Nat → Nat} {kk : Nat → Nat → Int32} {mc n sp : Nat}
theorem JA.c {s' : Nat → Nat → Int32} {tl' : Nat → Int64} (h : JA ki ad am r3 s tl t f) (h' : vr_R f ki ad s' tl' f') : JA ki ad am r3 s' tl' t f' := by
  obtain ⟨hv, hm, hd, h1, h2, g, hg⟩ := h
  refine ⟨⟨h'.1, h'.2.1, fun _ _ => rfl⟩, ⟨fun i hi => ?_, hm.2.1, fun _ _ => rfl⟩, hd, h1, h2, g, ?_⟩
  · rw [h'.2.2 (am i) (fun k hk => hd k i hk hi)]
    exact hm.1 i hi
  · rw [h'.2.2 r3 (fun k hk => h1 k hk)]
    exact hg
theorem JA.m {t' : Nat → Nat → Int32} (h : JA ki ad am r3 s tl t f) (h' : mr_R f ki am t' f') : JA ki ad am r3 s tl t' f' := by
  obtain ⟨hv, hm, hd, h1, h2, g, hg⟩ := h
  refine ⟨⟨fun i hi => ?_, hv.2.1, fun _ _ => rfl⟩, ⟨h'.1, h'.2.1, fun _ _ => rfl⟩, hd, h1, h2, g, ?_⟩
  · rw [h'.2.2 (ad i) (fun k hk e => hd i k hi hk e.symm)]
    exact hv.1 i hi
  · rw [h'.2.2 r3 (fun k hk => h2 k hk)]
    exact hg
theorem JA.o {g' : Nat → Int64} (h : JA ki ad am r3 s tl t f) : JA ki ad am r3 s tl t (ac_up f r3 (.inl (ki 2, 1, .inr (.inl g')))) := by
  obtain ⟨hv, hm, hd, h1, h2, g, hg⟩ := h
  exact ⟨⟨fun i hi => by rw [ac_up_ne _ _ (h1 i hi)]; exact hv.1 i hi, hv.2.1, fun _ _ => rfl⟩, ⟨fun i hi => by rw [ac_up_ne _ _ (h2 i hi)]; exact hm.1 i hi, hm.2.1, fun _ _ => rfl⟩, hd, h1, h2, g', ac_up_self _ _ _⟩
/-- both change -/
theorem ag_new {v : Int32} {A : (Int32 → ac_hp → Prop) → Prop} {B : ac_hp → (Int32 → ac_hp → Prop) → Prop} {s' : Nat → Nat → Int32} {t' : Nat → Nat → Int32} {sz' : Nat → Nat} {nn' : Nat → Nat → Nat → Nat} {kk' : Nat → Nat → Int32} {mc' n' sp' : Nat} (h : JA ki ad am r3 s tl t f) (hc : CI s' sz' nn' kk' mc' n' sp') (hi : RI t' sz' nn' kk' mc' n' sp') (hA : ∀ P : Int32 → ac_hp → Prop, (∀ f', vr_R f ki ad s' tl f' → P v f') → A P) (hB : ∀ f', mr_R f' ki am t f' → ∀ Q : Int32 → ac_hp → Prop, (∀ f'', mr_R f' ki am t' f'' → Q v f'') → B f' Q) : ag (am 0) A B (JJ ki ad am r3) :=
  ⟨v, fun f' => JA ki ad am r3 s' tl t f', fun P hP => hA P (fun f' h' => hP f' (h.c h')), fun f' hM => ⟨rm_o hM.2.1, fun Q hQ => hB f' hM.2.1 Q (fun f'' h'' => hQ f'' ⟨s', tl, t', sz', nn', kk', mc', n', sp', hM.m h'', hc, hi⟩)⟩⟩
/-- nothing changes -/
theorem ag_same {v : Int32} {A : (Int32 → ac_hp → Prop) → Prop} {B : ac_hp → (Int32 → ac_hp → Prop) → Prop} (h : JA ki ad am r3 s tl t f) (hc : CI s sz nn kk mc n sp) (hi : RI t sz nn kk mc n sp) (hA : ∀ P : Int32 → ac_hp → Prop, P v f → A P) (hB : ∀ f', mr_R f' ki am t f' → ∀ Q : Int32 → ac_hp → Prop, (∀ f'', mr_R f' ki am (th0 t) f'' → Q v f'') → B f' Q) : ag (am 0) A B (JJ ki ad am r3) :=
  ag_new h hc (RI_t0 hi) (fun P hP => hA P (hP f h.1)) hB
theorem go_any {A : (Int32 → ac_hp → Prop) → Prop} {B : ac_hp → (Int32 → ac_hp → Prop) → Prop} (h : JA ki ad am r3 s tl t f) (hi : RI t sz nn kk mc n sp) (hA : ∀ P : Int32 → ac_hp → Prop, (∀ v s' tl' f', CI s' sz nn kk mc n sp → vr_R f ki ad s' tl' f' → P v f') → A P) (hB : ∀ f', mr_R f' ki am t f' → ∀ Q : Int32 → ac_hp → Prop, (∀ v t' f'', RI t' sz nn kk mc n sp → mr_R f' ki am t' f'' → Q v f'') → B f' Q) : go (am 0) A B (JJ ki ad am r3) :=
  ⟨fun f' => ∃ s' tl', CI s' sz nn kk mc n sp ∧ JA ki ad am r3 s' tl' t f', fun P hP => hA P (fun v s' tl' f' hc' h' => hP v f' ⟨s', tl', hc', h.c h'⟩), fun f' ⟨s', tl', hc', hM⟩ => ⟨rm_o hM.2.1, fun Q hQ => hB f' hM.2.1 Q (fun v t' f'' hi' h'' => hQ v f'' ⟨s', tl', t', sz, nn, kk, mc, n, sp, hM.m h'', hc', hi'⟩)⟩⟩
theorem RI.szs (hi : RI t sz nn kk mc n sp) : ∀ k, k < 4 → ∃ n, n ≤ 20 ∧ t 2 k = nI n := fun k hk => ⟨sz k, hi.1.1.1 k hk⟩
theorem CI.szs (hc : CI s sz nn kk mc n sp) : ∀ k, k < 4 → sz k ≤ 20 ∧ s (30 + 3 * k) 2 = nI (sz k) := by
  obtain ⟨VM, mt, ml, mtm, A, TP, -, h2, -⟩ := hc
  exact h2.1
theorem CI.key (hc : CI s sz nn kk mc n sp) : ∀ k c, k < 4 → c < 3 → s (32 + 3 * k) c = kk k c := by
  obtain ⟨VM, mt, ml, mtm, A, TP, -, -, h3, -⟩ := hc
  exact fun k c hk hc => (h3 k c hk hc).2
theorem nI_inj20 {a b : Nat} (ha : a ≤ 20) (hb : b ≤ 20) (h : nI a = nI b) : a = b := (nI_eq (by omega) (by omega)).mp h
theorem j_key (h : JA ki ad am r3 s tl t f) (hc : CI s sz nn kk mc n sp) (hi : RI t sz nn kk mc n sp) (a b x : Int32) (hx : x = 0 ∨ x = 1) : ag (am 0) (wp_X0_key ki (ad 0) a b x f) (fun f' => wp_X9_key ki (am 0) a b x f') (JJ ki ad am r3) := by
  by_cases hp : (∃ t : Nat, t < 4 ∧ a = nI t) ∧ (∃ c : Nat, c < 3 ∧ b = nI c)
  · obtain ⟨⟨k, hk, e1⟩, c, hcc, e2⟩ := hp
    have nb : ¬ ((¬ ∃ t : Nat, t < 4 ∧ a = nI t) ∨ (¬ ∃ c : Nat, c < 3 ∧ b = nI c)) := fun z => z.elim (fun z => z ⟨k, hk, e1⟩) (fun z => z ⟨c, hcc, e2⟩)
    have C : ∀ {P : Int32 → ac_hp → Prop}, ((kk k c = x → P 0 f) ∧ (¬ kk k c = x → (x ≠ 0 ∧ trep nn k c (sz k) → P (-4) f) ∧ (¬ (x ≠ 0 ∧ trep nn k c (sz k)) → ∀ f', vr_R f ki ad (vs_key s k c x) tl f' → P 1 f'))) → wp_X0_key ki (ad 0) a b x f P := fun {P} z => sp_key h.1 (CI_sz hc) hx (fun y => absurd y nb) (fun k' c' n' hk' hc' hn' e1' e2' hs' => by
      have q1 : k' = k := nI_inj20 (by omega) (by omega) (e1'.symm.trans e1)
      have q2 : c' = c := nI_inj20 (by omega) (by omega) (e2'.symm.trans e2)
      subst q1 q2
      have q3 : n' = sz k' := nI_inj20 hn' (hc.szs k' hk).1 (hs'.symm.trans (hc.szs k' hk).2)
      subst q3
      rw [hc.key k' c' hk hcc, c_rep hc hk hcc]
      exact z)
    have R : ∀ f', mr_R f' ki am t f' → ∀ {P : Int32 → ac_hp → Prop}, ((kk k c = x → ∀ f'', mr_R f' ki am (th0 t) f'' → P 0 f'') ∧ (¬ kk k c = x → (x ≠ 0 ∧ trep nn k c (sz k) → ∀ f'', mr_R f' ki am (th0 t) f'' → P (-4) f'') ∧ (¬ (x ≠ 0 ∧ trep nn k c (sz k)) → ∀ f'', mr_R f' ki am (va_up (th0 t) 3 (upd (t 3) (3 * k + c) x)) f'' → P 1 f''))) → wp_X9_key ki (am 0) a b x f' P := fun f' hm {P} z => sm_key hm hi.szs hx (fun y => absurd y nb) (fun k' c' n' hk' hc' hn' e1' e2' hs' => by
      have q1 : k' = k := nI_inj20 (by omega) (by omega) (e1'.symm.trans e1)
      have q2 : c' = c := nI_inj20 (by omega) (by omega) (e2'.symm.trans e2)
      subst q1 q2
      have q3 : n' = sz k' := nI_inj20 hn' (hi.1.1.1 k' hk).1 (hs'.symm.trans (hi.1.1.1 k' hk).2)
      subst q3
      rw [(hi.1.2.1 k' c' hk hcc).2, r_rep hi.1 hk hcc]
      exact z)
    by_cases c1 : kk k c = x
    · exact ag_same h hc hi (fun P hP => C ⟨fun _ => hP, fun z => absurd c1 z⟩) (fun f' hm Q hQ => R f' hm ⟨fun _ => hQ, fun z => absurd c1 z⟩)
    · by_cases c2 : x ≠ 0 ∧ trep nn k c (sz k)
      · exact ag_same h hc hi (fun P hP => C ⟨fun z => absurd z c1, fun _ => ⟨fun _ => hP, fun z => absurd c2 z⟩⟩) (fun f' hm Q hQ => R f' hm ⟨fun z => absurd z c1, fun _ => ⟨fun _ => hQ, fun z => absurd c2 z⟩⟩)
      · refine ag_new (s' := vs_key s k c x) (t' := va_up (th0 t) 3 (upd (t 3) (3 * k + c) x)) h (CI_key hc hk hcc hx) ?_ (fun P hP => C ⟨fun z => absurd z c1, fun _ => ⟨fun z => absurd z c2, fun _ => hP⟩⟩) (fun f' hm Q hQ => R f' hm ⟨fun z => absurd z c1, fun _ => ⟨fun z => absurd z c2, fun _ => hQ⟩⟩)
        have e3 : th0 t 3 = t 3 := va_up_ne _ _ (by omega)
        rw [← e3]
        exact RI_key (RI_t0 hi) hcc hx
  · have nb : (¬ ∃ t : Nat, t < 4 ∧ a = nI t) ∨ (¬ ∃ c : Nat, c < 3 ∧ b = nI c) := by
      by_cases z : ∃ t : Nat, t < 4 ∧ a = nI t
      · exact Or.inr (fun y => hp ⟨z, y⟩)
      · exact Or.inl z
    exact ag_same h hc hi (fun P hP => sp_key h.1 (CI_sz hc) hx (fun _ => hP) (fun k c n hk hc' _ e1 e2 _ => absurd ⟨⟨k, hk, e1⟩, c, hc', e2⟩ hp)) (fun f' hm Q hQ => sm_key hm hi.szs hx (fun _ => hQ) (fun k c n hk hc' _ e1 e2 _ => absurd ⟨⟨k, hk, e1⟩, c, hc', e2⟩ hp))
theorem j_row (h : JA ki ad am r3 s tl t f) (hc : CI s sz nn kk mc n sp) (hi : RI t sz nn kk mc n sp) (a b c d : Int32) : ag (am 0) (wp_X0_row ki (ad 0) a b c d f) (fun f' => wp_X9_row ki (am 0) a b c d f') (JJ ki ad am r3) := by
  by_cases hp : (∃ t : Nat, t < 4 ∧ a = nI t) ∧ (∃ x : Nat, x < 10000 ∧ b = nI x) ∧ (∃ x : Nat, x < 10000 ∧ c = nI x) ∧ (∃ x : Nat, x < 10000 ∧ d = nI x)
  · obtain ⟨⟨k, hk, e1⟩, ⟨x, hx, e2⟩, ⟨y, hy, e3⟩, w, hw, e4⟩ := id hp
    have hS := hc.szs k hk
    have hT := hi.1.1.1 k hk
    have C : ∀ {P : Int32 → ac_hp → Prop}, ((tno nn kk k (sz k) 0 b ∨ tno nn kk k (sz k) 1 c ∨ tno nn kk k (sz k) 2 d → P (-4) f) ∧ (¬ (tno nn kk k (sz k) 0 b ∨ tno nn kk k (sz k) 1 c ∨ tno nn kk k (sz k) 2 d) → (sz k = 20 → P (-2) f) ∧ (sz k < 20 → ∀ f', vr_R f ki ad (vs_append s k (sz k) b c d) tl f' → P (nI (sz k + 1)) f'))) → wp_X0_row ki (ad 0) a b c d f P := fun {P} z => sp_row h.1 (CI_sz hc) (fun y => absurd hp y) (fun k' _ _ _ n' hk' _ _ _ hn' e1' _ _ _ hs' => by
      have q1 : k' = k := nI_inj20 (by omega) (by omega) (e1'.symm.trans e1)
      subst q1
      have q3 : n' = sz k' := nI_inj20 hn' hS.1 (hs'.symm.trans hS.2)
      subst q3
      rw [c_no hc hk (by omega), c_no hc hk (by omega), c_no hc hk (by omega)]
      exact z)
    have R : ∀ f', mr_R f' ki am t f' → ∀ {P : Int32 → ac_hp → Prop}, ((tno nn kk k (sz k) 0 b ∨ tno nn kk k (sz k) 1 c ∨ tno nn kk k (sz k) 2 d → ∀ f'', mr_R f' ki am (th0 t) f'' → P (-4) f'') ∧ (¬ (tno nn kk k (sz k) 0 b ∨ tno nn kk k (sz k) 1 c ∨ tno nn kk k (sz k) 2 d) → (sz k = 20 → ∀ f'', mr_R f' ki am (th0 t) f'' → P (-2) f'') ∧ (sz k < 20 → ∀ f'', mr_R f' ki am (ms_row (th0 t) k (sz k) b c d) f'' → P (nI (sz k + 1)) f''))) → wp_X9_row ki (am 0) a b c d f' P := fun f' hm {P} z => sm_row hm hi.szs (fun y => absurd hp y) (fun k' _ _ _ n' hk' _ _ _ hn' e1' _ _ _ hs' => by
      have q1 : k' = k := nI_inj20 (by omega) (by omega) (e1'.symm.trans e1)
      subst q1
      have q3 : n' = sz k' := nI_inj20 hn' hT.1 (hs'.symm.trans hT.2)
      subst q3
      rw [r_no hi.1 hk (by omega), r_no hi.1 hk (by omega), r_no hi.1 hk (by omega)]
      exact z)
    by_cases c1 : tno nn kk k (sz k) 0 b ∨ tno nn kk k (sz k) 1 c ∨ tno nn kk k (sz k) 2 d
    · exact ag_same h hc hi (fun P hP => C ⟨fun _ => hP, fun z => absurd c1 z⟩) (fun f' hm Q hQ => R f' hm ⟨fun _ => hQ, fun z => absurd c1 z⟩)
    · by_cases c2 : sz k = 20
      · exact ag_same h hc hi (fun P hP => C ⟨fun z => absurd z c1, fun _ => ⟨fun _ => hP, fun z => absurd z (by omega)⟩⟩) (fun f' hm Q hQ => R f' hm ⟨fun z => absurd z c1, fun _ => ⟨fun _ => hQ, fun z => absurd z (by omega)⟩⟩)
      · have hlt : sz k < 20 := by omega
        have hC : CI (vs_append s k (sz k) b c d) (va_up sz k (sz k + 1)) (nset nn k (sz k) x y w) kk mc n sp := by rw [e2, e3, e4]; exact CI_row hc hk hlt hx hy hw
        have hR : RI (ms_row (th0 t) k (sz k) b c d) (va_up sz k (sz k + 1)) (nset nn k (sz k) x y w) kk mc n sp := by rw [e2, e3, e4]; exact RI_row (RI_t0 hi) hk hlt hx hy hw
        exact ag_new h hC hR (fun P hP => C ⟨fun z => absurd z c1, fun _ => ⟨fun z => absurd z c2, fun _ => hP⟩⟩) (fun f' hm Q hQ => R f' hm ⟨fun z => absurd z c1, fun _ => ⟨fun z => absurd z c2, fun _ => hQ⟩⟩)
  · exact ag_same h hc hi (fun P hP => sp_row h.1 (CI_sz hc) (fun _ => hP) (fun t x y w n ht h1 h2 h3 hn e1 e2 e3 e4 hs => absurd ⟨⟨t, ht, e1⟩, ⟨x, h1, e2⟩, ⟨y, h2, e3⟩, w, h3, e4⟩ hp)) (fun f' hm Q hQ => sm_row hm hi.szs (fun _ => hQ) (fun t x y w n ht h1 h2 h3 hn e1 e2 e3 e4 hs => absurd ⟨⟨t, ht, e1⟩, ⟨x, h1, e2⟩, ⟨y, h2, e3⟩, w, h3, e4⟩ hp))
theorem j_drop (h : JA ki ad am r3 s tl t f) (hc : CI s sz nn kk mc n sp) (hi : RI t sz nn kk mc n sp) (a b : Int32) : ag (am 0) (wp_X0_drop ki (ad 0) a b f) (fun f' => wp_X9_drop ki (am 0) a b f') (JJ ki ad am r3) := by
  by_cases hp : ∃ k : Nat, k < 4 ∧ a = nI k
  · obtain ⟨k, hk, e1⟩ := id hp
    have hS := hc.szs k hk
    have hT := hi.1.1.1 k hk
    by_cases hb : ∃ i : Nat, i < sz k ∧ b = nI i
    · obtain ⟨i, hik, e2⟩ := hb
      refine ag_new (v := nI (sz k - 1)) (s' := vs_drop s k i (sz k)) (t' := ms_drop (th0 t) k i (sz k)) h (CI_drop hc hk hik) (RI_drop (RI_t0 hi) hk hik) (fun P hP => sp_drop h.1 (CI_sz hc) (fun z => absurd hp z) (fun k' n' hk' hn' e1' hs' => ?_)) (fun f' hm Q hQ => sm_drop hm hi.szs (fun z => absurd hp z) (fun k' n' hk' hn' e1' hs' => ?_))
      · have q1 : k' = k := nI_inj20 (by omega) (by omega) (e1'.symm.trans e1)
        subst q1
        have q3 : n' = sz k' := nI_inj20 hn' hS.1 (hs'.symm.trans hS.2)
        subst q3
        exact ⟨fun z => absurd ⟨i, hik, e2⟩ z, fun i' hi' e2' => by
          have q4 : i' = i := nI_inj20 (by omega) (by omega) (e2'.symm.trans e2)
          subst q4
          exact hP⟩
      · have q1 : k' = k := nI_inj20 (by omega) (by omega) (e1'.symm.trans e1)
        subst q1
        have q3 : n' = sz k' := nI_inj20 hn' hT.1 (hs'.symm.trans hT.2)
        subst q3
        exact ⟨fun z => absurd ⟨i, hik, e2⟩ z, fun i' hi' e2' => by
          have q4 : i' = i := nI_inj20 (by omega) (by omega) (e2'.symm.trans e2)
          subst q4
          exact hQ⟩
    · refine ag_same (v := -1) h hc hi (fun P hP => sp_drop h.1 (CI_sz hc) (fun z => absurd hp z) (fun k' n' hk' hn' e1' hs' => ?_)) (fun f' hm Q hQ => sm_drop hm hi.szs (fun z => absurd hp z) (fun k' n' hk' hn' e1' hs' => ?_))
      · have q1 : k' = k := nI_inj20 (by omega) (by omega) (e1'.symm.trans e1)
        subst q1
        have q3 : n' = sz k' := nI_inj20 hn' hS.1 (hs'.symm.trans hS.2)
        subst q3
        exact ⟨fun _ => hP, fun i hi' e2' => absurd ⟨i, hi', e2'⟩ hb⟩
      · have q1 : k' = k := nI_inj20 (by omega) (by omega) (e1'.symm.trans e1)
        subst q1
        have q3 : n' = sz k' := nI_inj20 hn' hT.1 (hs'.symm.trans hT.2)
        subst q3
        exact ⟨fun _ => hQ, fun i hi' e2' => absurd ⟨i, hi', e2'⟩ hb⟩
  · exact ag_same h hc hi (fun P hP => sp_drop h.1 (CI_sz hc) (fun _ => hP) (fun k n hk _ e1 _ => absurd ⟨k, hk, e1⟩ hp)) (fun f' hm Q hQ => sm_drop hm hi.szs (fun _ => hQ) (fun k n hk _ e1 _ => absurd ⟨k, hk, e1⟩ hp))
end RL2
