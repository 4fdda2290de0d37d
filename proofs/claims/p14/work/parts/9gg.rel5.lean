/-! CLASS AND REFERENCE SIDE BY SIDE, mappings, question and spans too; triples answer alike -/
def JJ2 (ki : Nat → ClassId) (ad am : Nat → Nat) (r3 : Nat) (f : ac_hp) : Prop := ∃ (s : Nat → Nat → Int32) (tl : Nat → Int64) (t : Nat → Nat → Int32) (sz : Nat → Nat) (nn : Nat → Nat → Nat → Nat) (kk : Nat → Nat → Int32) (mc n sp : Nat), JA ki ad am r3 s tl t f ∧ CI s sz nn kk mc n sp ∧ RI t sz nn kk mc n sp ∧ ML s t mc n sp
section RL5
variable {ki : Nat → ClassId} {ad am : Nat → Nat} {r3 : Nat} {s : Nat → Nat → Int32} {tl : Nat → Int64} {t : Nat → Nat → Int32} {f f' : ac_hp}
variable {sz : Nat → Nat} {nn : Nat → Nat → Nat → Nat} {kk : Nat → Nat → Int32} {mc n sp : Nat}
theorem ah_new {v : Int32} {A : (Int32 → ac_hp → Prop) → Prop} {B : ac_hp → (Int32 → ac_hp → Prop) → Prop} {s' : Nat → Nat → Int32} {t' : Nat → Nat → Int32} {sz' : Nat → Nat} {nn' : Nat → Nat → Nat → Nat} {kk' : Nat → Nat → Int32} {mc' n' sp' : Nat} (h : JA ki ad am r3 s tl t f) (hc : CI s' sz' nn' kk' mc' n' sp') (hi : RI t' sz' nn' kk' mc' n' sp') (hl : ML s' t' mc' n' sp') (hA : ∀ P : Int32 → ac_hp → Prop, (∀ tl' f', vr_R f ki ad s' tl' f' → P v f') → A P) (hB : ∀ f', mr_R f' ki am t f' → ∀ Q : Int32 → ac_hp → Prop, (∀ f'', mr_R f' ki am t' f'' → Q v f'') → B f' Q) : ag (am 0) A B (JJ2 ki ad am r3) :=
  ⟨v, fun f' => ∃ tl', JA ki ad am r3 s' tl' t f', fun P hP => hA P (fun tl' f' h' => hP f' ⟨tl', h.c h'⟩), fun f' ⟨tl', hM⟩ => ⟨rm_o hM.2.1, fun Q hQ => hB f' hM.2.1 Q (fun f'' h'' => hQ f'' ⟨s', tl', t', sz', nn', kk', mc', n', sp', hM.m h'', hc, hi, hl⟩)⟩⟩
theorem ah_same {v : Int32} {A : (Int32 → ac_hp → Prop) → Prop} {B : ac_hp → (Int32 → ac_hp → Prop) → Prop} (h : JA ki ad am r3 s tl t f) (hc : CI s sz nn kk mc n sp) (hi : RI t sz nn kk mc n sp) (hl : ML s t mc n sp) (hA : ∀ P : Int32 → ac_hp → Prop, P v f → A P) (hB : ∀ f', mr_R f' ki am t f' → ∀ Q : Int32 → ac_hp → Prop, (∀ f'', mr_R f' ki am (th0 t) f'' → Q v f'') → B f' Q) : ag (am 0) A B (JJ2 ki ad am r3) :=
  ah_new h hc (RI_t0 hi) hl.t0 (fun P hP => hA P (hP tl f h.1)) hB
theorem gh_any {A : (Int32 → ac_hp → Prop) → Prop} {B : ac_hp → (Int32 → ac_hp → Prop) → Prop} (h : JA ki ad am r3 s tl t f) (hi : RI t sz nn kk mc n sp) (hl : ML s t mc n sp) (hA : ∀ P : Int32 → ac_hp → Prop, (∀ v s' tl' f', SK s s' → CI s' sz nn kk mc n sp → vr_R f ki ad s' tl' f' → P v f') → A P) (hB : ∀ f', mr_R f' ki am t f' → ∀ Q : Int32 → ac_hp → Prop, (∀ v t' f'', SC t t' → RI t' sz nn kk mc n sp → mr_R f' ki am t' f'' → Q v f'') → B f' Q) : go (am 0) A B (JJ2 ki ad am r3) :=
  ⟨fun f' => ∃ s' tl', SK s s' ∧ CI s' sz nn kk mc n sp ∧ JA ki ad am r3 s' tl' t f', fun P hP => hA P (fun v s' tl' f' hk' hc' h' => hP v f' ⟨s', tl', hk', hc', h.c h'⟩), fun f' ⟨s', tl', hk', hc', hM⟩ => ⟨rm_o hM.2.1, fun Q hQ => hB f' hM.2.1 Q (fun v t' f'' hs' hi' h'' => hQ v f'' ⟨s', tl', t', sz, nn, kk, mc, n, sp, hM.m h'', hc', hi', hl.k hk' hs'⟩)⟩⟩
theorem h_key (h : JA ki ad am r3 s tl t f) (hc : CI s sz nn kk mc n sp) (hi : RI t sz nn kk mc n sp) (hl : ML s t mc n sp) (a b x : Int32) (hx : x = 0 ∨ x = 1) : ag (am 0) (wp_X0_key ki (ad 0) a b x f) (fun f' => wp_X9_key ki (am 0) a b x f') (JJ2 ki ad am r3) := by
  by_cases hp : (∃ t : Nat, t < 4 ∧ a = nI t) ∧ (∃ c : Nat, c < 3 ∧ b = nI c)
  · obtain ⟨⟨k, hk, e1⟩, c, hcc, e2⟩ := hp
    have nb : ¬ ((¬ ∃ t : Nat, t < 4 ∧ a = nI t) ∨ (¬ ∃ c : Nat, c < 3 ∧ b = nI c)) := fun z => z.elim (fun z => z ⟨k, hk, e1⟩) (fun z => z ⟨c, hcc, e2⟩)
    have C : ∀ {P : Int32 → ac_hp → Prop}, ((kk k c = x → P 0 f) ∧ (¬ kk k c = x → (x ≠ 0 ∧ trep nn k c (sz k) → P (-4) f) ∧ (¬ (x ≠ 0 ∧ trep nn k c (sz k)) → ∀ f', vr_R f ki ad (vs_key s k c x) tl f' → P 1 f'))) → wp_X0_key ki (ad 0) a b x f P := fun {P} z => sp_key h.1 (CI_sz hc) hx (fun y => absurd y nb) (fun k' c' n' hk' hc' hn' e1' e2' hs' => by
      have q1 : k' = k := nI_inj20 (by omega) (by omega) (e1'.symm.trans e1)
      have q2 : c' = c := nI_inj20 (by omega) (by omega) (e2'.symm.trans e2)
      subst q1 q2
      have q3 : n' = sz k' := nI_inj20 hn' (hc.szs k' hk).1 (hs'.symm.trans (hc.szs k' hk).2)
      subst q3
      rw [hc.key k' c' hk hcc, c_rep hc hk hcc]
      exact z)
    have R : ∀ f', mr_R f' ki am t f' → ∀ {P : Int32 → ac_hp → Prop}, ((kk k c = x → ∀ f'', mr_R f' ki am (th0 t) f'' → P 0 f'') ∧ (¬ kk k c = x → (x ≠ 0 ∧ trep nn k c (sz k) → ∀ f'', mr_R f' ki am (th0 t) f'' → P (-4) f'') ∧ (¬ (x ≠ 0 ∧ trep nn k c (sz k)) → ∀ f'', mr_R f' ki am (va_up (th0 t) 3 (upd (t 3) (3 * k + c) x)) f'' → P 1 f''))) → wp_X9_key ki (am 0) a b x f' P := fun f' hm {P} z => sm_key hm hi.szs hx (fun y => absurd y nb) (fun k' c' n' hk' hc' hn' e1' e2' hs' => by
      have q1 : k' = k := nI_inj20 (by omega) (by omega) (e1'.symm.trans e1)
      have q2 : c' = c := nI_inj20 (by omega) (by omega) (e2'.symm.trans e2)
      subst q1 q2
      have q3 : n' = sz k' := nI_inj20 hn' (hi.1.1.1 k' hk).1 (hs'.symm.trans (hi.1.1.1 k' hk).2)
      subst q3
      rw [(hi.1.2.1 k' c' hk hcc).2, r_rep hi.1 hk hcc]
      exact z)
    by_cases c1 : kk k c = x
    · exact ah_same h hc hi hl (fun P hP => C ⟨fun _ => hP, fun z => absurd c1 z⟩) (fun f' hm Q hQ => R f' hm ⟨fun _ => hQ, fun z => absurd c1 z⟩)
    · by_cases c2 : x ≠ 0 ∧ trep nn k c (sz k)
      · exact ah_same h hc hi hl (fun P hP => C ⟨fun z => absurd z c1, fun _ => ⟨fun _ => hP, fun z => absurd c2 z⟩⟩) (fun f' hm Q hQ => R f' hm ⟨fun z => absurd z c1, fun _ => ⟨fun _ => hQ, fun z => absurd c2 z⟩⟩)
      · refine ah_new (s' := vs_key s k c x) (t' := va_up (th0 t) 3 (upd (t 3) (3 * k + c) x)) h (CI_key hc hk hcc hx) ?_ ?_ (fun P hP => C ⟨fun z => absurd z c1, fun _ => ⟨fun z => absurd z c2, fun _ => hP tl⟩⟩) (fun f' hm Q hQ => R f' hm ⟨fun z => absurd z c1, fun _ => ⟨fun z => absurd z c2, fun _ => hQ⟩⟩)
        · have e3 : th0 t 3 = t 3 := va_up_ne _ _ (by omega)
          rw [← e3]
          exact RI_key (RI_t0 hi) hcc hx
        · have e3 : th0 t 3 = t 3 := va_up_ne _ _ (by omega)
          rw [← e3]
          exact ML_key hl.t0 hk
  · have nb : (¬ ∃ t : Nat, t < 4 ∧ a = nI t) ∨ (¬ ∃ c : Nat, c < 3 ∧ b = nI c) := by
      by_cases z : ∃ t : Nat, t < 4 ∧ a = nI t
      · exact Or.inr (fun y => hp ⟨z, y⟩)
      · exact Or.inl z
    exact ah_same h hc hi hl (fun P hP => sp_key h.1 (CI_sz hc) hx (fun _ => hP) (fun k c n hk hc' _ e1 e2 _ => absurd ⟨⟨k, hk, e1⟩, c, hc', e2⟩ hp)) (fun f' hm Q hQ => sm_key hm hi.szs hx (fun _ => hQ) (fun k c n hk hc' _ e1 e2 _ => absurd ⟨⟨k, hk, e1⟩, c, hc', e2⟩ hp))
theorem h_row (h : JA ki ad am r3 s tl t f) (hc : CI s sz nn kk mc n sp) (hi : RI t sz nn kk mc n sp) (hl : ML s t mc n sp) (a b c d : Int32) : ag (am 0) (wp_X0_row ki (ad 0) a b c d f) (fun f' => wp_X9_row ki (am 0) a b c d f') (JJ2 ki ad am r3) := by
  by_cases hp : (∃ t : Nat, t < 4 ∧ a = nI t) ∧ (∃ x : Nat, x < 10000 ∧ b = nI x) ∧ (∃ x : Nat, x < 10000 ∧ c = nI x) ∧ (∃ x : Nat, x < 10000 ∧ d = nI x)
  · obtain ⟨⟨k, hk, e1⟩, ⟨x, hx, e2⟩, ⟨y, hy, e3⟩, w, hw, e4⟩ := id hp
    have hS := hc.szs k hk
    have hT := hi.1.1.1 k hk
    have C : ∀ {P : Int32 → ac_hp → Prop}, ((tno nn kk k (sz k) 0 b ∨ tno nn kk k (sz k) 1 c ∨ tno nn kk k (sz k) 2 d → P (-4) f) ∧ (¬ (tno nn kk k (sz k) 0 b ∨ tno nn kk k (sz k) 1 c ∨ tno nn kk k (sz k) 2 d) → (sz k = 20 → P (-2) f) ∧ (sz k < 20 → ∀ f', vr_R f ki ad (vs_append s k (sz k) b c d) tl f' → P (nI (sz k + 1)) f'))) → wp_X0_row ki (ad 0) a b c d f P := fun {P} z => sp_row h.1 (CI_sz hc) (fun y => absurd hp y) (fun k' _ _ _ n' hk' _ _ _ hn' e1' _ _ _ hs' => by
      have q1 : k' = k := nI_inj20 (by omega) (by omega) (e1'.symm.trans e1)
      subst q1
      have q3 : n' = sz k' := nI_inj20 hn' hS.1 (hs'.symm.trans hS.2)
      subst q3
      rw [c_no hc hk (by omega), c_no hc hk (by omega), c_no hc hk (by omega)]
      exact z)
    have R : ∀ f', mr_R f' ki am t f' → ∀ {P : Int32 → ac_hp → Prop}, ((tno nn kk k (sz k) 0 b ∨ tno nn kk k (sz k) 1 c ∨ tno nn kk k (sz k) 2 d → ∀ f'', mr_R f' ki am (th0 t) f'' → P (-4) f'') ∧ (¬ (tno nn kk k (sz k) 0 b ∨ tno nn kk k (sz k) 1 c ∨ tno nn kk k (sz k) 2 d) → (sz k = 20 → ∀ f'', mr_R f' ki am (th0 t) f'' → P (-2) f'') ∧ (sz k < 20 → ∀ f'', mr_R f' ki am (ms_row (th0 t) k (sz k) b c d) f'' → P (nI (sz k + 1)) f''))) → wp_X9_row ki (am 0) a b c d f' P := fun f' hm {P} z => sm_row hm hi.szs (fun y => absurd hp y) (fun k' _ _ _ n' hk' _ _ _ hn' e1' _ _ _ hs' => by
      have q1 : k' = k := nI_inj20 (by omega) (by omega) (e1'.symm.trans e1)
      subst q1
      have q3 : n' = sz k' := nI_inj20 hn' hT.1 (hs'.symm.trans hT.2)
      subst q3
      rw [r_no hi.1 hk (by omega), r_no hi.1 hk (by omega), r_no hi.1 hk (by omega)]
      exact z)
    by_cases c1 : tno nn kk k (sz k) 0 b ∨ tno nn kk k (sz k) 1 c ∨ tno nn kk k (sz k) 2 d
    · exact ah_same h hc hi hl (fun P hP => C ⟨fun _ => hP, fun z => absurd c1 z⟩) (fun f' hm Q hQ => R f' hm ⟨fun _ => hQ, fun z => absurd c1 z⟩)
    · by_cases c2 : sz k = 20
      · exact ah_same h hc hi hl (fun P hP => C ⟨fun z => absurd z c1, fun _ => ⟨fun _ => hP, fun z => absurd z (by omega)⟩⟩) (fun f' hm Q hQ => R f' hm ⟨fun z => absurd z c1, fun _ => ⟨fun _ => hQ, fun z => absurd z (by omega)⟩⟩)
      · have hlt : sz k < 20 := by omega
        have hC : CI (vs_append s k (sz k) b c d) (va_up sz k (sz k + 1)) (nset nn k (sz k) x y w) kk mc n sp := by rw [e2, e3, e4]; exact CI_row hc hk hlt hx hy hw
        have hR : RI (ms_row (th0 t) k (sz k) b c d) (va_up sz k (sz k + 1)) (nset nn k (sz k) x y w) kk mc n sp := by rw [e2, e3, e4]; exact RI_row (RI_t0 hi) hk hlt hx hy hw
        exact ah_new h hC hR (ML_row hl.t0 hk) (fun P hP => C ⟨fun z => absurd z c1, fun _ => ⟨fun z => absurd z c2, fun _ => hP tl⟩⟩) (fun f' hm Q hQ => R f' hm ⟨fun z => absurd z c1, fun _ => ⟨fun z => absurd z c2, fun _ => hQ⟩⟩)
  · exact ah_same h hc hi hl (fun P hP => sp_row h.1 (CI_sz hc) (fun _ => hP) (fun t x y w n ht h1 h2 h3 hn e1 e2 e3 e4 hs => absurd ⟨⟨t, ht, e1⟩, ⟨x, h1, e2⟩, ⟨y, h2, e3⟩, w, h3, e4⟩ hp)) (fun f' hm Q hQ => sm_row hm hi.szs (fun _ => hQ) (fun t x y w n ht h1 h2 h3 hn e1 e2 e3 e4 hs => absurd ⟨⟨t, ht, e1⟩, ⟨x, h1, e2⟩, ⟨y, h2, e3⟩, w, h3, e4⟩ hp))
theorem h_drop (h : JA ki ad am r3 s tl t f) (hc : CI s sz nn kk mc n sp) (hi : RI t sz nn kk mc n sp) (hl : ML s t mc n sp) (a b : Int32) : ag (am 0) (wp_X0_drop ki (ad 0) a b f) (fun f' => wp_X9_drop ki (am 0) a b f') (JJ2 ki ad am r3) := by
  by_cases hp : ∃ k : Nat, k < 4 ∧ a = nI k
  · obtain ⟨k, hk, e1⟩ := id hp
    have hS := hc.szs k hk
    have hT := hi.1.1.1 k hk
    by_cases hb : ∃ i : Nat, i < sz k ∧ b = nI i
    · obtain ⟨i, hik, e2⟩ := hb
      refine ah_new (v := nI (sz k - 1)) (s' := vs_drop s k i (sz k)) (t' := ms_drop (th0 t) k i (sz k)) h (CI_drop hc hk hik) (RI_drop (RI_t0 hi) hk hik) (ML_drop hl.t0 hk) (fun P hP => sp_drop h.1 (CI_sz hc) (fun z => absurd hp z) (fun k' n' hk' hn' e1' hs' => ?_)) (fun f' hm Q hQ => sm_drop hm hi.szs (fun z => absurd hp z) (fun k' n' hk' hn' e1' hs' => ?_))
      · have q1 : k' = k := nI_inj20 (by omega) (by omega) (e1'.symm.trans e1)
        subst q1
        have q3 : n' = sz k' := nI_inj20 hn' hS.1 (hs'.symm.trans hS.2)
        subst q3
        exact ⟨fun z => absurd ⟨i, hik, e2⟩ z, fun i' hi' e2' => by
          have q4 : i' = i := nI_inj20 (by omega) (by omega) (e2'.symm.trans e2)
          subst q4
          exact hP tl⟩
      · have q1 : k' = k := nI_inj20 (by omega) (by omega) (e1'.symm.trans e1)
        subst q1
        have q3 : n' = sz k' := nI_inj20 hn' hT.1 (hs'.symm.trans hT.2)
        subst q3
        exact ⟨fun z => absurd ⟨i, hik, e2⟩ z, fun i' hi' e2' => by
          have q4 : i' = i := nI_inj20 (by omega) (by omega) (e2'.symm.trans e2)
          subst q4
          exact hQ⟩
    · refine ah_same (v := -1) h hc hi hl (fun P hP => sp_drop h.1 (CI_sz hc) (fun z => absurd hp z) (fun k' n' hk' hn' e1' hs' => ?_)) (fun f' hm Q hQ => sm_drop hm hi.szs (fun z => absurd hp z) (fun k' n' hk' hn' e1' hs' => ?_))
      · have q1 : k' = k := nI_inj20 (by omega) (by omega) (e1'.symm.trans e1)
        subst q1
        have q3 : n' = sz k' := nI_inj20 hn' hS.1 (hs'.symm.trans hS.2)
        subst q3
        exact ⟨fun _ => hP, fun i hi' e2' => absurd ⟨i, hi', e2'⟩ hb⟩
      · have q1 : k' = k := nI_inj20 (by omega) (by omega) (e1'.symm.trans e1)
        subst q1
        have q3 : n' = sz k' := nI_inj20 hn' hT.1 (hs'.symm.trans hT.2)
        subst q3
        exact ⟨fun _ => hQ, fun i hi' e2' => absurd ⟨i, hi', e2'⟩ hb⟩
  · exact ah_same h hc hi hl (fun P hP => sp_drop h.1 (CI_sz hc) (fun _ => hP) (fun k n hk _ e1 _ => absurd ⟨k, hk, e1⟩ hp)) (fun f' hm Q hQ => sm_drop hm hi.szs (fun _ => hQ) (fun k n hk _ e1 _ => absurd ⟨k, hk, e1⟩ hp))
theorem h_mapping (h : JA ki ad am r3 s tl t f) (hc : CI s sz nn kk mc n sp) (hi : RI t sz nn kk mc n sp) (hl : ML s t mc n sp) (a b c d e g : Int32) : ag (am 0) (wp_X0_mapping ki (ad 0) a b c d e g f) (fun f' => wp_X9_mapping ki (am 0) a b c d e g f') (JJ2 ki ad am r3) := by
  obtain ⟨q1, q2, q3, q4, q5, q6⟩ := hc.qk
  have r4 : t 0 4 = nI mc := hi.1.2.2.1.2.1
  by_cases hp : (∃ t : Nat, t < 4 ∧ a = nI t) ∧ (∃ p : Nat, p < 8 ∧ b = nI p) ∧ (∃ x : Nat, x < 6 ∧ c = nI x) ∧ (∃ x : Nat, x < 3 ∧ d = nI x) ∧ (∃ x : Nat, x < 6 ∧ e = nI x) ∧ (∃ x : Nat, x < 3 ∧ g = nI x)
  · by_cases c1 : mc = 12
    · exact ah_same h hc hi hl (fun P hP => sp_mapping h.1 q3 q2 (fun z => absurd hp z) (fun _ _ _ _ _ _ => ⟨fun _ => hP, fun z => absurd z (by omega)⟩)) (fun f' hm Q hQ => sm_mapping hm r4 q2 (fun z => absurd hp z) (fun _ _ _ _ _ _ => ⟨fun _ => hQ, fun z => absurd z (by omega)⟩))
    · obtain ⟨p1, p2, p3, p4, p5, p6⟩ := id hp
      exact ah_new h (CI_map (x2 := b) hc (by omega) p1 p3 p4 p5 p6) (RI_map (x2 := b) (x3 := c) (x5 := e) (RI_t0 hi) (by omega) p1 p4 p6) (ML_map hl.t0 p2) (fun P hP => sp_mapping h.1 q3 q2 (fun z => absurd hp z) (fun _ _ _ _ _ _ => ⟨fun z => absurd z c1, fun _ => hP tl⟩)) (fun f' hm Q hQ => sm_mapping hm r4 q2 (fun z => absurd hp z) (fun _ _ _ _ _ _ => ⟨fun z => absurd z c1, fun _ => hQ⟩))
  · exact ah_same h hc hi hl (fun P hP => sp_mapping h.1 q3 q2 (fun _ => hP) (fun h1 h2 h3 h4 h5 h6 => absurd ⟨h1, h2, h3, h4, h5, h6⟩ hp)) (fun f' hm Q hQ => sm_mapping hm r4 q2 (fun _ => hQ) (fun h1 h2 h3 h4 h5 h6 => absurd ⟨h1, h2, h3, h4, h5, h6⟩ hp))
theorem h_atom (h : JA ki ad am r3 s tl t f) (hc : CI s sz nn kk mc n sp) (hi : RI t sz nn kk mc n sp) (hl : ML s t mc n sp) (a b c : Int32) : ag (am 0) (wp_X0_atom ki (ad 0) a b c f) (fun f' => wp_X9_atom ki (am 0) a b c f') (JJ2 ki ad am r3) := by
  obtain ⟨q1, q2, q3, q4, q5, q6⟩ := hc.qk
  have r4 : t 0 9 = nI n := hi.1.2.2.2.1.2.1
  by_cases hp : (∃ p : Nat, p < 8 ∧ a = nI p) ∧ (¬ b < (-6) ∧ b < 60000) ∧ (¬ c < (-6) ∧ c < 60000)
  · by_cases c1 : n = 4
    · exact ah_same h hc hi hl (fun P hP => sp_atom h.1 q4 q1 (fun z => absurd hp z) (fun _ _ _ => ⟨fun _ => hP, fun z => absurd z (by omega)⟩)) (fun f' hm Q hQ => sm_atom hm r4 q1 (fun z => absurd hp z) (fun _ _ _ => ⟨fun _ => hQ, fun z => absurd z (by omega)⟩))
    · exact ah_new h (CI_atom (x1 := a) hc (by omega) hp.2.1 hp.2.2) (RI_atom (x1 := a) (RI_t0 hi) (by omega) hp.2.1 hp.2.2) (ML_atom hl.t0 hp.1) (fun P hP => sp_atom h.1 q4 q1 (fun z => absurd hp z) (fun _ _ _ => ⟨fun z => absurd z c1, fun _ => hP tl⟩)) (fun f' hm Q hQ => sm_atom hm r4 q1 (fun z => absurd hp z) (fun _ _ _ => ⟨fun z => absurd z c1, fun _ => hQ⟩))
  · exact ah_same h hc hi hl (fun P hP => sp_atom h.1 q4 q1 (fun _ => hP) (fun h1 h2 h3 => absurd ⟨h1, h2, h3⟩ hp)) (fun f' hm Q hQ => sm_atom hm r4 q1 (fun _ => hQ) (fun h1 h2 h3 => absurd ⟨h1, h2, h3⟩ hp))
theorem h_span (h : JA ki ad am r3 s tl t f) (hc : CI s sz nn kk mc n sp) (hi : RI t sz nn kk mc n sp) (hl : ML s t mc n sp) (a b c : Int32) : ag (am 0) (wp_X0_span ki (ad 0) a b c f) (fun f' => wp_X9_span ki (am 0) a b c f') (JJ2 ki ad am r3) := by
  obtain ⟨q1, q2, q3, q4, q5, q6⟩ := hc.qk
  have r4 : t 0 12 = nI sp := hi.1.2.2.2.2.2.1
  by_cases hp : ∃ v : Nat, v < 6 ∧ a = nI v
  · by_cases c1 : sp = 4
    · exact ah_same h hc hi hl (fun P hP => sp_span h.1 q6 q5 (fun z => absurd hp z) (fun _ _ _ => ⟨fun _ => hP, fun z => absurd z (by omega)⟩)) (fun f' hm Q hQ => sm_span hm r4 q5 (fun z => absurd hp z) (fun _ _ _ => ⟨fun _ => hQ, fun z => absurd z (by omega)⟩))
    · obtain ⟨v, hv, e1⟩ := id hp
      have hR : RI (ms_span (th0 t) sp a b c) sz nn kk mc n (sp + 1) := by rw [e1]; exact RI_span (RI_t0 hi) (by omega) hv
      have hM : ML (vs_span s v sp b c) (ms_span (th0 t) sp a b c) mc n (sp + 1) := by rw [e1]; exact ML_span hl.t0 hv
      exact ah_new h (CI_span (v := v) (a := b) (b := c) hc (by omega)) hR hM (fun P hP => sp_span h.1 q6 q5 (fun z => absurd hp z) (fun v' hv' e1' => by
        have q : v' = v := nI_inj20 (by omega) (by omega) (e1'.symm.trans e1)
        subst q
        exact ⟨fun z => absurd z c1, fun _ => hP tl⟩)) (fun f' hm Q hQ => sm_span hm r4 q5 (fun z => absurd hp z) (fun _ _ _ => ⟨fun z => absurd z c1, fun _ => hQ⟩))
  · exact ah_same h hc hi hl (fun P hP => sp_span h.1 q6 q5 (fun _ => hP) (fun v h1 h2 => absurd ⟨v, h1, h2⟩ hp)) (fun f' hm Q hQ => sm_span hm r4 q5 (fun _ => hQ) (fun v h1 h2 => absurd ⟨v, h1, h2⟩ hp))
theorem h_clear (h : JA ki ad am r3 s tl t f) (hc : CI s sz nn kk mc n sp) (hi : RI t sz nn kk mc n sp) (hl : ML s t mc n sp) : ag (am 0) (wp_X0_clear ki (ad 0) f) (fun f' => wp_X9_clear ki (am 0) f') (JJ2 ki ad am r3) :=
  ah_new (v := nI n) h (CI_clear hc) (RI_clear (RI_t0 hi)) (ML_clear hl.t0) (fun P hP => sp_clear h.1 (fun f' h' => by rw [hc.qk.2.2.2.1]; exact hP tl f' h')) (fun f' hm Q hQ => sm_clear hm hi.1.2.2.2.1.2.1 hQ)
/-- one set of mappings for both -/
theorem h_data (hc : CI s sz nn kk mc n sp) (hl : ML s t mc n sp) : ∃ mt pr ml mtm, CM s mc mt pr ml mtm ∧ RM t mc mt pr ml mtm ∧ tbs s sz nn := by
  obtain ⟨VM, mt, ml, mtm, A, TP, h1, h2, h3, h4, -⟩ := hc
  have hp : ∃ pr : Nat → Nat, ∀ m, m < mc → pr m < 8 ∧ s (42 + 3 * m) 3 = nI (pr m) := by
    refine ⟨fun m => if hm : m < mc then Classical.choose (hl.1 m hm).2.2.1 else 0, fun m hm => ?_⟩
    have := Classical.choose_spec (hl.1 m hm).2.2.1
    simp only [dif_pos hm]
    exact this
  obtain ⟨pr, hp⟩ := hp
  refine ⟨mt, pr, ml, mtm, ⟨h4, hp⟩, fun m hm => ?_, h2⟩
  obtain ⟨⟨a1, a2, a3, a4⟩, a5⟩ := h4 m hm
  obtain ⟨l1, l2, -, l4⟩ := hl.1 m hm
  refine ⟨a2, l1.trans a3, (hp m hm).1, l2.trans (hp m hm).2, fun p hp2 => ⟨(a5 p hp2).1, (l4 p hp2).1.trans (a5 p hp2).2, (a4 p hp2).1, (l4 p hp2).2.trans (a4 p hp2).2⟩⟩
theorem h_triples (h : JA ki ad am r3 s tl t f) (hc : CI s sz nn kk mc n sp) (hi : RI t sz nn kk mc n sp) (hl : ML s t mc n sp) : ag (am 0) (wp_X0_triples ki (ad 0) f) (fun f' => wp_X9_triples ki (am 0) f') (JJ2 ki ad am r3) := by
  obtain ⟨mt, pr, ml, mtm, hC, hR, hT⟩ := h_data hc hl
  obtain ⟨-, q2, q3, -⟩ := hc.qk
  have e : cM (snC s mt ml sz) (fun i => sz (mt i)) mc = cM (snR nn sz mt pr ml mtm) (fun i => sz (mt i)) mc := cM_c mc (fun j q hj hq => sn_eq hC hT hj hq)
  refine ah_new (v := nI (cM (snR nn sz mt pr ml mtm) (fun i => sz (mt i)) mc)) (s' := va_up s 1 (upd (s 1) 4 (nI (cM (snR nn sz mt pr ml mtm) (fun i => sz (mt i)) mc)))) h (CI_1 hc) (RI_t0 hi) (hl.t0.k SK.one SC.rfl') (fun P hP => sj_triples h.1 q2 q3 (fun j hj => (hC.1 j hj).1) hT.1 (fun tl' m f' _ hm h' => ?_)) (fun f' hm Q hQ => rj_triples hm hi hR hQ)
  have em : m = cM (snR nn sz mt pr ml mtm) (fun i => sz (mt i)) mc := by rw [hm.2, cR, e]; rfl
  subst em
  exact hP tl' f' h'
theorem h_unions (h : JA ki ad am r3 s tl t f) (hc : CI s sz nn kk mc n sp) (hi : RI t sz nn kk mc n sp) (hl : ML s t mc n sp) : go (am 0) (wp_X0_unions ki (ad 0) f) (fun f' => wp_X9_unions ki (am 0) f') (JJ2 ki ad am r3) :=
  gh_any h hi hl (fun P hP => ck_unions h.1 hc hP) (fun f' hm Q hQ => rk_unions hm hi hQ)
theorem h_union (h : JA ki ad am r3 s tl t f) (hc : CI s sz nn kk mc n sp) (hi : RI t sz nn kk mc n sp) (hl : ML s t mc n sp) (a b : Int32) : go (am 0) (wp_X0_union ki (ad 0) a b f) (fun f' => wp_X9_union ki (am 0) a b f') (JJ2 ki ad am r3) :=
  gh_any h hi hl (fun P hP => ck_union h.1 hc hP) (fun f' hm Q hQ => rk_union hm hi hQ)
theorem h_estimate (h : JA ki ad am r3 s tl t f) (hc : CI s sz nn kk mc n sp) (hi : RI t sz nn kk mc n sp) (hl : ML s t mc n sp) (a : Int32) : go (am 0) (wp_X0_estimate ki (ad 0) a f) (fun f' => wp_X9_estimate ki (am 0) a f') (JJ2 ki ad am r3) :=
  gh_any h hi hl (fun P hP => ck_estimate h.1 hc hP) (fun f' hm Q hQ => rk_estimate hm hi hQ)
theorem h_run (h : JA ki ad am r3 s tl t f) (hc : CI s sz nn kk mc n sp) (hi : RI t sz nn kk mc n sp) (hl : ML s t mc n sp) : go (am 0) (wp_X0_run ki (ad 0) f) (fun f' => wp_X9_run ki (am 0) f') (JJ2 ki ad am r3) :=
  gh_any h hi hl (fun P hP => ck_run h.1 hc hP) (fun f' hm Q hQ => rk_run hm hi hQ)
theorem h_found (h : JA ki ad am r3 s tl t f) (hc : CI s sz nn kk mc n sp) (hi : RI t sz nn kk mc n sp) (hl : ML s t mc n sp) (a b : Int32) : go (am 0) (wp_X0_found ki (ad 0) a b f) (fun f' => wp_X9_found ki (am 0) a b f') (JJ2 ki ad am r3) :=
  gh_any h hi hl (fun P hP => cs_found h.1 hc (fun v => hP v s tl f SK.rfl' hc h.1)) (fun f' hm Q hQ => rk_found hm hi hQ)
theorem h_value (h : JA ki ad am r3 s tl t f) (hc : CI s sz nn kk mc n sp) (hi : RI t sz nn kk mc n sp) (hl : ML s t mc n sp) (a b : Int32) : go (am 0) (wq_XL_value ki (ad 0) a b r3 f) (fun f' => wp_X9_value ki (am 0) a b f') (JJ2 ki ad am r3) := by
  refine ⟨fun f' => JA ki ad am r3 s tl t f', fun P hP => ?_, fun f' hM => ⟨rm_o hM.2.1, fun Q hQ => rk_value hM.2.1 hi (fun v t' f'' hs' hi' h'' => hQ v f'' ⟨s, tl, t', sz, nn, kk, mc, n, sp, hM.m h'', hc, hi', hl.k SK.rfl' hs'⟩)⟩⟩
  have ho : hr_o f (ad 0) 0 := rd_o (i := 0) h.1 (by omega) rfl
  rcases cs_value (x := a) (y := b) h.1 hc with z | z
  · refine Or.inl ⟨ho, z _ (fun v => ?_)⟩
    obtain ⟨g, hg⟩ := h.2.2.2.2.2
    exact ⟨_, ⟨1, g, hg, vp_in_nI (n := 0) (by omega) (by omega), rfl⟩, hP 0 _ h.o⟩
  · exact Or.inr ⟨ho, z, hP 1 f h⟩
/-- what every call of a part asks -/
def agree_part2 (ki : Nat → ClassId) (r1 r2 r3 : Nat) (f : ac_hp) (N : ac_hp → Prop) : Prop := hr_o f r1 0 ∧ N f
  ∧ (∀ a b c : Int32, c = 0 ∨ c = 1 → ag r2 (wp_X0_key ki r1 a b c f) (fun f' => wp_X9_key ki r2 a b c f') N)
  ∧ (∀ a b c d : Int32, ag r2 (wp_X0_row ki r1 a b c d f) (fun f' => wp_X9_row ki r2 a b c d f') N)
  ∧ (∀ a b : Int32, ag r2 (wp_X0_drop ki r1 a b f) (fun f' => wp_X9_drop ki r2 a b f') N)
  ∧ (∀ a b c d e g : Int32, ag r2 (wp_X0_mapping ki r1 a b c d e g f) (fun f' => wp_X9_mapping ki r2 a b c d e g f') N)
  ∧ (ag r2 (wp_X0_triples ki r1 f) (fun f' => wp_X9_triples ki r2 f') N)
  ∧ (∀ a b c : Int32, ag r2 (wp_X0_atom ki r1 a b c f) (fun f' => wp_X9_atom ki r2 a b c f') N)
  ∧ (∀ a b c : Int32, ag r2 (wp_X0_span ki r1 a b c f) (fun f' => wp_X9_span ki r2 a b c f') N)
  ∧ (ag r2 (wp_X0_clear ki r1 f) (fun f' => wp_X9_clear ki r2 f') N)
  ∧ (go r2 (wp_X0_unions ki r1 f) (fun f' => wp_X9_unions ki r2 f') N)
  ∧ (∀ a b : Int32, go r2 (wp_X0_union ki r1 a b f) (fun f' => wp_X9_union ki r2 a b f') N)
  ∧ (∀ a : Int32, go r2 (wp_X0_estimate ki r1 a f) (fun f' => wp_X9_estimate ki r2 a f') N)
  ∧ (go r2 (wp_X0_run ki r1 f) (fun f' => wp_X9_run ki r2 f') N)
  ∧ (∀ a b : Int32, go r2 (wq_XL_value ki r1 a b r3 f) (fun f' => wp_X9_value ki r2 a b f') N)
  ∧ (∀ a b : Int32, go r2 (wp_X0_found ki r1 a b f) (fun f' => wp_X9_found ki r2 a b f') N)
theorem h_all (hj : JJ2 ki ad am r3 f) : agree_part2 ki (ad 0) (am 0) r3 f (JJ2 ki ad am r3) := by
  obtain ⟨s, tl, t, sz, nn, kk, mc, n, sp, h, hc, hi, hl⟩ := id hj
  exact ⟨rd_o (i := 0) h.1 (by omega) rfl, hj, h_key h hc hi hl, h_row h hc hi hl, h_drop h hc hi hl, h_mapping h hc hi hl, h_triples h hc hi hl, h_atom h hc hi hl, h_span h hc hi hl, h_clear h hc hi hl, h_unions h hc hi hl, h_union h hc hi hl, h_estimate h hc hi hl, h_run h hc hi hl, h_value h hc hi hl, h_found h hc hi hl⟩
end RL5
