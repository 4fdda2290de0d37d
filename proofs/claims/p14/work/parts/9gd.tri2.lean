/-! the reference counts the same triples -/
/-- the mappings' data, as the reference has it -/
def RM (t : Nat → Nat → Int32) (mc : Nat) (mt pr : Nat → Nat) (ml mtm : Nat → Nat → Nat) : Prop := ∀ m, m < mc → mt m < 4 ∧ t 4 m = nI (mt m) ∧ pr m < 8 ∧ t 5 m = nI (pr m) ∧ ∀ p, p < 2 → mtm m p < 6 ∧ t 6 (2 * m + p) = nI (mtm m p) ∧ ml m p < 3 ∧ t 7 (2 * m + p) = nI (ml m p)
def cd (nn : Nat → Nat → Nat → Nat) (mt : Nat → Nat) (ml mtm : Nat → Nat → Nat) (m p i : Nat) : Nat := 10000 * mtm m p + nn (mt m) i (ml m p)
def eqt (nn : Nat → Nat → Nat → Nat) (mt pr : Nat → Nat) (ml mtm : Nat → Nat → Nat) (k j m i : Nat) : Prop := pr k = pr m ∧ cd nn mt ml mtm k 0 j = cd nn mt ml mtm m 0 i ∧ cd nn mt ml mtm k 1 j = cd nn mt ml mtm m 1 i
def snR (nn : Nat → Nat → Nat → Nat) (sz : Nat → Nat) (mt pr : Nat → Nat) (ml mtm : Nat → Nat → Nat) (m i : Nat) : Prop := ∃ k j, ((k < m ∧ j < sz (mt k)) ∨ (k = m ∧ j < i)) ∧ eqt nn mt pr ml mtm k j m i
section TR2
variable {F : ac_hp} {ki : Nat → ClassId} {am : Nat → Nat} {s : Nat → Nat → Int32} {f : ac_hp}
variable {sz : Nat → Nat} {nn : Nat → Nat → Nat → Nat} {kk : Nat → Nat → Int32} {mc n sp : Nat} {mt pr : Nat → Nat} {ml mtm : Nat → Nat → Nat}
theorem cd_lt (hx : RX s sz nn kk mc n sp) (hm : RM s mc mt pr ml mtm) {m p i : Nat} (h1 : m < mc) (h2 : p < 2) (h3 : i < sz (mt m)) : cd nn mt ml mtm m p i < 60000 := by
  obtain ⟨a1, -, -, -, a5⟩ := hm m h1
  obtain ⟨b1, -, b3, -⟩ := a5 p h2
  have := (hx.1.2 (mt m) i (ml m p) a1 h3 b3).1
  unfold cd
  omega
theorem rj_code {m p i : Nat} {xp : Int32} {Q : Int32 → ac_hp → Prop} (h : mr_R F ki am s f) (hx : RX s sz nn kk mc n sp) (hr : RM s mc mt pr ml mtm) (hm : m < mc) (hp : p < 2) (ep : xp = nI p) (hi : i < sz (mt m)) (hq : Q (nI (cd nn mt ml mtm m p i)) f) : wp_X9_code ki (am 0) (nI m) xp (nI i) f Q := by
  have hmc := hx.2.2.1.1
  obtain ⟨a1, a2, -, -, a5⟩ := hr m hm
  obtain ⟨b1, b2, b3, b4⟩ := a5 p hp
  have hs20 := (hx.1.1 _ a1).1
  obtain ⟨c1, c2⟩ := hx.1.2 (mt m) i (ml m p) a1 hi b3
  subst ep
  unfold wp_X9_code
  have r4 := rm_i (i := 4) (j := m) (c := ki 0) (n := 12) (x := nI m) h (by omega) rfl rfl (by omega) (by omega)
  rw [a2] at r4
  have r7 := rm_i (i := 7) (j := 2 * m + p) (c := ki 0) (n := 24) (x := (2 * nI m) + nI p) h (by omega) rfl pm_12 (by omega) (by omega)
  rw [b4] at r7
  have r6 := rm_i (i := 6) (j := 2 * m + p) (c := ki 0) (n := 24) (x := (2 * nI m) + nI p) h (by omega) rfl pm_12 (by omega) (by omega)
  rw [b2] at r6
  have r1 := rm_i (i := 1) (j := 60 * mt m + 3 * i + ml m p) (c := ki 0) (n := 240) (x := ((60 * nI (mt m)) + (3 * nI i)) + nI (ml m p)) h (by omega) rfl pm_lin (by omega) (by omega)
  rw [c2] at r1
  refine ⟨_, rm_f h rfl, _, r6, _, rm_f h rfl, _, rm_f h rfl, _, r4, _, rm_f h rfl, _, r7, _, r1, ?_⟩
  rw [show (10000 : Int32) = nI 10000 from rfl, pk_mul, nI_add]
  exact hq
theorem rj_triples {Q : Int32 → ac_hp → Prop} (h : mr_R F ki am s f) (hi : RI s sz nn kk mc n sp) (hr : RM s mc mt pr ml mtm) (hq : ∀ f', mr_R F ki am (th0 s) f' → Q (nI (cM (snR nn sz mt pr ml mtm) (fun i => sz (mt i)) mc)) f') : wp_X9_triples ki (am 0) f Q := by
  unfold wp_X9_triples
  refine wm_0 h (fun f1 h => ⟨mc + 1, ?_⟩)
  have h : mr_R F ki am (th0 s) f1 := h
  have hi1 := RI_t0 hi
  have hx := hi1.1
  have hr : RM (th0 s) mc mt pr ml mtm := fun m hm => by
    have e : ∀ j, j ≠ 0 → th0 s j = s j := fun j hj => va_up_ne _ _ hj
    rw [e 4 (by omega), e 5 (by omega), e 6 (by omega), e 7 (by omega)]
    exact hr m hm
  obtain ⟨⟨h1, -⟩, -, ⟨h4, h5, -⟩, -⟩ := id hx
  have ht4 : ∀ m, m < mc → mt m < 4 := fun m hm => (hr m hm).1
  have hs20 : ∀ m, m < mc → sz (mt m) ≤ 20 := fun m hm => (h1 _ (ht4 m hm)).1
  have rt : ∀ m, m < mc → hr_i (ki 0) f1 (am 4) (nI m) (nI (mt m)) ∧ hr_i (ki 0) f1 (am 2) (nI (mt m)) (nI (sz (mt m))) := fun m hm => by
    have r4 := rm_i (i := 4) (j := m) (c := ki 0) (n := 12) (x := nI m) h (by omega) rfl rfl (by omega) (by omega)
    rw [(hr m hm).2.1] at r4
    have r2 := rm_i (i := 2) (j := mt m) (c := ki 0) (n := 4) (x := nI (mt m)) h (by omega) rfl rfl (ht4 m hm) (by omega)
    rw [(h1 _ (ht4 m hm)).2] at r2
    exact ⟨r4, r2⟩
  have r5 : ∀ m, m < mc → hr_i (ki 0) f1 (am 5) (nI m) (nI (pr m)) := fun m hm => by
    have r := rm_i (i := 5) (j := m) (c := ki 0) (n := 12) (x := nI m) h (by omega) rfl rfl (by omega) (by omega)
    rw [(hr m hm).2.2.2.1] at r
    exact r
  have hpr : ∀ m, m < mc → pr m < 8 := fun m hm => (hr m hm).2.2.1
  have L49 : ∀ (E : Int32 → ac_hp → Prop) (x1 : Int32) (m i k : Nat) (P : Prop), m < mc → i < sz (mt m) → k ≤ m → (∀ y, (y = 0 ∨ y = 1) → (y = 0 ↔ (P ∨ ∃ j, j < (if k = m then i else sz (mt k)) ∧ eqt nn mt pr ml mtm k j m i)) → E y f1) → ∀ (d j : Nat) (x4 : Int32), d + j = (if k = m then i else sz (mt k)) → (x4 = 0 ∨ x4 = 1) → (x4 = 0 ↔ (P ∨ ∃ j', j' < j ∧ eqt nn mt pr ml mtm k j' m i)) → wp_X9_triples_L49 ki (am 0) x1 (nI m) (nI i) (nI k) E (d + 1) x4 (nI j) f1 := by
    intro E x1 m i k P hm hi2 hkm hE
    have hk : k < mc := by omega
    have s1 := hs20 m hm
    have s2 := hs20 k hk
    have hB20 : (if k = m then i else sz (mt k)) ≤ sz (mt k) := by
      split
      · next e => rw [e]; omega
      · omega
    have tail : ∀ (d j : Nat) (x4 : Int32), j < sz (mt k) → (x4 = 0 ∨ x4 = 1) → (x4 = 0 ↔ (P ∨ ∃ j', j' < j ∧ eqt nn mt pr ml mtm k j' m i)) → (∀ (x4 : Int32), (x4 = 0 ∨ x4 = 1) → (x4 = 0 ↔ (P ∨ ∃ j', j' < j + 1 ∧ eqt nn mt pr ml mtm k j' m i)) → wp_X9_triples_L49 ki (am 0) x1 (nI m) (nI i) (nI k) E (d + 1) x4 (nI (j + 1)) f1) → ((x4 = 0 → ∀ v11 : Int32, v11 = nI j + 1 → wp_X9_triples_L49 ki (am 0) x1 (nI m) (nI i) (nI k) E (d + 1) 0 v11 f1) ∧ (¬ x4 = 0 → ∃ o12 : Nat, hr_f f1 (am 0) 9 6 (.ref o12) ∧ ∃ v13 : Int32, hr_i (ki 0) f1 o12 (nI k) v13 ∧ ∃ o14 : Nat, hr_f f1 (am 0) 9 6 (.ref o14) ∧ ∃ v15 : Int32, hr_i (ki 0) f1 o14 (nI m) v15 ∧ ((¬ v13 = v15 → ∀ v16 : Int32, v16 = nI j + 1 → wp_X9_triples_L49 ki (am 0) x1 (nI m) (nI i) (nI k) E (d + 1) 1 v16 f1) ∧ (v13 = v15 → hr_o f1 (am 0) 9 ∧ wp_X9_code ki (am 0) (nI k) 0 (nI j) f1 (fun v18 f17 => hr_o f17 (am 0) 9 ∧ wp_X9_code ki (am 0) (nI m) 0 (nI i) f17 (fun v20 f19 => ((¬ v18 = v20 → ∀ v21 : Int32, v21 = nI j + 1 → wp_X9_triples_L49 ki (am 0) x1 (nI m) (nI i) (nI k) E (d + 1) 1 v21 f19) ∧ (v18 = v20 → hr_o f19 (am 0) 9 ∧ wp_X9_code ki (am 0) (nI k) 1 (nI j) f19 (fun v23 f22 => hr_o f22 (am 0) 9 ∧ wp_X9_code ki (am 0) (nI m) 1 (nI i) f22 (fun v25 f24 => ((v23 = v25 → ∀ v26 : Int32, v26 = nI j + 1 → wp_X9_triples_L49 ki (am 0) x1 (nI m) (nI i) (nI k) E (d + 1) 0 v26 f24) ∧ (¬ v23 = v25 → ∀ v27 : Int32, v27 = nI j + 1 → wp_X9_triples_L49 ki (am 0) x1 (nI m) (nI i) (nI k) E (d + 1) 1 v27 f24)))))))))))) := by
      intro d j x4 hj hx4 hiff nx
      have nx' : ∀ (y v : Int32), (y = 0 ∨ y = 1) → (y = 0 ↔ (P ∨ ∃ j', j' < j + 1 ∧ eqt nn mt pr ml mtm k j' m i)) → v = nI j + 1 → wp_X9_triples_L49 ki (am 0) x1 (nI m) (nI i) (nI k) E (d + 1) y v f1 := fun y v hy hyy hv => by rw [hv, nI_1]; exact nx y hy hyy
      have grow : (P ∨ ∃ j', j' < j + 1 ∧ eqt nn mt pr ml mtm k j' m i) ↔ ((P ∨ ∃ j', j' < j ∧ eqt nn mt pr ml mtm k j' m i) ∨ eqt nn mt pr ml mtm k j m i) := by
        constructor
        · rintro (z | ⟨j', hj', e⟩)
          · exact Or.inl (Or.inl z)
          · rcases Nat.lt_or_ge j' j with y | y
            · exact Or.inl (Or.inr ⟨j', y, e⟩)
            · rw [show j' = j by omega] at e; exact Or.inr e
        · rintro ((z | ⟨j', hj', e⟩) | e)
          · exact Or.inl z
          · exact Or.inr ⟨j', by omega, e⟩
          · exact Or.inr ⟨j, by omega, e⟩
      have no : ¬ x4 = 0 → ¬ eqt nn mt pr ml mtm k j m i → ((1 : Int32) = 0 ↔ (P ∨ ∃ j', j' < j + 1 ∧ eqt nn mt pr ml mtm k j' m i)) := fun z y => ⟨fun q => absurd q ne10, fun q => (grow.mp q).elim (fun w => absurd (hiff.mpr w) z) (fun w => absurd w y)⟩
      have l0 := cd_lt hx hr (p := 0) hk (by omega) hj
      have l1 := cd_lt hx hr (p := 1) hk (by omega) hj
      have l2 := cd_lt hx hr (p := 0) hm (by omega) hi2
      have l3 := cd_lt hx hr (p := 1) hm (by omega) hi2
      have p1 := hpr k hk
      have p2 := hpr m hm
      exact ⟨fun z v hv => nx' 0 v (Or.inl rfl) ⟨fun _ => grow.mpr (Or.inl (hiff.mp z)), fun _ => rfl⟩ hv, fun z => ⟨_, rm_f h rfl, _, r5 k hk, _, rm_f h rfl, _, r5 m hm, fun hne v hv => nx' 1 v (Or.inr rfl) (no z (fun e => hne (by rw [e.1]))) hv, fun hep => ⟨rm_o h, rj_code (p := 0) h hx hr hk (by omega) nI_0.symm hj ⟨rm_o h, rj_code (p := 0) h hx hr hm (by omega) nI_0.symm hi2 ⟨fun hne v hv => nx' 1 v (Or.inr rfl) (no z (fun e => hne (by rw [e.2.1]))) hv, fun he0 => ⟨rm_o h, rj_code (p := 1) h hx hr hk (by omega) rfl hj ⟨rm_o h, rj_code (p := 1) h hx hr hm (by omega) rfl hi2 ⟨fun he1 v hv => nx' 0 v (Or.inl rfl) ⟨fun _ => grow.mpr (Or.inr ⟨(nI_eq (by omega) (by omega)).mp hep, (nI_eq (by omega) (by omega)).mp he0, (nI_eq (by omega) (by omega)).mp he1⟩), fun _ => rfl⟩ hv, fun hne v hv => nx' 1 v (Or.inr rfl) (no z (fun e => hne (by rw [e.2.2]))) hv⟩⟩⟩⟩⟩⟩⟩⟩
    intro d
    induction d with
    | zero =>
      intro j x4 hj hx4 hiff
      have hj' : j = (if k = m then i else sz (mt k)) := by omega
      have fin : E x4 f1 := hE x4 hx4 (by rw [← hj']; exact hiff)
      rw [wp_X9_triples_L49]
      refine ⟨fun hne => ⟨_, rm_f h rfl, _, rm_f h rfl, _, (rt k hk).1, _, (rt k hk).2, fun _ => fin, fun z => absurd (nI_le ?_ (by omega)) z⟩, fun he => ⟨fun _ => fin, fun z => absurd (nI_le ?_ (by omega)) z⟩⟩
      · rw [if_neg (fun e => hne (by rw [e]))] at hj'; omega
      · rw [if_pos ((nI_eq (by omega) (by omega)).mp he)] at hj'; omega
    | succ d ih =>
      intro j x4 hj hx4 hiff
      rw [wp_X9_triples_L49]
      have tl := tail d j x4 (by omega) hx4 hiff (fun y hy hyy => ih (j + 1) y (by omega) hy hyy)
      refine ⟨fun hne => ⟨_, rm_f h rfl, _, rm_f h rfl, _, (rt k hk).1, _, (rt k hk).2, fun z => absurd z (nI_ge ?_ (by omega)), fun _ => tl⟩, fun he => ⟨fun z => absurd z (nI_ge ?_ (by omega)), fun _ => tl⟩⟩
      · rw [if_neg (fun e => hne (by rw [e]))] at hj; omega
      · rw [if_pos ((nI_eq (by omega) (by omega)).mp he)] at hj; omega
  have L40 : ∀ (E : Int32 → ac_hp → Prop) (x1 : Int32) (m i : Nat), m < mc → i < sz (mt m) → (∀ y, (y = 0 ∨ y = 1) → (y = 0 ↔ snR nn sz mt pr ml mtm m i) → E y f1) → ∀ (d k : Nat) (x4 : Int32), d + k = m + 1 → (x4 = 0 ∨ x4 = 1) → (x4 = 0 ↔ ∃ k' j, k' < k ∧ j < (if k' = m then i else sz (mt k')) ∧ eqt nn mt pr ml mtm k' j m i) → wp_X9_triples_L40 ki (am 0) x1 (nI m) (nI i) E (d + 1) x4 (nI k) f1 := by
    intro E x1 m i hm hi2 hE d
    have s1 := hs20 m hm
    induction d with
    | zero =>
      intro k x4 hk hx4 hiff
      rw [wp_X9_triples_L40]
      refine ⟨fun _ => hE x4 hx4 (hiff.trans ?_), fun z => absurd (nI_lt (by omega) (by omega)) z⟩
      constructor
      · rintro ⟨k', j, h1, h2, h3⟩
        refine ⟨k', j, ?_, h3⟩
        by_cases e : k' = m
        · rw [if_pos e] at h2; exact Or.inr ⟨e, h2⟩
        · rw [if_neg e] at h2; exact Or.inl ⟨by omega, h2⟩
      · rintro ⟨k', j, h1, h3⟩
        refine ⟨k', j, by omega, ?_, h3⟩
        rcases h1 with ⟨z, y⟩ | ⟨z, y⟩
        · rw [if_neg (by omega)]; exact y
        · rw [if_pos z]; exact y
    | succ d ih =>
      intro k x4 hk hx4 hiff
      rw [wp_X9_triples_L40]
      refine ⟨fun z => absurd z (nI_nlt (by omega) (by omega)), fun _ => ⟨(if k = m then i else sz (mt k)) + 1, ?_⟩⟩
      refine L49 _ x1 m i k (∃ k' j, k' < k ∧ j < (if k' = m then i else sz (mt k')) ∧ eqt nn mt pr ml mtm k' j m i) hm hi2 (by omega) (fun y hy hyy v hv => ?_) _ 0 x4 (by omega) hx4 (hiff.trans ⟨Or.inl, fun z => z.elim id (fun ⟨j, hj, _⟩ => absurd hj (by omega))⟩)
      rw [hv, nI_1]
      refine ih (k + 1) y (by omega) hy (hyy.trans ?_)
      constructor
      · rintro (⟨k', j, a, b, c⟩ | ⟨j, b, c⟩)
        · exact ⟨k', j, by omega, b, c⟩
        · exact ⟨k, j, by omega, b, c⟩
      · rintro ⟨k', j, a, b, c⟩
        rcases Nat.lt_or_ge k' k with z | z
        · exact Or.inl ⟨k', j, z, b, c⟩
        · have e : k' = k := by omega
          subst e
          exact Or.inr ⟨j, b, c⟩
  have L19 : ∀ (E : Int32 → ac_hp → Prop) (m N : Nat), m < mc → (E (nI (N + cR (snR nn sz mt pr ml mtm) m (sz (mt m)))) f1) → ∀ (d i : Nat), d + i = sz (mt m) → wp_X9_triples_L19 ki (am 0) (nI m) E (d + 1) (nI (N + cR (snR nn sz mt pr ml mtm) m i)) (nI i) f1 := by
    intro E m N hm hE d
    have s1 := hs20 m hm
    induction d with
    | zero =>
      intro i hi2
      have e : i = sz (mt m) := by omega
      subst e
      rw [wp_X9_triples_L19]
      exact ⟨_, rm_f h rfl, _, rm_f h rfl, _, (rt m hm).1, _, (rt m hm).2, fun _ => hE, fun z => absurd (nI_le (by omega) (by omega)) z⟩
    | succ d ih =>
      intro i hi2
      rw [wp_X9_triples_L19]
      refine ⟨_, rm_f h rfl, _, rm_f h rfl, _, (rt m hm).1, _, (rt m hm).2, fun z => absurd z (nI_ge (by omega) (by omega)), fun _ => ⟨m + 2, L40 _ _ m i hm (by omega) (fun y hy hyy => ⟨fun hz v e v' e' => ?_, fun hz v e v' e' => ?_⟩) (m + 1) 0 1 (by omega) (Or.inr rfl) ⟨fun q => absurd q ne10, fun ⟨k', j, a, _⟩ => absurd a (by omega)⟩⟩⟩
      · have c := cR_1 (hyy.mp hz)
        rw [e', nI_1, e, Int32.add_zero, ← c]; exact ih (i + 1) (by omega)
      · have c := cR_2 (sn := snR nn sz mt pr ml mtm) (i := m) (r := i) (fun q => hz (hyy.mpr q))
        rw [e', nI_1, e, nI_1, Nat.add_assoc, ← c]; exact ih (i + 1) (by omega)
  have L9 : ∀ (d m : Nat), d + m = mc → wp_X9_triples_L9 ki (am 0) (fun y61 f62 => Q y61 f62) (d + 1) (nI (cM (snR nn sz mt pr ml mtm) (fun i => sz (mt i)) m)) (nI m) f1 := by
    intro d
    induction d with
    | zero =>
      intro m hm
      have e : m = mc := by omega
      subst e
      rw [wp_X9_triples_L9]
      refine ⟨_, rm_f h rfl, ?_⟩
      rw [h5]
      exact ⟨fun _ => hq f1 h, fun z => absurd (nI_le (by omega) (by omega)) z⟩
    | succ d ih =>
      intro m hm
      rw [wp_X9_triples_L9]
      refine ⟨_, rm_f h rfl, ?_⟩
      rw [h5]
      refine ⟨fun z => absurd z (nI_ge (by omega) (by omega)), fun _ => ⟨sz (mt m) + 1, ?_⟩⟩
      have := L19 (fun y57 f58 => ∀ v59 : Int32, v59 = nI m + 1 → wp_X9_triples_L9 ki (am 0) (fun y61 f62 => Q y61 f62) (d + 1) y57 v59 f58) m (cM (snR nn sz mt pr ml mtm) (fun i => sz (mt i)) m) (by omega) (fun v hv => by rw [hv, nI_1]; exact ih (m + 1) (by omega)) (sz (mt m)) 0 (by omega)
      exact this
  exact L9 mc 0 (by omega)
end TR2
