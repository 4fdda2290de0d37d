/-! the reference's slots, in the class's words (SL) -/
def pkR (t : Nat → Nat → Int32) (kk : Nat → Nat → Int32) (mt : Nat → Nat) (ml : Nat → Nat → Nat) (c : Nat → Nat) (a b p q : Nat) : Prop := ml (c a) p = ml (c b) q ∧ kk (mt (c a)) (ml (c a) p) ≠ 0 ∧ t 9 (2 * a + p) = t 9 (2 * b + q)
def oneM (t : Nat → Nat → Int32) (kk : Nat → Nat → Int32) (mt : Nat → Nat) (ml : Nat → Nat → Nat) (c : Nat → Nat) (a b : Nat) : Prop := mt (c a) = mt (c b) ∧ ∃ i, i < 2 ∧ ∃ j, j < 2 ∧ pkR t kk mt ml c a b i j
section UN5
variable {F : ac_hp} {ki : Nat → ClassId} {am : Nat → Nat} {s : Nat → Nat → Int32} {f : ac_hp}
variable {sz : Nat → Nat} {nn : Nat → Nat → Nat → Nat} {kk : Nat → Nat → Int32} {mc n sp : Nat} {mt pr : Nat → Nat} {ml mtm : Nat → Nat → Nat}
theorem rj_one {A a b : Nat} {c : Nat → Nat} {Q : Int32 → ac_hp → Prop} (h : mr_R F ki am s f) (hx : RX s sz nn kk mc n sp) (hr : RM s mc mt pr ml mtm) (hA : A + n ≤ 604) (hc : ∀ a, a < n → c a < mc ∧ s 13 (A + a) = nI (c a)) (ha : a < n) (hb : b < n) (hy : oneM s kk mt ml c a b → Q 1 f) (hno : ¬ oneM s kk mt ml c a b → Q 0 f) : wp_X9_isOneRow ki (am 0) (nI A) (nI a) (nI b) f Q := by
  obtain ⟨-, h3, ⟨h4, h5, h6⟩, ⟨h7, h8, h9⟩, -⟩ := id hx
  obtain ⟨hm, em⟩ := hc a ha
  obtain ⟨hk, ek⟩ := hc b hb
  obtain ⟨t1, t2, -, -, t5⟩ := hr (c a) hm
  obtain ⟨k1, k2, -, -, k5⟩ := hr (c b) hk
  have em' := rm_i (i := 13) (j := A + a) (c := ki 0) (n := 604) (x := nI A + nI a) h (by omega) rfl (nI_add A a) (by omega) (by omega)
  rw [em] at em'
  have ek' := rm_i (i := 13) (j := A + b) (c := ki 0) (n := 604) (x := nI A + nI b) h (by omega) rfl (nI_add A b) (by omega) (by omega)
  rw [ek] at ek'
  have et1 := rm_i (i := 4) (j := c a) (c := ki 0) (n := 12) (x := nI (c a)) h (by omega) rfl rfl (by omega) (by omega)
  rw [t2] at et1
  have et2 := rm_i (i := 4) (j := c b) (c := ki 0) (n := 12) (x := nI (c b)) h (by omega) rfl rfl (by omega) (by omega)
  rw [k2] at et2
  unfold wp_X9_isOneRow
  refine ⟨_, rm_f h rfl, _, em', _, rm_f h rfl, _, ek', 3, ?_⟩
  have L35 : ∀ (E : Int32 → ac_hp → Prop) (p : Nat) (P : Prop), p < 2 → (∀ y, (y = 0 ∨ y = 1) → (¬ y = 0 ↔ (P ∨ ∃ j, j < 2 ∧ pkR s kk mt ml c a b p j)) → E y f) → ∀ (d q : Nat) (x6 : Int32), d + q = 2 → (x6 = 0 ∨ x6 = 1) → (¬ x6 = 0 ↔ (P ∨ ∃ j, j < q ∧ pkR s kk mt ml c a b p j)) → wp_X9_isOneRow_L35 ki (am 0) (nI a) (nI b) (nI (c a)) (nI (c b)) (nI p) E (d + 1) x6 (nI q) f := by
    intro E p P hp hE d
    induction d with
    | zero =>
      intro q x6 hq6 hx6 hiff
      have e : q = 2 := by omega
      subst e
      rw [wp_X9_isOneRow_L35]
      exact ⟨fun _ => hE x6 hx6 hiff, fun z => absurd (nI_le (a := 2) (b := 2) (by omega) (by omega)) z⟩
    | succ d ih =>
      intro q x6 hq6 hx6 hiff
      obtain ⟨-, -, hc1, ec1⟩ := t5 p hp
      obtain ⟨-, -, hc2, ec2⟩ := k5 q (by omega)
      have r7 := rm_i (i := 7) (j := 2 * c a + p) (c := ki 0) (n := 24) (x := (2 * nI (c a)) + nI p) h (by omega) rfl pm_12 (by omega) (by omega)
      rw [ec1] at r7
      have r7b := rm_i (i := 7) (j := 2 * c b + q) (c := ki 0) (n := 24) (x := (2 * nI (c b)) + nI q) h (by omega) rfl pm_12 (by omega) (by omega)
      rw [ec2] at r7b
      have r3 := rm_i (i := 3) (j := 3 * mt (c a) + ml (c a) p) (c := ki 1) (n := 12) (x := (3 * nI (mt (c a))) + nI (ml (c a) p)) h (by omega) rfl pm_3 (by omega) (by omega)
      rw [(h3 _ _ t1 hc1).2] at r3
      have r9 := rm_i (i := 9) (j := 2 * a + p) (c := ki 0) (n := 8) (x := (2 * nI a) + nI p) h (by omega) rfl pm_12 (by omega) (by omega)
      have r9b := rm_i (i := 9) (j := 2 * b + q) (c := ki 0) (n := 8) (x := (2 * nI b) + nI q) h (by omega) rfl pm_12 (by omega) (by omega)
      have nx : ∀ y : Int32, (y = 0 ∨ y = 1) → (¬ y = 0 ↔ (P ∨ ∃ j, j < q + 1 ∧ pkR s kk mt ml c a b p j)) → ∀ v : Int32, v = nI q + 1 → wp_X9_isOneRow_L35 ki (am 0) (nI a) (nI b) (nI (c a)) (nI (c b)) (nI p) E (d + 1) y v f := fun y hy hyy v hv => by
        rw [hv, nI_1]; exact ih (q + 1) y (by omega) hy hyy
      have grow : (P ∨ ∃ j, j < q + 1 ∧ pkR s kk mt ml c a b p j) ↔ ((P ∨ ∃ j, j < q ∧ pkR s kk mt ml c a b p j) ∨ pkR s kk mt ml c a b p q) := by
        constructor
        · rintro (z | ⟨j', hj', e⟩)
          · exact Or.inl (Or.inl z)
          · rcases Nat.lt_or_ge j' q with y | y
            · exact Or.inl (Or.inr ⟨j', y, e⟩)
            · rw [show j' = q by omega] at e; exact Or.inr e
        · rintro ((z | ⟨j', hj', e⟩) | e)
          · exact Or.inl z
          · exact Or.inr ⟨j', by omega, e⟩
          · exact Or.inr ⟨q, by omega, e⟩
      have n1 : ¬ x6 = 0 → ∀ v : Int32, v = nI q + 1 → wp_X9_isOneRow_L35 ki (am 0) (nI a) (nI b) (nI (c a)) (nI (c b)) (nI p) E (d + 1) 1 v f := fun z => nx 1 (Or.inr rfl) ⟨fun _ => grow.mpr (Or.inl (hiff.mp z)), fun _ => ne10⟩
      have n0 : x6 = 0 → ¬ pkR s kk mt ml c a b p q → ∀ v : Int32, v = nI q + 1 → wp_X9_isOneRow_L35 ki (am 0) (nI a) (nI b) (nI (c a)) (nI (c b)) (nI p) E (d + 1) 0 v f := fun z y => nx 0 (Or.inl rfl) ⟨fun w => absurd rfl w, fun w => ((grow.mp w).elim (fun u => absurd z (hiff.mpr u)) (fun u => absurd u y))⟩
      rw [wp_X9_isOneRow_L35]
      exact ⟨fun z => absurd z (nI_ge (a := q) (b := 2) (by omega) (by omega)), fun _ => ⟨_, rm_f h rfl, _, r7, _, rm_f h rfl, _, r7b, fun hne => ⟨n1, fun z => n0 z (fun y => hne (by rw [y.1]))⟩, fun hec => ⟨_, rm_f h rfl, _, rm_f h rfl, _, et1, _, rm_f h rfl, _, r7, _, r3, fun hk0 => ⟨n1, fun z => n0 z (fun y => y.2.1 hk0)⟩, fun hk1 => ⟨n1, fun z => ⟨_, rm_f h rfl, _, r9, _, rm_f h rfl, _, r9b, fun hne => n0 z (fun y => hne y.2.2), fun he => nx 1 (Or.inr rfl) ⟨fun _ => grow.mpr (Or.inr ⟨(nI_eq (by omega) (by omega)).mp hec, hk1, he⟩), fun _ => ne10⟩⟩⟩⟩⟩⟩
  have L26 : ∀ (d p : Nat) (x6 : Int32) (E : Int32 → ac_hp → Prop), (∀ y, (y = 0 ∨ y = 1) → (¬ y = 0 ↔ ∃ i, i < 2 ∧ ∃ j, j < 2 ∧ pkR s kk mt ml c a b i j) → E y f) → d + p = 2 → (x6 = 0 ∨ x6 = 1) → (¬ x6 = 0 ↔ ∃ i, i < p ∧ ∃ j, j < 2 ∧ pkR s kk mt ml c a b i j) → wp_X9_isOneRow_L26 ki (am 0) (nI a) (nI b) (nI (c a)) (nI (c b)) E (d + 1) x6 (nI p) f := by
    intro d
    induction d with
    | zero =>
      intro p x6 E hE hp hx6 hiff
      have e : p = 2 := by omega
      subst e
      rw [wp_X9_isOneRow_L26]
      exact ⟨fun _ => hE x6 hx6 hiff, fun z => absurd (nI_le (a := 2) (b := 2) (by omega) (by omega)) z⟩
    | succ d ih =>
      intro p x6 E hE hp hx6 hiff
      rw [wp_X9_isOneRow_L26]
      refine ⟨fun z => absurd z (nI_ge (a := p) (b := 2) (by omega) (by omega)), fun _ => ⟨3, L35 _ p (∃ i, i < p ∧ ∃ j, j < 2 ∧ pkR s kk mt ml c a b i j) (by omega) (fun y hy hyy v hv => ?_) 2 0 x6 rfl hx6 (hiff.trans ⟨Or.inl, fun z => z.elim id (fun ⟨j, hj, _⟩ => absurd hj (by omega))⟩)⟩⟩
      rw [hv, nI_1]
      refine ih (p + 1) y E hE (by omega) hy (hyy.trans ?_)
      constructor
      · rintro (⟨i, hi, z⟩ | z)
        · exact ⟨i, by omega, z⟩
        · exact ⟨p, by omega, z⟩
      · rintro ⟨i, hi, z⟩
        rcases Nat.lt_or_ge i p with y | y
        · exact Or.inl ⟨i, y, z⟩
        · rw [show i = p by omega] at z; exact Or.inr z
  refine L26 2 0 0 _ (fun y hy2 hyy => ⟨fun z => hno (fun w => absurd z (hyy.mpr w.2)), fun z => ⟨_, rm_f h rfl, _, et1, _, rm_f h rfl, _, et2, fun hne => hno (fun w => hne (by rw [w.1])), fun he => hy ⟨(nI_eq (by omega) (by omega)).mp he, hyy.mp z⟩⟩⟩) rfl (Or.inl rfl) ⟨fun w => absurd rfl w, fun ⟨i, hi, _⟩ => absurd hi (by omega)⟩
end UN5
