/-! FINDER: what a union finds, in the question's own words -/
theorem ex_tb {g t : Nat → Nat} {n : Nat} (h : ∀ a b, a < n → b < n → g a = g b → t a = t b) : ∃ tb : Nat → Nat, ∀ a, a < n → tb (g a) = t a := by
  have : ∀ k, ∃ y, ∀ a, a < n → g a = k → y = t a := fun k => by
    by_cases e : ∃ a, a < n ∧ g a = k
    · obtain ⟨a, ha, ea⟩ := e
      exact ⟨t a, fun b hb eb => h a b ha hb (by rw [ea, eb])⟩
    · exact ⟨0, fun a ha ea => absurd ⟨a, ha, ea⟩ e⟩
  obtain ⟨tb, ht⟩ := Classical.axiomOfChoice this
  exact ⟨tb, fun a ha => ht (g a) a ha rfl⟩
/-- w is an answer of the union: rows R for the slots, by atom and place -/
def uans (s : Nat → Nat → Int32) (n : Nat) (g t : Nat → Nat) (c tm : Nat → Nat → Nat) (nn : Nat → Nat → Nat → Nat) (sz : Nat → Nat) (w : Nat → Nat) : Prop :=
  ∃ R : Nat → Nat, (∀ a, a < n → R (g a) < sz (t a) ∧ ∀ p, p < 2 → (∀ x, pl_c (s 7 (a * 2 + p)) x → nn (t a) (R (g a)) (c a p) = x % 10000) ∧
    ∀ v, pl_v (s 7 (a * 2 + p)) v → w v = tm a p * 10000 + nn (t a) (R (g a)) (c a p) ∧ ¬ nI (nn (t a) (R (g a)) (c a p)) < s 8 v ∧ ¬ s 9 v < nI (nn (t a) (R (g a)) (c a p))) ∧
  ∀ v, (∀ a, a < n → ∀ p, p < 2 → ¬ pl_v (s 7 (a * 2 + p)) v) → w v = 0
section VR27
variable {s s' : Nat → Nat → Int32} {u n ct : Nat} {g m t tb : Nat → Nat} {c tm : Nat → Nat → Nat} {MK : Nat → Nat} {CL : Nat → Nat → Nat} {TP : Nat → Nat} {nn : Nat → Nat → Nat → Nat} {sz : Nat → Nat}
theorem lok_of (hL : LI s s' g c tm n 0 MK CL TP) (hA : AO s' g n) (hc : lc s u n g m t c tm) (hct : ct ≤ 4) (h14 : s 14 4 = nI ct) (hsu : ∀ k, k < ct → ∃ a, a < n ∧ g a = k) (htb : ∀ a, a < n → tb (g a) = t a) : lok s' u ct tb MK CL TP := by
  obtain ⟨e, i2, i3, i4⟩ := hL
  obtain ⟨hu, hn4, c5, c21, hat⟩ := hc
  refine ⟨hct, hu, by rw [e 21 (by omega) (by omega) (by omega) (by omega) (by omega)]; exact c21, by rw [e 14 (by omega) (by omega) (by omega) (by omega) (by omega)]; exact h14, fun v hv => ⟨(i4 v hv).1, (i4 v hv).2.1⟩, fun k hk => ?_⟩
  obtain ⟨b, hb, eb, h22⟩ := hA k (hsu k hk)
  obtain ⟨l1, l2, l3, ⟨m1, m2, m3, m4⟩, l5, l6⟩ := hat b hb
  have ht : tb k = t b := by rw [← eb]; exact htb b hb
  obtain ⟨k1, k2, k3⟩ := i3 k (by omega)
  refine ⟨by rw [ht]; exact m2, k1, k2, ⟨b, m b, by omega, h22, m1, by rw [e 11 (by omega) (by omega) (by omega) (by omega) (by omega)]; exact l3, by rw [e _ (by omega) (by omega) (by omega) (by omega) (by omega), ht]; exact m3⟩, fun v hv => ⟨fun z => ?_, fun z => ((k3 v hv).2 z).1⟩⟩
  obtain ⟨y1, y2, -⟩ := (k3 v hv).1 z
  exact ⟨y1, y2⟩
theorem MK_of (hL : LI s s' g c tm n 0 MK CL TP) {a p v : Nat} (ha : a < n) (hg : g a < 4) (hp : p < 2) (hv : pl_v (s 7 (a * 2 + p)) v) : (MK (g a)).testBit v = true := by
  cases hb : (MK (g a)).testBit v with
  | true => rfl
  | false => exact absurd ⟨hp, Or.inl ha, rfl, hv⟩ (((hL.2.2.1 (g a) hg).2.2 v hv.1).2 hb |>.2 a p)
theorem lat_of (hL : LI s s' g c tm n 0 MK CL TP) (hc : lc s u n g m t c tm) (hlt : ∀ a, a < n → g a < ct) (htb : ∀ a, a < n → tb (g a) = t a) : lat s' u n ct g m c tb MK := by
  have e := hL.1
  obtain ⟨hu, hn4, c5, c21, hat⟩ := hc
  refine ⟨hn4, by rw [e 5 (by omega) (by omega) (by omega) (by omega) (by omega)]; exact c5, fun a ha => ?_⟩
  obtain ⟨l1, l2, l3, ⟨m1, m2, m3, m4⟩, l5, l6⟩ := hat a ha
  refine ⟨hlt a ha, by rw [e 15 (by omega) (by omega) (by omega) (by omega) (by omega)]; exact l2, by rw [e 11 (by omega) (by omega) (by omega) (by omega) (by omega)]; exact l3, ⟨m1, by rw [htb a ha]; exact m2, by rw [e _ (by omega) (by omega) (by omega) (by omega) (by omega), htb a ha]; exact m3, fun p hp => by rw [e _ (by omega) (by omega) (by omega) (by omega) (by omega)]; exact m4 p hp⟩, fun p hp => ?_, fun p v hp => ?_⟩
  · rw [e 7 (by omega) (by omega) (by omega) (by omega) (by omega)]; exact l5 p hp
  · rw [e 7 (by omega) (by omega) (by omega) (by omega) (by omega)]; exact MK_of hL ha l1 hp
/-- row r suits slot k: in numbers -/
theorem suit_nn (hL : LI s s' g c tm n 0 MK CL TP) (hc : lc s u n g m t c tm) (htb : ∀ a, a < n → tb (g a) = t a) (hnn : ∀ k r j, k < 4 → r < sz k → j < 3 → nn k r j < 10000 ∧ s (31 + 3 * k) (r * 3 + j) = nI (nn k r j)) {k r : Nat} (hk : tb k < 4) (hr : r < sz (tb k)) :
    suit s' n g c tb CL k r ↔ ∀ a, a < n → g a = k → ∀ p, p < 2 → (∀ x, pl_c (s 7 (a * 2 + p)) x → nn (tb k) r (c a p) = x % 10000) ∧ ∀ v, pl_v (s 7 (a * 2 + p)) v → nn (tb k) r (c a p) = nn (tb k) r (CL k v) ∧ ¬ nI (nn (tb k) r (c a p)) < s 8 v ∧ ¬ s 9 v < nI (nn (tb k) r (c a p)) := by
  have e := hL.1
  obtain ⟨hu, hn4, c5, c21, hat⟩ := hc
  unfold suit fitP
  rw [e 7 (by omega) (by omega) (by omega) (by omega) (by omega), e 8 (by omega) (by omega) (by omega) (by omega) (by omega), e 9 (by omega) (by omega) (by omega) (by omega) (by omega), e (31 + 3 * tb k) (by omega) (by omega) (by omega) (by omega) (by omega)]
  have key : ∀ a, a < n → g a = k → ∀ p, p < 2 → s (31 + 3 * tb k) (r * 3 + c a p) = nI (nn (tb k) r (c a p)) ∧ nn (tb k) r (c a p) < 10000 := fun a ha ea p hp => by
    obtain ⟨l1, l2, l3, ⟨m1, m2, m3, m4⟩, l5, l6⟩ := hat a ha
    obtain ⟨z1, z2⟩ := hnn (tb k) r (c a p) hk hr (m4 p hp).1
    exact ⟨z2, z1⟩
  have key2 : ∀ a, a < n → g a = k → ∀ p, p < 2 → ∀ v, pl_v (s 7 (a * 2 + p)) v → s (31 + 3 * tb k) (r * 3 + CL k v) = nI (nn (tb k) r (CL k v)) ∧ nn (tb k) r (CL k v) < 10000 := fun a ha ea p hp v hv => by
    have hg := (hat a ha).1
    have hb := MK_of hL ha hg hp hv
    obtain ⟨y1, -⟩ := ((hL.2.2.1 (g a) hg).2.2 v hv.1).1 hb
    rw [ea] at y1
    obtain ⟨z1, z2⟩ := hnn (tb k) r (CL k v) hk hr y1
    exact ⟨z2, z1⟩
  constructor
  · intro h a ha ea p hp
    obtain ⟨h1, h2⟩ := h a ha ea p hp
    obtain ⟨q1, q2⟩ := key a ha ea p hp
    refine ⟨fun x hx => ?_, fun v hv => ?_⟩
    · have := h1 x hx
      rw [q1] at this
      exact (nI_eq (by omega) (by omega)).mp this
    · obtain ⟨z1, z2, z3⟩ := h2 v hv
      obtain ⟨q3, q4⟩ := key2 a ha ea p hp v hv
      rw [q1] at z1 z2 z3
      rw [q3] at z1
      exact ⟨(nI_eq (by omega) (by omega)).mp z1, z2, z3⟩
  · intro h a ha ea p hp
    obtain ⟨h1, h2⟩ := h a ha ea p hp
    obtain ⟨q1, q2⟩ := key a ha ea p hp
    rw [q1]
    refine ⟨fun x hx => by rw [h1 x hx], fun v hv => ?_⟩
    obtain ⟨z1, z2, z3⟩ := h2 v hv
    obtain ⟨q3, q4⟩ := key2 a ha ea p hp v hv
    exact ⟨by rw [q3, z1], z2, z3⟩
theorem alk_nn (hL : LI s s' g c tm n 0 MK CL TP) (hnn : ∀ k r j, k < 4 → r < sz k → j < 3 → nn k r j < 10000 ∧ s (31 + 3 * k) (r * 3 + j) = nI (nn k r j)) {k a b : Nat} (hk4 : k < 4) (hk : tb k < 4) (ha : a < sz (tb k)) (hb : b < sz (tb k)) :
    alk s' tb MK CL k a b ↔ ∀ v, v < 6 → (MK k).testBit v = true → nn (tb k) a (CL k v) = nn (tb k) b (CL k v) := by
  unfold alk
  rw [hL.1 (31 + 3 * tb k) (by omega) (by omega) (by omega) (by omega) (by omega)]
  have key : ∀ v, v < 6 → (MK k).testBit v = true → CL k v < 3 := fun v hv hm => (((hL.2.2.1 k hk4).2.2 v hv).1 hm).1
  constructor
  · intro h v hv hm
    have := h v hv hm
    obtain ⟨x1, x2⟩ := hnn (tb k) a (CL k v) hk ha (key v hv hm)
    obtain ⟨y1, y2⟩ := hnn (tb k) b (CL k v) hk hb (key v hv hm)
    rw [x2, y2] at this
    exact (nI_eq (by omega) (by omega)).mp this
  · intro h v hv hm
    obtain ⟨x1, x2⟩ := hnn (tb k) a (CL k v) hk ha (key v hv hm)
    obtain ⟨y1, y2⟩ := hnn (tb k) b (CL k v) hk hb (key v hv hm)
    rw [x2, y2, h v hv hm]
end VR27
