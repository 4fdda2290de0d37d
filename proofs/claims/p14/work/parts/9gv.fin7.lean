/-! the templates of the variables; slots are one thing -/
section FI7
variable {t : Nat → Nat → Int32} {c : Nat → Nat} {n : Nat}
theorem pst_some {q q2 : Nat × (Nat → Int32)} {pl x : Int32} (hpl : ¬ pl < (-6) ∧ pl < 60000) (h : pst q pl x = some q2) : (∀ v, pl_v pl v → q2.1.testBit v = true ∧ q2.2 v = x) ∧ ∀ v, q.1.testBit v = true → q2.1.testBit v = true ∧ q2.2 v = q.2 v := by
  have keep : ∀ v, q.1.testBit v = true → q2.1.testBit v = true ∧ q2.2 v = q.2 v := fun v hv => by
    obtain ⟨k, T⟩ := q
    obtain ⟨k2, T2⟩ := q2
    exact ⟨pst_grow h v hv, pst_keep h v hv⟩
  refine ⟨fun v hv => ?_, keep⟩
  obtain ⟨hv1, hv2⟩ := hv
  subst hv2
  rw [pst_v hv1] at h
  by_cases hb : q.1.testBit v = true
  · rw [if_pos hb] at h
    split at h
    · next e => cases h; exact ⟨hb, e⟩
    · cases h
  · rw [if_neg hb] at h
    cases h
    refine ⟨?_, upd_self _ _ _⟩
    show (q.1 ||| 2 ^ v).testBit v = true
    rw [Nat.testBit_or, Nat.testBit_two_pow_self]
    simp
theorem rst_var (hpl : ∀ j, j < 2 * n → ¬ t 9 j < (-6) ∧ t 9 j < 60000) : ∀ (a : Nat) (q : Nat × (Nat → Int32)), a ≤ n → rst t c a = some q → ∀ b, b < a → ∀ p, p < 2 → ∀ v, pl_v (t 9 (2 * b + p)) v → q.1.testBit v = true ∧ q.2 v = t 6 (2 * c b + p)
  | 0, q, _, _ => fun b hb => absurd hb (by omega)
  | a + 1, q, ha, h => by
    rw [rst] at h
    cases hA : rst t c a with
    | none => rw [hA] at h; cases h
    | some q0 =>
      have i1 := rst_var hpl a q0 (by omega) hA
      rw [hA] at h
      unfold rp0 rpp at h
      rw [Option.bind_some] at h
      split at h
      · rw [Option.bind_some] at h
        cases h0 : pst q0 (t 9 (2 * a + 0)) (t 6 (2 * c a + 0)) with
        | none => rw [h0] at h; cases h
        | some q1 =>
          rw [h0, Option.bind_some] at h
          obtain ⟨u1, u2⟩ := pst_some (hpl (2 * a + 0) (by omega)) h0
          obtain ⟨w1, w2⟩ := pst_some (hpl (2 * a + 1) (by omega)) h
          intro b hb p hp v hv
          by_cases e : b = a
          · subst e
            rcases (show p = 0 ∨ p = 1 by omega) with rfl | rfl
            · obtain ⟨z1, z2⟩ := u1 v hv
              obtain ⟨y1, y2⟩ := w2 v z1
              exact ⟨y1, y2.trans z2⟩
            · exact w1 v hv
          · obtain ⟨z1, z2⟩ := i1 b (by omega) p hp v hv
            obtain ⟨y1, y2⟩ := u2 v z1
            obtain ⟨x1, x2⟩ := w2 v y1
            exact ⟨x1, x2.trans (y2.trans z2)⟩
      · cases h
theorem SL_cg {one one2 : Nat → Nat → Prop} : ∀ {k : Nat} {g : Nat → Nat} {ct : Nat}, SL one k g ct → (∀ a b, a < k → b < k → (one a b ↔ one2 a b)) → SL one2 k g ct
  | 0, _, _, h, _ => h
  | k + 1, g, ct, h, e => by
    obtain ⟨ct0, h1, h2⟩ := h
    refine ⟨ct0, SL_cg h1 (fun a b ha hb => e a b (by omega) (by omega)), ?_⟩
    rcases h2 with ⟨b, hb, o1, o2, e1, e2⟩ | ⟨o2, e1, e2⟩
    · exact Or.inl ⟨b, hb, (e b k (by omega) (by omega)).mp o1, fun q hq z => o2 q hq ((e q k (by omega) (by omega)).mpr z), e1, e2⟩
    · exact Or.inr ⟨fun q hq z => o2 q hq ((e q k (by omega) (by omega)).mpr z), e1, e2⟩
theorem SL_det {one : Nat → Nat → Prop} : ∀ {k : Nat} {g g2 : Nat → Nat} {ct ct2 : Nat}, SL one k g ct → SL one k g2 ct2 → ct = ct2 ∧ ∀ a, a < k → g a = g2 a
  | 0, _, _, ct, ct2, h, h2 => ⟨by rw [show ct = 0 from h, show ct2 = 0 from h2], fun a ha => absurd ha (by omega)⟩
  | k + 1, g, g2, ct, ct2, h, h2 => by
    obtain ⟨c0, h1, q1⟩ := h
    obtain ⟨d0, h3, q3⟩ := h2
    obtain ⟨e0, eg⟩ := SL_det h1 h3
    subst e0
    have fin : ct = ct2 ∧ g k = g2 k := by
      rcases q1 with ⟨b, hb, o1, o2, e1, e2⟩ | ⟨o2, e1, e2⟩
      · rcases q3 with ⟨b', hb', o1', o2', e1', e2'⟩ | ⟨o2', e1', e2'⟩
        · have : b = b' := by
            rcases Nat.lt_trichotomy b b' with z | z | z
            · exact absurd o1 (o2' b z)
            · exact z
            · exact absurd o1' (o2 b' z)
          subst this
          exact ⟨by rw [e2, e2'], by rw [e1, e1', eg b hb]⟩
        · exact absurd o1 (o2' b hb)
      · rcases q3 with ⟨b', hb', o1', o2', e1', e2'⟩ | ⟨o2', e1', e2'⟩
        · exact absurd o1' (o2 b' hb')
        · exact ⟨by rw [e2, e2'], by rw [e1, e1']⟩
    refine ⟨fin.1, fun a ha => ?_⟩
    by_cases e : a = k
    · rw [e]; exact fin.2
    · exact eg a (by omega)
end FI7
