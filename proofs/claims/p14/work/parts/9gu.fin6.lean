/-! what agA says of the numbers -/
section FI6
variable {t : Nat → Nat → Int32} {val : Nat → Nat → Int32} {sl : Nat → Nat} {la n : Nat}
/-- one place: what a step asks and does -/
theorem stN_some {N N2 : Nat → Int32} {pl x : Int32} (hpl : ¬ pl < (-6) ∧ pl < 60000) (hx : ¬ x < 0) (h : stN N pl x = some N2) :
    (∀ d, pl_c pl d → x = nI d - nI d / 10000 * 10000) ∧ (∀ v, pl_v pl v → N2 v = x) ∧ (∀ v, ¬ N v < 0 → N2 v = N v) ∧ ∀ v, v < 6 → N2 v = N v ∨ (pl_v pl v ∧ N2 v = x) := by
  rcases pl_cases hpl with ⟨d, hd1, hd2⟩ | ⟨v0, hv1, hv2⟩
  · subst hd2
    rw [stN_c hd1] at h
    split at h
    · next e =>
      cases h
      refine ⟨fun d' hd' => ?_, fun v hv => ?_, fun _ _ => rfl, fun v _ => Or.inl rfl⟩
      · rw [← e, hd'.2]
      · exact absurd (by rw [hv.2]; have h6 := hv.1; have : v = 0 ∨ v = 1 ∨ v = 2 ∨ v = 3 ∨ v = 4 ∨ v = 5 := by omega
                         rcases this with rfl | rfl | rfl | rfl | rfl | rfl <;> decide) (nI_pos (show d < 2 ^ 31 by omega))
    · cases h
  · subst hv2
    rw [stN_v hv1] at h
    split at h
    · next e =>
      cases h
      have inj : ∀ v, pl_v ((-1) - nI v0) v → v = v0 := fun v hv => by
        have := congrArg (fun z => (-1) - z) hv.2
        simp only [pm_neg] at this
        exact ((nI_eq (by omega) (by have := hv.1; omega)).mp this).symm
      refine ⟨fun d hd => ?_, fun v hv => ?_, fun v hv => ?_, fun v _ => ?_⟩
      · exact absurd (by rw [← hd.2]; have : v0 = 0 ∨ v0 = 1 ∨ v0 = 2 ∨ v0 = 3 ∨ v0 = 4 ∨ v0 = 5 := by omega
                         rcases this with rfl | rfl | rfl | rfl | rfl | rfl <;> decide) (nI_pos (show d < 2 ^ 31 by have := hd.1; omega))
      · rw [inj v hv, upd_self]
      · by_cases q : v = v0
        · subst q
          rw [upd_self]
          rcases e with z | z
          · exact absurd z hv
          · exact z.symm
        · rw [pk_un q]
      · by_cases q : v = v0
        · subst q; exact Or.inr ⟨⟨hv1, rfl⟩, upd_self _ _ _⟩
        · exact Or.inl (pk_un q)
    · cases h
theorem ag1 (hpl : ∀ j, j < 2 * n → ¬ t 9 j < (-6) ∧ t 9 j < 60000) (hval : ∀ a p, a < n → p < 2 → sl a ≤ la → ¬ val a p < 0) : ∀ (a : Nat) (N : Nat → Int32), a ≤ n → agA t val sl la a = some N →
    (∀ b, b < a → sl b ≤ la → ∀ p, p < 2 → (∀ d, pl_c (t 9 (2 * b + p)) d → val b p = nI d - nI d / 10000 * 10000) ∧ ∀ v, pl_v (t 9 (2 * b + p)) v → N v = val b p) ∧ ∀ v, v < 6 → N v = -1 ∨ ∃ b, b < a ∧ sl b ≤ la ∧ ∃ p, p < 2 ∧ pl_v (t 9 (2 * b + p)) v ∧ N v = val b p
  | 0, N, _, h => ⟨fun b hb => absurd hb (by omega), fun v _ => Or.inl (by cases h; rfl)⟩
  | a + 1, N, ha, h => by
    rw [agA] at h
    by_cases h1 : la < sl a
    · rw [if_pos h1] at h
      obtain ⟨i1, i2⟩ := ag1 hpl hval a N (by omega) h
      refine ⟨fun b hb hsb p hp => ?_, fun v hv => (i2 v hv).imp id (fun ⟨b, hb, z⟩ => ⟨b, by omega, z⟩)⟩
      by_cases e : b = a
      · rw [e] at hsb; omega
      · exact i1 b (by omega) hsb p hp
    · rw [if_neg h1] at h
      cases hA : agA t val sl la a with
      | none => rw [hA] at h; cases h
      | some M =>
        obtain ⟨i1, i2⟩ := ag1 hpl hval a M (by omega) hA
        rw [hA] at h
        unfold agP at h
        rw [Option.bind_some] at h
        cases h0 : stN M (t 9 (2 * a + 0)) (val a 0) with
        | none => rw [h0] at h; cases h
        | some M1 =>
          rw [h0, Option.bind_some] at h
          obtain ⟨u1, u2, u3, u4⟩ := stN_some (hpl (2 * a + 0) (by omega)) (hval a 0 (by omega) (by omega) (by omega)) h0
          obtain ⟨w1, w2, w3, w4⟩ := stN_some (hpl (2 * a + 1) (by omega)) (hval a 1 (by omega) (by omega) (by omega)) h
          refine ⟨fun b hb hsb p hp => ?_, fun v hv => ?_⟩
          · by_cases e : b = a
            · subst e
              rcases (show p = 0 ∨ p = 1 by omega) with rfl | rfl
              · refine ⟨u1, fun v hv => ?_⟩
                have e1 := u2 v hv
                rw [w3 v (by rw [e1]; exact hval b 0 (by omega) (by omega) hsb)]
                exact e1
              · exact ⟨w1, w2⟩
            · obtain ⟨z1, z2⟩ := i1 b (by omega) hsb p hp
              refine ⟨z1, fun v hv => ?_⟩
              have e1 := z2 v hv
              have nn : ¬ M v < 0 := by rw [e1]; exact hval b p (by omega) hp hsb
              have e2 := u3 v nn
              rw [w3 v (by rw [e2]; exact nn), e2, e1]
          · rcases w4 v hv with z | ⟨z1, z2⟩
            · rcases u4 v hv with y | ⟨y1, y2⟩
              · rw [z, y]
                exact (i2 v hv).imp id (fun ⟨b, hb, q⟩ => ⟨b, by omega, q⟩)
              · exact Or.inr ⟨a, by omega, by omega, 0, by omega, y1, by rw [z, y2]⟩
            · exact Or.inr ⟨a, by omega, by omega, 1, by omega, z1, z2⟩
theorem ag2 {M : Nat → Int32} (hpl : ∀ j, j < 2 * n → ¬ t 9 j < (-6) ∧ t 9 j < 60000) (hok : ∀ a, a < n → ∀ p, p < 2 → (∀ d, pl_c (t 9 (2 * a + p)) d → val a p = nI d - nI d / 10000 * 10000) ∧ ∀ v, pl_v (t 9 (2 * a + p)) v → val a p = M v) : ∀ a, a ≤ n → ∃ N, agA t val sl la a = some N ∧ ∀ v, N v < 0 ∨ N v = M v
  | 0, _ => ⟨_, rfl, fun v => Or.inl (by show (-1 : Int32) < 0; decide)⟩
  | a + 1, ha => by
    obtain ⟨N, e, hN⟩ := ag2 hpl hok a (by omega)
    rw [agA, e]
    by_cases h1 : la < sl a
    · rw [if_pos h1]; exact ⟨N, rfl, hN⟩
    · rw [if_neg h1]
      have step : ∀ (p : Nat) (N : Nat → Int32), p < 2 → (∀ v, N v < 0 ∨ N v = M v) → ∃ N2, stN N (t 9 (2 * a + p)) (val a p) = some N2 ∧ ∀ v, N2 v < 0 ∨ N2 v = M v := fun p N hp hN => by
        obtain ⟨o1, o2⟩ := hok a (by omega) p hp
        rcases pl_cases (hpl (2 * a + p) (by omega)) with ⟨d, hd1, hd2⟩ | ⟨v, hv1, hv2⟩
        · have := o1 d ⟨hd1, hd2⟩
          rw [hd2, stN_c hd1, if_pos this.symm]
          exact ⟨N, rfl, hN⟩
        · have := o2 v ⟨hv1, hv2⟩
          rw [hv2, stN_v hv1]
          have hz : N v < 0 ∨ N v = val a p := by rw [this]; exact hN v
          rw [if_pos hz]
          refine ⟨_, rfl, fun q => ?_⟩
          by_cases e : q = v
          · rw [e, upd_self]; exact Or.inr this
          · rw [pk_un e]; exact hN q
      obtain ⟨N1, e1, hN1⟩ := step 0 N (by omega) hN
      obtain ⟨N2, e2, hN2⟩ := step 1 N1 (by omega) hN1
      refine ⟨N2, ?_, hN2⟩
      unfold agP
      rw [Option.bind_some, e1, Option.bind_some, e2]
end FI6
