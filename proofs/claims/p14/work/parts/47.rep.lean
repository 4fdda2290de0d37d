/-! FINDER: the search finds just a union's answers -/
section VR28
variable {s s' s2 : Nat → Nat → Int32} {u n ct : Nat} {g m t tb : Nat → Nat} {c tm : Nat → Nat → Nat} {MK : Nat → Nat} {CL : Nat → Nat → Nat} {TP : Nat → Nat} {nn : Nat → Nat → Nat → Nat} {sz : Nat → Nat} {rc od : Nat → Nat} {rw_ : Nat → Nat → Nat}
theorem ans_iff (hL : LI s s' g c tm n 0 MK CL TP) (hc : lc s u n g m t c tm) (hpm : prm ct od) (hct : ct ≤ 4) (hlt : ∀ a, a < n → g a < ct) (hsu : ∀ k, k < ct → ∃ a, a < n ∧ g a = k) (htb : ∀ a, a < n → tb (g a) = t a)
    (hnn : ∀ k r j, k < 4 → r < sz k → j < 3 → nn k r j < 10000 ∧ s (31 + 3 * k) (r * 3 + j) = nI (nn k r j)) (hG : GI s' s2 n g c tb MK CL sz ct rc rw_)
    (hTM : ∀ a b p q v, a < n → b < n → p < 2 → q < 2 → pl_v (s 7 (a * 2 + p)) v → pl_v (s 7 (b * 2 + q)) v → tm a p = tm b q) (w : Nat → Nat) :
    (∃ I, swr ct MK rc od TP (fun k i v => nn (tb k) (rw_ k i) (CL k v)) 0 0 (fun _ => 0) w I) ↔ uans s n g t c tm nn sz w := by
  obtain ⟨hu, hn4, c5, c21, hat⟩ := id hc
  have htp : ∀ a p v, a < n → p < 2 → pl_v (s 7 (a * 2 + p)) v → TP v = tm a p := fun a p v ha hp hv => by
    rcases (hL.2.2.2 v hv.1).2.2 with ⟨k, b, q, ⟨z1, z2, z3, z4⟩, e⟩ | z
    · rw [e]; exact hTM b a q p v (by omega) ha z1 hp z4 hv
    · exact absurd ⟨hp, Or.inl ha, rfl, hv⟩ (z (g a) a p)
  have htb4 : ∀ k, k < ct → tb k < 4 := fun k hk => by
    obtain ⟨a, ha, ea⟩ := hsu k hk
    rw [← ea, htb a ha]; exact (hat a ha).2.2.2.1.2.1
  have hCL : ∀ k v, k < ct → v < 6 → (MK k).testBit v = true → ∃ b q, b < n ∧ q < 2 ∧ g b = k ∧ pl_v (s 7 (b * 2 + q)) v ∧ CL k v = c b q := fun k v hk hv hb => by
    obtain ⟨-, -, b, q, ⟨z1, z2, z3, z4⟩, e⟩ := ((hL.2.2.1 k (by omega)).2.2 v hv).1 hb
    exact ⟨b, q, by omega, z1, z3, z4, e⟩
  constructor
  · rintro ⟨I, h1, h2, h3⟩
    have row : ∀ k, k < ct → I k < rc k ∧ ∀ v, v < 6 → (MK k).testBit v = true → w v = TP v * 10000 + nn (tb k) (rw_ k (I k)) (CL k v) := fun k hk => by
      obtain ⟨d, hd, ed⟩ := hpm.2.2 k hk
      have := h1 d (by omega) hd
      rw [ed] at this
      exact this
    refine ⟨fun k => rw_ k (I k), fun a ha => ?_, fun v hv => ?_⟩
    · have hk := hlt a ha
      have et := htb a ha
      obtain ⟨r1, r2⟩ := row (g a) hk
      obtain ⟨q1, q2⟩ := (hG (g a) hk).1.2.1 (I (g a)) r1
      have hS := (suit_nn hL hc htb hnn (htb4 _ hk) q1).mp q2 a ha rfl
      rw [et] at q1 hS
      refine ⟨q1, fun p hp => ⟨(hS p hp).1, fun v hv => ?_⟩⟩
      obtain ⟨z1, z2, z3⟩ := (hS p hp).2 v hv
      refine ⟨?_, z2, z3⟩
      rw [r2 v hv.1 (MK_of hL ha (hat a ha).1 hp hv), htp a p v ha hp hv, et, z1]
    · by_cases hv6 : v < 6
      · refine h2 v hv6 (Or.inr (fun d _ hd => ?_))
        cases hb : (MK (od d)).testBit v with
        | false => rfl
        | true =>
          obtain ⟨b, q, z1, z2, z3, z4, -⟩ := hCL (od d) v (hpm.1 d hd) hv6 hb
          exact absurd z4 (hv b z1 q z2)
      · exact h3 v (by omega)
  · rintro ⟨R, h1, h2⟩
    have hR : ∀ k, k < ct → R k < sz (tb k) := fun k hk => by
      obtain ⟨a, ha, ea⟩ := hsu k hk
      have := (h1 a ha).1
      rw [ea, ← htb a ha, ea] at this
      exact this
    have hw : ∀ k, k < ct → ∀ v, v < 6 → (MK k).testBit v = true → w v = TP v * 10000 + nn (tb k) (R k) (CL k v) := fun k hk v hv hb => by
      obtain ⟨b, q, z1, z2, z3, z4, z5⟩ := hCL k v hk hv hb
      have := ((h1 b z1).2 q z2).2 v z4
      rw [this.1, htp b q v z1 z2 z4, z5, z3, ← htb b z1, z3]
    have hSu : ∀ k, k < ct → suit s' n g c tb CL k (R k) := fun k hk => by
      refine (suit_nn hL hc htb hnn (htb4 k hk) (hR k hk)).mpr (fun a ha ea p hp => ?_)
      have et : t a = tb k := by rw [← htb a ha, ea]
      obtain ⟨z1, z2⟩ := (h1 a ha).2 p hp
      rw [ea, et] at z1 z2
      refine ⟨z1, fun v hv => ?_⟩
      obtain ⟨y1, y2, y3⟩ := z2 v hv
      refine ⟨?_, y2, y3⟩
      have hb := MK_of hL ha (hat a ha).1 hp hv
      rw [ea] at hb
      have e1 := hw k hk v hv.1 hb
      rw [htp a p v ha hp hv] at e1
      omega
    have hI : ∀ k, ∃ i, k < ct → i < rc k ∧ alk s' tb MK CL k (R k) (rw_ k i) := fun k => by
      by_cases hk : k < ct
      · obtain ⟨i, hi, z⟩ := (hG k hk).1.2.2.1 (R k) (hR k hk) (hSu k hk)
        exact ⟨i, fun _ => ⟨hi, z⟩⟩
      · exact ⟨0, fun z => absurd z hk⟩
    obtain ⟨I, hI⟩ := Classical.axiomOfChoice hI
    refine ⟨I, fun d _ hd => ?_, fun v hv hcv => ?_, fun v hv => h2 v (fun a _ p _ z => by have := z.1; omega)⟩
    · have hk := hpm.1 d hd
      obtain ⟨i1, i2⟩ := hI (od d) hk
      refine ⟨i1, fun v hv hb => ?_⟩
      have := (alk_nn hL hnn (by omega) (htb4 _ hk) (hR _ hk) ((hG (od d) hk).1.2.1 _ i1).1).mp i2 v hv hb
      rw [hw (od d) hk v hv hb, this]
    · refine h2 v (fun a ha p hp z => ?_)
      have hb := MK_of hL ha (hat a ha).1 hp z
      rcases hcv with y | y
      · simp at y
      · obtain ⟨d, hd, ed⟩ := hpm.2.2 (g a) (hlt a ha)
        have := y d (by omega) hd
        rw [ed, hb] at this
        cases this
theorem rows_ne (hL : LI s s' g c tm n 0 MK CL TP) (hct : ct ≤ 4) (htb4 : ∀ k, k < ct → tb k < 4)
    (hnn : ∀ k r j, k < 4 → r < sz k → j < 3 → nn k r j < 10000 ∧ s (31 + 3 * k) (r * 3 + j) = nI (nn k r j)) (hG : GI s' s2 n g c tb MK CL sz ct rc rw_) :
    ∀ k i j, k < ct → i < j → j < rc k → ∃ v, v < 6 ∧ (MK k).testBit v = true ∧ nn (tb k) (rw_ k i) (CL k v) ≠ nn (tb k) (rw_ k j) (CL k v) := fun k i j hk hij hj => by
  have hg := (hG k hk).1
  refine Classical.byContradiction (fun hno => hg.2.2.2 i j hij hj ?_)
  refine (alk_nn hL hnn (by omega) (htb4 k hk) (hg.2.1 j hj).1 (hg.2.1 i (by omega)).1).mpr (fun v hv hb => ?_)
  exact Classical.byContradiction (fun hne => hno ⟨v, hv, hb, fun e => hne e.symm⟩)
theorem rows_vl (hL : LI s s' g c tm n 0 MK CL TP) (hct : ct ≤ 4) (htb4 : ∀ k, k < ct → tb k < 4)
    (hnn : ∀ k r j, k < 4 → r < sz k → j < 3 → nn k r j < 10000 ∧ s (31 + 3 * k) (r * 3 + j) = nI (nn k r j)) (hG : GI s' s2 n g c tb MK CL sz ct rc rw_) :
    ∀ k i v, k < ct → i < rc k → v < 6 → (MK k).testBit v = true → nn (tb k) (rw_ k i) (CL k v) < 10000 ∧ s' (31 + 3 * tb k) (rw_ k i * 3 + CL k v) = nI (nn (tb k) (rw_ k i) (CL k v)) := fun k i v hk hi hv hb => by
  have hg := (hG k hk).1
  rw [hL.1 (31 + 3 * tb k) (by omega) (by omega) (by omega) (by omega) (by omega)]
  exact hnn (tb k) (rw_ k i) (CL k v) (htb4 k hk) (hg.2.1 i hi).1 (((hL.2.2.1 k (by omega)).2.2 v hv).1 hb).1
end VR28
