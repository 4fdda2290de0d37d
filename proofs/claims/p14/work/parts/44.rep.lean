/-! THE SEARCH: what is in the list of what it finds, each once -/
section SO3
variable {ct : Nat} {mk rc od tp : Nat → Nat} {vl : Nat → Nat → Nat → Nat}
/-- w: rows I for the slots from dp on, the rest as W has it -/
def swr (ct : Nat) (mk rc od tp : Nat → Nat) (vl : Nat → Nat → Nat → Nat) (dp M : Nat) (W w : Nat → Nat) (I : Nat → Nat) : Prop :=
  (∀ d, dp ≤ d → d < ct → I (od d) < rc (od d) ∧ ∀ v, v < 6 → (mk (od d)).testBit v = true → w v = tp v * 10000 + vl (od d) (I (od d)) v) ∧
  (∀ v, v < 6 → (M.testBit v = true ∨ ∀ d, dp ≤ d → d < ct → (mk (od d)).testBit v = false) → w v = W v) ∧ ∀ v, 6 ≤ v → w v = 0
theorem sols_mem (hpm : prm ct od) (hvl : ∀ k i v, k < ct → i < rc k → v < 6 → (mk k).testBit v = true → vl k i v < 10000) : ∀ (e dp M : Nat) (W w : Nat → Nat), ct < e + dp → dp ≤ ct → (∀ v, v < 6 → M.testBit v = true → W v / 10000 = tp v) →
    (w ∈ sols ct mk rc od tp vl e dp M W ↔ ∃ I, swr ct mk rc od tp vl dp M W w I) := by
  intro e
  induction e with
  | zero =>
    intro dp M W w he hle hW
    rw [sols]
    constructor
    · intro z; cases z
    · intro _; omega
  | succ e ih =>
    intro dp M W w he hle hW
    rw [sols]
    by_cases hd : ct ≤ dp
    · rw [if_pos hd, List.mem_singleton]
      constructor
      · intro z
        subst z
        exact ⟨fun _ => 0, fun d h1 h2 => absurd h2 (by omega), fun v hv _ => by simp only [cut6, if_pos hv], fun v hv => by simp only [cut6, if_neg (show ¬ v < 6 by omega)]⟩
      · rintro ⟨I, -, h2, h3⟩
        funext v
        by_cases hv : v < 6
        · simp only [cut6, if_pos hv]; exact h2 v hv (Or.inr (fun d h1 h2 => absurd h2 (by omega)))
        · simp only [cut6, if_neg hv]; exact h3 v (by omega)
    · rw [if_neg hd, List.mem_flatMap]
      have hdp : dp < ct := by omega
      have hk := hpm.1 dp hdp
      have hMo : ∀ v, (M ||| mk (od dp)).testBit v = (M.testBit v || (mk (od dp)).testBit v) := fun v => Nat.testBit_or _ _ _
      have hset : ∀ i, i < rc (od dp) → ∀ v, v < 6 → (M ||| mk (od dp)).testBit v = true → setv mk tp vl (od dp) i W v / 10000 = tp v := fun i hi v hv hb => by
        simp only [setv]
        by_cases hm : (mk (od dp)).testBit v = true
        · rw [if_pos hm]; have := hvl (od dp) i v hk hi hv hm; omega
        · rw [if_neg hm]
          rw [hMo] at hb
          refine hW v hv ?_
          cases hb2 : M.testBit v with
          | true => rfl
          | false => rw [hb2] at hb; simp at hb; exact absurd hb hm
      constructor
      · rintro ⟨i, hi, hw⟩
        have hi := List.mem_range.mp hi
        by_cases ha : agrb mk vl (od dp) i M W = true
        · rw [if_pos ha] at hw
          have ha := agrb_iff.mp ha
          obtain ⟨I, h1, h2, h3⟩ := (ih (dp + 1) _ _ w (by omega) (by omega) (hset i hi)).mp hw
          have hkv : ∀ v, v < 6 → (mk (od dp)).testBit v = true → w v = tp v * 10000 + vl (od dp) i v := fun v hv hm => by
            rw [h2 v hv (Or.inl (by rw [hMo, hm]; simp))]; simp only [setv, if_pos hm]
          refine ⟨fun x => if x = od dp then i else I x, fun d d1 d2 => ?_, fun v hv hc => ?_, h3⟩
          · by_cases ed : d = dp
            · subst ed; simp only [if_true]; exact ⟨hi, hkv⟩
            · have hne : ¬ od d = od dp := fun z => ed (hpm.2.1 d dp d2 hdp z)
              simp only [if_neg hne]; exact h1 d (by omega) d2
          · have hs : w v = setv mk tp vl (od dp) i W v := by
              refine h2 v hv ?_
              rcases hc with z | z
              · exact Or.inl (by rw [hMo, z]; rfl)
              · exact Or.inr (fun d d1 d2 => z d (by omega) d2)
            rw [hs]
            simp only [setv]
            by_cases hm : (mk (od dp)).testBit v = true
            · rw [if_pos hm]
              rcases hc with z | z
              · rw [← ha v hv hm z, ← hW v hv z]; omega
              · rw [z dp (Nat.le_refl dp) hdp] at hm; cases hm
            · rw [if_neg hm]
        · rw [if_neg ha] at hw; cases hw
      · rintro ⟨I, h1, h2, h3⟩
        obtain ⟨i1, i2⟩ := h1 dp (Nat.le_refl dp) hdp
        have ha : agrb mk vl (od dp) (I (od dp)) M W = true := agrb_iff.mpr (fun v hv hm hb => by
          have := i2 v hv hm
          have := h2 v hv (Or.inl hb)
          have := hvl (od dp) (I (od dp)) v hk i1 hv hm
          omega)
        refine ⟨I (od dp), List.mem_range.mpr i1, ?_⟩
        rw [if_pos ha]
        refine (ih (dp + 1) _ _ w (by omega) (by omega) (hset _ i1)).mpr ⟨I, fun d d1 d2 => h1 d (by omega) d2, fun v hv hc => ?_, h3⟩
        simp only [setv]
        by_cases hm : (mk (od dp)).testBit v = true
        · rw [if_pos hm]; exact i2 v hv hm
        · rw [if_neg hm]
          refine h2 v hv ?_
          rcases hc with z | z
          · rw [hMo] at z
            left
            cases hb2 : M.testBit v with
            | true => rfl
            | false => rw [hb2] at z; simp at z; exact absurd z hm
          · right
            intro d d1 d2
            by_cases ed : d = dp
            · subst ed; simpa using hm
            · exact z d (by omega) d2
theorem fm_nodup {α : Type} {g : Nat → List α} : ∀ {n : Nat}, (∀ i, i < n → (g i).Nodup) → (∀ i j, i < j → j < n → ∀ a, a ∈ g i → a ∈ g j → False) → ((List.range n).flatMap g).Nodup := by
  intro n
  induction n with
  | zero => intro _ _; exact List.nodup_nil
  | succ n ih =>
    intro h1 h2
    rw [List.range_succ, List.flatMap_append, List.nodup_append]
    refine ⟨ih (fun i hi => h1 i (by omega)) (fun i j hij hj => h2 i j hij (by omega)), by simpa using h1 n (by omega), fun a ha b hb e => ?_⟩
    subst e
    obtain ⟨i, hi, ha⟩ := List.mem_flatMap.mp ha
    exact h2 i n (List.mem_range.mp hi) (by omega) a ha (by simpa using hb)
theorem sols_nodup (hpm : prm ct od) (hvl : ∀ k i v, k < ct → i < rc k → v < 6 → (mk k).testBit v = true → vl k i v < 10000) (hne : ∀ k i j, k < ct → i < j → j < rc k → ∃ v, v < 6 ∧ (mk k).testBit v = true ∧ vl k i v ≠ vl k j v) : ∀ (e dp M : Nat) (W : Nat → Nat), ct < e + dp → (∀ v, v < 6 → M.testBit v = true → W v / 10000 = tp v) →
    (sols ct mk rc od tp vl e dp M W).Nodup := by
  intro e
  induction e with
  | zero => intro dp M W he hW; rw [sols]; exact List.nodup_nil
  | succ e ih =>
    intro dp M W he hW
    rw [sols]
    by_cases hd : ct ≤ dp
    · rw [if_pos hd]; simp
    · rw [if_neg hd]
      have hdp : dp < ct := by omega
      have hk := hpm.1 dp hdp
      have hMo : ∀ v, (M ||| mk (od dp)).testBit v = (M.testBit v || (mk (od dp)).testBit v) := fun v => Nat.testBit_or _ _ _
      have hset : ∀ i, i < rc (od dp) → ∀ v, v < 6 → (M ||| mk (od dp)).testBit v = true → setv mk tp vl (od dp) i W v / 10000 = tp v := fun i hi v hv hb => by
        simp only [setv]
        by_cases hm : (mk (od dp)).testBit v = true
        · rw [if_pos hm]; have := hvl (od dp) i v hk hi hv hm; omega
        · rw [if_neg hm]
          rw [hMo] at hb
          refine hW v hv ?_
          cases hb2 : M.testBit v with
          | true => rfl
          | false => rw [hb2] at hb; simp at hb; exact absurd hb hm
      refine fm_nodup (fun i hi => ?_) (fun i j hij hj w h1 h2 => ?_)
      · by_cases ha : agrb mk vl (od dp) i M W = true
        · rw [if_pos ha]; exact ih (dp + 1) _ _ (by omega) (hset i hi)
        · rw [if_neg ha]; exact List.nodup_nil
      · have row : ∀ i, i < rc (od dp) → (w ∈ if agrb mk vl (od dp) i M W = true then sols ct mk rc od tp vl e (dp + 1) (M ||| mk (od dp)) (setv mk tp vl (od dp) i W) else []) → ∀ v, v < 6 → (mk (od dp)).testBit v = true → w v = tp v * 10000 + vl (od dp) i v := fun i hi hw v hv hm => by
          by_cases ha : agrb mk vl (od dp) i M W = true
          · rw [if_pos ha] at hw
            obtain ⟨I, -, z2, -⟩ := (sols_mem hpm hvl e (dp + 1) _ _ w (by omega) (by omega) (hset i hi)).mp hw
            rw [z2 v hv (Or.inl (by rw [hMo, hm]; simp))]; simp only [setv, if_pos hm]
          · rw [if_neg ha] at hw; cases hw
        obtain ⟨v, hv, hm, hn⟩ := hne (od dp) i j hk hij hj
        have e1 := row i (by omega) h1 v hv hm
        have e2 := row j hj h2 v hv hm
        exact hn (by omega)
end SO3
