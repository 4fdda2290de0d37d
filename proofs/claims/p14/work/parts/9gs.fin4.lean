/-! what agrees to its end agrees before; a slot's table -/
def sub_ (N N' : Nat → Int32) : Prop := ∀ v, N v < 0 ∨ N v = N' v
theorem stN_up {N N2 : Nat → Int32} {pl x : Int32} (h : stN N pl x = some N2) : sub_ N N2 := by
  intro v
  unfold stN at h
  split at h
  · split at h
    · next hz =>
      cases h
      by_cases e : v = ((-1) - pl).toNatClampNeg
      · rw [e, upd_self]; exact hz
      · rw [pk_un e]; exact Or.inr rfl
    · cases h
  · split at h
    · cases h; exact Or.inr rfl
    · cases h
theorem stN_mono {N N' N2' : Nat → Int32} {pl x : Int32} (hs : sub_ N N') (h : stN N' pl x = some N2') : ∃ N2, stN N pl x = some N2 ∧ sub_ N2 N2' := by
  unfold stN at h ⊢
  by_cases hp : pl < 0
  · rw [if_pos hp] at h ⊢
    split at h
    · next hz =>
      cases h
      have : N ((-1) - pl).toNatClampNeg < 0 ∨ N ((-1) - pl).toNatClampNeg = x := by
        rcases hs ((-1) - pl).toNatClampNeg with q | q
        · exact Or.inl q
        · rw [q]; exact hz
      rw [if_pos this]
      refine ⟨_, rfl, fun v => ?_⟩
      by_cases e : v = ((-1) - pl).toNatClampNeg
      · rw [e, upd_self, upd_self]; exact Or.inr rfl
      · rw [pk_un e, pk_un e]; exact hs v
    · cases h
  · rw [if_neg hp] at h ⊢
    split at h
    · next hz => cases h; rw [if_pos hz]; exact ⟨_, rfl, hs⟩
    · cases h
theorem sub_tr {N N' N2 : Nat → Int32} (h : sub_ N N') (h2 : sub_ N' N2) : sub_ N N2 := fun v => by
  rcases h v with q | q
  · exact Or.inl q
  · rcases h2 v with r | r
    · rw [← q] at r; exact Or.inl r
    · exact Or.inr (q.trans r)
theorem agA_pre {t : Nat → Nat → Int32} {val : Nat → Nat → Int32} {sl : Nat → Nat} {la la' : Nat} (hle : la ≤ la') : ∀ (a : Nat) (N' : Nat → Int32), agA t val sl la' a = some N' → ∃ N, agA t val sl la a = some N ∧ sub_ N N'
  | 0, N', h => ⟨_, rfl, fun v => by cases h; exact Or.inr rfl⟩
  | a + 1, N', h => by
    rw [agA] at h ⊢
    by_cases h1 : la' < sl a
    · rw [if_pos h1] at h
      rw [if_pos (by omega)]
      exact agA_pre hle a N' h
    · rw [if_neg h1] at h
      cases hA : agA t val sl la' a with
      | none => rw [hA] at h; cases h
      | some M' =>
        obtain ⟨M, eM, hM⟩ := agA_pre hle a M' hA
        rw [hA] at h
        unfold agP at h
        rw [Option.bind_some] at h
        cases h0 : stN M' (t 9 (2 * a + 0)) (val a 0) with
        | none => rw [h0] at h; cases h
        | some M1' =>
          rw [h0, Option.bind_some] at h
          by_cases h2 : la < sl a
          · rw [if_pos h2]
            exact ⟨M, eM, sub_tr hM (sub_tr (stN_up h0) (stN_up h))⟩
          · rw [if_neg h2, eM]
            obtain ⟨M1, e1, s1⟩ := stN_mono hM h0
            obtain ⟨M2, e2, s2⟩ := stN_mono s1 h
            refine ⟨M2, ?_, s2⟩
            unfold agP
            rw [Option.bind_some, e1, Option.bind_some, e2]
theorem spO_sub {t : Nat → Nat → Int32} {sp : Nat} {N N' : Nat → Int32} (h : spO t sp N') (hs : sub_ N N') : spO t sp N := fun q hq v hv e hn => by
  rcases hs v with z | z
  · exact absurd z hn
  · rw [z] at hn ⊢; exact h q hq v hv e hn
/-- only the rows of the slots up to la count -/
theorem agA_R {t : Nat → Nat → Int32} {val val' : Nat → Nat → Int32} {sl : Nat → Nat} {la n : Nat} (h : ∀ a, a < n → sl a ≤ la → ∀ p, val a p = val' a p) : ∀ a, a ≤ n → agA t val sl la a = agA t val' sl la a
  | 0, _ => rfl
  | a + 1, ha => by
    rw [agA, agA, agA_R h a (by omega)]
    by_cases h1 : la < sl a
    · rw [if_pos h1, if_pos h1]
    · rw [if_neg h1, if_neg h1]
      unfold agP
      rw [h a (by omega) (by omega) 0, h a (by omega) (by omega) 1]
section FI4
variable {F : ac_hp} {ki : Nat → ClassId} {am : Nat → Nat} {s : Nat → Nat → Int32} {f : ac_hp}
variable {sz : Nat → Nat} {nn : Nat → Nat → Nat → Nat} {kk : Nat → Nat → Int32} {mc n sp : Nat} {mt pr : Nat → Nat} {ml mtm : Nat → Nat → Nat}
theorem rj_table {u k : Nat} {c sl : Nat → Nat} {Q : Int32 → ac_hp → Prop} (h : mr_R F ki am s f) (hx : RX s sz nn kk mc n sp) (hr : RM s mc mt pr ml mtm) (hu : u ≤ 150) (hc : ∀ a, a < n → c a < mc ∧ s 13 (4 * u + a) = nI (c a)) (hs : ∀ a, a < n → sl a < 4 ∧ s 14 (4 * u + a) = nI (sl a)) (hk : ∃ a, a < n ∧ sl a = k) (hq : ∀ a, a < n → sl a = k → Q (nI (mt (c a))) f) : wp_X9_tableOf ki (am 0) (nI u) (nI k) f Q := by
  obtain ⟨-, -, ⟨h4, h5, -⟩, ⟨h7, h8, h9⟩, -⟩ := id hx
  obtain ⟨b0, hb0, eb0⟩ := hk
  have hk4 : k < 4 := by rw [← eb0]; exact (hs b0 hb0).1
  unfold wp_X9_tableOf
  refine ⟨b0 + 1, ?_⟩
  have key : ∀ (d a : Nat), d + a = b0 → wp_X9_tableOf_L2 ki (am 0) (nI u) (nI k) (fun y5 f6 => ∃ o7 : Nat, hr_f f6 (am 0) 9 5 (.ref o7) ∧ ∃ o8 : Nat, hr_f f6 (am 0) 9 17 (.ref o8) ∧ ∃ v9 : Int32, hr_i (ki 0) f6 o8 ((4 * nI u) + y5) v9 ∧ ∃ v10 : Int32, hr_i (ki 0) f6 o7 v9 v10 ∧ Q v10 f6) (d + 1) (nI a) f := by
    have fin : ∀ a, a < n → sl a = k → ∃ o7 : Nat, hr_f f (am 0) 9 5 (.ref o7) ∧ ∃ o8 : Nat, hr_f f (am 0) 9 17 (.ref o8) ∧ ∃ v9 : Int32, hr_i (ki 0) f o8 ((4 * nI u) + nI a) v9 ∧ ∃ v10 : Int32, hr_i (ki 0) f o7 v9 v10 ∧ Q v10 f := by
      intro a ha hsa
      obtain ⟨hm, em⟩ := hc a ha
      have r13 := rm_i (i := 13) (j := 4 * u + a) (c := ki 0) (n := 604) (x := (4 * nI u) + nI a) h (by omega) rfl pm_41 (by omega) (by omega)
      rw [em] at r13
      have r4 := rm_i (i := 4) (j := c a) (c := ki 0) (n := 12) (x := nI (c a)) h (by omega) rfl rfl (by omega) (by omega)
      rw [(hr (c a) hm).2.1] at r4
      exact ⟨_, rm_f h rfl, _, rm_f h rfl, _, r13, _, r4, hq a ha hsa⟩
    intro d
    induction d with
    | zero =>
      intro a ha
      rw [wp_X9_tableOf_L2]
      have r14 := rm_i (i := 14) (j := 4 * u + a) (c := ki 0) (n := 604) (x := (4 * nI u) + nI a) h (by omega) rfl pm_41 (by omega) (by omega)
      rw [(hs a (by omega)).2] at r14
      refine ⟨_, rm_f h rfl, _, r14, fun z => fin a (by omega) ((nI_eq (by have := (hs a (by omega)).1; omega) (by omega)).mp z), fun z => absurd (by rw [show a = b0 by omega, eb0]) z⟩
    | succ d ih =>
      intro a ha
      rw [wp_X9_tableOf_L2]
      have r14 := rm_i (i := 14) (j := 4 * u + a) (c := ki 0) (n := 604) (x := (4 * nI u) + nI a) h (by omega) rfl pm_41 (by omega) (by omega)
      rw [(hs a (by omega)).2] at r14
      refine ⟨_, rm_f h rfl, _, r14, fun z => fin a (by omega) ((nI_eq (by have := (hs a (by omega)).1; omega) (by omega)).mp z), fun _ v3 e3 => ?_⟩
      rw [e3, nI_1]
      exact ih (a + 1) (by omega)
  exact key b0 0 (by omega)
end FI4
