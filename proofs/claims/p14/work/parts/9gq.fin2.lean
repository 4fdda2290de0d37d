/-! the reference's compare and keep, in the class's words (lexl, vec6, ins) -/
def ec (VB : Nat → Bool) (w : Nat → Nat) (v : Nat) : Int32 := if VB v then nI (w v) else -1
/-- a code vector that fits the question's variables -/
def cfit (VB : Nat → Bool) (w : Nat → Nat) : Prop := ∀ v, v < 6 → w v < 60000 ∧ (VB v = false → w v = 0)
/-- the numbers and templates at hand make the code vector w -/
def hand (s : Nat → Nat → Int32) (VB : Nat → Bool) (w : Nat → Nat) : Prop := ∀ v, v < 6 → (VB v = true → ∃ x y, x < 60000 ∧ s 17 v = nI x ∧ s 18 v = nI y ∧ w v = 10000 * y + x) ∧ (VB v = false → s 17 v = -1)
section FI2
variable {F : ac_hp} {ki : Nat → ClassId} {am : Nat → Nat} {s : Nat → Nat → Int32} {f : ac_hp}
theorem rj_compare {i : Nat} {VB : Nat → Bool} {w d : Nat → Nat} {Q : Int32 → ac_hp → Prop} (h : mr_R F ki am s f) (hi : i ≤ 300) (hw : cfit VB w) (hd : cfit VB d) (hh : hand s VB w) (hc : ∀ v, v < 6 → s 20 (6 * i + v) = ec VB d v) (q0 : vec6 w d → Q 0 f) (q1 : lexl d w → Q 1 f) (q2 : lexl w d → Q (-1) f) : wp_X9_compare ki (am 0) (nI i) f Q := by
  unfold wp_X9_compare
  refine ⟨7, ?_⟩
  have key : ∀ (dd v : Nat), dd + v = 6 → (∀ j, j < v → w j = d j) → wp_X9_compare_L2 ki (am 0) (nI i) Q (fun f19 => Q 0 f19) (dd + 1) (nI v) f := by
    intro dd
    induction dd with
    | zero =>
      intro v hv he
      rw [wp_X9_compare_L2]
      exact ⟨fun _ => q0 (fun j hj => he j (by omega)), fun z => absurd (nI_le (a := 6) (by omega) (by omega)) z⟩
    | succ dd ih =>
      intro v hv he
      rw [wp_X9_compare_L2]
      have r20 := rm_i (i := 20) (j := 6 * i + v) (c := ki 0) (n := 1812) (x := (6 * nI i) + nI v) h (by omega) rfl pm_61 (by omega) (by omega)
      rw [hc v (by omega)] at r20
      have r17 := rm_i (i := 17) (j := v) (c := ki 0) (n := 6) (x := nI v) h (by omega) rfl rfl (by omega) (by omega)
      have r18 := rm_i (i := 18) (j := v) (c := ki 0) (n := 6) (x := nI v) h (by omega) rfl rfl (by omega) (by omega)
      obtain ⟨hw1, hw2⟩ := hw v (by omega)
      obtain ⟨hd1, hd2⟩ := hd v (by omega)
      have nx : w v = d v → ∀ x : Int32, x = nI v + 1 → wp_X9_compare_L2 ki (am 0) (nI i) Q (fun f19 => Q 0 f19) (dd + 1) x f := fun e x hx => by
        rw [hx, nI_1]
        refine ih (v + 1) (by omega) (fun j hj => ?_)
        by_cases hjv : j = v
        · rw [hjv]; exact e
        · exact he j (by omega)
      refine ⟨fun z => absurd z (nI_ge (b := 6) (by omega) (by omega)), fun _ => ⟨_, rm_f h rfl, _, r17, fun hge => ?_, fun hlt => ?_⟩⟩
      · cases hb : VB v with
        | false =>
          rw [(hh v (by omega)).2 hb] at hge
          exact absurd hge (by decide)
        | true =>
          obtain ⟨x, y, hx, e1, e2, e3⟩ := (hh v (by omega)).1 hb
          have ed : ec VB d v = nI (d v) := by unfold ec; rw [if_pos hb]
          rw [e1] at r17
          rw [e2] at r18
          rw [ed] at r20
          refine ⟨_, rm_f h rfl, _, r18, _, rm_f h rfl, _, r17, fun v7 e7 => ?_⟩
          rw [show (10000 : Int32) = nI 10000 from rfl, pk_mul, nI_add, ← e3] at e7
          subst e7
          refine ⟨_, rm_f h rfl, _, r20, fun z => nx ((nI_eq (by omega) (by omega)).mp z), fun z => ⟨_, rm_f h rfl, _, r20, fun y => q1 ⟨v, by omega, fun j hj => (he j hj).symm, ?_⟩, fun y => q2 ⟨v, by omega, he, ?_⟩⟩⟩
          · have := (nI_leI (by omega) (by omega)).mp y
            have : w v ≠ d v := fun q => z (by rw [q])
            omega
          · rcases Nat.lt_or_ge (w v) (d v) with q | q
            · exact q
            · exact absurd (nI_le q (by omega)) y
      · cases hb : VB v with
        | true =>
          obtain ⟨x, y, hx, e1, e2, e3⟩ := (hh v (by omega)).1 hb
          rw [e1] at hlt
          exact absurd (nI_le (a := 0) (by omega) (by omega)) hlt
        | false =>
          have ed : ec VB d v = -1 := by unfold ec; rw [if_neg (by rw [hb]; decide)]
          rw [ed] at r20
          exact ⟨_, rm_f h rfl, _, r20, fun _ => nx (by rw [hw2 hb, hd2 hb]), fun z => absurd rfl z⟩
  exact key 6 0 rfl (fun j hj => absurd hj (by omega))
/-- the answers as the reference has them; ls: the last union that told each -/
def aR (s : Nat → Nat → Int32) (VB : Nat → Bool) (A : AS) (ls : Nat → Nat) : Prop := s 0 23 = nI A.1 ∧ (∀ i, i < A.1 → cfit VB (A.2.1 i) ∧ (∀ v, v < 6 → s 20 (6 * i + v) = ec VB (A.2.1 i) v) ∧ s 21 i = nI (A.2.2.1 i) ∧ s 22 i = nI (A.2.2.2 i) ∧ s 23 i = nI (ls i)) ∧ ∀ i j, i < j → j < A.1 → lexl (A.2.1 i) (A.2.1 j)
def kp1 (u : Nat) (w : Nat → Nat) (A : AS) (ls : Nat → Nat) (B : AS) (ls' : Nat → Nat) : Prop :=
  (∃ i, i < A.1 ∧ vec6 (A.2.1 i) w ∧ B = (A.1, A.2.1, (fun j => if j = i then A.2.2.1 i + (if ls i = u then 0 else 1) else A.2.2.1 j), A.2.2.2) ∧ ls' = fun j => if j = i then u else ls j) ∨
  ((∀ i, i < A.1 → ¬ vec6 (A.2.1 i) w) ∧ ∃ a, a ≤ A.1 ∧ (∀ i, i < a → lexl (A.2.1 i) w) ∧ (∀ i, a ≤ i → i < A.1 → lexl w (A.2.1 i)) ∧ B = (A.1 + 1, ins A.2.1 a w, ins A.2.2.1 a 1, ins A.2.2.2 a u) ∧ ls' = ins ls a u)
end FI2
