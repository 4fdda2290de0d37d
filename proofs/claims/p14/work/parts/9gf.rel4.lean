/-! mappings, question and spans are the same on both sides -/
def ML (s t : Nat → Nat → Int32) (mc n sp : Nat) : Prop :=
  (∀ m, m < mc → t 4 m = s (42 + 3 * m) 2 ∧ t 5 m = s (42 + 3 * m) 3 ∧ (∃ p, p < 8 ∧ s (42 + 3 * m) 3 = nI p) ∧ ∀ p, p < 2 → t 6 (2 * m + p) = s (43 + 3 * m) p ∧ t 7 (2 * m + p) = s (44 + 3 * m) p) ∧
  (∀ a, a < n → t 8 a = s 6 a ∧ (∃ p, p < 8 ∧ s 6 a = nI p) ∧ ∀ p, p < 2 → t 9 (2 * a + p) = s 7 (a * 2 + p)) ∧
  ∀ v x, v < 6 → x < 10000 → ((s 8 v ≤ nI x ∧ nI x ≤ s 9 v) ↔ ∀ q, q < sp → t 10 q = nI v → t 11 q ≤ nI x ∧ nI x ≤ t 12 q)
section RL4
variable {s s' t t' : Nat → Nat → Int32} {mc n sp : Nat}
theorem ML.c (h : ML s t mc n sp) (e1 : ∀ j, (6 ≤ j ∧ j ≤ 9) ∨ 42 ≤ j → s' j = s j) (e2 : ∀ j, 4 ≤ j → j ≤ 12 → t' j = t j) : ML s' t' mc n sp := by
  obtain ⟨h1, h2, h3⟩ := h
  refine ⟨fun m hm => ?_, fun a ha => ?_, fun v x hv hx => ?_⟩
  · rw [e1 _ (by omega), e1 _ (by omega), e1 _ (by omega), e2 4 (by omega) (by omega), e2 5 (by omega) (by omega), e2 6 (by omega) (by omega), e2 7 (by omega) (by omega)]
    exact h1 m hm
  · rw [e1 _ (by omega), e1 _ (by omega), e2 8 (by omega) (by omega), e2 9 (by omega) (by omega)]
    exact h2 a ha
  · rw [e1 _ (by omega), e1 _ (by omega), e2 10 (by omega) (by omega), e2 11 (by omega) (by omega), e2 12 (by omega) (by omega)]
    exact h3 v x hv hx
theorem ML.t0 (h : ML s t mc n sp) : ML s (th0 t) mc n sp := h.c (fun _ _ => rfl) (fun j h1 _ => va_up_ne _ _ (by omega))
theorem ML.k (h : ML s t mc n sp) (e1 : SK s s') (e2 : SC t t') : ML s' t' mc n sp := h.c (fun j hj => e1.2 j (by omega)) (fun j h1 h2 => e2.1 j (by omega) h2)
theorem ML_key {k c : Nat} {v w : Int32} {q : Nat} (h : ML s t mc n sp) (hk : k < 4) : ML (vs_key s k c v) (va_up t 3 (upd (t 3) q w)) mc n sp := h.c (fun j hj => va_up_ne _ _ (by omega)) (fun j h1 h2 => va_up_ne _ _ (by omega))
theorem ML_row {k m : Nat} {a b c : Int32} (h : ML s t mc n sp) (hk : k < 4) : ML (vs_append s k m a b c) (ms_row t k m a b c) mc n sp := h.c (fun j hj => by unfold vs_append; rw [va_up_ne _ _ (by omega), va_up_ne _ _ (by omega)]) (fun j h1 h2 => by unfold ms_row; rw [va_up_ne _ _ (by omega), va_up_ne _ _ (by omega)])
theorem ML_drop {k i m : Nat} (h : ML s t mc n sp) (hk : k < 4) : ML (vs_drop s k i m) (ms_drop t k i m) mc n sp := h.c (fun j hj => by unfold vs_drop; rw [va_up_ne _ _ (by omega), va_up_ne _ _ (by omega)]) (fun j h1 h2 => by unfold ms_drop; rw [va_up_ne _ _ (by omega), va_up_ne _ _ (by omega)])
theorem ML_map {x1 x2 x3 x4 x5 x6 : Int32} (h : ML s t mc n sp) (p2 : ∃ p : Nat, p < 8 ∧ x2 = nI p) : ML (vs_map s mc x1 x2 x3 x4 x5 x6) (ms_map t mc x1 x2 x3 x4 x5 x6) (mc + 1) n sp := by
  obtain ⟨h1, h2, h3⟩ := h
  have e : ∀ j, j ≠ 42 + 3 * mc → j ≠ 43 + 3 * mc → j ≠ 44 + 3 * mc → j ≠ 1 → j ≠ 10 → vs_map s mc x1 x2 x3 x4 x5 x6 j = s j := fun j q1 q2 q3 q4 q5 => by unfold vs_map; rw [va_up_ne _ _ q5, va_up_ne _ _ q4, va_up_ne _ _ q3, va_up_ne _ _ q2, va_up_ne _ _ q1]
  have g : ∀ j, j ≠ 4 → j ≠ 5 → j ≠ 6 → j ≠ 7 → j ≠ 0 → ms_map t mc x1 x2 x3 x4 x5 x6 j = t j := fun j q1 q2 q3 q4 q5 => by unfold ms_map; rw [va_up_ne _ _ q5, va_up_ne _ _ q4, va_up_ne _ _ q3, va_up_ne _ _ q2, va_up_ne _ _ q1]
  have g4 : ms_map t mc x1 x2 x3 x4 x5 x6 4 = upd (t 4) mc x1 := by unfold ms_map; rw [va_up_ne _ _ (by omega), va_up_ne _ _ (by omega), va_up_ne _ _ (by omega), va_up_ne _ _ (by omega), va_up_self]
  have g5 : ms_map t mc x1 x2 x3 x4 x5 x6 5 = upd (t 5) mc x2 := by unfold ms_map; rw [va_up_ne _ _ (by omega), va_up_ne _ _ (by omega), va_up_ne _ _ (by omega), va_up_self]
  have g6 : ms_map t mc x1 x2 x3 x4 x5 x6 6 = upd (upd (t 6) (2 * mc) x3) (2 * mc + 1) x5 := by unfold ms_map; rw [va_up_ne _ _ (by omega), va_up_ne _ _ (by omega), va_up_self]
  have g7 : ms_map t mc x1 x2 x3 x4 x5 x6 7 = upd (upd (t 7) (2 * mc) x4) (2 * mc + 1) x6 := by unfold ms_map; rw [va_up_ne _ _ (by omega), va_up_self]
  have f2 : vs_map s mc x1 x2 x3 x4 x5 x6 (42 + 3 * mc) = upd (upd (s (42 + 3 * mc)) 2 x1) 3 x2 := by unfold vs_map; rw [va_up_ne _ _ (by omega), va_up_ne _ _ (by omega), va_up_ne _ _ (by omega), va_up_ne _ _ (by omega), va_up_self]
  have f3 : vs_map s mc x1 x2 x3 x4 x5 x6 (43 + 3 * mc) = upd (upd (s (43 + 3 * mc)) 0 x3) 1 x5 := by unfold vs_map; rw [va_up_ne _ _ (by omega), va_up_ne _ _ (by omega), va_up_ne _ _ (by omega), va_up_self]
  have f4 : vs_map s mc x1 x2 x3 x4 x5 x6 (44 + 3 * mc) = upd (upd (s (44 + 3 * mc)) 0 x4) 1 x6 := by unfold vs_map; rw [va_up_ne _ _ (by omega), va_up_ne _ _ (by omega), va_up_self]
  refine ⟨fun m hm => ?_, fun a ha => ?_, fun v x hv hx => ?_⟩
  · rw [g4, g5, g6, g7]
    by_cases hmm : m = mc
    · subst hmm
      rw [f2, f3, f4, upd_self, upd_self, upd_self, pk_un (show (2 : Nat) ≠ 3 by omega), upd_self]
      refine ⟨rfl, rfl, p2, fun p hp => ?_⟩
      rcases (show p = 0 ∨ p = 1 by omega) with rfl | rfl
      · simp [upd]
      · simp [upd]
    · rw [e _ (by omega) (by omega) (by omega) (by omega) (by omega), e _ (by omega) (by omega) (by omega) (by omega) (by omega), e _ (by omega) (by omega) (by omega) (by omega) (by omega), pk_un hmm, pk_un hmm]
      refine ⟨(h1 m (by omega)).1, (h1 m (by omega)).2.1, (h1 m (by omega)).2.2.1, fun p hp => ?_⟩
      rw [pk_un (by omega), pk_un (by omega), pk_un (by omega), pk_un (by omega)]
      exact (h1 m (by omega)).2.2.2 p hp
  · rw [g 8 (by omega) (by omega) (by omega) (by omega) (by omega), g 9 (by omega) (by omega) (by omega) (by omega) (by omega), e 6 (by omega) (by omega) (by omega) (by omega) (by omega), e 7 (by omega) (by omega) (by omega) (by omega) (by omega)]
    exact h2 a ha
  · rw [g 10 (by omega) (by omega) (by omega) (by omega) (by omega), g 11 (by omega) (by omega) (by omega) (by omega) (by omega), g 12 (by omega) (by omega) (by omega) (by omega) (by omega), e 8 (by omega) (by omega) (by omega) (by omega) (by omega), e 9 (by omega) (by omega) (by omega) (by omega) (by omega)]
    exact h3 v x hv hx
theorem ML_atom {x1 x2 x3 : Int32} (h : ML s t mc n sp) (p1 : ∃ p : Nat, p < 8 ∧ x1 = nI p) : ML (va_up (vs_atom s n x1 x2 x3) 10 (upd (s 10) 7 0)) (ms_atom t n x1 x2 x3) mc (n + 1) sp := by
  obtain ⟨h1, h2, h3⟩ := h
  have e : ∀ j, j ≠ 5 → j ≠ 6 → j ≠ 7 → j ≠ 10 → va_up (vs_atom s n x1 x2 x3) 10 (upd (s 10) 7 0) j = s j := fun j q1 q2 q3 q4 => by unfold vs_atom; rw [va_up_ne _ _ q4, va_up_ne _ _ q1, va_up_ne _ _ q3, va_up_ne _ _ q2]
  have e6 : va_up (vs_atom s n x1 x2 x3) 10 (upd (s 10) 7 0) 6 = upd (s 6) n x1 := by unfold vs_atom; rw [va_up_ne _ _ (by omega), va_up_ne _ _ (by omega), va_up_ne _ _ (by omega), va_up_self]
  have e7 : va_up (vs_atom s n x1 x2 x3) 10 (upd (s 10) 7 0) 7 = upd (upd (s 7) (n * 2) x2) (n * 2 + 1) x3 := by unfold vs_atom; rw [va_up_ne _ _ (by omega), va_up_ne _ _ (by omega), va_up_self]
  have g : ∀ j, j ≠ 8 → j ≠ 9 → j ≠ 0 → ms_atom t n x1 x2 x3 j = t j := fun j q1 q2 q3 => by unfold ms_atom; rw [va_up_ne _ _ q3, va_up_ne _ _ q2, va_up_ne _ _ q1]
  have g8 : ms_atom t n x1 x2 x3 8 = upd (t 8) n x1 := by unfold ms_atom; rw [va_up_ne _ _ (by omega), va_up_ne _ _ (by omega), va_up_self]
  have g9 : ms_atom t n x1 x2 x3 9 = upd (upd (t 9) (2 * n) x2) (2 * n + 1) x3 := by unfold ms_atom; rw [va_up_ne _ _ (by omega), va_up_self]
  refine ⟨fun m hm => ?_, fun a ha => ?_, fun v x hv hx => ?_⟩
  · rw [g 4 (by omega) (by omega) (by omega), g 5 (by omega) (by omega) (by omega), g 6 (by omega) (by omega) (by omega), g 7 (by omega) (by omega) (by omega), e _ (by omega) (by omega) (by omega) (by omega), e _ (by omega) (by omega) (by omega) (by omega), e _ (by omega) (by omega) (by omega) (by omega)]
    exact h1 m hm
  · rw [g8, g9, e6, e7]
    by_cases hmm : a = n
    · subst hmm
      rw [upd_self, upd_self]
      refine ⟨rfl, p1, fun p hp => ?_⟩
      rcases (show p = 0 ∨ p = 1 by omega) with rfl | rfl
      · rw [pk_un (by omega), show 2 * a + 0 = 2 * a by omega, upd_self, pk_un (by omega), show a * 2 + 0 = a * 2 by omega, upd_self]
      · rw [upd_self, upd_self]
    · rw [pk_un hmm, pk_un hmm]
      refine ⟨(h2 a (by omega)).1, (h2 a (by omega)).2.1, fun p hp => ?_⟩
      rw [pk_un (by omega), pk_un (by omega), pk_un (by omega), pk_un (by omega)]
      exact (h2 a (by omega)).2.2 p hp
  · rw [g 10 (by omega) (by omega) (by omega), g 11 (by omega) (by omega) (by omega), g 12 (by omega) (by omega) (by omega), e 8 (by omega) (by omega) (by omega) (by omega), e 9 (by omega) (by omega) (by omega) (by omega)]
    exact h3 v x hv hx
theorem jmax_le {x y z : Int32} : jmax x y ≤ z ↔ x ≤ z ∧ y ≤ z := by
  unfold jmax
  simp only [Int32.le_iff_toInt_le, Int32.lt_iff_toInt_lt]
  split <;> omega
theorem le_jmin {x y z : Int32} : z ≤ jmin x y ↔ z ≤ x ∧ z ≤ y := by
  unfold jmin
  simp only [Int32.le_iff_toInt_le, Int32.lt_iff_toInt_lt]
  split <;> omega
theorem ML_span {v : Nat} {x2 x3 : Int32} (h : ML s t mc n sp) (hv6 : v < 6) : ML (vs_span s v sp x2 x3) (ms_span t sp (nI v) x2 x3) mc n (sp + 1) := by
  obtain ⟨h1, h2, h3⟩ := h
  have e : ∀ j, j ≠ 5 → j ≠ 8 → j ≠ 9 → vs_span s v sp x2 x3 j = s j := fun j q1 q2 q3 => by unfold vs_span; rw [va_up_ne _ _ q1, va_up_ne _ _ q3, va_up_ne _ _ q2]
  have e8 : vs_span s v sp x2 x3 8 = upd (s 8) v (jmax (s 8 v) x2) := by unfold vs_span; rw [va_up_ne _ _ (by omega), va_up_ne _ _ (by omega), va_up_self]
  have e9 : vs_span s v sp x2 x3 9 = upd (s 9) v (jmin (s 9 v) x3) := by unfold vs_span; rw [va_up_ne _ _ (by omega), va_up_self]
  have g : ∀ j, j ≠ 10 → j ≠ 11 → j ≠ 12 → j ≠ 0 → ms_span t sp (nI v) x2 x3 j = t j := fun j q1 q2 q3 q4 => by unfold ms_span; rw [va_up_ne _ _ q4, va_up_ne _ _ q3, va_up_ne _ _ q2, va_up_ne _ _ q1]
  have g10 : ms_span t sp (nI v) x2 x3 10 = upd (t 10) sp (nI v) := by unfold ms_span; rw [va_up_ne _ _ (by omega), va_up_ne _ _ (by omega), va_up_ne _ _ (by omega), va_up_self]
  have g11 : ms_span t sp (nI v) x2 x3 11 = upd (t 11) sp x2 := by unfold ms_span; rw [va_up_ne _ _ (by omega), va_up_ne _ _ (by omega), va_up_self]
  have g12 : ms_span t sp (nI v) x2 x3 12 = upd (t 12) sp x3 := by unfold ms_span; rw [va_up_ne _ _ (by omega), va_up_self]
  refine ⟨fun m hm => ?_, fun a ha => ?_, fun w x hw hx => ?_⟩
  · rw [g 4 (by omega) (by omega) (by omega) (by omega), g 5 (by omega) (by omega) (by omega) (by omega), g 6 (by omega) (by omega) (by omega) (by omega), g 7 (by omega) (by omega) (by omega) (by omega), e _ (by omega) (by omega) (by omega), e _ (by omega) (by omega) (by omega), e _ (by omega) (by omega) (by omega)]
    exact h1 m hm
  · rw [g 8 (by omega) (by omega) (by omega) (by omega), g 9 (by omega) (by omega) (by omega) (by omega), e 6 (by omega) (by omega) (by omega), e 7 (by omega) (by omega) (by omega)]
    exact h2 a ha
  · rw [g10, g11, g12, e8, e9]
    have old := h3 w x hw hx
    have step : (∀ q, q < sp + 1 → upd (t 10) sp (nI v) q = nI w → upd (t 11) sp x2 q ≤ nI x ∧ nI x ≤ upd (t 12) sp x3 q) ↔ ((∀ q, q < sp → t 10 q = nI w → t 11 q ≤ nI x ∧ nI x ≤ t 12 q) ∧ (w = v → x2 ≤ nI x ∧ nI x ≤ x3)) := by
      constructor
      · intro z
        refine ⟨fun q hq hh => ?_, fun hh => ?_⟩
        · have := z q (by omega)
          rw [pk_un (by omega), pk_un (by omega), pk_un (by omega)] at this
          exact this hh
        · have := z sp (by omega)
          rw [upd_self, upd_self, upd_self] at this
          exact this (by rw [hh])
      · rintro ⟨z1, z2⟩ q hq hh
        by_cases hqs : q = sp
        · subst hqs
          rw [upd_self] at hh
          rw [upd_self, upd_self]
          exact z2 ((nI_eq (by omega) (by omega)).mp hh.symm)
        · rw [pk_un hqs] at hh
          rw [pk_un hqs, pk_un hqs]
          exact z1 q (by omega) hh
    rw [step, ← old]
    by_cases hwv : w = v
    · subst hwv
      rw [upd_self, upd_self, jmax_le, le_jmin]
      exact ⟨fun ⟨⟨a, b⟩, c, d⟩ => ⟨⟨a, c⟩, fun _ => ⟨b, d⟩⟩, fun ⟨⟨a, c⟩, z⟩ => ⟨⟨a, (z rfl).1⟩, c, (z rfl).2⟩⟩
    · rw [pk_un hwv, pk_un hwv]
      exact ⟨fun z => ⟨z, fun y => absurd y hwv⟩, fun z => z.1⟩
theorem in_n {x : Nat} (hx : x < 10000) : (0 : Int32) ≤ nI x ∧ nI x ≤ 9999 := ⟨nI_le (a := 0) (by omega) (by omega), nI_le (b := 9999) (by omega) (by omega)⟩
theorem ML_clear (h : ML s t mc n sp) : ML (vs_clear s) (ms_clear t) mc 0 0 := by
  obtain ⟨h1, h2, h3⟩ := h
  have e : ∀ j, j ≠ 5 → j ≠ 8 → j ≠ 9 → j ≠ 10 → vs_clear s j = s j := fun j q1 q2 q3 q4 => by unfold vs_clear; rw [va_up_ne _ _ q4, va_up_ne _ _ q3, va_up_ne _ _ q2, va_up_ne _ _ q1]
  have e8 : vs_clear s 8 = fill (s 8) 6 0 := by unfold vs_clear; rw [va_up_ne _ _ (by omega), va_up_ne _ _ (by omega), va_up_self]
  have e9 : vs_clear s 9 = fill (s 9) 6 9999 := by unfold vs_clear; rw [va_up_ne _ _ (by omega), va_up_self]
  have g : ∀ j, j ≠ 0 → ms_clear t j = t j := fun j q => by unfold ms_clear; rw [va_up_ne _ _ q]
  refine ⟨fun m hm => ?_, fun a ha => absurd ha (by omega), fun w x hw hx => ?_⟩
  · rw [g 4 (by omega), g 5 (by omega), g 6 (by omega), g 7 (by omega), e _ (by omega) (by omega) (by omega) (by omega), e _ (by omega) (by omega) (by omega) (by omega), e _ (by omega) (by omega) (by omega) (by omega)]
    exact h1 m hm
  · rw [e8, e9]
    unfold fill
    rw [if_pos hw, if_pos hw]
    exact ⟨fun _ q hq => absurd hq (by omega), fun _ => in_n hx⟩
theorem ML_0 : ML vs0 ms0 0 0 0 := by
  refine ⟨fun m hm => absurd hm (by omega), fun a ha => absurd ha (by omega), fun w x hw hx => ⟨fun _ q hq => absurd hq (by omega), fun _ => ?_⟩⟩
  have e8 : vs0 8 w = 0 := vs0_ne (by omega)
  have e9 : vs0 9 w = 9999 := by unfold vs0; rw [if_pos rfl]; unfold fl9; rw [if_pos hw]
  rw [e8, e9]
  exact in_n hx
end RL4
