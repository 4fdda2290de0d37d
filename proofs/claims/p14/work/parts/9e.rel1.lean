/-! the reference's state after a call that changes it, in the class's words -/
section RL1
variable {s : Nat → Nat → Int32} {sz : Nat → Nat} {nn : Nat → Nat → Nat → Nat} {kk : Nat → Nat → Int32} {mc n sp : Nat}
theorem RI_key {t c : Nat} {v : Int32} (h : RI s sz nn kk mc n sp) (hc : c < 3) (hv : v = 0 ∨ v = 1) : RI (va_up s 3 (upd (s 3) (3 * t + c) v)) sz nn (kset kk t c v) mc n sp := by
  obtain ⟨⟨h1, h2, h3⟩, na, hna, e23⟩ := h
  have e : ∀ j, j ≠ 3 → va_up s 3 (upd (s 3) (3 * t + c) v) j = s j := fun j hj => va_up_ne _ _ hj
  refine ⟨⟨?_, fun t' c' ht' hc' => ?_, ?_⟩, na, hna, by rw [e 0 (by omega)]; exact e23⟩
  · rw [e 1 (by omega), e 2 (by omega)]; exact h1
  · rw [va_up_self]
    unfold kset upd
    by_cases hz : t' = t ∧ c' = c
    · rw [if_pos hz, if_pos (by omega)]; exact ⟨hv, rfl⟩
    · rw [if_neg hz, if_neg (by omega)]; exact h2 t' c' ht' hc'
  · rw [e 0 (by omega), e 4 (by omega), e 7 (by omega), e 9 (by omega), e 10 (by omega)]; exact h3
theorem RI_row {t a b c : Nat} (h : RI s sz nn kk mc n sp) (ht : t < 4) (hn : sz t < 20) (ha : a < 10000) (hb : b < 10000) (hc : c < 10000) : RI (ms_row s t (sz t) (nI a) (nI b) (nI c)) (va_up sz t (sz t + 1)) (nset nn t (sz t) a b c) kk mc n sp := by
  obtain ⟨⟨⟨h1, h1'⟩, h2, h3⟩, na, hna, e23⟩ := h
  have e : ∀ j, j ≠ 1 → j ≠ 2 → ms_row s t (sz t) (nI a) (nI b) (nI c) j = s j := fun j hj hj2 => by unfold ms_row; rw [va_up_ne _ _ hj2, va_up_ne _ _ hj]
  refine ⟨⟨⟨fun k hk => ?_, fun k r j hk hr hj => ?_⟩, ?_, ?_⟩, na, hna, by rw [e 0 (by omega) (by omega)]; exact e23⟩
  · unfold ms_row
    rw [va_up_self]
    by_cases hkt : k = t
    · subst hkt
      rw [va_up_self, upd_self]
      exact ⟨by omega, rfl⟩
    · rw [va_up_ne _ _ hkt, pk_un hkt]
      exact h1 k hk
  · unfold nset ms_row
    rw [va_up_ne _ _ (by omega), va_up_self]
    unfold upd
    by_cases hkt : k = t
    · subst hkt
      rw [va_up_self] at hr
      by_cases hrn : r = sz k
      · rw [if_pos ⟨rfl, hrn⟩, hrn]
        rcases (show j = 0 ∨ j = 1 ∨ j = 2 by omega) with rfl | rfl | rfl
        · simp [ha]
        · simp [hb]
        · simp [hc]
      · rw [if_neg (fun z => hrn z.2), if_neg (by omega), if_neg (by omega), if_neg (by omega)]
        exact h1' k r j hk (by omega) hj
    · rw [va_up_ne _ _ hkt] at hr
      have := (h1 k hk).1
      rw [if_neg (fun z => hkt z.1), if_neg (by omega), if_neg (by omega), if_neg (by omega)]
      exact h1' k r j hk hr hj
  · rw [e 3 (by omega) (by omega)]; exact h2
  · rw [e 0 (by omega) (by omega), e 4 (by omega) (by omega), e 7 (by omega) (by omega), e 9 (by omega) (by omega), e 10 (by omega) (by omega)]; exact h3
theorem RI_drop {t i : Nat} (h : RI s sz nn kk mc n sp) (ht : t < 4) (hi : i < sz t) : RI (ms_drop s t i (sz t)) (va_up sz t (sz t - 1)) (ndrop nn t i) kk mc n sp := by
  obtain ⟨⟨⟨h1, h1'⟩, h2, h3⟩, na, hna, e23⟩ := h
  have e : ∀ j, j ≠ 1 → j ≠ 2 → ms_drop s t i (sz t) j = s j := fun j hj hj2 => by unfold ms_drop; rw [va_up_ne _ _ hj, va_up_ne _ _ hj2]
  have hs20 := (h1 t ht).1
  refine ⟨⟨⟨fun k hk => ?_, fun k r j hk hr hj => ?_⟩, ?_, ?_⟩, na, hna, by rw [e 0 (by omega) (by omega)]; exact e23⟩
  · have q2 : ms_drop s t i (sz t) 2 = upd (s 2) t (nI (sz t - 1)) := by unfold ms_drop; rw [va_up_ne _ _ (by omega), va_up_self]
    rw [q2]
    by_cases hkt : k = t
    · subst hkt
      rw [va_up_self, upd_self]
      exact ⟨by omega, rfl⟩
    · rw [va_up_ne _ _ hkt, pk_un hkt]
      exact h1 k hk
  · unfold ndrop ms_drop
    rw [va_up_self]
    unfold shf
    by_cases hkt : k = t
    · subst hkt
      rw [va_up_self] at hr
      by_cases hri : i ≤ r
      · rw [if_pos ⟨rfl, hri⟩, if_pos (by omega), show 60 * k + 3 * r + j + 3 = 60 * k + 3 * (r + 1) + j by omega]
        exact h1' k (r + 1) j hk (by omega) hj
      · rw [if_neg (fun z => hri z.2), if_neg (by omega)]
        exact h1' k r j hk (by omega) hj
    · rw [va_up_ne _ _ hkt] at hr
      have := (h1 k hk).1
      rw [if_neg (fun z => hkt z.1), if_neg (by omega)]
      exact h1' k r j hk hr hj
  · rw [e 3 (by omega) (by omega)]; exact h2
  · rw [e 0 (by omega) (by omega), e 4 (by omega) (by omega), e 7 (by omega) (by omega), e 9 (by omega) (by omega), e 10 (by omega) (by omega)]; exact h3
theorem RI_map {x1 x2 x3 x4 x5 x6 : Int32} (h : RI s sz nn kk mc n sp) (hm : mc < 12) (p1 : ∃ t : Nat, t < 4 ∧ x1 = nI t) (p4 : ∃ c : Nat, c < 3 ∧ x4 = nI c) (p6 : ∃ c : Nat, c < 3 ∧ x6 = nI c) : RI (ms_map s mc x1 x2 x3 x4 x5 x6) sz nn kk (mc + 1) n sp := by
  obtain ⟨⟨h1, h2, ⟨h4, h5, h6⟩, h7, h8⟩, na, hna, e23⟩ := h
  have e : ∀ j, j ≠ 4 → j ≠ 5 → j ≠ 6 → j ≠ 7 → j ≠ 0 → ms_map s mc x1 x2 x3 x4 x5 x6 j = s j := fun j q1 q2 q3 q4 q5 => by unfold ms_map; rw [va_up_ne _ _ q5, va_up_ne _ _ q4, va_up_ne _ _ q3, va_up_ne _ _ q2, va_up_ne _ _ q1]
  have e0 : ms_map s mc x1 x2 x3 x4 x5 x6 0 = upd (s 0) 4 (nI (mc + 1)) := va_up_self _ _ _
  have e4 : ms_map s mc x1 x2 x3 x4 x5 x6 4 = upd (s 4) mc x1 := by unfold ms_map; rw [va_up_ne _ _ (by omega), va_up_ne _ _ (by omega), va_up_ne _ _ (by omega), va_up_ne _ _ (by omega), va_up_self]
  have e7 : ms_map s mc x1 x2 x3 x4 x5 x6 7 = upd (upd (s 7) (2 * mc) x4) (2 * mc + 1) x6 := by unfold ms_map; rw [va_up_ne _ _ (by omega), va_up_self]
  refine ⟨⟨?_, ?_, ⟨by omega, by rw [e0, upd_self], fun m hm2 => ?_⟩, ?_, ?_⟩, na, hna, by rw [e0, pk_un (by omega)]; exact e23⟩
  · rw [e 1 (by omega) (by omega) (by omega) (by omega) (by omega), e 2 (by omega) (by omega) (by omega) (by omega) (by omega)]; exact h1
  · rw [e 3 (by omega) (by omega) (by omega) (by omega) (by omega)]; exact h2
  · rw [e4, e7]
    by_cases hmm : m = mc
    · subst hmm
      rw [upd_self]
      refine ⟨p1, fun p hp => ?_⟩
      rcases (show p = 0 ∨ p = 1 by omega) with rfl | rfl
      · rw [pk_un (by omega), show 2 * m + 0 = 2 * m by omega, upd_self]; exact p4
      · rw [upd_self]; exact p6
    · rw [pk_un hmm]
      refine ⟨(h6 m (by omega)).1, fun p hp => ?_⟩
      rw [pk_un (by omega), pk_un (by omega)]
      exact (h6 m (by omega)).2 p hp
  · rw [e0, pk_un (by omega), e 9 (by omega) (by omega) (by omega) (by omega) (by omega)]; exact h7
  · rw [e0, pk_un (by omega), e 10 (by omega) (by omega) (by omega) (by omega) (by omega)]; exact h8
theorem RI_atom {x1 x2 x3 : Int32} (h : RI s sz nn kk mc n sp) (hn : n < 4) (p2 : ¬ x2 < (-6) ∧ x2 < 60000) (p3 : ¬ x3 < (-6) ∧ x3 < 60000) : RI (ms_atom s n x1 x2 x3) sz nn kk mc (n + 1) sp := by
  obtain ⟨⟨h1, h2, h3, ⟨h7, h8, h9⟩, h10⟩, na, hna, e23⟩ := h
  have e : ∀ j, j ≠ 8 → j ≠ 9 → j ≠ 0 → ms_atom s n x1 x2 x3 j = s j := fun j q1 q2 q3 => by unfold ms_atom; rw [va_up_ne _ _ q3, va_up_ne _ _ q2, va_up_ne _ _ q1]
  have e0 : ms_atom s n x1 x2 x3 0 = upd (s 0) 9 (nI (n + 1)) := va_up_self _ _ _
  have e9 : ms_atom s n x1 x2 x3 9 = upd (upd (s 9) (2 * n) x2) (2 * n + 1) x3 := by unfold ms_atom; rw [va_up_ne _ _ (by omega), va_up_self]
  refine ⟨⟨?_, ?_, ?_, ⟨by omega, by rw [e0, upd_self], fun j hj => ?_⟩, ?_⟩, na, hna, by rw [e0, pk_un (by omega)]; exact e23⟩
  · rw [e 1 (by omega) (by omega) (by omega), e 2 (by omega) (by omega) (by omega)]; exact h1
  · rw [e 3 (by omega) (by omega) (by omega)]; exact h2
  · rw [e0, pk_un (by omega), e 4 (by omega) (by omega) (by omega), e 7 (by omega) (by omega) (by omega)]; exact h3
  · rw [e9]
    unfold upd
    by_cases j1 : j = 2 * n + 1
    · rw [if_pos j1]; exact p3
    · rw [if_neg j1]
      by_cases j2 : j = 2 * n
      · rw [if_pos j2]; exact p2
      · rw [if_neg j2]; exact h9 j (by omega)
  · rw [e0, pk_un (by omega), e 10 (by omega) (by omega) (by omega)]; exact h10
theorem RI_span {v : Nat} {x2 x3 : Int32} (h : RI s sz nn kk mc n sp) (hn : sp < 4) (hv : v < 6) : RI (ms_span s sp (nI v) x2 x3) sz nn kk mc n (sp + 1) := by
  obtain ⟨⟨h1, h2, h3, h7, ⟨h10, h11, h12⟩⟩, na, hna, e23⟩ := h
  have e : ∀ j, j ≠ 10 → j ≠ 11 → j ≠ 12 → j ≠ 0 → ms_span s sp (nI v) x2 x3 j = s j := fun j q1 q2 q3 q4 => by unfold ms_span; rw [va_up_ne _ _ q4, va_up_ne _ _ q3, va_up_ne _ _ q2, va_up_ne _ _ q1]
  have e0 : ms_span s sp (nI v) x2 x3 0 = upd (s 0) 12 (nI (sp + 1)) := va_up_self _ _ _
  have e10 : ms_span s sp (nI v) x2 x3 10 = upd (s 10) sp (nI v) := by unfold ms_span; rw [va_up_ne _ _ (by omega), va_up_ne _ _ (by omega), va_up_ne _ _ (by omega), va_up_self]
  refine ⟨⟨?_, ?_, ?_, ?_, ⟨by omega, by rw [e0, upd_self], fun q hq => ?_⟩⟩, na, hna, by rw [e0, pk_un (by omega)]; exact e23⟩
  · rw [e 1 (by omega) (by omega) (by omega) (by omega), e 2 (by omega) (by omega) (by omega) (by omega)]; exact h1
  · rw [e 3 (by omega) (by omega) (by omega) (by omega)]; exact h2
  · rw [e0, pk_un (by omega), e 4 (by omega) (by omega) (by omega) (by omega), e 7 (by omega) (by omega) (by omega) (by omega)]; exact h3
  · rw [e0, pk_un (by omega), e 9 (by omega) (by omega) (by omega) (by omega)]; exact h7
  · rw [e10]
    by_cases hqs : q = sp
    · rw [hqs, upd_self]; exact ⟨v, hv, rfl⟩
    · rw [pk_un hqs]; exact h12 q (by omega)
theorem RI_clear (h : RI s sz nn kk mc n sp) : RI (ms_clear s) sz nn kk mc 0 0 := by
  obtain ⟨⟨h1, h2, h3, h7, h10⟩, na, hna, e23⟩ := h
  have e : ∀ j, j ≠ 0 → ms_clear s j = s j := fun j q1 => by unfold ms_clear; rw [va_up_ne _ _ q1]
  have e0 : ms_clear s 0 = upd (upd (s 0) 9 0) 12 0 := va_up_self _ _ _
  refine ⟨⟨?_, ?_, ?_, ⟨by omega, by rw [e0, pk_un (by omega), upd_self, nI_0], fun j hj => absurd hj (by omega)⟩, ⟨by omega, by rw [e0, upd_self, nI_0], fun q hq => absurd hq (by omega)⟩⟩, na, hna, by rw [e0, pk_un (by omega), pk_un (by omega)]; exact e23⟩
  · rw [e 1 (by omega), e 2 (by omega)]; exact h1
  · rw [e 3 (by omega)]; exact h2
  · rw [e0, pk_un (by omega), pk_un (by omega), e 4 (by omega), e 7 (by omega)]; exact h3
theorem mcnt_pos {g : Nat → Int32} {t c : Nat} {v : Int32} : ∀ {n : Nat}, 0 < mcnt g t c v n ↔ ∃ r, r < n ∧ g (60 * t + 3 * r + c) = v
  | 0 => by rw [mcnt]; exact ⟨fun z => absurd z (by omega), fun ⟨r, hr, _⟩ => absurd hr (by omega)⟩
  | n + 1 => by
    rw [mcnt]
    have ih := mcnt_pos (g := g) (t := t) (c := c) (v := v) (n := n)
    by_cases he : g (60 * t + 3 * n + c) = v
    · rw [if_pos he]; exact ⟨fun _ => ⟨n, by omega, he⟩, fun _ => by omega⟩
    · rw [if_neg he, Nat.add_zero, ih]
      exact ⟨fun ⟨r, hr, e⟩ => ⟨r, by omega, e⟩, fun ⟨r, hr, e⟩ => ⟨r, by rcases Nat.lt_or_ge r n with z | z; exact z; exact absurd (by rw [← show r = n by omega]; exact e) he, e⟩⟩
theorem mcnt_two {g : Nat → Int32} {t c : Nat} {v : Int32} : ∀ {n : Nat}, 1 < mcnt g t c v n ↔ ∃ r q, q < r ∧ r < n ∧ g (60 * t + 3 * r + c) = v ∧ g (60 * t + 3 * q + c) = v
  | 0 => by rw [mcnt]; exact ⟨fun z => absurd z (by omega), fun ⟨r, q, _, hr, _⟩ => absurd hr (by omega)⟩
  | n + 1 => by
    rw [mcnt]
    have ih := mcnt_two (g := g) (t := t) (c := c) (v := v) (n := n)
    have i1 := mcnt_pos (g := g) (t := t) (c := c) (v := v) (n := n)
    by_cases he : g (60 * t + 3 * n + c) = v
    · rw [if_pos he]
      constructor
      · intro z
        obtain ⟨q, hq, eq⟩ := i1.mp (by omega)
        exact ⟨n, q, hq, by omega, he, eq⟩
      · rintro ⟨r, q, hq, hr, e1, e2⟩
        have := i1.mpr ⟨q, by omega, e2⟩
        omega
    · rw [if_neg he, Nat.add_zero, ih]
      exact ⟨fun ⟨r, q, hq, hr, e⟩ => ⟨r, q, hq, by omega, e⟩, fun ⟨r, q, hq, hr, e⟩ => ⟨r, q, hq, by rcases Nat.lt_or_ge r n with z | z; exact z; exact absurd (by rw [← show r = n by omega]; exact e.1) he, e⟩⟩
/-- a number stands twice in a column -/
def trep (nn : Nat → Nat → Nat → Nat) (t c n : Nat) : Prop := ∃ r q, q < r ∧ r < n ∧ nI (nn t q c) = nI (nn t r c)
def tno (nn : Nat → Nat → Nat → Nat) (kk : Nat → Nat → Int32) (t n c : Nat) (v : Int32) : Prop := kk t c ≠ 0 ∧ ∃ r, r < n ∧ nI (nn t r c) = v
theorem r_rep {t c : Nat} (h : RX s sz nn kk mc n sp) (ht : t < 4) (hc : c < 3) : mtw (s 1) t c (sz t) ↔ trep nn t c (sz t) := by
  have h1 := h.1.2
  unfold mtw trep
  constructor
  · rintro ⟨i, hi, z⟩
    obtain ⟨r, q, hq, hr, e1, e2⟩ := mcnt_two.mp z
    refine ⟨r, q, hq, hr, ?_⟩
    rw [← (h1 t q c ht (by omega) hc).2, ← (h1 t r c ht hr hc).2, e1, e2]
  · rintro ⟨r, q, hq, hr, e⟩
    refine ⟨r, hr, mcnt_two.mpr ⟨r, q, hq, hr, rfl, ?_⟩⟩
    rw [(h1 t q c ht (by omega) hc).2, (h1 t r c ht hr hc).2, e]
theorem r_no {t c : Nat} {v : Int32} (h : RX s sz nn kk mc n sp) (ht : t < 4) (hc : c < 3) : mno s t (sz t) c v ↔ tno nn kk t (sz t) c v := by
  have h1 := h.1.2
  unfold mno tno
  rw [(h.2.1 t c ht hc).2, mcnt_pos]
  constructor
  · rintro ⟨a, r, hr, e⟩; exact ⟨a, r, hr, by rw [← (h1 t r c ht hr hc).2]; exact e⟩
  · rintro ⟨a, r, hr, e⟩; exact ⟨a, r, hr, by rw [(h1 t r c ht hr hc).2]; exact e⟩
theorem c_rep {t c : Nat} (h : CI s sz nn kk mc n sp) (ht : t < 4) (hc : c < 3) : vt_rep (s (31 + 3 * t)) c (sz t) ↔ trep nn t c (sz t) := by
  obtain ⟨VM, mt, ml, mtm, A, TP, -, h2, -⟩ := h
  unfold vt_rep vt_has trep
  constructor
  · rintro ⟨r, hr, q, hq, e⟩
    refine ⟨r, q, hq, hr, ?_⟩
    rw [← (h2.2 t q c ht (by omega) hc).2, ← (h2.2 t r c ht hr hc).2, e]
  · rintro ⟨r, q, hq, hr, e⟩
    refine ⟨r, hr, q, hq, ?_⟩
    rw [(h2.2 t q c ht (by omega) hc).2, (h2.2 t r c ht hr hc).2, e]
theorem c_no {t c : Nat} {v : Int32} (h : CI s sz nn kk mc n sp) (ht : t < 4) (hc : c < 3) : vt_no s t (sz t) c v ↔ tno nn kk t (sz t) c v := by
  obtain ⟨VM, mt, ml, mtm, A, TP, -, h2, h3, -⟩ := h
  unfold vt_no vt_has tno
  rw [(h3 t c ht hc).2]
  constructor
  · rintro ⟨a, r, hr, e⟩; exact ⟨a, r, hr, by rw [← (h2.2 t r c ht hr hc).2]; exact e⟩
  · rintro ⟨a, r, hr, e⟩; exact ⟨a, r, hr, by rw [(h2.2 t r c ht hr hc).2]; exact e⟩
end RL1
