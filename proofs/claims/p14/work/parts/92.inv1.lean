/-! THE CLASS'S STATE, AND THAT EVERY CALL KEEPS IT -/
def CI (s : Nat → Nat → Int32) (sz : Nat → Nat) (nn : Nat → Nat → Nat → Nat) (kk : Nat → Nat → Int32) (mc n sp : Nat) : Prop :=
  ∃ (VM : Nat) (mt : Nat → Nat) (ml mtm : Nat → Nat → Nat) (A : AS) (TP : Nat → Nat), qok s n mc ∧ tbs s sz nn ∧ (∀ t c, t < 4 → c < 3 → (kk t c = 0 ∨ kk t c = 1) ∧ s (32 + 3 * t) c = kk t c) ∧ mps s mc mt ml mtm ∧ aA s A ∧ VM < 64 ∧ s 16 5 = nI VM ∧ (∀ v, v < 6 → TP v < 6 ∧ s 28 v = nI (TP v)) ∧ sp ≤ 4 ∧ s 5 5 = nI sp
section IV
variable {s s' : Nat → Nat → Int32} {sz : Nat → Nat} {nn : Nat → Nat → Nat → Nat} {kk : Nat → Nat → Int32} {mc n sp : Nat}
theorem qok_c (h : qok s n mc) (e1 : s' 1 3 = s 1 3) (e5 : s' 5 4 = s 5 4) (e6 : s' 6 = s 6) (e7 : s' 7 = s 7) (e10 : s' 10 = s 10) (e11 : s' 11 = s 11) (e42 : ∀ i, 42 ≤ i → s' i = s i) : qok s' n mc := by
  obtain ⟨h1, h2, h3, h4, h5, h6⟩ := h
  refine ⟨h1, h2, by rw [e1]; exact h3, by rw [e5]; exact h4, fun a ha p hp => by rw [e7]; exact h5 a ha p hp, fun z => ?_⟩
  rw [e10] at z
  obtain ⟨c, y1, y2⟩ := h6 z
  refine ⟨c, by rw [e10]; exact y1, ?_⟩
  rw [unions_s2 (s := s) (fun i hi => by rcases hi with rfl | rfl | hi <;> first | exact e6 | exact e7 | exact e42 _ hi), e10, e11]
  exact y2
theorem mps_c {mt : Nat → Nat} {ml mtm : Nat → Nat → Nat} (h : mps s mc mt ml mtm) (e42 : ∀ i, 42 ≤ i → s' i = s i) : mps s' mc mt ml mtm := by
  intro i hi
  obtain ⟨⟨h1, h2, h3, h4⟩, h5⟩ := h i hi
  refine ⟨⟨h1, h2, by rw [e42 _ (by omega)]; exact h3, fun p hp => by rw [e42 _ (by omega)]; exact h4 p hp⟩, fun p hp => by rw [e42 _ (by omega)]; exact h5 p hp⟩
theorem aA_c {A : AS} (h : aA s A) (e4 : s' 16 4 = s 16 4) (e : ∀ j, 17 ≤ j → j ≤ 20 → s' j = s j) : aA s' A := by
  obtain ⟨o, ho⟩ := h
  refine ⟨o, ?_⟩
  unfold aok at ho ⊢
  rw [e4, e 17 (by omega) (by omega), e 18 (by omega) (by omega), e 19 (by omega) (by omega), e 20 (by omega) (by omega)]
  exact ho
theorem tbs_c (h : tbs s sz nn) (e : ∀ k, 30 ≤ k → k < 42 → s' k = s k) : tbs s' sz nn := by
  refine ⟨fun k hk => ?_, fun k r j hk hr hj => ?_⟩
  · rw [e _ (by omega) (by omega)]; exact h.1 k hk
  · rw [e _ (by omega) (by omega)]; exact h.2 k r j hk hr hj
/-- what isn't tables, mappings, question, unions or answers may change -/
theorem CI_c (h : CI s sz nn kk mc n sp) (e1 : s' 1 3 = s 1 3) (e5 : s' 5 = s 5) (e6 : s' 6 = s 6) (e7 : s' 7 = s 7) (e10 : s' 10 = s 10) (e11 : s' 11 = s 11) (e30 : ∀ i, 30 ≤ i → s' i = s i) (e16 : s' 16 = s 16) (e17 : ∀ j, 17 ≤ j → j ≤ 20 → s' j = s j) (e28 : s' 28 = s 28) : CI s' sz nn kk mc n sp := by
  obtain ⟨VM, mt, ml, mtm, A, TP, h1, h2, h3, h4, h5, h6, h7, h8, h9, h10⟩ := h
  exact ⟨VM, mt, ml, mtm, A, TP, qok_c h1 e1 (by rw [e5]) e6 e7 e10 e11 (fun i hi => e30 i (by omega)), tbs_c h2 (fun k h _ => e30 k h), fun t c ht hc => by rw [e30 _ (by omega)]; exact h3 t c ht hc, mps_c h4 (fun i hi => e30 i (by omega)), aA_c h5 (by rw [e16]) e17, h6, by rw [e16]; exact h7, by rw [e28]; exact h8, h9, by rw [e5]; exact h10⟩
def kset (kk : Nat → Nat → Int32) (t c : Nat) (v : Int32) : Nat → Nat → Int32 := fun t' c' => if t' = t ∧ c' = c then v else kk t' c'
theorem CI_key {t c : Nat} {v : Int32} (h : CI s sz nn kk mc n sp) (ht : t < 4) (hc : c < 3) (hv : v = 0 ∨ v = 1) : CI (vs_key s t c v) sz nn (kset kk t c v) mc n sp := by
  obtain ⟨VM, mt, ml, mtm, A, TP, h1, h2, h3, h4, h5, h6, h7, h8, h9, h10⟩ := h
  have e : ∀ j, j ≠ 32 + 3 * t → vs_key s t c v j = s j := fun j hj => va_up_ne _ _ hj
  refine ⟨VM, mt, ml, mtm, A, TP, qok_c h1 (by rw [e 1 (by omega)]) (by rw [e 5 (by omega)]) (e 6 (by omega)) (e 7 (by omega)) (e 10 (by omega)) (e 11 (by omega)) (fun i hi => e i (by omega)), ⟨fun k hk => by rw [e _ (by omega)]; exact h2.1 k hk, fun k r j hk hr hj => by rw [e _ (by omega)]; exact h2.2 k r j hk hr hj⟩, fun t' c' ht' hc' => ?_, mps_c h4 (fun i hi => e i (by omega)), aA_c h5 (by rw [e 16 (by omega)]) (fun j _ _ => e j (by omega)), h6, by rw [e 16 (by omega)]; exact h7, by rw [e 28 (by omega)]; exact h8, h9, by rw [e 5 (by omega)]; exact h10⟩
  unfold kset
  by_cases ht2 : t' = t
  · subst ht2
    unfold vs_key
    rw [va_up_self]
    unfold upd
    by_cases hc2 : c' = c
    · rw [if_pos ⟨rfl, hc2⟩, if_pos hc2]; exact ⟨hv, rfl⟩
    · rw [if_neg (fun z => hc2 z.2), if_neg hc2]; exact h3 t' c' ht' hc'
  · rw [if_neg (fun z => ht2 z.1), e _ (by omega)]
    exact h3 t' c' ht' hc'
def nset (nn : Nat → Nat → Nat → Nat) (t r a b c : Nat) : Nat → Nat → Nat → Nat := fun t' r' j => if t' = t ∧ r' = r then (if j = 0 then a else if j = 1 then b else c) else nn t' r' j
theorem CI_row {t a b c : Nat} (h : CI s sz nn kk mc n sp) (ht : t < 4) (hn : sz t < 20) (ha : a < 10000) (hb : b < 10000) (hc : c < 10000) : CI (vs_append s t (sz t) (nI a) (nI b) (nI c)) (va_up sz t (sz t + 1)) (nset nn t (sz t) a b c) kk mc n sp := by
  obtain ⟨VM, mt, ml, mtm, A, TP, h1, h2, h3, h4, h5, h6, h7, h8, h9, h10⟩ := h
  have e : ∀ j, j ≠ 31 + 3 * t → j ≠ 30 + 3 * t → vs_append s t (sz t) (nI a) (nI b) (nI c) j = s j := fun j hj hj2 => by unfold vs_append; rw [va_up_ne _ _ hj2, va_up_ne _ _ hj]
  refine ⟨VM, mt, ml, mtm, A, TP, qok_c h1 (by rw [e 1 (by omega) (by omega)]) (by rw [e 5 (by omega) (by omega)]) (e 6 (by omega) (by omega)) (e 7 (by omega) (by omega)) (e 10 (by omega) (by omega)) (e 11 (by omega) (by omega)) (fun i hi => e i (by omega) (by omega)), ⟨fun k hk => ?_, fun k r j hk hr hj => ?_⟩, fun t' c' ht' hc' => by rw [e _ (by omega) (by omega)]; exact h3 t' c' ht' hc', mps_c h4 (fun i hi => e i (by omega) (by omega)), aA_c h5 (by rw [e 16 (by omega) (by omega)]) (fun j _ _ => e j (by omega) (by omega)), h6, by rw [e 16 (by omega) (by omega)]; exact h7, by rw [e 28 (by omega) (by omega)]; exact h8, h9, by rw [e 5 (by omega) (by omega)]; exact h10⟩
  · by_cases hkt : k = t
    · subst hkt
      rw [va_up_self]
      refine ⟨by omega, ?_⟩
      unfold vs_append
      rw [va_up_self]
      simp [upd]
    · rw [va_up_ne _ _ hkt, e _ (by omega) (by omega)]
      exact h2.1 k hk
  · unfold nset
    by_cases hkt : k = t
    · subst hkt
      rw [va_up_self] at hr
      unfold vs_append
      rw [va_up_ne _ _ (by omega), va_up_self]
      unfold upd
      by_cases hrn : r = sz k
      · rw [if_pos ⟨rfl, hrn⟩, hrn]
        rcases (show j = 0 ∨ j = 1 ∨ j = 2 by omega) with rfl | rfl | rfl
        · simp [ha]
        · simp [hb]
        · simp [hc]
      · rw [if_neg (fun z => hrn z.2), if_neg (by omega), if_neg (by omega), if_neg (by omega)]
        exact h2.2 k r j hk (by omega) hj
    · rw [va_up_ne _ _ hkt] at hr
      rw [if_neg (fun z => hkt z.1), e _ (by omega) (by omega)]
      exact h2.2 k r j hk hr hj
def ndrop (nn : Nat → Nat → Nat → Nat) (t i : Nat) : Nat → Nat → Nat → Nat := fun t' r j => if t' = t ∧ i ≤ r then nn t' (r + 1) j else nn t' r j
theorem CI_drop {t i : Nat} (h : CI s sz nn kk mc n sp) (ht : t < 4) (hi : i < sz t) : CI (vs_drop s t i (sz t)) (va_up sz t (sz t - 1)) (ndrop nn t i) kk mc n sp := by
  obtain ⟨VM, mt, ml, mtm, A, TP, h1, h2, h3, h4, h5, h6, h7, h8, h9, h10⟩ := h
  have e : ∀ j, j ≠ 31 + 3 * t → j ≠ 30 + 3 * t → vs_drop s t i (sz t) j = s j := fun j hj hj2 => by unfold vs_drop; rw [va_up_ne _ _ hj2, va_up_ne _ _ hj]
  have hs20 := (h2.1 t ht).1
  refine ⟨VM, mt, ml, mtm, A, TP, qok_c h1 (by rw [e 1 (by omega) (by omega)]) (by rw [e 5 (by omega) (by omega)]) (e 6 (by omega) (by omega)) (e 7 (by omega) (by omega)) (e 10 (by omega) (by omega)) (e 11 (by omega) (by omega)) (fun i hi => e i (by omega) (by omega)), ⟨fun k hk => ?_, fun k r j hk hr hj => ?_⟩, fun t' c' ht' hc' => by rw [e _ (by omega) (by omega)]; exact h3 t' c' ht' hc', mps_c h4 (fun i hi => e i (by omega) (by omega)), aA_c h5 (by rw [e 16 (by omega) (by omega)]) (fun j _ _ => e j (by omega) (by omega)), h6, by rw [e 16 (by omega) (by omega)]; exact h7, by rw [e 28 (by omega) (by omega)]; exact h8, h9, by rw [e 5 (by omega) (by omega)]; exact h10⟩
  · by_cases hkt : k = t
    · subst hkt
      rw [va_up_self]
      refine ⟨by omega, ?_⟩
      unfold vs_drop
      rw [va_up_self]
      simp [upd]
    · rw [va_up_ne _ _ hkt, e _ (by omega) (by omega)]
      exact h2.1 k hk
  · unfold ndrop
    by_cases hkt : k = t
    · subst hkt
      rw [va_up_self] at hr
      unfold vs_drop
      rw [va_up_ne _ _ (by omega), va_up_self]
      unfold va_cpy
      by_cases hri : i ≤ r
      · rw [if_pos ⟨rfl, hri⟩, if_pos (by omega), show (i + 1) * 3 + (r * 3 + j - i * 3) = (r + 1) * 3 + j by omega]
        exact h2.2 k (r + 1) j hk (by omega) hj
      · rw [if_neg (fun z => hri z.2), if_neg (by omega)]
        exact h2.2 k r j hk (by omega) hj
    · rw [va_up_ne _ _ hkt] at hr
      rw [if_neg (fun z => hkt z.1), e _ (by omega) (by omega)]
      exact h2.2 k r j hk hr hj
theorem CI_map {x1 x2 x3 x4 x5 x6 : Int32} (h : CI s sz nn kk mc n sp) (hm : mc < 12) (p1 : ∃ t : Nat, t < 4 ∧ x1 = nI t) (p3 : ∃ a : Nat, a < 6 ∧ x3 = nI a) (p4 : ∃ c : Nat, c < 3 ∧ x4 = nI c) (p5 : ∃ a : Nat, a < 6 ∧ x5 = nI a) (p6 : ∃ c : Nat, c < 3 ∧ x6 = nI c) : CI (vs_map s mc x1 x2 x3 x4 x5 x6) sz nn kk (mc + 1) n sp := by
  obtain ⟨VM, mt, ml, mtm, A, TP, h1, h2, h3, h4, h5, h6, h7, h8, h9, h10⟩ := h
  obtain ⟨t0, ht0, e1⟩ := p1
  obtain ⟨a0, ha0, e3⟩ := p3
  obtain ⟨c0, hc0, e4⟩ := p4
  obtain ⟨a1, ha1, e5⟩ := p5
  obtain ⟨c1, hc1, e6⟩ := p6
  have e : ∀ j, j ≠ 42 + 3 * mc → j ≠ 43 + 3 * mc → j ≠ 44 + 3 * mc → j ≠ 1 → j ≠ 10 → vs_map s mc x1 x2 x3 x4 x5 x6 j = s j := fun j q1 q2 q3 q4 q5 => by unfold vs_map; rw [va_up_ne _ _ q5, va_up_ne _ _ q4, va_up_ne _ _ q3, va_up_ne _ _ q2, va_up_ne _ _ q1]
  refine ⟨VM, fun i => if i = mc then t0 else mt i, fun i p => if i = mc then (if p = 0 then c0 else c1) else ml i p, fun i p => if i = mc then (if p = 0 then a0 else a1) else mtm i p, A, TP, ⟨h1.1, by omega, ?_, by rw [e 5 (by omega) (by omega) (by omega) (by omega) (by omega)]; exact h1.2.2.2.1, fun a ha p hp => by rw [e 7 (by omega) (by omega) (by omega) (by omega) (by omega)]; exact h1.2.2.2.2.1 a ha p hp, fun z => absurd ?_ z⟩, ⟨fun k hk => by rw [e _ (by omega) (by omega) (by omega) (by omega) (by omega)]; exact h2.1 k hk, fun k r j hk hr hj => by rw [e _ (by omega) (by omega) (by omega) (by omega) (by omega)]; exact h2.2 k r j hk hr hj⟩, fun t' c' ht' hc' => by rw [e _ (by omega) (by omega) (by omega) (by omega) (by omega)]; exact h3 t' c' ht' hc', ?_, aA_c h5 (by rw [e 16 (by omega) (by omega) (by omega) (by omega) (by omega)]) (fun j _ _ => e j (by omega) (by omega) (by omega) (by omega) (by omega)), h6, by rw [e 16 (by omega) (by omega) (by omega) (by omega) (by omega)]; exact h7, by rw [e 28 (by omega) (by omega) (by omega) (by omega) (by omega)]; exact h8, h9, by rw [e 5 (by omega) (by omega) (by omega) (by omega) (by omega)]; exact h10⟩
  · unfold vs_map
    rw [va_up_ne _ _ (by omega), va_up_self]
    simp [upd]
  · unfold vs_map
    rw [va_up_self]
    simp [upd]
  · intro i hi
    by_cases him : i = mc
    · subst him
      simp only [if_pos]
      refine ⟨⟨by omega, ht0, ?_, fun p hp => ?_⟩, fun p hp => ?_⟩
      · unfold vs_map
        rw [va_up_ne _ _ (by omega), va_up_ne _ _ (by omega), va_up_ne _ _ (by omega), va_up_ne _ _ (by omega), va_up_self]
        simp [upd, e1]
      · unfold vs_map
        rw [va_up_ne _ _ (by omega), va_up_ne _ _ (by omega), va_up_self]
        rcases (show p = 0 ∨ p = 1 by omega) with rfl | rfl
        · simp [upd, e4, hc0]
        · simp [upd, e6, hc1]
      · unfold vs_map
        rw [va_up_ne _ _ (by omega), va_up_ne _ _ (by omega), va_up_ne _ _ (by omega), va_up_self]
        rcases (show p = 0 ∨ p = 1 by omega) with rfl | rfl
        · simp [upd, e3, ha0]
        · simp [upd, e5, ha1]
    · simp only [if_neg him]
      obtain ⟨⟨q1, q2, q3, q4⟩, q5⟩ := h4 i (by omega)
      refine ⟨⟨q1, q2, by rw [e _ (by omega) (by omega) (by omega) (by omega) (by omega)]; exact q3, fun p hp => by rw [e _ (by omega) (by omega) (by omega) (by omega) (by omega)]; exact q4 p hp⟩, fun p hp => by rw [e _ (by omega) (by omega) (by omega) (by omega) (by omega)]; exact q5 p hp⟩
end IV
