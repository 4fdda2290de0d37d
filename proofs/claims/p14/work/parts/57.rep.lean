/-! packedTriple, countTriples -/
def pkd (s : Nat → Nat → Int32) (m t : Nat) (c : Nat → Nat) (r : Nat) : Int64 :=
  (((((s (42 + 3 * m) 3).toInt64 * 60000) + ((s (43 + 3 * m) 0 * 10000).toInt64)) + ((s (31 + 3 * t) (r * 3 + c 0)).toInt64)) * 60000 + ((s (43 + 3 * m) 1 * 10000).toInt64)) + ((s (31 + 3 * t) (r * 3 + c 1)).toInt64)
section VR38
variable {F : ac_hp} {ki : Nat → ClassId} {ad : Nat → Nat} {s : Nat → Nat → Int32} {tl : Nat → Int64} {f : ac_hp}
theorem sp_packed {m t r : Nat} {c : Nat → Nat} {Q : Int64 → ac_hp → Prop} (h : vr_R F ki ad s tl f) (hm : vm_ok s m t c) (hr : r < 20) (hq : Q (pkd s m t c r) f) : wp_X1_packedTriple ki (ad 1) (ad (42 + 3 * m)) (nI r) f Q := by
  obtain ⟨m1, m2, m3, m4⟩ := hm
  unfold wp_X1_packedTriple
  refine ⟨_, rd_f h (by omega) (lay_M m1) rfl, ?_⟩
  intro v2 hv2
  refine ⟨3, ?_⟩
  have step : ∀ (p : Nat) (v : Int64) (N : Nat) (E : Int64 → ac_hp → Prop), p < 2 → wp_X1_packedTriple_L9 ki (ad 1) (ad (42 + 3 * m)) (nI r) E N (((v * 60000) + ((s (43 + 3 * m) p * 10000).toInt64)) + ((s (31 + 3 * t) (r * 3 + c p)).toInt64)) (nI (p + 1)) f → wp_X1_packedTriple_L9 ki (ad 1) (ad (42 + 3 * m)) (nI r) E (N + 1) v (nI p) f := fun p v N E hp hN => by
    rw [wp_X1_packedTriple_L9]
    obtain ⟨c1, c2⟩ := m4 p hp
    refine ⟨fun z => absurd z (by rw [show (2 : Int32) = nI 2 from rfl]; exact nI_ge hp (by omega)), fun _ => ⟨rd_o (i := 1) h (by omega) rfl, sp_tableOf1 h m1 m2 m3 ?_⟩⟩
    refine ⟨_, rd_f h (by omega) (lay_M m1) rfl, _, rd_i h (by omega) (lay_Mc m1) rfl hp (by omega), rd_o h (by omega) (lay_T m2), ?_⟩
    rw [c2]
    refine sp_cell h m2 (by omega) ⟨_, rd_f h (by omega) (lay_M m1) rfl, _, rd_i h (by omega) (lay_Mt m1) rfl hp (by omega), ?_⟩
    intro x hx y hy
    rw [hx, hy, nI_1]
    exact hN
  refine step 0 v2 2 _ (by omega) (step 1 _ 1 _ (by omega) ?_)
  rw [wp_X1_packedTriple_L9]
  refine ⟨fun _ => ?_, fun z => absurd (show (2 : Int32) ≤ nI (1 + 1) by decide) z⟩
  subst hv2
  exact hq
/-- the packed triples of the mappings before i, and of mapping i's rows before r -/
def tpl (s : Nat → Nat → Int32) (mt : Nat → Nat) (ml : Nat → Nat → Nat) (sz : Nat → Nat) (i r : Nat) (x : Int64) : Prop := ∃ j q, ((j < i ∧ q < sz (mt j)) ∨ (j = i ∧ q < r)) ∧ x = pkd s j (mt j) (ml j) q
def ctI (s : Nat → Nat → Int32) (mt : Nat → Nat) (ml : Nat → Nat → Nat) (sz : Nat → Nat) (i r : Nat) (tl : Nat → Int64) (n : Nat) : Prop :=
  n ≤ i * 20 + r ∧ (∀ a b, a < b → b < n → (tl a).toInt < (tl b).toInt) ∧ ∀ x, (∃ a, a < n ∧ tl a = x) ↔ tpl s mt ml sz i r x
variable {mc : Nat} {mt : Nat → Nat} {ml : Nat → Nat → Nat} {sz : Nat → Nat}
theorem pkd_1 {w : Nat → Int32} {m t r : Nat} {c : Nat → Nat} : pkd (va_up s 1 w) m t c r = pkd s m t c r := by
  unfold pkd
  rw [va_up_ne _ _ (show 42 + 3 * m ≠ 1 by omega), va_up_ne _ _ (show 43 + 3 * m ≠ 1 by omega), va_up_ne _ _ (show 31 + 3 * t ≠ 1 by omega)]
theorem vm_1 {w : Nat → Int32} {m t : Nat} {c : Nat → Nat} (h : vm_ok s m t c) : vm_ok (va_up s 1 w) m t c :=
  ⟨h.1, h.2.1, by rw [va_up_ne _ _ (by omega)]; exact h.2.2.1, fun p hp => by rw [va_up_ne _ _ (by omega)]; exact h.2.2.2 p hp⟩
theorem sp_ct31 {i : Nat} {E : ac_hp → Prop} (hi : i < mc) (hmc : mc ≤ 12) (hm : ∀ j, j < mc → vm_ok s j (mt j) (ml j)) (hsz : ∀ k, k < 4 → sz k ≤ 20 ∧ s (30 + 3 * k) 2 = nI (sz k))
    (hE : ∀ (tl' : Nat → Int64) (n : Nat) (f' : ac_hp), ctI s mt ml sz i (sz (mt i)) tl' n → vr_R F ki ad (va_up s 1 (upd (s 1) 4 (nI n))) tl' f' → E f') :
    ∀ (d r : Nat) (tl : Nat → Int64) (n : Nat) (f : ac_hp), d + r = sz (mt i) → ctI s mt ml sz i r tl n → vr_R F ki ad (va_up s 1 (upd (s 1) 4 (nI n))) tl f → wp_X1_countTriples_L31 ki (ad 1) (nI i) (nI (sz (mt i))) E (d + 1) (nI r) f := by
  have ht4 := (hm i hi).2.1
  have hs20 := (hsz _ ht4).1
  intro d
  induction d with
  | zero =>
    intro r tl n f hr hI h
    rw [wp_X1_countTriples_L31]
    have : r = sz (mt i) := by omega
    subst this
    exact ⟨fun _ => hE tl n f hI h, fun z => absurd (nI_le (Nat.le_refl _) (by omega)) z⟩
  | succ d ih =>
    intro r tl n f hr hI h
    rw [wp_X1_countTriples_L31]
    obtain ⟨i1, i2, i3⟩ := hI
    refine ⟨fun z => absurd z (nI_ge (by omega) (by omega)), fun _ => ⟨_, rd_f (i := 1) h (by omega) rfl rfl, _, rd_map h (by omega), rd_o (i := 1) h (by omega) rfl, sp_packed h (vm_1 (hm i hi)) (by omega) ⟨rd_o (i := 1) h (by omega) rfl, ?_⟩⟩⟩
    rw [pkd_1]
    have nx : ∀ x, tpl s mt ml sz i (r + 1) x ↔ tpl s mt ml sz i r x ∨ x = pkd s i (mt i) (ml i) r := fun x => by
      constructor
      · rintro ⟨j, q, z1, z2⟩
        by_cases e : j = i ∧ q = r
        · obtain ⟨e1, e2⟩ := e; subst e1; subst e2; exact Or.inr z2
        · exact Or.inl ⟨j, q, by omega, z2⟩
      · rintro (⟨j, q, z1, z2⟩ | z)
        · exact ⟨j, q, by omega, z2⟩
        · exact ⟨i, r, by omega, z⟩
    refine sp_keepTriple (n := n) h ⟨by omega, by rw [va_up_self]; simp [upd], i2⟩ (by omega) (fun hin y hy => ?_) (fun hno a tl' f' ha hins hts h' y hy => ?_)
    · rw [hy, nI_1]
      refine ih (r + 1) tl n f (by omega) ⟨by omega, i2, fun x => ?_⟩ h
      rw [nx x, i3 x]
      exact ⟨Or.inl, fun z => z.elim id (fun e => (i3 x).mp (by rw [e]; exact hin))⟩
    · rw [hy, nI_1]
      refine ih (r + 1) tl' (n + 1) f' (by omega) ⟨by omega, hts.2.2, fun x => ?_⟩ (R_eq h' ?_)
      · rw [nx x, ← i3 x]
        constructor
        · rintro ⟨b, b1, b2⟩
          rw [hins b b1] at b2
          rcases Nat.lt_trichotomy b a with z | z | z
          · rw [ins_lt z] at b2; exact Or.inl ⟨b, by omega, b2⟩
          · subst z; rw [ins_eq] at b2; exact Or.inr b2.symm
          · rw [ins_gt z] at b2; exact Or.inl ⟨b - 1, by omega, b2⟩
        · rintro (⟨b, b1, b2⟩ | z)
          · rcases Nat.lt_or_ge b a with z | z
            · exact ⟨b, by omega, by rw [hins b (by omega), ins_lt z]; exact b2⟩
            · exact ⟨b + 1, by omega, by rw [hins (b + 1) (by omega), ins_gt (by omega), Nat.add_sub_cancel]; exact b2⟩
          · exact ⟨a, by omega, by rw [hins a (by omega), ins_eq]; exact z.symm⟩
      · simp only [va_up_self, bx_uu, upd_uu]
end VR38
