/-! THE REFERENCE'S STATE: tables, mappings, question; what is scratch may be anything -/
def RX (s : Nat → Nat → Int32) (sz : Nat → Nat) (nn : Nat → Nat → Nat → Nat) (kk : Nat → Nat → Int32) (mc n sp : Nat) : Prop :=
  ((∀ t, t < 4 → sz t ≤ 20 ∧ s 2 t = nI (sz t)) ∧ ∀ t r c, t < 4 → r < sz t → c < 3 → nn t r c < 10000 ∧ s 1 (60 * t + 3 * r + c) = nI (nn t r c)) ∧ (∀ t c, t < 4 → c < 3 → (kk t c = 0 ∨ kk t c = 1) ∧ s 3 (3 * t + c) = kk t c) ∧
  (mc ≤ 12 ∧ s 0 4 = nI mc ∧ ∀ m, m < mc → (∃ t, t < 4 ∧ s 4 m = nI t) ∧ ∀ p, p < 2 → ∃ c, c < 3 ∧ s 7 (2 * m + p) = nI c) ∧
  (n ≤ 4 ∧ s 0 9 = nI n ∧ ∀ j, j < 2 * n → ¬ s 9 j < (-6) ∧ s 9 j < 60000) ∧ (sp ≤ 4 ∧ s 0 12 = nI sp ∧ ∀ q, q < sp → ∃ v, v < 6 ∧ s 10 q = nI v)
def RI (s : Nat → Nat → Int32) (sz : Nat → Nat) (nn : Nat → Nat → Nat → Nat) (kk : Nat → Nat → Int32) (mc n sp : Nat) : Prop := RX s sz nn kk mc n sp ∧ ∃ na, na ≤ 300 ∧ s 0 23 = nI na
/-- tables, mappings and question stay -/
def SC (s s' : Nat → Nat → Int32) : Prop := (∀ j, 1 ≤ j → j ≤ 12 → s' j = s j) ∧ s' 0 4 = s 0 4 ∧ s' 0 9 = s 0 9 ∧ s' 0 12 = s 0 12
section R1
variable {F : ac_hp} {ki : Nat → ClassId} {am : Nat → Nat} {s : Nat → Nat → Int32} {f : ac_hp}
variable {sz : Nat → Nat} {nn : Nat → Nat → Nat → Nat} {kk : Nat → Nat → Int32} {mc n sp : Nat}
theorem SC.rfl' : SC s s := ⟨fun _ _ _ => rfl, rfl, rfl, rfl⟩
theorem SC.trans {s1 s2 s3 : Nat → Nat → Int32} (h : SC s1 s2) (h' : SC s2 s3) : SC s1 s3 := ⟨fun j h1 h2 => (h'.1 j h1 h2).trans (h.1 j h1 h2), h'.2.1.trans h.2.1, h'.2.2.1.trans h.2.2.1, h'.2.2.2.trans h.2.2.2⟩
theorem RX.sc {s' : Nat → Nat → Int32} (h : RX s sz nn kk mc n sp) (e : SC s s') : RX s' sz nn kk mc n sp := by
  obtain ⟨⟨h1, h2⟩, h3, ⟨h4, h5, h6⟩, ⟨h7, h8, h9⟩, h10, h11, h12⟩ := h
  obtain ⟨e1, e2, e3, e4⟩ := e
  refine ⟨⟨fun t ht => by rw [e1 2 (by omega) (by omega)]; exact h1 t ht, fun t r c ht hr hc => by rw [e1 1 (by omega) (by omega)]; exact h2 t r c ht hr hc⟩, fun t c ht hc => by rw [e1 3 (by omega) (by omega)]; exact h3 t c ht hc, ⟨h4, by rw [e2]; exact h5, fun m hm => ⟨by rw [e1 4 (by omega) (by omega)]; exact (h6 m hm).1, fun p hp => by rw [e1 7 (by omega) (by omega)]; exact (h6 m hm).2 p hp⟩⟩, ⟨h7, by rw [e3]; exact h8, fun j hj => by rw [e1 9 (by omega) (by omega)]; exact h9 j hj⟩, h10, by rw [e4]; exact h11, fun q hq => by rw [e1 10 (by omega) (by omega)]; exact h12 q hq⟩
theorem SC.cell {j : Nat} {w : Nat → Int32} (hj : 13 ≤ j) : SC s (va_up s j w) := ⟨fun i _ hi => va_up_ne _ _ (by omega), by rw [va_up_ne _ _ (by omega)], by rw [va_up_ne _ _ (by omega)], by rw [va_up_ne _ _ (by omega)]⟩
theorem SC.fld {k : Nat} {v : Int32} (h4 : k ≠ 4) (h9 : k ≠ 9) (h12 : k ≠ 12) : SC s (va_up s 0 (upd (s 0) k v)) := ⟨fun i h1 hi => va_up_ne _ _ (by omega), by rw [va_up_self, pk_un (fun z => h4 z.symm)], by rw [va_up_self, pk_un (fun z => h9 z.symm)], by rw [va_up_self, pk_un (fun z => h12 z.symm)]⟩
theorem SC.th0 : SC s (th0 s) := SC.fld (by omega) (by omega) (by omega)
theorem pm_neg {v : Nat} : (-1) - ((-1) - nI v) = nI v := by
  have h : ∀ x : Int32, (-1) - ((-1) - x) = x := fun x => by
    rw [Int32.sub_eq_iff_eq_add, Int32.add_comm, Int32.sub_add_cancel]
  exact h _
theorem pm_12 {m p : Nat} : (2 * nI m) + nI p = nI (2 * m + p) := by rw [pm_2, nI_add]
/-- the mappings that a choice at A gives the atoms -/
def cho (s : Nat → Nat → Int32) (mc n A : Nat) : Prop := ∀ a, a < n → ∃ m, m < mc ∧ s 13 (A + a) = nI m
theorem rs_canMeet {A : Nat} {Q : Int32 → ac_hp → Prop} (h : mr_R F ki am s f) (hx : RX s sz nn kk mc n sp) (hA : A + n ≤ 604) (hc : cho s mc n A) (hq : ∀ v w f', (v = 0 ∨ v = 1) → mr_R F ki am (va_up s 18 w) f' → Q v f') : wp_X9_canMeet ki (am 0) (nI A) f Q := by
  obtain ⟨-, -, ⟨h4, h5, h6⟩, ⟨h7, h8, h9⟩, -⟩ := id hx
  unfold wp_X9_canMeet
  refine ⟨7, ?_⟩
  have L68 : ∀ (E : Int32 → ac_hp → Prop) (a : Nat), a < n → (∀ y w f', (y = 0 ∨ y = 1) → mr_R F ki am (va_up s 18 w) f' → E y f') → ∀ (d p : Nat) (x2 : Int32) (w : Nat → Int32) (f : ac_hp), d + p = 2 → (x2 = 0 ∨ x2 = 1) → mr_R F ki am (va_up s 18 w) f → wp_X9_canMeet_L68 ki (am 0) (nI A) (nI a) E (d + 1) x2 (nI p) f := by
    intro E a ha hE d
    induction d with
    | zero =>
      intro p x2 w f hp hx2 hf
      have e : p = 2 := by omega
      subst e
      rw [wp_X9_canMeet_L68]
      exact ⟨fun _ => hE x2 w f hx2 hf, fun z => absurd (nI_le (a := 2) (b := 2) (by omega) (by omega)) z⟩
    | succ d ih =>
      intro p x2 w f hp hx2 hf
      obtain ⟨m, hm, em⟩ := hc a ha
      rw [wp_X9_canMeet_L68]
      have e9 := rm_i (i := 9) (j := 2 * a + p) (c := ki 0) (n := 8) (x := (2 * nI a) + nI p) hf (by omega) rfl pm_12 (by omega) (by omega)
      rw [va_up_ne _ _ (by omega)] at e9
      have e13 := rm_i (i := 13) (j := A + a) (c := ki 0) (n := 604) (x := nI A + nI a) hf (by omega) rfl (nI_add A a) (by omega) (by omega)
      rw [va_up_ne _ _ (by omega), em] at e13
      have e6 := rm_i (i := 6) (j := 2 * m + p) (c := ki 0) (n := 24) (x := (2 * nI m) + nI p) hf (by omega) rfl pm_12 (by omega) (by omega)
      refine ⟨fun z => absurd z (nI_ge (a := p) (b := 2) (by omega) (by omega)), fun _ => ⟨_, rm_f hf rfl, _, e9, _, rm_f hf rfl, _, rm_f hf rfl, _, e13, _, e6, ?_⟩⟩
      have nx : ∀ (y : Int32) (w' : Nat → Int32) (f' : ac_hp), (y = 0 ∨ y = 1) → mr_R F ki am (va_up s 18 w') f' → ∀ v : Int32, v = nI p + 1 → wp_X9_canMeet_L68 ki (am 0) (nI A) (nI a) E (d + 1) y v f' := fun y w' f' hy hf' v hv => by
        rw [hv, nI_1]; exact ih (p + 1) y w' f' (by omega) hy hf'
      have pl := h9 (2 * a + p) (by omega)
      refine ⟨fun hlt v19 e19 => ?_, fun _ => ⟨fun _ v hv => nx 0 w f (Or.inl rfl) hf v hv, fun _ => ⟨fun _ v hv => nx 0 w f (Or.inl rfl) hf v hv, fun _ v hv => nx 1 w f (Or.inr rfl) hf v hv⟩⟩⟩
      rcases pl_cases pl with ⟨c, hc1, hc2⟩ | ⟨v, hv1, hv2⟩
      · rw [hc2] at hlt; exact absurd hlt (nI_pos (by omega))
      · rw [hv2, pm_neg] at e19
        subst e19
        have wr : ∀ (y : Int32) (val : Int32), (y = 0 ∨ y = 1) → ∃ o20 : Nat, hr_f f (am 0) 9 22 (.ref o20) ∧ ∃ f21 : ac_hp, hw_i (ki 0) f o20 (nI v) val f21 ∧ ∀ v22 : Int32, v22 = nI p + 1 → wp_X9_canMeet_L68 ki (am 0) (nI A) (nI a) E (d + 1) y v22 f21 := by
          intro y val hy
          refine ⟨_, rm_f hf rfl, wm_i (i := 18) (j := v) hf (by omega) (fun _ => rfl) rfl (by omega) (by omega) (fun f' hf' => ?_)⟩
          rw [bx_uu] at hf'
          exact fun v22 e22 => nx y _ f' hy hf' v22 e22
        have e18 := rm_i (i := 18) (j := v) (c := ki 0) (n := 6) (x := nI v) hf (by omega) rfl rfl (by omega) (by omega)
        exact ⟨fun _ => wr 0 _ (Or.inl rfl), fun _ => ⟨_, rm_f hf rfl, _, e18, fun _ => wr 1 _ (Or.inr rfl), fun _ => ⟨_, rm_f hf rfl, _, e18, fun _ => wr 0 _ (Or.inl rfl), fun _ => wr 1 _ (Or.inr rfl)⟩⟩⟩
  have L25 : ∀ (d a : Nat) (x2 : Int32) (w : Nat → Int32) (f : ac_hp), d + a = n → (x2 = 0 ∨ x2 = 1) → mr_R F ki am (va_up s 18 w) f → wp_X9_canMeet_L25 ki (am 0) (nI A) (fun y48 f49 => narrow .boolean (.int y48) = .int y48 ∧ Q y48 f49) (d + 1) x2 (nI a) f := by
    have fin : ∀ (x2 : Int32) (w : Nat → Int32) (f : ac_hp), (x2 = 0 ∨ x2 = 1) → mr_R F ki am (va_up s 18 w) f → narrow .boolean (.int x2) = .int x2 ∧ Q x2 f := fun x2 w f hx2 hf => ⟨by rcases hx2 with rfl | rfl <;> rfl, hq x2 w f hx2 hf⟩
    intro d
    induction d with
    | zero =>
      intro a x2 w f ha hx2 hf
      have e : a = n := by omega
      subst e
      rw [wp_X9_canMeet_L25]
      refine ⟨_, rm_f hf rfl, ?_⟩
      rw [va_up_ne _ _ (by omega), h8]
      exact ⟨fun _ => fin x2 w f hx2 hf, fun z => absurd (nI_le (Nat.le_refl _) (by omega)) z⟩
    | succ d ih =>
      intro a x2 w f ha hx2 hf
      obtain ⟨m, hm, em⟩ := hc a (by omega)
      rw [wp_X9_canMeet_L25]
      refine ⟨_, rm_f hf rfl, ?_⟩
      rw [va_up_ne _ _ (by omega), h8]
      have e13 := rm_i (i := 13) (j := A + a) (c := ki 0) (n := 604) (x := nI A + nI a) hf (by omega) rfl (nI_add A a) (by omega) (by omega)
      rw [va_up_ne _ _ (by omega), em] at e13
      have hE : ∀ (y : Int32) (w' : Nat → Int32) (f' : ac_hp), (y = 0 ∨ y = 1) → mr_R F ki am (va_up s 18 w') f' → ∀ v42 : Int32, v42 = nI a + 1 → wp_X9_canMeet_L25 ki (am 0) (nI A) (fun y48 f49 => narrow .boolean (.int y48) = .int y48 ∧ Q y48 f49) (d + 1) y v42 f' := fun y w' f' hy hf' v hv => by
        rw [hv, nI_1]; exact ih (a + 1) y w' f' (by omega) hy hf'
      exact ⟨fun z => absurd z (nI_ge (by omega) (by omega)), fun _ => ⟨fun _ => fin x2 w f hx2 hf, fun _ => ⟨_, rm_f hf rfl, _, rm_f hf rfl, _, e13, _, rm_i (i := 5) (j := m) hf (by omega) rfl rfl (by omega) (by omega), _, rm_f hf rfl, _, rm_i (i := 8) (j := a) hf (by omega) rfl rfl (by omega) (by omega), fun _ => ⟨3, L68 _ a (by omega) hE 2 0 0 w f rfl (Or.inl rfl) hf⟩, fun _ => ⟨3, L68 _ a (by omega) hE 2 0 1 w f rfl (Or.inr rfl) hf⟩⟩⟩⟩
  have L2 : ∀ (d v : Nat) (w : Nat → Int32) (f : ac_hp), d + v = 6 → mr_R F ki am (va_up s 18 w) f → wp_X9_canMeet_L2 ki (am 0) (nI A) (fun f5 => ∃ n47 : Nat, wp_X9_canMeet_L25 ki (am 0) (nI A) (fun y48 f49 => narrow .boolean (.int y48) = .int y48 ∧ Q y48 f49) n47 1 0 f5) (d + 1) (nI v) f := by
    intro d
    induction d with
    | zero =>
      intro v w f hv hf
      have e : v = 6 := by omega
      subst e
      rw [wp_X9_canMeet_L2]
      exact ⟨fun _ => ⟨n + 1, L25 n 0 1 w f (by omega) (Or.inr rfl) hf⟩, fun z => absurd (nI_le (a := 6) (b := 6) (by omega) (by omega)) z⟩
    | succ d ih =>
      intro v w f hv hf
      rw [wp_X9_canMeet_L2]
      refine ⟨fun z => absurd z (nI_ge (a := v) (b := 6) (by omega) (by omega)), fun _ => ⟨_, rm_f hf rfl, wm_i (i := 18) (j := v) hf (by omega) (fun _ => rfl) rfl (by omega) (by omega) (fun f' hf' => ?_)⟩⟩
      intro v3 e3
      rw [e3, nI_1]
      rw [bx_uu] at hf'
      exact ih (v + 1) _ f' (by omega) hf'
  refine L2 6 0 (s 18) f rfl ?_
  have : va_up s 18 (s 18) = s := by
    funext j
    by_cases hj : j = 18
    · rw [hj, va_up_self]
    · rw [va_up_ne _ _ hj]
  rw [this]
  exact h
end R1
