/-! FINDER: gatherRows -/
def sg (s s' : Nat → Nat → Int32) : Prop := ∀ j, j ≠ 25 → j ≠ 26 → j ≠ 27 → s' j = s j
/-- w: the rows below sz that P takes, one of each that A holds alike -/
def gat (P : Nat → Prop) (A : Nat → Nat → Prop) (sz c : Nat) (w : Nat → Nat) : Prop :=
  c ≤ sz ∧ (∀ i, i < c → w i < sz ∧ P (w i)) ∧ (∀ r, r < sz → P r → ∃ i, i < c ∧ A r (w i)) ∧ ∀ i j, i < j → j < c → ¬ A (w j) (w i)
theorem gat_skip {P : Nat → Prop} {A : Nat → Nat → Prop} {r c : Nat} {w : Nat → Nat} (h : gat P A r c w) (hr : P r → ∃ i, i < c ∧ A r (w i)) : gat P A (r + 1) c w := by
  obtain ⟨h1, h2, h3, h4⟩ := h
  refine ⟨by omega, fun i hi => ⟨by have := (h2 i hi).1; omega, (h2 i hi).2⟩, fun q hq hp => ?_, h4⟩
  by_cases e : q = r
  · subst e; exact hr hp
  · exact h3 q (by omega) hp
theorem gat_add {P : Nat → Prop} {A : Nat → Nat → Prop} {r c : Nat} {w : Nat → Nat} (h : gat P A r c w) (hr : P r) (hA : A r r) (hn : ∀ i, i < c → ¬ A r (w i)) : gat P A (r + 1) (c + 1) (fun i => if i = c then r else w i) := by
  obtain ⟨h1, h2, h3, h4⟩ := h
  refine ⟨by omega, fun i hi => ?_, fun q hq hp => ?_, fun i j hij hj => ?_⟩
  · by_cases e : i = c
    · simp only [if_pos e]; exact ⟨by omega, hr⟩
    · simp only [if_neg e]; have := h2 i (by omega); exact ⟨by omega, this.2⟩
  · by_cases e : q = r
    · subst e; exact ⟨c, by omega, by simp only [if_true]; exact hA⟩
    · obtain ⟨i, hi, ha⟩ := h3 q (by omega) hp
      exact ⟨i, by omega, by simp only [if_neg (show ¬ i = c by omega)]; exact ha⟩
  · simp only [if_neg (show ¬ i = c by omega)]
    by_cases e : j = c
    · simp only [if_pos e]; exact hn i (by omega)
    · simp only [if_neg e]; exact h4 i j hij (by omega)
section VR21
variable {F : ac_hp} {ki : Nat → ClassId} {ad : Nat → Nat} {s s' : Nat → Nat → Int32} {tl : Nat → Int64} {f : ac_hp}
variable {u ct n : Nat} {tb mk : Nat → Nat} {cl : Nat → Nat → Nat} {tp : Nat → Nat} {sl ma : Nat → Nat} {ca : Nat → Nat → Nat}
theorem lok_sg (e : sg s s') (hf : lok s u ct tb mk cl tp) : lok s' u ct tb mk cl tp := by
  obtain ⟨h1, h2, h3, h4, h5, h6⟩ := hf
  refine ⟨h1, h2, by rw [e 21 (by omega) (by omega) (by omega)]; exact h3, by rw [e 14 (by omega) (by omega) (by omega)]; exact h4, fun v hv => by rw [e 28 (by omega) (by omega) (by omega)]; exact h5 v hv, fun k hk => ?_⟩
  obtain ⟨g1, g2, g3, ⟨a, m, a1, a2, a3, a4, a5⟩, g9⟩ := h6 k hk
  exact ⟨g1, g2, by rw [e 23 (by omega) (by omega) (by omega)]; exact g3, ⟨a, m, a1, by rw [e 22 (by omega) (by omega) (by omega)]; exact a2, a3, by rw [e 11 (by omega) (by omega) (by omega)]; exact a4, by rw [e _ (by omega) (by omega) (by omega)]; exact a5⟩, fun v hv => by rw [e 24 (by omega) (by omega) (by omega)]; exact g9 v hv⟩
theorem lat_sg (e : sg s s') (hl : lat s u n ct sl ma ca tb mk) : lat s' u n ct sl ma ca tb mk := by
  obtain ⟨h1, h2, h3⟩ := hl
  refine ⟨h1, by rw [e 5 (by omega) (by omega) (by omega)]; exact h2, fun a ha => ?_⟩
  obtain ⟨l1, l2, l3, ⟨m1, m2, m3, m4⟩, l5, l6⟩ := h3 a ha
  refine ⟨l1, by rw [e 15 (by omega) (by omega) (by omega)]; exact l2, by rw [e 11 (by omega) (by omega) (by omega)]; exact l3, ⟨m1, m2, by rw [e _ (by omega) (by omega) (by omega)]; exact m3, fun p hp => by rw [e _ (by omega) (by omega) (by omega)]; exact m4 p hp⟩, fun p hp => ?_, fun p v hp => ?_⟩
  · rw [e 7 (by omega) (by omega) (by omega)]; exact l5 p hp
  · rw [e 7 (by omega) (by omega) (by omega)]; exact l6 p v hp
theorem suit_sg (e : sg s s') {k r : Nat} : suit s' n sl ca tb cl k r = suit s n sl ca tb cl k r := by
  unfold suit fitP
  rw [e 7 (by omega) (by omega) (by omega), e 8 (by omega) (by omega) (by omega), e 9 (by omega) (by omega) (by omega), e (31 + 3 * tb k) (by omega) (by omega) (by omega)]
theorem alk_sg (e : sg s s') {k a b : Nat} : alk s' tb mk cl k a b = alk s tb mk cl k a b := by
  unfold alk
  rw [e (31 + 3 * tb k) (by omega) (by omega) (by omega)]
theorem sg_25 {w : Nat → Int32} : sg s (va_up s 25 w) := fun j h1 _ _ => va_up_ne _ _ h1
theorem sp_ltable {k : Nat} {Q : Nat → ac_hp → Prop} (h : vr_R F ki ad s tl f) (hf : lok s u ct tb mk cl tp) (hk : k < ct) (hq : Q (ad (30 + 3 * tb k)) f) : wp_X8_tableOf ki (ad 21) (nI k) f Q := by
  have hct := hf.1
  have hu := hf.2.1
  obtain ⟨g1, g2, g3, ⟨a, m, a1, a2, a3, a4, a5⟩, g9⟩ := hf.2.2.2.2.2 k hk
  unfold wp_X8_tableOf
  refine ⟨_, rd_f (i := 21) h (by omega) rfl rfl, _, rd_f (i := 21) h (by omega) rfl rfl, _, rd_f (i := 21) h (by omega) rfl rfl, _, rd_i (i := 22) h (by omega) rfl rfl (show k < 4 by omega) (by omega), rd_o (i := 10) h (by omega) rfl, ?_⟩
  rw [hf.2.2.1, a2]
  exact sp_tableOf5 h (by omega) a3 a4 g1 a5 hq
theorem sp_gather_L {k sz : Nat} {E : Int32 → ac_hp → Prop} (hf : lok s u ct tb mk cl tp) (hl : lat s u n ct sl ma ca tb mk) (hk : k < ct) (hsz : sz ≤ 20) (hs : s (30 + 3 * tb k) 2 = nI sz)
    (hE : ∀ (c : Nat) (w : Nat → Nat) (w25 : Nat → Int32) (f' : ac_hp), gat (suit s n sl ca tb cl k) (alk s tb mk cl k) sz c w → (∀ j, j < k * 20 ∨ k * 20 + 20 ≤ j → w25 j = s 25 j) → (∀ i, i < c → w25 (k * 20 + i) = nI (w i)) → vr_R F ki ad (va_up s 25 w25) tl f' → E (nI c) f') :
    ∀ (d r c : Nat) (w : Nat → Nat) (w25 : Nat → Int32) (f : ac_hp), d + r = sz → gat (suit s n sl ca tb cl k) (alk s tb mk cl k) r c w → (∀ j, j < k * 20 ∨ k * 20 + 20 ≤ j → w25 j = s 25 j) → (∀ i, i < c → w25 (k * 20 + i) = nI (w i)) → vr_R F ki ad (va_up s 25 w25) tl f →
      wp_X8_gatherRows_L11 ki (ad 21) (nI k) (ad (30 + 3 * tb k)) E (d + 1) (nI c) (nI r) f := by
  have hct := hf.1
  have g1 := (hf.2.2.2.2.2 k hk).1
  intro d
  induction d with
  | zero =>
    intro r c w w25 f hr q1 q2 q3 h
    rw [wp_X8_gatherRows_L11]
    have : r = sz := by omega
    subst this
    refine ⟨_, rd_f h (by omega) (lay_T g1) rfl, ?_⟩
    rw [va_up_ne _ _ (by omega), hs]
    exact ⟨fun _ => hE c w w25 f q1 q2 q3 h, fun z => absurd (nI_le (Nat.le_refl r) (by omega)) z⟩
  | succ d ih =>
    intro r c w w25 f hr q1 q2 q3 h
    rw [wp_X8_gatherRows_L11]
    have hrz : r < sz := by omega
    have hc := q1.1
    refine ⟨_, rd_f h (by omega) (lay_T g1) rfl, ?_⟩
    rw [va_up_ne _ _ (by omega), hs]
    refine ⟨fun z => absurd z (nI_ge hrz (by omega)), fun _ => ⟨rd_o (i := 21) h (by omega) rfl, ?_⟩⟩
    refine sp_suits h (lok_sg sg_25 hf) (lat_sg sg_25 hl) hk (by omega) (fun hS => ⟨fun z => absurd z ne10, fun _ => ⟨rd_o (i := 21) h (by omega) rfl, ?_⟩⟩) (fun hS => ⟨fun _ => ?_, fun z => absurd rfl z⟩)
    · rw [suit_sg sg_25] at hS
      refine sp_isTold h (lok_sg sg_25 hf) hk (by omega) (show c ≤ 20 by omega) (rw_ := w) (fun i hi => ⟨by have := (q1.2.1 i hi).1; omega, by rw [va_up_self]; exact q3 i hi⟩) (fun hT => ⟨fun _ => ?_, fun z => absurd z ne10⟩) (fun hT => ⟨fun z => absurd rfl z, fun _ => ?_⟩)
      · simp only [alk_sg sg_25] at hT
        intro x hx
        rw [hx, nI_1]
        exact ih (r + 1) c w w25 f (by omega) (gat_skip q1 (fun _ => hT)) q2 q3 h
      · simp only [alk_sg sg_25] at hT
        refine ⟨_, rd_f (i := 21) h (by omega) rfl rfl, ?_⟩
        refine wr_i (i := 25) (j := k * 20 + c) h (by omega) (fun s' => rfl) (by rw [show (20 : Int32) = nI 20 from rfl, pk_mul, nI_add]) (by omega) (by omega) (fun f1 h1 => ?_)
        intro x hx y hy
        rw [hx, hy, nI_1, nI_1]
        refine ih (r + 1) (c + 1) (fun i => if i = c then r else w i) (upd w25 (k * 20 + c) (nI r)) f1 (by omega) (gat_add q1 hS (fun _ _ _ => rfl) hT) (fun j hj => ?_) (fun i hi => ?_) (R_eq h1 ?_)
        · simp only [upd, if_neg (show ¬ j = k * 20 + c by omega)]; exact q2 j hj
        · by_cases e : i = c
          · subst e; simp [upd]
          · simp only [upd, if_neg (show ¬ k * 20 + i = k * 20 + c by omega), if_neg e]; exact q3 i (by omega)
        · simp only [va_up_self, bx_uu]
    · rw [suit_sg sg_25] at hS
      intro x hx
      rw [hx, nI_1]
      exact ih (r + 1) c w w25 f (by omega) (gat_skip q1 (fun z => absurd z hS)) q2 q3 h
theorem sp_gather {k sz : Nat} {Q : ac_hp → Prop} (h : vr_R F ki ad s tl f) (hf : lok s u ct tb mk cl tp) (hl : lat s u n ct sl ma ca tb mk) (hk : k < ct) (hsz : sz ≤ 20) (hs : s (30 + 3 * tb k) 2 = nI sz)
    (hq : ∀ (c : Nat) (w : Nat → Nat) (w25 : Nat → Int32) (f' : ac_hp), gat (suit s n sl ca tb cl k) (alk s tb mk cl k) sz c w → (∀ j, j < k * 20 ∨ k * 20 + 20 ≤ j → w25 j = s 25 j) → (∀ i, i < c → w25 (k * 20 + i) = nI (w i)) → vr_R F ki ad (va_up (va_up s 25 w25) 26 (upd (s 26) k (nI c))) tl f' → Q f') : wp_X8_gatherRows ki (ad 21) (nI k) f Q := by
  have hct := hf.1
  unfold wp_X8_gatherRows
  refine ⟨rd_o (i := 21) h (by omega) rfl, sp_ltable h hf hk ⟨sz + 1, sp_gather_L hf hl hk hsz hs (fun c w w25 f' z1 z2 z3 h' => ?_) sz 0 0 (fun _ => 0) (s 25) f (by omega) ⟨by omega, fun i hi => absurd hi (by omega), fun r hr => absurd hr (by omega), fun i j _ hj => absurd hj (by omega)⟩ (fun _ _ => rfl) (fun i hi => absurd hi (by omega)) (R_eq h ?_)⟩⟩
  · refine ⟨_, rd_f (i := 21) h' (by omega) rfl rfl, ?_⟩
    refine wr_i (i := 26) (j := k) h' (by omega) (fun s' => rfl) rfl (by omega) (by omega) (fun f1 h1 => hq c w w25 f1 z1 z2 z3 (R_eq h1 ?_))
    rw [va_up_ne _ _ (show (26 : Nat) ≠ 25 by omega)]
  · funext j
    by_cases e : j = 25
    · subst e; rw [va_up_self]
    · rw [va_up_ne _ _ e]
end VR21
