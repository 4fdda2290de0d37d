/-! FINDER: find, its loop over the slots -/
def GI (s s2 : Nat → Nat → Int32) (n : Nat) (sl : Nat → Nat) (ca : Nat → Nat → Nat) (tb mk : Nat → Nat) (cl : Nat → Nat → Nat) (sz : Nat → Nat) (j : Nat) (rc : Nat → Nat) (rw_ : Nat → Nat → Nat) : Prop :=
  ∀ k, k < j → gat (suit s n sl ca tb cl k) (alk s tb mk cl k) (sz (tb k)) (rc k) (rw_ k) ∧ s2 26 k = nI (rc k) ∧ ∀ i, i < rc k → s2 25 (k * 20 + i) = nI (rw_ k i)
section VR26
variable {F : ac_hp} {ki : Nat → ClassId} {ad : Nat → Nat} {s : Nat → Nat → Int32} {tl : Nat → Int64} {f : ac_hp}
variable {u ct n : Nat} {tb mk : Nat → Nat} {cl : Nat → Nat → Nat} {tp : Nat → Nat} {sl ma : Nat → Nat} {ca : Nat → Nat → Nat} {sz : Nat → Nat}
theorem sp_fl21 {E : Int32 → ac_hp → Prop} (hf : lok s u ct tb mk cl tp) (hl : lat s u n ct sl ma ca tb mk) (hsz : ∀ k, k < ct → sz (tb k) ≤ 20 ∧ s (30 + 3 * tb k) 2 = nI (sz (tb k)))
    (hE0 : ∀ (k : Nat) (s2 : Nat → Nat → Int32) (f2 : ac_hp), k < ct → (∀ r, r < sz (tb k) → ¬ suit s n sl ca tb cl k r) → sg s s2 → vr_R F ki ad s2 tl f2 → E 0 f2)
    (hE1 : ∀ (rc : Nat → Nat) (rw_ : Nat → Nat → Nat) (s2 : Nat → Nat → Int32) (f2 : ac_hp), GI s s2 n sl ca tb mk cl sz ct rc rw_ → sg s s2 → vr_R F ki ad s2 tl f2 → E 1 f2) :
    ∀ (d j : Nat) (rc : Nat → Nat) (rw_ : Nat → Nat → Nat) (s2 : Nat → Nat → Int32) (f : ac_hp), d + j = ct → GI s s2 n sl ca tb mk cl sz j rc rw_ → sg s s2 → vr_R F ki ad s2 tl f → wp_X8_find_L21 ki (ad 21) E (d + 1) 1 (nI j) f := by
  have hct := hf.1
  intro d
  induction d with
  | zero =>
    intro j rc rw_ s2 f hj hG hs h
    rw [wp_X8_find_L21]
    have : j = ct := by omega
    subst this
    refine ⟨_, rd_f (i := 21) h (by omega) rfl rfl, _, rd_f (i := 14) h (by omega) rfl rfl, ?_⟩
    rw [hs 14 (by omega) (by omega) (by omega), hf.2.2.2.1]
    exact ⟨fun _ => hE1 rc rw_ s2 f hG hs h, fun z => absurd (nI_le (Nat.le_refl j) (by omega)) z⟩
  | succ d ih =>
    intro j rc rw_ s2 f hj hG hs h
    rw [wp_X8_find_L21]
    have hjc : j < ct := by omega
    refine ⟨_, rd_f (i := 21) h (by omega) rfl rfl, _, rd_f (i := 14) h (by omega) rfl rfl, ?_⟩
    rw [hs 14 (by omega) (by omega) (by omega), hf.2.2.2.1]
    refine ⟨fun z => absurd z (nI_ge hjc (by omega)), fun _ => ⟨fun z => absurd z ne10, fun _ => ⟨rd_o (i := 21) h (by omega) rfl, ?_⟩⟩⟩
    obtain ⟨y1, y2⟩ := hsz j hjc
    refine sp_gather h (lok_sg hs hf) (lat_sg hs hl) hjc y1 (by rw [hs _ (by omega) (by omega) (by omega)]; exact y2) (fun c w w25 f1 q1 q2 q3 h1 => ?_)
    have eP : suit s2 n sl ca tb cl j = suit s n sl ca tb cl j := by funext r; exact suit_sg hs
    have eA : alk s2 tb mk cl j = alk s tb mk cl j := by funext a b; exact alk_sg hs
    rw [eP, eA] at q1
    have hc20 : c ≤ 20 := by have := q1.1; omega
    have hs1 : sg s (va_up (va_up s2 25 w25) 26 (upd (s2 26) j (nI c))) := fun i z1 z2 z3 => by rw [va_up_ne _ _ z2, va_up_ne _ _ z1]; exact hs i z1 z2 z3
    refine ⟨_, rd_f (i := 21) h1 (by omega) rfl rfl, _, rd_i (i := 26) h1 (by omega) rfl rfl (show j < 4 by omega) (by omega), ?_⟩
    rw [va_up_self, show upd (s2 26) j (nI c) j = nI c by simp [upd]]
    refine ⟨fun hz x hx => ?_, fun hz x hx => ?_⟩
    · have hc0 : c = 0 := by
        rcases Nat.eq_zero_or_pos c with z | z
        · exact z
        · exact absurd hz (by rw [show (0 : Int32) = nI 0 from rfl]; exact nI_ge z (by omega))
      subst hc0
      have hno : ∀ r, r < sz (tb j) → ¬ suit s n sl ca tb cl j r := fun r hr z => by
        obtain ⟨i, hi, -⟩ := q1.2.2.1 r hr z
        omega
      rw [wp_X8_find_L21]
      refine ⟨_, rd_f (i := 21) h1 (by omega) rfl rfl, _, rd_f (i := 14) h1 (by omega) rfl rfl, fun _ => hE0 j _ f1 hjc hno hs1 h1, fun _ => ⟨fun _ => hE0 j _ f1 hjc hno hs1 h1, fun z => absurd rfl z⟩⟩
    · rw [hx, nI_1]
      refine ih (j + 1) (fun k => if k = j then c else rc k) (fun k => if k = j then w else rw_ k) _ f1 (by omega) (fun k hk => ?_) hs1 h1
      simp (disch := omega) only [va_up_self, va_up_ne]
      by_cases e : k = j
      · subst e
        simp only [if_true]
        exact ⟨q1, by simp [upd], q3⟩
      · obtain ⟨z1, z2, z3⟩ := hG k (by omega)
        simp only [if_neg e]
        have hk20 : rc k ≤ 20 := by have := z1.1; have := (hsz k (by omega)).1; omega
        exact ⟨z1, by simp only [upd, if_neg e]; exact z2, fun i hi => by rw [q2 _ (by omega)]; exact z3 i hi⟩
/-- with an order, all that the search asks -/
theorem fok_of {od : Nat → Nat} {rc : Nat → Nat} {rw_ : Nat → Nat → Nat} {vl : Nat → Nat → Nat → Nat} {s2 : Nat → Nat → Int32} {w : Nat → Int32} (hf : lok s u ct tb mk cl tp) (hG : GI s s2 n sl ca tb mk cl sz ct rc rw_) (hs : sg s s2) (hp : prm ct od) (hw : ∀ i, i < ct → w i = nI (od i)) (hsz : ∀ k, k < ct → sz (tb k) ≤ 20)
    (hvl : ∀ k i v, k < ct → i < rc k → v < 6 → (mk k).testBit v = true → vl k i v < 10000 ∧ s (31 + 3 * tb k) (rw_ k i * 3 + cl k v) = nI (vl k i v)) : fok (va_up s2 27 w) u ct tb mk cl rc rw_ od tp vl := by
  have hs3 : sg s (va_up s2 27 w) := fun i z1 z2 z3 => by rw [va_up_ne _ _ z3]; exact hs i z1 z2 z3
  obtain ⟨h1, h2, h3, h4, h5, h6⟩ := lok_sg hs3 hf
  refine ⟨h1, h2, h3, h4, h5, fun k hk => ?_⟩
  obtain ⟨g1, g2, g3, g8, g9⟩ := h6 k hk
  obtain ⟨z1, z2, z3⟩ := hG k hk
  have hk20 := hsz k hk
  refine ⟨g1, g2, g3, by have := z1.1; omega, by rw [va_up_ne _ _ (by omega)]; exact z2, hp.1 k hk, by rw [va_up_self]; exact hw k hk, g8, g9, fun i hi => ⟨by have := (z1.2.1 i hi).1; omega, by rw [va_up_ne _ _ (by omega)]; exact z3 i hi, fun v hv hb => ?_⟩⟩
  rw [hs3 _ (by omega) (by omega) (by omega)]
  exact hvl k i v hk hi hv hb
end VR26
