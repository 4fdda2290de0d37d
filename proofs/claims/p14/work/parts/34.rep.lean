/-! THE FINDER: agrees, settleVariables -/
theorem mk_or : ∀ a, a < 64 → ∀ b, b < 64 → nI a ||| nI b = nI (a ||| b) ∧ (a ||| b) < 64 := by decide +kernel
theorem mk_and : ∀ a, a < 64 → ∀ b, b < 64 → nI a &&& nI b = nI (a &&& b) ∧ (a &&& b) < 64 := by decide +kernel
theorem mk_sub : ∀ a, a < 64 → ∀ b, b < 64 → ((nI a &&& (nI b ^^^ (-1))) = 0 ↔ a &&& b = a) := by decide +kernel
/-- the slots of a union as the finder has laid them out: table, variables, columns, rows, order, templates -/
def fok (s : Nat → Nat → Int32) (u ct : Nat) (tb mk : Nat → Nat) (cl : Nat → Nat → Nat) (rc : Nat → Nat) (rw_ : Nat → Nat → Nat) (od tp : Nat → Nat) (vl : Nat → Nat → Nat → Nat) : Prop :=
  ct ≤ 4 ∧ u < 150 ∧ s 21 12 = nI u ∧ s 14 4 = nI ct ∧ (∀ v, v < 6 → tp v < 6 ∧ s 28 v = nI (tp v)) ∧
  (∀ k, k < ct → tb k < 4 ∧ mk k < 64 ∧ s 23 k = nI (mk k) ∧ rc k ≤ 20 ∧ s 26 k = nI (rc k) ∧ od k < ct ∧ s 27 k = nI (od k) ∧
    (∃ a m, a < 4 ∧ s 22 k = nI a ∧ m < 12 ∧ s 11 (u * 4 + a) = nI m ∧ s (42 + 3 * m) 2 = nI (tb k)) ∧
    (∀ v, v < 6 → (((mk k).testBit v = true → cl k v < 3 ∧ s 24 (k * 6 + v) = nI (cl k v)) ∧ ((mk k).testBit v = false → s 24 (k * 6 + v) = (-1)))) ∧
    ∀ i, i < rc k → rw_ k i < 20 ∧ s 25 (k * 20 + i) = nI (rw_ k i) ∧ ∀ v, v < 6 → (mk k).testBit v = true → vl k i v < 10000 ∧ s (31 + 3 * tb k) (rw_ k i * 3 + cl k v) = nI (vl k i v))
/-- row i of slot k agrees with what is settled -/
def agr (mk : Nat → Nat) (vl : Nat → Nat → Nat → Nat) (k i M : Nat) (W : Nat → Nat) : Prop := ∀ v, v < 6 → (mk k).testBit v = true → M.testBit v = true → W v % 10000 = vl k i v
def setv (mk tp : Nat → Nat) (vl : Nat → Nat → Nat → Nat) (k i : Nat) (W : Nat → Nat) : Nat → Nat := fun v => if (mk k).testBit v = true then tp v * 10000 + vl k i v else W v
section VR15
variable {F : ac_hp} {ki : Nat → ClassId} {ad : Nat → Nat} {s : Nat → Nat → Int32} {tl : Nat → Int64} {f : ac_hp}
variable {u ct : Nat} {tb mk : Nat → Nat} {cl : Nat → Nat → Nat} {rc : Nat → Nat} {rw_ : Nat → Nat → Nat} {od tp : Nat → Nat} {vl : Nat → Nat → Nat → Nat}
theorem neg1_n : ∀ c, c < 3 → ¬ nI c = (-1) := by decide +kernel
theorem sp_agrees_L {k i M : Nat} {W : Nat → Nat} {Q : Int32 → ac_hp → Prop} {E : ac_hp → Prop} (h : vr_R F ki ad s tl f) (hf : fok s u ct tb mk cl rc rw_ od tp vl) (hw : tok s W) (hk : k < ct) (hi : i < rc k) (hM : M < 64)
    (hy : agr mk vl k i M W → E f) (hn : ¬ agr mk vl k i M W → Q 0 f) : ∀ (d v : Nat), d + v = 6 → (∀ j, j < v → (mk k).testBit j = true → M.testBit j = true → W j % 10000 = vl k i j) → wp_X8_agrees_L3 ki (ad 21) (nI k) (ad (30 + 3 * tb k)) (nI (rw_ k i)) (nI M) Q E (d + 1) (nI v) f := by
  have hct := hf.1
  obtain ⟨g1, g2, g3, g4, g5, g6, g7, g8, g9, g10⟩ := hf.2.2.2.2.2 k hk
  obtain ⟨r1, r2, r3⟩ := g10 i hi
  intro d
  induction d with
  | zero =>
    intro v hv hq
    rw [wp_X8_agrees_L3]
    have : v = 6 := by omega
    subst this
    exact ⟨fun _ => hy (fun j hj => hq j hj), fun z => absurd (show (6 : Int32) ≤ nI 6 by decide) z⟩
  | succ d ih =>
    intro v hv hq
    rw [wp_X8_agrees_L3]
    have hv6 : v < 6 := by omega
    have next : ((mk k).testBit v = true → M.testBit v = true → W v % 10000 = vl k i v) → ∀ x : Int32, x = nI v + 1 → wp_X8_agrees_L3 ki (ad 21) (nI k) (ad (30 + 3 * tb k)) (nI (rw_ k i)) (nI M) Q E (d + 1) x f := fun hz x hx => by
      rw [hx, nI_1]
      refine ih (v + 1) (by omega) (fun j hj => ?_)
      by_cases e : j = v
      · subst e; exact hz
      · exact hq j (by omega)
    refine ⟨fun z => absurd z (by rw [show (6 : Int32) = nI 6 from rfl]; exact nI_ge hv6 (by omega)), fun _ => ?_⟩
    refine ⟨_, rd_f (i := 21) h (by omega) rfl rfl, _, rd_i (i := 24) (j := k * 6 + v) h (by omega) rfl (by rw [show (6 : Int32) = nI 6 from rfl, pk_mul, nI_add]) (by omega) (by omega), ?_⟩
    cases hb : (mk k).testBit v with
    | false =>
      rw [(g9 v hv6).2 hb]
      exact ⟨fun _ => next (fun z => by rw [hb] at z; cases z), fun z => absurd rfl z⟩
    | true =>
      obtain ⟨c1, c2⟩ := (g9 v hv6).1 hb
      rw [c2]
      refine ⟨fun z => absurd z (neg1_n _ c1), fun _ => ?_⟩
      unfold wp_X0_has
      refine ⟨fun hz => ⟨fun _ => next (fun _ z => by rw [(bt_has M hM v hv6).mp hz] at z; cases z), fun z => absurd rfl z⟩, fun hz => ⟨fun z => absurd z ne10, fun _ => ?_⟩⟩
      have hMb : M.testBit v = true := by
        cases hq : M.testBit v with
        | true => rfl
        | false => exact absurd ((bt_has M hM v hv6).mpr hq) hz
      refine ⟨_, rd_f (i := 21) h (by omega) rfl rfl, _, rd_i (i := 29) h (by omega) rfl rfl hv6 (by omega), rd_o h (by omega) (lay_T g1), sp_cell h g1 (by omega) ?_⟩
      have w1 := (hw v hv6).1
      obtain ⟨v1, v2⟩ := r3 v hv6 hb
      rw [(hw v hv6).2, v2, show (10000 : Int32) = nI 10000 from rfl, pk_rem (by omega) (by omega) (by omega)]
      refine ⟨fun he => next (fun _ _ => (nI_eq (by omega) (by omega)).mp he), fun hne => hn (fun z => hne ?_)⟩
      rw [z v hv6 hb hMb]
theorem sp_agrees {k i M : Nat} {W : Nat → Nat} {Q : Int32 → ac_hp → Prop} (h : vr_R F ki ad s tl f) (hf : fok s u ct tb mk cl rc rw_ od tp vl) (hw : tok s W) (hk : k < ct) (hi : i < rc k) (hM : M < 64)
    (hy : agr mk vl k i M W → Q 1 f) (hn : ¬ agr mk vl k i M W → Q 0 f) : wp_X8_agrees ki (ad 21) (nI k) (ad (30 + 3 * tb k)) (nI (rw_ k i)) (nI M) f Q := by
  unfold wp_X8_agrees
  exact ⟨7, sp_agrees_L h hf hw hk hi hM hy hn 6 0 (by omega) (fun j hj => absurd hj (by omega))⟩
theorem sp_setv_L {k i : Nat} {W : Nat → Nat} {E : ac_hp → Prop} (hf : fok s u ct tb mk cl rc rw_ od tp vl) (hk : k < ct) (hi : i < rc k)
    (hE : ∀ w f', (∀ v, v < 6 → w v = nI (setv mk tp vl k i W v)) → vr_R F ki ad (va_up s 29 w) tl f' → E f') : ∀ (d v : Nat) (w : Nat → Int32) (f : ac_hp), d + v = 6 → (∀ j, j < v → w j = nI (setv mk tp vl k i W j)) → (∀ j, v ≤ j → j < 6 → w j = nI (W j)) → vr_R F ki ad (va_up s 29 w) tl f → wp_X8_settleVariables_L3 ki (ad 21) (nI k) (ad (30 + 3 * tb k)) (nI (rw_ k i)) E (d + 1) (nI v) f := by
  have hct := hf.1
  obtain ⟨g1, g2, g3, g4, g5, g6, g7, g8, g9, g10⟩ := hf.2.2.2.2.2 k hk
  obtain ⟨r1, r2, r3⟩ := g10 i hi
  intro d
  induction d with
  | zero =>
    intro v w f hv q1 q2 h
    rw [wp_X8_settleVariables_L3]
    have : v = 6 := by omega
    subst this
    exact ⟨fun _ => hE w f q1 h, fun z => absurd (show (6 : Int32) ≤ nI 6 by decide) z⟩
  | succ d ih =>
    intro v w f hv q1 q2 h
    rw [wp_X8_settleVariables_L3]
    have hv6 : v < 6 := by omega
    refine ⟨fun z => absurd z (by rw [show (6 : Int32) = nI 6 from rfl]; exact nI_ge hv6 (by omega)), fun _ => ?_⟩
    refine ⟨_, rd_f (i := 21) h (by omega) rfl rfl, _, rd_i (i := 24) (j := k * 6 + v) h (by omega) rfl (by rw [show (6 : Int32) = nI 6 from rfl, pk_mul, nI_add]) (by omega) (by omega), ?_⟩
    rw [va_up_ne _ _ (show (24 : Nat) ≠ 29 by omega)]
    cases hb : (mk k).testBit v with
    | false =>
      rw [(g9 v hv6).2 hb]
      refine ⟨fun _ => ?_, fun z => absurd rfl z⟩
      intro x hx
      rw [hx, nI_1]
      refine ih (v + 1) w f (by omega) (fun j hj => ?_) (fun j h1 h2 => q2 j (by omega) h2) h
      by_cases e : j = v
      · subst e; rw [q2 j (Nat.le_refl j) hv6]; simp [setv, hb]
      · exact q1 j (by omega)
    | true =>
      obtain ⟨c1, c2⟩ := (g9 v hv6).1 hb
      rw [c2]
      refine ⟨fun z => absurd z (neg1_n _ c1), fun _ => ?_⟩
      obtain ⟨v1, v2⟩ := r3 v hv6 hb
      have t1 := hf.2.2.2.2.1 v hv6
      refine ⟨_, rd_f (i := 21) h (by omega) rfl rfl, _, rd_f (i := 21) h (by omega) rfl rfl, _, rd_i (i := 28) h (by omega) rfl rfl hv6 (by omega), rd_o h (by omega) (lay_T g1), sp_cell h g1 (by omega) ?_⟩
      rw [va_up_ne _ _ (show (28 : Nat) ≠ 29 by omega), va_up_ne _ _ (show 31 + 3 * tb k ≠ 29 by omega), t1.2, v2, show (10000 : Int32) = nI 10000 from rfl, pk_mul, nI_add]
      refine wr_i (i := 29) h (by omega) (fun s' => rfl) rfl hv6 (by omega) (fun f9 h9 => ?_)
      rw [va_up_self, bx_uu] at h9
      intro x hx
      rw [hx, nI_1]
      refine ih (v + 1) _ f9 (by omega) (fun j hj => ?_) (fun j h1 h2 => ?_) h9
      · by_cases e : j = v
        · subst e; simp [upd, setv, hb]
        · simp only [upd, if_neg e]; exact q1 j (by omega)
      · simp only [upd, if_neg (show ¬ j = v by omega)]; exact q2 j (by omega) h2
theorem sp_setv {k i : Nat} {W : Nat → Nat} {Q : ac_hp → Prop} (h : vr_R F ki ad s tl f) (hf : fok s u ct tb mk cl rc rw_ od tp vl) (hw : tok s W) (hk : k < ct) (hi : i < rc k)
    (hq : ∀ w f', (∀ v, v < 6 → w v = nI (setv mk tp vl k i W v)) → vr_R F ki ad (va_up s 29 w) tl f' → Q f') : wp_X8_settleVariables ki (ad 21) (nI k) (ad (30 + 3 * tb k)) (nI (rw_ k i)) f Q := by
  unfold wp_X8_settleVariables
  refine ⟨7, sp_setv_L hf hk hi hq 6 0 (s 29) f (by omega) (fun j hj => absurd hj (by omega)) (fun j _ h2 => (hw j h2).2) (R_eq h ?_)⟩
  funext j
  by_cases e : j = 29
  · subst e; rw [va_up_self]
  · rw [va_up_ne _ _ e]
theorem sp_ftable {k : Nat} {Q : Nat → ac_hp → Prop} (h : vr_R F ki ad s tl f) (hf : fok s u ct tb mk cl rc rw_ od tp vl) (hk : k < ct) (hq : Q (ad (30 + 3 * tb k)) f) : wp_X8_tableOf ki (ad 21) (nI k) f Q := by
  have hct := hf.1
  have hu := hf.2.1
  obtain ⟨g1, g2, g3, g4, g5, g6, g7, ⟨a, m, a1, a2, a3, a4, a5⟩, g9, g10⟩ := hf.2.2.2.2.2 k hk
  unfold wp_X8_tableOf
  refine ⟨_, rd_f (i := 21) h (by omega) rfl rfl, _, rd_f (i := 21) h (by omega) rfl rfl, _, rd_f (i := 21) h (by omega) rfl rfl, _, rd_i (i := 22) h (by omega) rfl rfl (show k < 4 by omega) (by omega), rd_o (i := 10) h (by omega) rfl, ?_⟩
  rw [hf.2.2.1, a2]
  exact sp_tableOf5 h (by omega) a3 a4 g1 a5 hq
end VR15
