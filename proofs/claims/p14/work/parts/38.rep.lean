/-! ANSWERS: begin, found, value; FINDER: areAlike, isTold -/
section VR19
variable {F : ac_hp} {ki : Nat → ClassId} {ad : Nat → Nat} {s : Nat → Nat → Int32} {tl : Nat → Int64} {f : ac_hp}
theorem sp_begin {x : Int32} {Q : ac_hp → Prop} (h : vr_R F ki ad s tl f) (hq : ∀ f', vr_R F ki ad (va_up s 16 (upd (upd (upd (s 16) 4 0) 5 x) 6 0)) tl f' → Q f') : wp_X7_begin ki (ad 16) x f Q := by
  unfold wp_X7_begin
  refine wr_16_4 h (fun f1 h1 => wr_16_5 h1 (fun f2 h2 => wr_16_6 h2 (fun f3 h3 => hq f3 (R_eq h3 ?_))))
  simp only [va_up_self, bx_uu]
theorem sp_finders {n a : Nat} {o : Nat → Nat} {cd : Nat → Nat → Nat} {fd fs : Nat → Nat} {Q : Int32 → ac_hp → Prop} (h : vr_R F ki ad s tl f) (ha : aok s n o cd fd fs) (hi : a < n) (hq : Q (nI (fd a)) f) : wp_X7_finders ki (ad 16) (nI a) f Q := by
  obtain ⟨h1, h2, h3, h4, h5, h6⟩ := ha
  unfold wp_X7_finders
  have ho := (h3 a hi).1
  refine ⟨_, rd_f (i := 16) h (by omega) rfl rfl, _, rd_f (i := 16) h (by omega) rfl rfl, _, rd_i (i := 18) h (by omega) rfl rfl (show a < 300 by omega) (by omega), _, rd_i (i := 19) (j := o a) h (by omega) rfl (h3 a hi).2 (by omega) (by omega), ?_⟩
  rw [(h5 a hi).2.1]; exact hq
theorem sp_firstFinder {n a : Nat} {o : Nat → Nat} {cd : Nat → Nat → Nat} {fd fs : Nat → Nat} {Q : Int32 → ac_hp → Prop} (h : vr_R F ki ad s tl f) (ha : aok s n o cd fd fs) (hi : a < n) (hq : Q (nI (fs a)) f) : wp_X7_firstFinder ki (ad 16) (nI a) f Q := by
  obtain ⟨h1, h2, h3, h4, h5, h6⟩ := ha
  unfold wp_X7_firstFinder
  have ho := (h3 a hi).1
  refine ⟨_, rd_f (i := 16) h (by omega) rfl rfl, _, rd_f (i := 16) h (by omega) rfl rfl, _, rd_i (i := 18) h (by omega) rfl rfl (show a < 300 by omega) (by omega), _, rd_i (i := 20) (j := o a) h (by omega) rfl (h3 a hi).2 (by omega) (by omega), ?_⟩
  rw [(h5 a hi).2.2]; exact hq
theorem sp_found {n : Nat} {o : Nat → Nat} {cd : Nat → Nat → Nat} {fd fs : Nat → Nat} {x y : Int32} {Q : Int32 → ac_hp → Prop} (h : vr_R F ki ad s tl f) (ha : aok s n o cd fd fs)
    (hB : ¬ ((∃ a, a < n ∧ x = nI a) ∧ ∃ b, b < 2 ∧ y = nI b) → Q (-1) f) (h0 : ∀ a, a < n → x = nI a → y = 0 → Q (nI (fd a)) f) (h1 : ∀ a, a < n → x = nI a → y = 1 → Q (nI (fs a)) f) : wp_X0_found ki (ad 0) x y f Q := by
  have hn := ha.1
  unfold wp_X0_found
  refine ⟨_, rd_f (i := 0) h (by omega) rfl rfl, _, rd_f (i := 16) h (by omega) rfl rfl, ?_⟩
  rw [ha.2.1]
  refine pb_below n rfl (by omega) (fun a hl e1 => ⟨fun z => absurd z ne10, fun _ => ?_⟩) (fun hno => ⟨fun _ => hB (fun q => hno q.1), fun z => absurd rfl z⟩)
  refine pb_below 2 rfl (by omega) (fun b hb e2 => ⟨fun _ => ?_, fun z => absurd z ne10⟩) (fun hno => ⟨fun z => absurd rfl z, fun _ => hB (fun q => hno q.2)⟩)
  have h01 : b = 0 ∨ b = 1 := by omega
  rcases h01 with e | e
  · subst e
    refine ⟨fun z => absurd e2 z, fun _ => ⟨_, rd_f (i := 0) h (by omega) rfl rfl, rd_o (i := 16) h (by omega) rfl, ?_⟩⟩
    subst e1
    exact sp_finders h ha hl (h0 a hl rfl e2)
  · subst e
    refine ⟨fun _ => ⟨_, rd_f (i := 0) h (by omega) rfl rfl, rd_o (i := 16) h (by omega) rfl, ?_⟩, fun z => absurd (e2.symm.trans z) ne10⟩
    subst e1
    exact sp_firstFinder h ha hl (h1 a hl rfl e2)
/-- value, where it does not throw: the last question's variables are those of VM -/
theorem sp_value {n VM : Nat} {o : Nat → Nat} {cd : Nat → Nat → Nat} {fd fs : Nat → Nat} {x y : Int32} {Q : Int32 → ac_hp → Prop} (h : vr_R F ki ad s tl f) (ha : aok s n o cd fd fs) (hV : VM < 64) (h5 : s 16 5 = nI VM)
    (hB : ¬ ((∃ a, a < n ∧ x = nI a) ∧ ∃ b, b < 6 ∧ y = nI b) → Q (-1) f) (hno : ∀ a b, a < n → x = nI a → b < 6 → y = nI b → VM.testBit b = true)
    (h0 : ∀ a b, a < n → x = nI a → b < 6 → y = nI b → VM.testBit b = true → Q (nI (cd a b)) f) : wp_X0_value ki (ad 0) x y f Q := by
  have hn := ha.1
  unfold wp_X0_value
  refine ⟨_, rd_f (i := 0) h (by omega) rfl rfl, _, rd_f (i := 16) h (by omega) rfl rfl, ?_⟩
  rw [ha.2.1]
  refine pb_below n rfl (by omega) (fun a hl e1 => ⟨fun z => absurd z ne10, fun _ => ?_⟩) (fun hno => ⟨fun _ => hB (fun q => hno q.1), fun z => absurd rfl z⟩)
  refine pb_below 6 rfl (by omega) (fun b hb e2 => ⟨fun _ => ?_, fun z => absurd z ne10⟩) (fun hno => ⟨fun z => absurd rfl z, fun _ => hB (fun q => hno q.2)⟩)
  have hbit := hno a b hl e1 hb e2
  refine ⟨_, rd_f (i := 0) h (by omega) rfl rfl, _, rd_f (i := 16) h (by omega) rfl rfl, ?_⟩
  rw [h5]
  subst e1
  subst e2
  unfold wp_X0_has
  refine ⟨fun hz => ?_, fun _ => ⟨fun _ => ⟨_, rd_f (i := 0) h (by omega) rfl rfl, rd_o (i := 16) h (by omega) rfl, sp_code h ha hl hb (h0 a b hl rfl hb rfl hbit)⟩, fun z => absurd z ne10⟩⟩
  rw [(bt_has VM hV b hb).mp hz] at hbit
  cases hbit
/-- a union's slots as they are laid out, before their rows are gathered -/
def lok (s : Nat → Nat → Int32) (u ct : Nat) (tb mk : Nat → Nat) (cl : Nat → Nat → Nat) (tp : Nat → Nat) : Prop :=
  ct ≤ 4 ∧ u < 150 ∧ s 21 12 = nI u ∧ s 14 4 = nI ct ∧ (∀ v, v < 6 → tp v < 6 ∧ s 28 v = nI (tp v)) ∧
  (∀ k, k < ct → tb k < 4 ∧ mk k < 64 ∧ s 23 k = nI (mk k) ∧
    (∃ a m, a < 4 ∧ s 22 k = nI a ∧ m < 12 ∧ s 11 (u * 4 + a) = nI m ∧ s (42 + 3 * m) 2 = nI (tb k)) ∧
    (∀ v, v < 6 → (((mk k).testBit v = true → cl k v < 3 ∧ s 24 (k * 6 + v) = nI (cl k v)) ∧ ((mk k).testBit v = false → s 24 (k * 6 + v) = (-1)))))
/-- rows a, b of slot k's table are alike in all that is asked -/
def alk (s : Nat → Nat → Int32) (tb mk : Nat → Nat) (cl : Nat → Nat → Nat) (k a b : Nat) : Prop := ∀ v, v < 6 → (mk k).testBit v = true → s (31 + 3 * tb k) (a * 3 + cl k v) = s (31 + 3 * tb k) (b * 3 + cl k v)
variable {u ct : Nat} {tb mk : Nat → Nat} {cl : Nat → Nat → Nat} {tp : Nat → Nat}
theorem sp_alike_L {k a b : Nat} {Q : Int32 → ac_hp → Prop} {E : ac_hp → Prop} (h : vr_R F ki ad s tl f) (hf : lok s u ct tb mk cl tp) (hk : k < ct) (ha : a < 20) (hb : b < 20)
    (hy : alk s tb mk cl k a b → E f) (hn : ¬ alk s tb mk cl k a b → Q 0 f) : ∀ (d v : Nat), d + v = 6 → (∀ j, j < v → (mk k).testBit j = true → s (31 + 3 * tb k) (a * 3 + cl k j) = s (31 + 3 * tb k) (b * 3 + cl k j)) → wp_X8_areAlike_L3 ki (ad 21) (nI k) (ad (30 + 3 * tb k)) (nI a) (nI b) Q E (d + 1) (nI v) f := by
  have hct := hf.1
  obtain ⟨g1, g2, g3, g8, g9⟩ := hf.2.2.2.2.2 k hk
  intro d
  induction d with
  | zero =>
    intro v hv hq
    rw [wp_X8_areAlike_L3]
    have : v = 6 := by omega
    subst this
    exact ⟨fun _ => hy (fun j hj => hq j hj), fun z => absurd (show (6 : Int32) ≤ nI 6 by decide) z⟩
  | succ d ih =>
    intro v hv hq
    rw [wp_X8_areAlike_L3]
    have hv6 : v < 6 := by omega
    have next : ((mk k).testBit v = true → s (31 + 3 * tb k) (a * 3 + cl k v) = s (31 + 3 * tb k) (b * 3 + cl k v)) → ∀ x : Int32, x = nI v + 1 → wp_X8_areAlike_L3 ki (ad 21) (nI k) (ad (30 + 3 * tb k)) (nI a) (nI b) Q E (d + 1) x f := fun hz x hx => by
      rw [hx, nI_1]
      refine ih (v + 1) (by omega) (fun j hj => ?_)
      by_cases e : j = v
      · subst e; exact hz
      · exact hq j (by omega)
    refine ⟨fun z => absurd z (by rw [show (6 : Int32) = nI 6 from rfl]; exact nI_ge hv6 (by omega)), fun _ => ?_⟩
    refine ⟨_, rd_f (i := 21) h (by omega) rfl rfl, _, rd_i (i := 24) (j := k * 6 + v) h (by omega) rfl (by rw [show (6 : Int32) = nI 6 from rfl, pk_mul, nI_add]) (by omega) (by omega), ?_⟩
    cases hbt : (mk k).testBit v with
    | false =>
      rw [(g9 v hv6).2 hbt]
      exact ⟨fun _ => next (fun z => by rw [hbt] at z; cases z), fun z => absurd rfl z⟩
    | true =>
      obtain ⟨c1, c2⟩ := (g9 v hv6).1 hbt
      rw [c2]
      refine ⟨fun z => absurd z (neg1_n _ c1), fun _ => ⟨rd_o h (by omega) (lay_T g1), sp_cell h g1 (by omega) ⟨rd_o h (by omega) (lay_T g1), sp_cell h g1 (by omega) ?_⟩⟩⟩
      exact ⟨fun he => next (fun _ => he), fun hne => hn (fun z => hne (z v hv6 hbt))⟩
theorem sp_alike {k a b : Nat} {Q : Int32 → ac_hp → Prop} (h : vr_R F ki ad s tl f) (hf : lok s u ct tb mk cl tp) (hk : k < ct) (ha : a < 20) (hb : b < 20)
    (hy : alk s tb mk cl k a b → Q 1 f) (hn : ¬ alk s tb mk cl k a b → Q 0 f) : wp_X8_areAlike ki (ad 21) (nI k) (ad (30 + 3 * tb k)) (nI a) (nI b) f Q :=
  ⟨7, sp_alike_L h hf hk ha hb hy hn 6 0 (by omega) (fun j hj => absurd hj (by omega))⟩
theorem sp_isTold_L {k r c : Nat} {rw_ : Nat → Nat} {Q : Int32 → ac_hp → Prop} {E : ac_hp → Prop} (h : vr_R F ki ad s tl f) (hf : lok s u ct tb mk cl tp) (hk : k < ct) (hr : r < 20) (hc : c ≤ 20) (hw : ∀ i, i < c → rw_ i < 20 ∧ s 25 (k * 20 + i) = nI (rw_ i))
    (hy : (∃ i, i < c ∧ alk s tb mk cl k r (rw_ i)) → Q 1 f) (hn : (∀ i, i < c → ¬ alk s tb mk cl k r (rw_ i)) → E f) : ∀ (d i : Nat), d + i = c → (∀ j, j < i → ¬ alk s tb mk cl k r (rw_ j)) → wp_X8_isTold_L3 ki (ad 21) (nI k) (ad (30 + 3 * tb k)) (nI r) (nI c) Q E (d + 1) (nI i) f := by
  have hct := hf.1
  intro d
  induction d with
  | zero =>
    intro i hi hq
    rw [wp_X8_isTold_L3]
    have : i = c := by omega
    subst this
    exact ⟨fun _ => hn hq, fun z => absurd (nI_le (Nat.le_refl i) (by omega)) z⟩
  | succ d ih =>
    intro i hi hq
    rw [wp_X8_isTold_L3]
    have hic : i < c := by omega
    refine ⟨fun z => absurd z (nI_ge hic (by omega)), fun _ => ?_⟩
    refine ⟨_, rd_f (i := 21) h (by omega) rfl rfl, _, rd_i (i := 25) (j := k * 20 + i) h (by omega) rfl (by rw [show (20 : Int32) = nI 20 from rfl, pk_mul, nI_add]) (by omega) (by omega), rd_o (i := 21) h (by omega) rfl, ?_⟩
    rw [(hw i hic).2]
    refine sp_alike h hf hk hr (hw i hic).1 (fun z => ⟨fun y => absurd y ne10, fun _ => hy ⟨i, hic, z⟩⟩) (fun z => ⟨fun _ => ?_, fun y => absurd rfl y⟩)
    intro x hx
    rw [hx, nI_1]
    refine ih (i + 1) (by omega) (fun j hj => ?_)
    by_cases e : j = i
    · subst e; exact z
    · exact hq j (by omega)
theorem sp_isTold {k r c : Nat} {rw_ : Nat → Nat} {Q : Int32 → ac_hp → Prop} (h : vr_R F ki ad s tl f) (hf : lok s u ct tb mk cl tp) (hk : k < ct) (hr : r < 20) (hc : c ≤ 20) (hw : ∀ i, i < c → rw_ i < 20 ∧ s 25 (k * 20 + i) = nI (rw_ i))
    (hy : (∃ i, i < c ∧ alk s tb mk cl k r (rw_ i)) → Q 1 f) (hn : (∀ i, i < c → ¬ alk s tb mk cl k r (rw_ i)) → Q 0 f) : wp_X8_isTold ki (ad 21) (nI k) (ad (30 + 3 * tb k)) (nI r) (nI c) f Q :=
  ⟨c + 1, sp_isTold_L h hf hk hr hc hw hy hn c 0 (by omega) (fun j hj => absurd hj (by omega))⟩
end VR19
