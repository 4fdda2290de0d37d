/-! FINDER: layOut -/
def AO (s' : Nat → Nat → Int32) (g : Nat → Nat) (a : Nat) : Prop := ∀ k, (∃ b, b < a ∧ g b = k) → ∃ b, b < a ∧ g b = k ∧ s' 22 k = nI b
/-- the union's atoms, with their slots g, mappings m, tables t, columns c, templates tm -/
def lc (s : Nat → Nat → Int32) (u n : Nat) (g m t : Nat → Nat) (c tm : Nat → Nat → Nat) : Prop :=
  u < 150 ∧ n ≤ 4 ∧ s 5 4 = nI n ∧ s 21 12 = nI u ∧ ∀ a, a < n → g a < 4 ∧ s 15 a = nI (g a) ∧ s 11 (u * 4 + a) = nI (m a) ∧ vm_ok s (m a) (t a) (c a) ∧ vs_pl s a ∧ ∀ p, p < 2 → tm a p < 6 ∧ s (43 + 3 * m a) p = nI (tm a p)
theorem LI_22 {s s' : Nat → Nat → Int32} {g : Nat → Nat} {c tm : Nat → Nat → Nat} {a p : Nat} {MK : Nat → Nat} {CL : Nat → Nat → Nat} {TP : Nat → Nat} {w : Nat → Int32} (h : LI s s' g c tm a p MK CL TP) : LI s (va_up s' 22 w) g c tm a p MK CL TP := by
  obtain ⟨h1, h2, h3, h4⟩ := h
  refine ⟨fun j y1 y2 y3 y4 y5 => by rw [va_up_ne _ _ y1]; exact h1 j y1 y2 y3 y4 y5, fun v hv => by rw [va_up_ne _ _ (by omega)]; exact h2 v hv, fun k hk => ?_, fun v hv => by rw [va_up_ne _ _ (by omega)]; exact h4 v hv⟩
  rw [va_up_ne _ _ (by omega), va_up_ne _ _ (by omega)]
  exact h3 k hk
theorem AO_next {s' : Nat → Nat → Int32} {g : Nat → Nat} {a : Nat} (h : AO s' g a) : AO (va_up s' 22 (upd (s' 22) (g a) (nI a))) g (a + 1) := by
  rintro k ⟨b, hb, e⟩
  rw [va_up_self]
  by_cases ek : k = g a
  · exact ⟨a, by omega, ek.symm, by simp [upd, ek]⟩
  · have : b ≠ a := fun z => ek (by rw [← e, z])
    obtain ⟨b', z1, z2, z3⟩ := h k ⟨b, by omega, e⟩
    exact ⟨b', by omega, z2, by simp only [upd, if_neg ek]; exact z3⟩
section VR24
variable {F : ac_hp} {ki : Nat → ClassId} {ad : Nat → Nat} {s : Nat → Nat → Int32} {tl : Nat → Int64} {f : ac_hp}
variable {u n : Nat} {g m t : Nat → Nat} {c tm : Nat → Nat → Nat}
theorem fill_up {i : Nat} {v : Int32} : va_up s i (fill (s i) 0 v) = s := by
  funext j
  by_cases e : j = i
  · subst e; rw [va_up_self, fill_0]
  · rw [va_up_ne _ _ e]
theorem fill_st {i k : Nat} {v : Int32} : va_up (va_up s i (fill (s i) k v)) i (upd (va_up s i (fill (s i) k v) i) k v) = va_up s i (fill (s i) (k + 1) v) := by
  rw [va_up_self, bx_uu, fill_s]
theorem sp_lo2 {E : ac_hp → Prop} (hE : ∀ f', vr_R F ki ad (va_up s 29 (fill (s 29) 6 0)) tl f' → E f') : ∀ (d v : Nat) (f : ac_hp), d + v = 6 → vr_R F ki ad (va_up s 29 (fill (s 29) v 0)) tl f → wp_X8_layOut_L2 ki (ad 21) E (d + 1) (nI v) f := by
  intro d
  induction d with
  | zero =>
    intro v f hv h
    rw [wp_X8_layOut_L2]
    have : v = 6 := by omega
    subst this
    exact ⟨fun _ => hE f h, fun z => absurd (show (6 : Int32) ≤ nI 6 by decide) z⟩
  | succ d ih =>
    intro v f hv h
    rw [wp_X8_layOut_L2]
    refine ⟨fun z => absurd z (by rw [show (6 : Int32) = nI 6 from rfl]; exact nI_ge (by omega) (by omega)), fun _ => ⟨_, rd_f (i := 21) h (by omega) rfl rfl, ?_⟩⟩
    refine wr_i (i := 29) (j := v) h (by omega) (fun s' => rfl) rfl (by omega) (by omega) (fun f1 h1 x hx => ?_)
    rw [hx, nI_1]
    exact ih (v + 1) f1 (by omega) (R_eq h1 fill_st)
theorem sp_lo23 {E : ac_hp → Prop} (hE : ∀ f', vr_R F ki ad (va_up s 24 (fill (s 24) 24 (-1))) tl f' → E f') : ∀ (d v : Nat) (f : ac_hp), d + v = 24 → vr_R F ki ad (va_up s 24 (fill (s 24) v (-1))) tl f → wp_X8_layOut_L23 ki (ad 21) E (d + 1) (nI v) f := by
  intro d
  induction d with
  | zero =>
    intro v f hv h
    rw [wp_X8_layOut_L23]
    have : v = 24 := by omega
    subst this
    exact ⟨fun _ => hE f h, fun z => absurd (show (24 : Int32) ≤ nI 24 by decide) z⟩
  | succ d ih =>
    intro v f hv h
    rw [wp_X8_layOut_L23]
    refine ⟨fun z => absurd z (by rw [show (24 : Int32) = nI 24 from rfl]; exact nI_ge (by omega) (by omega)), fun _ => ⟨_, rd_f (i := 21) h (by omega) rfl rfl, ?_⟩⟩
    refine wr_i (i := 24) (j := v) h (by omega) (fun s' => rfl) rfl (by omega) (by omega) (fun f1 h1 x hx => ?_)
    rw [hx, nI_1]
    exact ih (v + 1) f1 (by omega) (R_eq h1 fill_st)
theorem sp_lo44 {E : ac_hp → Prop} (hE : ∀ f', vr_R F ki ad (va_up s 23 (fill (s 23) 4 0)) tl f' → E f') : ∀ (d v : Nat) (f : ac_hp), d + v = 4 → vr_R F ki ad (va_up s 23 (fill (s 23) v 0)) tl f → wp_X8_layOut_L44 ki (ad 21) E (d + 1) (nI v) f := by
  intro d
  induction d with
  | zero =>
    intro v f hv h
    rw [wp_X8_layOut_L44]
    have : v = 4 := by omega
    subst this
    exact ⟨fun _ => hE f h, fun z => absurd (show (4 : Int32) ≤ nI 4 by decide) z⟩
  | succ d ih =>
    intro v f hv h
    rw [wp_X8_layOut_L44]
    refine ⟨fun z => absurd z (by rw [show (4 : Int32) = nI 4 from rfl]; exact nI_ge (by omega) (by omega)), fun _ => ⟨_, rd_f (i := 21) h (by omega) rfl rfl, ?_⟩⟩
    refine wr_i (i := 23) (j := v) h (by omega) (fun s' => rfl) rfl (by omega) (by omega) (fun f1 h1 x hx => ?_)
    rw [hx, nI_1]
    exact ih (v + 1) f1 (by omega) (R_eq h1 fill_st)
theorem sp_lo92 {a : Nat} {E : ac_hp → Prop} (hc : lc s u n g m t c tm) (ha : a < n)
    (hE : ∀ (s' : Nat → Nat → Int32) (MK : Nat → Nat) (CL : Nat → Nat → Nat) (TP : Nat → Nat) (f' : ac_hp), LI s s' g c tm (a + 1) 0 MK CL TP → AO s' g (a + 1) → vr_R F ki ad s' tl f' → E f') :
    ∀ (d p : Nat) (s' : Nat → Nat → Int32) (MK : Nat → Nat) (CL : Nat → Nat → Nat) (TP : Nat → Nat) (f : ac_hp), d + p = 2 → LI s s' g c tm a p MK CL TP → AO s' g (a + 1) → vr_R F ki ad s' tl f → wp_X8_layOut_L92 ki (ad 21) (nI a) E (d + 1) (nI p) f := by
  obtain ⟨hu, hn4, c5, c21, hat⟩ := hc
  obtain ⟨l1, l2, l3, ⟨m1, m2, m3, m4⟩, l5, l6⟩ := hat a ha
  intro d
  induction d with
  | zero =>
    intro p s' MK CL TP f hp hL hA h
    rw [wp_X8_layOut_L92]
    have : p = 2 := by omega
    subst this
    exact ⟨fun _ => hE s' MK CL TP f (LI_iff hL (fun _ _ _ _ => ppl_next.symm)) hA h, fun z => absurd (show (2 : Int32) ≤ nI 2 by decide) z⟩
  | succ d ih =>
    intro p s' MK CL TP f hp hL hA h
    rw [wp_X8_layOut_L92]
    have hp2 : p < 2 := by omega
    have e := hL.1
    refine ⟨fun z => absurd z (by rw [show (2 : Int32) = nI 2 from rfl]; exact nI_ge hp2 (by omega)), fun _ => ⟨_, rd_f (i := 21) h (by omega) rfl rfl, rd_o (i := 5) h (by omega) rfl, sp_told h (by omega) ?_⟩⟩
    rw [e 7 (by omega) (by omega) (by omega) (by omega) (by omega)]
    rcases pl_cases (l5 p hp2) with ⟨x, hx⟩ | ⟨v, hv⟩
    · have hx0 : 0 ≤ s 7 (a * 2 + p) := by rw [hx.2]; exact nI_pos' (by have := hx.1; omega)
      refine pb_isV (fun _ => ⟨fun _ y hy => ?_, fun z => absurd rfl z⟩) (fun z => absurd hx0 z)
      rw [hy, nI_1]
      refine ih (p + 1) s' MK CL TP f (by omega) (LI_iff hL (fun _ _ _ _ => ppl_skip (fun w hw => ?_))) hA h
      exact absurd hx0 (by rw [hw.2]; exact (var_of w hw.1).2)
    · have hneg : ¬ 0 ≤ s 7 (a * 2 + p) := by rw [hv.2]; exact (var_of v hv.1).2
      obtain ⟨k1, k2, -⟩ := hL.2.2.1 (g a) l1
      refine pb_isV (fun z => absurd z hneg) (fun _ => ⟨fun z => absurd z ne10, fun _ => ⟨rd_o (i := 21) h (by omega) rfl, ?_⟩⟩)
      refine sp_layVar (v := v) (k := g a) (m := m a) (M := MK (g a)) (T := tm a p) (C := c a p) h (by omega) hp2 (by rw [e 7 (by omega) (by omega) (by omega) (by omega) (by omega)]; exact hv) l1 (by rw [e 15 (by omega) (by omega) (by omega) (by omega) (by omega)]; exact l2) hu (by rw [e 21 (by omega) (by omega) (by omega) (by omega) (by omega)]; exact c21) (by rw [e 11 (by omega) (by omega) (by omega) (by omega) (by omega)]; exact l3) m1 k1 k2 (by rw [e _ (by omega) (by omega) (by omega) (by omega) (by omega)]; exact (l6 p hp2).2) (by rw [e _ (by omega) (by omega) (by omega) (by omega) (by omega)]; exact (m4 p hp2).2) (fun f1 h1 y hy => ?_)
      rw [hy, nI_1]
      refine ih (p + 1) _ _ _ _ f1 (by omega) (LI_var hL hp2 l1 hv (m4 p hp2).1 (l6 p hp2).1) (fun k hk => ?_) h1
      obtain ⟨b, z1, z2, z3⟩ := hA k hk
      exact ⟨b, z1, z2, by simp (disch := omega) only [va_up_ne]; exact z3⟩
theorem sp_lo64 {E : ac_hp → Prop} (hc : lc s u n g m t c tm)
    (hE : ∀ (s' : Nat → Nat → Int32) (MK : Nat → Nat) (CL : Nat → Nat → Nat) (TP : Nat → Nat) (f' : ac_hp), LI s s' g c tm n 0 MK CL TP → AO s' g n → vr_R F ki ad s' tl f' → E f') :
    ∀ (d a : Nat) (s' : Nat → Nat → Int32) (MK : Nat → Nat) (CL : Nat → Nat → Nat) (TP : Nat → Nat) (f : ac_hp), d + a = n → LI s s' g c tm a 0 MK CL TP → AO s' g a → vr_R F ki ad s' tl f → wp_X8_layOut_L64 ki (ad 21) E (d + 1) (nI a) f := by
  obtain ⟨hu, hn4, c5, c21, hat⟩ := id hc
  intro d
  induction d with
  | zero =>
    intro a s' MK CL TP f ha hL hA h
    rw [wp_X8_layOut_L64]
    have : a = n := by omega
    subst this
    refine ⟨_, rd_f (i := 21) h (by omega) rfl rfl, _, rd_f (i := 5) h (by omega) rfl rfl, ?_⟩
    rw [hL.1 5 (by omega) (by omega) (by omega) (by omega) (by omega), c5]
    exact ⟨fun _ => hE s' MK CL TP f hL hA h, fun z => absurd (nI_le (Nat.le_refl a) (by omega)) z⟩
  | succ d ih =>
    intro a s' MK CL TP f ha hL hA h
    rw [wp_X8_layOut_L64]
    have han : a < n := by omega
    obtain ⟨l1, l2, -, -, -, -⟩ := hat a han
    refine ⟨_, rd_f (i := 21) h (by omega) rfl rfl, _, rd_f (i := 5) h (by omega) rfl rfl, ?_⟩
    rw [hL.1 5 (by omega) (by omega) (by omega) (by omega) (by omega), c5]
    refine ⟨fun z => absurd z (nI_ge han (by omega)), fun _ => ?_⟩
    refine ⟨_, rd_f (i := 21) h (by omega) rfl rfl, _, rd_f (i := 21) h (by omega) rfl rfl, _, rd_f (i := 14) h (by omega) rfl rfl, _, rd_i (i := 15) h (by omega) rfl rfl (show a < 4 by omega) (by omega), ?_⟩
    rw [hL.1 15 (by omega) (by omega) (by omega) (by omega) (by omega), l2]
    refine wr_i (i := 22) (j := g a) h (by omega) (fun s' => rfl) rfl (by omega) (by omega) (fun f1 h1 => ⟨3, ?_⟩)
    refine sp_lo92 hc han (fun s2 MK2 CL2 TP2 f2 hL2 hA2 h2 y hy => ?_) 2 0 _ MK CL TP f1 (by omega) (LI_22 hL) (AO_next hA) h1
    rw [hy, nI_1]
    exact ih (a + 1) s2 MK2 CL2 TP2 f2 (by omega) hL2 hA2 h2
theorem sp_layOut {TP0 : Nat → Nat} {Q : ac_hp → Prop} (h : vr_R F ki ad s tl f) (hc : lc s u n g m t c tm) (h28 : ∀ v, v < 6 → TP0 v < 6 ∧ s 28 v = nI (TP0 v))
    (hq : ∀ (s' : Nat → Nat → Int32) (MK : Nat → Nat) (CL : Nat → Nat → Nat) (TP : Nat → Nat) (f' : ac_hp), LI s s' g c tm n 0 MK CL TP → AO s' g n → vr_R F ki ad s' tl f' → Q f') : wp_X8_layOut ki (ad 21) f Q := by
  unfold wp_X8_layOut
  refine ⟨7, sp_lo2 (fun f1 h1 => ⟨25, sp_lo23 (fun f2 h2 => ⟨5, sp_lo44 (fun f3 h3 => ⟨n + 1, sp_lo64 hc hq n 0 _ (fun _ => 0) (fun _ _ => 0) TP0 f3 (by omega) ?_ (fun k hk => absurd hk (fun ⟨b, hb, _⟩ => absurd hb (by omega))) h3⟩) 4 0 f2 (by omega) (R_eq h2 fill_up.symm)⟩) 24 0 f1 (by omega) (R_eq h1 fill_up.symm)⟩) 6 0 f (by omega) (R_eq h fill_up.symm)⟩
  have np : ∀ k v b q, ¬ ppl s g 0 0 k v b q := fun k v b q z => by have := z.2.1; omega
  refine ⟨fun j y1 y2 y3 y4 y5 => by rw [va_up_ne _ _ y2, va_up_ne _ _ y3, va_up_ne _ _ y5], fun v hv => ?_, fun k hk => ⟨by dsimp only; omega, ?_, fun v hv => ⟨fun z => ?_, fun _ => ⟨?_, np k v⟩⟩⟩, fun v hv => ⟨(h28 v hv).1, ?_, Or.inr (fun k b q => np k v b q)⟩⟩
  · simp (disch := omega) only [va_up_self, va_up_ne]; simp [fill, hv]
  · simp (disch := omega) only [va_up_self, va_up_ne]; simp [fill, hk]; rfl
  · simp at z
  · simp (disch := omega) only [va_up_self, va_up_ne]; simp [fill, show k * 6 + v < 24 by omega]
  · simp (disch := omega) only [va_up_self, va_up_ne]; exact (h28 v hv).2
end VR24
