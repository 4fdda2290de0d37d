/-! FINDER: orderSlots: some order of the slots -/
def prm (ct : Nat) (od : Nat → Nat) : Prop := (∀ i, i < ct → od i < ct) ∧ (∀ i j, i < ct → j < ct → od i = od j → i = j) ∧ ∀ k, k < ct → ∃ d, d < ct ∧ od d = k
theorem prm_swap {ct i b : Nat} {od : Nat → Nat} (h : prm ct od) (hi : i < ct) (hb : b < ct) : prm ct (fun k => if k = i then od b else if k = b then od i else od k) := by
  obtain ⟨h1, h2, hsu⟩ := h
  have hA : ∀ k, k < ct → ∃ k', k' < ct ∧ (if k = i then od b else if k = b then od i else od k) = od k' ∧ (k' = if k = i then b else if k = b then i else k) := fun k hk => by
    by_cases e1 : k = i
    · exact ⟨b, hb, by simp only [if_pos e1], by simp only [if_pos e1]⟩
    · by_cases e2 : k = b
      · exact ⟨i, hi, by simp only [if_neg e1, if_pos e2], by simp only [if_neg e1, if_pos e2]⟩
      · exact ⟨k, hk, by simp only [if_neg e1, if_neg e2], by simp only [if_neg e1, if_neg e2]⟩
  refine ⟨fun k hk => ?_, fun k l hk hl he => ?_, fun k hk => ?_⟩
  · obtain ⟨k', z1, z2, -⟩ := hA k hk
    simp only [z2]; exact h1 k' z1
  · obtain ⟨k', z1, z2, z3⟩ := hA k hk
    obtain ⟨l', y1, y2, y3⟩ := hA l hl
    simp only [z2, y2] at he
    have := h2 k' l' z1 y1 he
    rw [z3, y3] at this
    clear he z2 y2 z3 y3 hA h1 h2 hsu
    split at this <;> (try split at this) <;> (try split at this) <;> (try split at this) <;> omega
  · obtain ⟨d, hd, e⟩ := hsu k hk
    by_cases e1 : d = i
    · refine ⟨b, hb, ?_⟩
      by_cases e2 : b = i
      · simp only [if_pos e2]; rw [e2, ← e1]; exact e
      · simp only [if_neg e2, if_true]; rw [← e1]; exact e
    · by_cases e2 : d = b
      · exact ⟨i, hi, by simp only [if_true]; rw [← e2]; exact e⟩
      · exact ⟨d, hd, by simp only [if_neg e1, if_neg e2]; exact e⟩
section VR22
variable {F : ac_hp} {ki : Nat → ClassId} {ad : Nat → Nat} {s : Nat → Nat → Int32} {tl : Nat → Int64} {f : ac_hp}
theorem sp_better {a b : Nat} {M : Int32} {Q : Int32 → ac_hp → Prop} (h : vr_R F ki ad s tl f) (ha : a < 4) (hb : b < 4) (hq : ∀ x, Q x f) : wp_X8_isBetter ki (ad 21) (nI a) (nI b) M f Q := by
  unfold wp_X8_isBetter wp_JInteger_bitCount
  refine ⟨_, rd_f (i := 21) h (by omega) rfl rfl, _, rd_i (i := 23) h (by omega) rfl rfl ha (by omega), ?_⟩
  intro _ _ _ _ _ _ _ _ _ _
  refine ⟨_, rd_f (i := 21) h (by omega) rfl rfl, _, rd_i (i := 23) h (by omega) rfl rfl hb (by omega), ?_⟩
  intro _ _ _ _ _ _ _ _ _ _
  refine ⟨fun _ => ⟨_, rd_f (i := 21) h (by omega) rfl rfl, _, rd_i (i := 26) h (by omega) rfl rfl ha (by omega), _, rd_f (i := 21) h (by omega) rfl rfl, _, rd_i (i := 26) h (by omega) rfl rfl hb (by omega), ?_⟩, fun _ => ⟨fun _ => hq _, fun _ => hq _⟩⟩
  exact ⟨fun _ => hq _, fun _ => hq _⟩
theorem sp_order48 {ct : Nat} {od : Nat → Nat} {M : Int32} {x2 : Int32} {E : Int32 → ac_hp → Prop} (h : vr_R F ki ad s tl f) (hc : s 14 4 = nI ct) (hct : ct ≤ 4) (hp : prm ct od) (ho : ∀ i, i < ct → s 27 i = nI (od i)) (hE : ∀ b, b < ct → E (nI b) f) :
    ∀ (d j b : Nat), d + j = ct → b < ct → wp_X8_orderSlots_L48 ki (ad 21) M x2 E (d + 1) (nI b) (nI j) f := by
  intro d
  induction d with
  | zero =>
    intro j b hj hb
    rw [wp_X8_orderSlots_L48]
    have : j = ct := by omega
    subst this
    refine ⟨_, rd_f (i := 21) h (by omega) rfl rfl, _, rd_f (i := 14) h (by omega) rfl rfl, ?_⟩
    rw [hc]
    exact ⟨fun _ => hE b hb, fun z => absurd (nI_le (Nat.le_refl j) (by omega)) z⟩
  | succ d ih =>
    intro j b hj hb
    rw [wp_X8_orderSlots_L48]
    have hjc : j < ct := by omega
    refine ⟨_, rd_f (i := 21) h (by omega) rfl rfl, _, rd_f (i := 14) h (by omega) rfl rfl, ?_⟩
    rw [hc]
    refine ⟨fun z => absurd z (nI_ge hjc (by omega)), fun _ => ?_⟩
    refine ⟨_, rd_f (i := 21) h (by omega) rfl rfl, _, rd_i (i := 27) h (by omega) rfl rfl (show j < 4 by omega) (by omega), _, rd_f (i := 21) h (by omega) rfl rfl, _, rd_i (i := 27) h (by omega) rfl rfl (show b < 4 by omega) (by omega), rd_o (i := 21) h (by omega) rfl, ?_⟩
    rw [ho j hjc, ho b hb]
    have z1 := hp.1 j hjc
    have z2 := hp.1 b hb
    refine sp_better h (by omega) (by omega) (fun x => ⟨fun _ y hy => ?_, fun _ y hy => ?_⟩)
    · rw [hy, nI_1]; exact ih (j + 1) b (by omega) hb
    · rw [hy, nI_1]; exact ih (j + 1) j (by omega) hjc
theorem sp_order30 {ct : Nat} {E : ac_hp → Prop} (hc : s 14 4 = nI ct) (hct : ct ≤ 4)
    (hE : ∀ (od : Nat → Nat) (w : Nat → Int32) (f' : ac_hp), prm ct od → (∀ i, i < ct → w i = nI (od i)) → vr_R F ki ad (va_up s 27 w) tl f' → E f') :
    ∀ (d i : Nat) (M : Int32) (od : Nat → Nat) (w : Nat → Int32) (f : ac_hp), d + i = ct → prm ct od → (∀ i, i < ct → w i = nI (od i)) → vr_R F ki ad (va_up s 27 w) tl f → wp_X8_orderSlots_L30 ki (ad 21) E (d + 1) M (nI i) f := by
  intro d
  induction d with
  | zero =>
    intro i M od w f hi hp hw h
    rw [wp_X8_orderSlots_L30]
    have : i = ct := by omega
    subst this
    refine ⟨_, rd_f (i := 21) h (by omega) rfl rfl, _, rd_f (i := 14) h (by omega) rfl rfl, ?_⟩
    rw [va_up_ne _ _ (by omega), hc]
    exact ⟨fun _ => hE od w f hp hw h, fun z => absurd (nI_le (Nat.le_refl i) (by omega)) z⟩
  | succ d ih =>
    intro i M od w f hi hp hw h
    rw [wp_X8_orderSlots_L30]
    have hic : i < ct := by omega
    refine ⟨_, rd_f (i := 21) h (by omega) rfl rfl, _, rd_f (i := 14) h (by omega) rfl rfl, ?_⟩
    rw [va_up_ne _ _ (by omega), hc]
    refine ⟨fun z => absurd z (nI_ge hic (by omega)), fun _ x hx => ?_⟩
    rw [hx, nI_1]
    refine ⟨d + 1, sp_order48 (ct := ct) (od := od) h (by rw [va_up_ne _ _ (by omega)]; exact hc) hct hp (fun j hj => by rw [va_up_self]; exact hw j hj) (fun b hb => ?_) d (i + 1) i (by omega) hic⟩
    have z1 := hp.1 b hb
    refine ⟨_, rd_f (i := 21) h (by omega) rfl rfl, _, rd_i (i := 27) h (by omega) rfl rfl (show b < 4 by omega) (by omega), _, rd_f (i := 21) h (by omega) rfl rfl, _, rd_f (i := 21) h (by omega) rfl rfl, _, rd_i (i := 27) h (by omega) rfl rfl (show i < 4 by omega) (by omega), ?_⟩
    rw [va_up_self, hw b hb, hw i hic]
    refine wr_i (i := 27) (j := b) h (by omega) (fun s' => rfl) rfl (by omega) (by omega) (fun f1 h1 => ⟨_, rd_f (i := 21) h1 (by omega) rfl rfl, wr_i (i := 27) (j := i) h1 (by omega) (fun s' => rfl) rfl (by omega) (by omega) (fun f2 h2 => ?_)⟩)
    refine ⟨_, rd_f (i := 21) h2 (by omega) rfl rfl, _, rd_i (i := 23) h2 (by omega) rfl rfl (show od b < 4 by omega) (by omega), ?_⟩
    intro y hy z hz
    rw [hz]
    refine ih (i + 1) y (fun k => if k = i then od b else if k = b then od i else od k) (upd (upd w b (nI (od i))) i (nI (od b))) f2 (by omega) (prm_swap hp hic hb) (fun k hk => ?_) (R_eq h2 ?_)
    · by_cases e1 : k = i
      · simp [upd, e1]
      · by_cases e2 : k = b
        · simp only [upd, if_neg e1, if_pos e2]
        · simp only [upd, if_neg e1, if_neg e2]; exact hw k hk
    · simp only [va_up_self, bx_uu]
theorem sp_order2 {ct : Nat} {E : ac_hp → Prop} (hc : s 14 4 = nI ct) (hct : ct ≤ 4) (hE : ∀ (w : Nat → Int32) (f' : ac_hp), (∀ i, i < ct → w i = nI i) → vr_R F ki ad (va_up s 27 w) tl f' → E f') :
    ∀ (d i : Nat) (w : Nat → Int32) (f : ac_hp), d + i = ct → (∀ j, j < i → w j = nI j) → vr_R F ki ad (va_up s 27 w) tl f → wp_X8_orderSlots_L2 ki (ad 21) E (d + 1) (nI i) f := by
  intro d
  induction d with
  | zero =>
    intro i w f hi hw h
    rw [wp_X8_orderSlots_L2]
    have : i = ct := by omega
    subst this
    refine ⟨_, rd_f (i := 21) h (by omega) rfl rfl, _, rd_f (i := 14) h (by omega) rfl rfl, ?_⟩
    rw [va_up_ne _ _ (by omega), hc]
    exact ⟨fun _ => hE w f hw h, fun z => absurd (nI_le (Nat.le_refl i) (by omega)) z⟩
  | succ d ih =>
    intro i w f hi hw h
    rw [wp_X8_orderSlots_L2]
    have hic : i < ct := by omega
    refine ⟨_, rd_f (i := 21) h (by omega) rfl rfl, _, rd_f (i := 14) h (by omega) rfl rfl, ?_⟩
    rw [va_up_ne _ _ (by omega), hc]
    refine ⟨fun z => absurd z (nI_ge hic (by omega)), fun _ => ⟨_, rd_f (i := 21) h (by omega) rfl rfl, ?_⟩⟩
    refine wr_i (i := 27) (j := i) h (by omega) (fun s' => rfl) rfl (by omega) (by omega) (fun f1 h1 x hx => ?_)
    rw [hx, nI_1]
    refine ih (i + 1) (upd w i (nI i)) f1 (by omega) (fun j hj => ?_) (R_eq h1 ?_)
    · by_cases e : j = i
      · subst e; simp [upd]
      · simp only [upd, if_neg e]; exact hw j (by omega)
    · simp only [va_up_self, bx_uu]
theorem sp_order {ct : Nat} {Q : ac_hp → Prop} (h : vr_R F ki ad s tl f) (hc : s 14 4 = nI ct) (hct : ct ≤ 4)
    (hq : ∀ (od : Nat → Nat) (w : Nat → Int32) (f' : ac_hp), prm ct od → (∀ i, i < ct → w i = nI (od i)) → vr_R F ki ad (va_up s 27 w) tl f' → Q f') : wp_X8_orderSlots ki (ad 21) f Q := by
  unfold wp_X8_orderSlots
  refine ⟨ct + 1, sp_order2 hc hct (fun w f' hw h' => ⟨ct + 1, sp_order30 hc hct hq ct 0 0 (fun i => i) w f' (by omega) ⟨fun _ z => z, fun _ _ _ _ e => e, fun k hk => ⟨k, hk, rfl⟩⟩ hw h'⟩) ct 0 (s 27) f (by omega) (fun j hj => absurd hj (by omega)) (R_eq h ?_)⟩
  funext j
  by_cases e : j = 27
  · subst e; rw [va_up_self]
  · rw [va_up_ne _ _ e]
end VR22
