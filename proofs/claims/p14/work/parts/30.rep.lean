/-! SLOTS: leastOfOneRow, assign, productOfRows -/
/-- union u: its mappings, their tables and columns -/
def uok (s : Nat → Nat → Int32) (u n : Nat) (m t : Nat → Nat) (c : Nat → Nat → Nat) : Prop := u < 150 ∧ ∀ a, a < n → s 11 (u * 4 + a) = nI (m a) ∧ vm_ok s (m a) (t a) (c a)
def one_ (s : Nat → Nat → Int32) (t : Nat → Nat) (c : Nat → Nat → Nat) (a b : Nat) : Prop := oneR s a b (t a) (t b) (c a) (c b)
/-- b is the least atom before a of one row with it, or a itself -/
def lst (one : Nat → Nat → Prop) (a b : Nat) : Prop := (b < a ∧ one b a ∧ ∀ q, q < b → ¬ one q a) ∨ (b = a ∧ ∀ q, q < a → ¬ one q a)
/-- the slots g of the first k atoms, ct of them -/
def SL (one : Nat → Nat → Prop) : Nat → (Nat → Nat) → Nat → Prop
  | 0, _, ct => ct = 0
  | k + 1, g, ct => ∃ ct0, SL one k g ct0 ∧ ((∃ b, b < k ∧ one b k ∧ (∀ q, q < b → ¬ one q k) ∧ g k = g b ∧ ct = ct0) ∨ ((∀ q, q < k → ¬ one q k) ∧ g k = ct0 ∧ ct = ct0 + 1))
theorem SL_le {one : Nat → Nat → Prop} : ∀ {k : Nat} {g : Nat → Nat} {ct : Nat}, SL one k g ct → ct ≤ k ∧ ∀ j, j < k → g j < ct := by
  intro k
  induction k with
  | zero => intro g ct h; exact ⟨by rw [show ct = 0 from h]; exact Nat.le_refl 0, fun j hj => absurd hj (by omega)⟩
  | succ k ih =>
    intro g ct h
    obtain ⟨ct0, h1, h2⟩ := h
    obtain ⟨i1, i2⟩ := ih h1
    rcases h2 with ⟨b, hb, -, -, e1, e2⟩ | ⟨-, e1, e2⟩
    · refine ⟨by omega, fun j hj => ?_⟩
      by_cases e : j = k
      · subst e; rw [e1, e2]; exact i2 b hb
      · rw [e2]; exact i2 j (by omega)
    · refine ⟨by omega, fun j hj => ?_⟩
      by_cases e : j = k
      · subst e; omega
      · have := i2 j (by omega); omega
theorem SL_congr {one one2 : Nat → Nat → Prop} : ∀ {k : Nat} {g g2 : Nat → Nat} {ct : Nat}, SL one k g ct → (∀ j, j < k → g2 j = g j) → (∀ a b, one a b ↔ one2 a b) → SL one2 k g2 ct := by
  intro k
  induction k with
  | zero => intro g g2 ct h _ _; exact h
  | succ k ih =>
    intro g g2 ct h hg ho
    obtain ⟨ct0, h1, h2⟩ := h
    refine ⟨ct0, ih h1 (fun j hj => hg j (by omega)) ho, ?_⟩
    rcases h2 with ⟨b, hb, z1, z2, e1, e2⟩ | ⟨z1, e1, e2⟩
    · exact Or.inl ⟨b, hb, (ho b k).mp z1, fun q hq z => z2 q hq ((ho q k).mpr z), by rw [hg k (by omega), hg b (by omega), e1], e2⟩
    · exact Or.inr ⟨fun q hq z => z1 q hq ((ho q k).mpr z), by rw [hg k (by omega), e1], e2⟩
section VR11
variable {F : ac_hp} {ki : Nat → ClassId} {ad : Nat → Nat} {s : Nat → Nat → Int32} {tl : Nat → Int64} {f : ac_hp}
theorem sp_least_L {u n a : Nat} {m t : Nat → Nat} {c : Nat → Nat → Nat} {Q : Int32 → ac_hp → Prop} {E : ac_hp → Prop} (h : vr_R F ki ad s tl f) (hu : uok s u n m t c) (hn : n ≤ 4) (ha : a < n)
    (hy : ∀ b, b < a → one_ s t c b a → (∀ q, q < b → ¬ one_ s t c q a) → Q (nI b) f) (hE : (∀ q, q < a → ¬ one_ s t c q a) → E f) : ∀ (d b : Nat), d + b = a → (∀ q, q < b → ¬ one_ s t c q a) → wp_X6_leastOfOneRow_L2 ki (ad 14) (nI u) (nI a) Q E (d + 1) (nI b) f := by
  intro d
  induction d with
  | zero =>
    intro b hb hq
    rw [wp_X6_leastOfOneRow_L2]
    have : b = a := by omega
    subst this
    exact ⟨fun _ => hE hq, fun z => absurd (nI_le (Nat.le_refl b) (by omega)) z⟩
  | succ d ih =>
    intro b hb hq
    rw [wp_X6_leastOfOneRow_L2]
    refine ⟨fun z => absurd z (nI_ge (by omega) (by omega)), fun _ => ⟨rd_o (i := 14) h (by omega) rfl, ?_⟩⟩
    refine sp_areOne h hu.1 (by omega) (by omega) (hu.2 b (by omega)).1 (hu.2 a ha).1 (hu.2 b (by omega)).2 (hu.2 a ha).2 (fun ho => ⟨fun z => absurd z ne10, fun _ => hy b (by omega) ho hq⟩) (fun ho => ⟨fun _ => ?_, fun z => absurd rfl z⟩)
    intro v hv
    rw [hv, nI_1]
    refine ih (b + 1) (by omega) (fun q hq1 => ?_)
    by_cases e : q = b
    · subst e; exact ho
    · exact hq q (by omega)
theorem sp_least {u n a : Nat} {m t : Nat → Nat} {c : Nat → Nat → Nat} {Q : Int32 → ac_hp → Prop} (h : vr_R F ki ad s tl f) (hu : uok s u n m t c) (hn : n ≤ 4) (ha : a < n)
    (hq : ∀ b, lst (one_ s t c) a b → Q (nI b) f) : wp_X6_leastOfOneRow ki (ad 14) (nI u) (nI a) f Q := by
  unfold wp_X6_leastOfOneRow
  exact ⟨a + 1, sp_least_L h hu hn ha (fun b hb ho hno => hq b (Or.inl ⟨hb, ho, hno⟩)) (fun hno => hq a (Or.inr ⟨rfl, hno⟩)) a 0 (by omega) (fun q hq => absurd hq (by omega))⟩
/-- cells 14 and 15 are nothing to a union's data -/
theorem uok_s {u n : Nat} {m t : Nat → Nat} {c : Nat → Nat → Nat} {s' : Nat → Nat → Int32} (hu : uok s u n m t c) (hs : ∀ i, i ≠ 14 → i ≠ 15 → s' i = s i) : uok s' u n m t c := by
  refine ⟨hu.1, fun a ha => ?_⟩
  obtain ⟨h1, h2, h3, h4, h5⟩ := hu.2 a ha
  exact ⟨by rw [hs 11 (by omega) (by omega)]; exact h1, h2, h3, by rw [hs _ (by omega) (by omega)]; exact h4, fun p hp => by rw [hs _ (by omega) (by omega)]; exact h5 p hp⟩
theorem one_s {t : Nat → Nat} {c : Nat → Nat → Nat} {s' : Nat → Nat → Int32} (hs : ∀ i, i ≠ 14 → i ≠ 15 → s' i = s i) (a b : Nat) : one_ s' t c a b ↔ one_ s t c a b := by
  unfold one_ oneR pr1
  rw [hs 7 (by omega) (by omega), hs (32 + 3 * t a) (by omega) (by omega)]
def vs_sl (s : Nat → Nat → Int32) (w : Nat → Int32) (ct : Nat) : Nat → Nat → Int32 := va_up (va_up s 15 w) 14 (upd (s 14) 4 (nI ct))
theorem vsl_o {w : Nat → Int32} {ct : Nat} : ∀ i, i ≠ 14 → i ≠ 15 → vs_sl s w ct i = s i := fun i h1 h2 => by
  unfold vs_sl; simp (disch := omega) only [va_up_ne]
theorem vsl_14 {w : Nat → Int32} {ct : Nat} : vs_sl s w ct 14 = upd (s 14) 4 (nI ct) := by unfold vs_sl; rw [va_up_self]
theorem vsl_15 {w : Nat → Int32} {ct : Nat} : vs_sl s w ct 15 = w := by unfold vs_sl; simp (disch := omega) only [va_up_self, va_up_ne]
theorem vsl_u15 {w w' : Nat → Int32} {ct : Nat} : va_up (vs_sl s w ct) 15 w' = vs_sl s w' ct := by
  funext i; unfold vs_sl
  by_cases h : i = 15
  · subst h; simp (disch := omega) only [va_up_self, va_up_ne]
  · by_cases h2 : i = 14
    · subst h2; simp (disch := omega) only [va_up_self, va_up_ne]
    · simp (disch := omega) only [va_up_self, va_up_ne]
theorem upd_uu {w : Nat → Int32} {k : Nat} {a b : Int32} : upd (upd w k a) k b = upd w k b := by
  funext j; simp only [upd]
  by_cases h : j = k
  · simp [h]
  · simp [h]
theorem vsl_u14 {w : Nat → Int32} {ct ct' : Nat} : va_up (vs_sl s w ct) 14 (upd (vs_sl s w ct 14) 4 (nI ct')) = vs_sl s w ct' := by
  rw [vsl_14, upd_uu]; unfold vs_sl; rw [bx_uu]
theorem sp_assign_L {u n : Nat} {m t : Nat → Nat} {c : Nat → Nat → Nat} {E : ac_hp → Prop} (hu : uok s u n m t c) (hn : n ≤ 4) (hs5 : s 5 4 = nI n)
    (hE : ∀ g ct w f', SL (one_ s t c) n g ct → (∀ j, j < n → w j = nI (g j)) → vr_R F ki ad (vs_sl s w ct) tl f' → E f') : ∀ (d a ct : Nat) (g : Nat → Nat) (w : Nat → Int32) (f : ac_hp), d + a = n → SL (one_ s t c) a g ct → (∀ j, j < a → w j = nI (g j)) → vr_R F ki ad (vs_sl s w ct) tl f → wp_X6_assign_L7 ki (ad 14) (nI u) E (d + 1) (nI a) f := by
  intro d
  induction d with
  | zero =>
    intro a ct g w f ha hsl hw h
    rw [wp_X6_assign_L7]
    refine ⟨_, rd_f (i := 14) h (by omega) rfl rfl, _, rd_f (i := 5) h (by omega) rfl rfl, ?_⟩
    rw [vsl_o 5 (by omega) (by omega), hs5]
    have : a = n := by omega
    subst this
    exact ⟨fun _ => hE g ct w f hsl hw h, fun z => absurd (nI_le (Nat.le_refl a) (by omega)) z⟩
  | succ d ih =>
    intro a ct g w f ha hsl hw h
    rw [wp_X6_assign_L7]
    refine ⟨_, rd_f (i := 14) h (by omega) rfl rfl, _, rd_f (i := 5) h (by omega) rfl rfl, ?_⟩
    rw [vsl_o 5 (by omega) (by omega), hs5]
    refine ⟨fun z => absurd z (nI_ge (by omega) (by omega)), fun _ => ⟨rd_o (i := 14) h (by omega) rfl, ?_⟩⟩
    have hle := SL_le hsl
    have e4 : vs_sl s w ct 14 4 = nI ct := by rw [vsl_14]; simp [upd]
    refine sp_least h (uok_s hu vsl_o) hn (by omega) (fun b hb => ?_)
    have hb : lst (one_ s t c) a b := by
      rcases hb with ⟨z1, z2, z3⟩ | ⟨z1, z2⟩
      · exact Or.inl ⟨z1, (one_s vsl_o b a).mp z2, fun q hq z => z3 q hq ((one_s vsl_o q a).mpr z)⟩
      · exact Or.inr ⟨z1, fun q hq z => z2 q hq ((one_s vsl_o q a).mpr z)⟩
    refine ⟨fun hge => ?_, fun hlt => ?_⟩
    · obtain ⟨rfl, hno⟩ : b = a ∧ ∀ q, q < a → ¬ one_ s t c q a := by
        rcases hb with ⟨z1, -, -⟩ | z
        · exact absurd hge (nI_ge z1 (by omega))
        · exact z
      refine ⟨_, rd_f (i := 14) h (by omega) rfl rfl, _, rd_f (i := 14) h (by omega) rfl rfl, ?_⟩
      rw [e4]
      refine wr_i (i := 15) h (by omega) (fun s' => rfl) rfl (show b < 4 by omega) (by omega) (fun f8 h8 => ?_)
      rw [vsl_15, vsl_u15] at h8
      refine ⟨_, rd_f (i := 14) h8 (by omega) rfl rfl, ?_⟩
      have e4' : vs_sl s (upd w b (nI ct)) ct 14 4 = nI ct := by rw [vsl_14]; simp [upd]
      rw [e4', nI_1]
      refine wr_14_4 h8 (fun f10 h10 => ?_)
      rw [vsl_u14] at h10
      intro v hv
      rw [hv, nI_1]
      refine ih (b + 1) (ct + 1) (fun j => if j = b then ct else g j) _ f10 (by omega) ⟨ct, SL_congr hsl (fun j hj => by simp [show ¬ j = b by omega]) (fun _ _ => Iff.rfl), Or.inr ⟨hno, by simp, rfl⟩⟩ (fun j hj => ?_) h10
      by_cases e : j = b
      · subst e; simp [upd]
      · simp only [upd, if_neg e]; exact hw j (by omega)
    · obtain ⟨hba, ho, hno⟩ : b < a ∧ one_ s t c b a ∧ ∀ q, q < b → ¬ one_ s t c q a := by
        rcases hb with z | ⟨z1, -⟩
        · exact z
        · exact absurd (nI_le (by omega) (by omega)) hlt
      refine ⟨_, rd_f (i := 14) h (by omega) rfl rfl, _, rd_f (i := 14) h (by omega) rfl rfl, _, rd_i (i := 15) h (by omega) rfl rfl (show b < 4 by omega) (by omega), ?_⟩
      rw [vsl_15, hw b hba]
      refine wr_i (i := 15) h (by omega) (fun s' => rfl) rfl (show a < 4 by omega) (by omega) (fun f15 h15 => ?_)
      rw [vsl_15, vsl_u15] at h15
      intro v hv
      rw [hv, nI_1]
      refine ih (a + 1) ct (fun j => if j = a then g b else g j) _ f15 (by omega) ⟨ct, SL_congr hsl (fun j hj => by simp [show ¬ j = a by omega]) (fun _ _ => Iff.rfl), Or.inl ⟨b, hba, ho, hno, by simp [show ¬ b = a by omega], rfl⟩⟩ (fun j hj => ?_) h15
      by_cases e : j = a
      · subst e; simp [upd]
      · simp only [upd, if_neg e]; exact hw j (by omega)
theorem sp_assign {u n : Nat} {m t : Nat → Nat} {c : Nat → Nat → Nat} {Q : ac_hp → Prop} (h : vr_R F ki ad s tl f) (hu : uok s u n m t c) (hn : n ≤ 4) (hs5 : s 5 4 = nI n)
    (hq : ∀ g ct w f', SL (one_ s t c) n g ct → (∀ j, j < n → w j = nI (g j)) → vr_R F ki ad (vs_sl s w ct) tl f' → Q f') : wp_X6_assign ki (ad 14) (nI u) f Q := by
  unfold wp_X6_assign
  refine wr_14_4 h (fun f1 h1 => ⟨n + 1, sp_assign_L hu hn hs5 hq n 0 0 (fun _ => 0) (s 15) f1 (by omega) rfl (fun j hj => absurd hj (by omega)) (R_eq h1 ?_)⟩)
  funext i; unfold vs_sl
  by_cases e : i = 14
  · subst e; simp (disch := omega) only [va_up_self, va_up_ne]; rfl
  · by_cases e2 : i = 15
    · subst e2; simp (disch := omega) only [va_up_self, va_up_ne]
    · simp (disch := omega) only [va_up_self, va_up_ne]
end VR11
