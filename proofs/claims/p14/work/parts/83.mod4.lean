/-! THE REFERENCE: drop, mapping, atom, span, clear -/
/-- what stands from lo on comes three nearer, up to k -/
def shf (g : Nat → Int32) (lo k : Nat) : Nat → Int32 := fun q => if lo ≤ q ∧ q < k then g (q + 3) else g q
def ms_drop (S : Nat → Nat → Int32) (t i n : Nat) : Nat → Nat → Int32 := va_up (va_up S 2 (upd (S 2) t (nI (n - 1)))) 1 (shf (S 1) (60 * t + 3 * i) (60 * t + 3 * (n - 1)))
def ms_map (S : Nat → Nat → Int32) (m : Nat) (x1 x2 x3 x4 x5 x6 : Int32) : Nat → Nat → Int32 := va_up (va_up (va_up (va_up (va_up S 4 (upd (S 4) m x1)) 5 (upd (S 5) m x2)) 6 (upd (upd (S 6) (2 * m) x3) (2 * m + 1) x5)) 7 (upd (upd (S 7) (2 * m) x4) (2 * m + 1) x6)) 0 (upd (S 0) 4 (nI (m + 1)))
def ms_atom (S : Nat → Nat → Int32) (n : Nat) (x1 x2 x3 : Int32) : Nat → Nat → Int32 := va_up (va_up (va_up S 8 (upd (S 8) n x1)) 9 (upd (upd (S 9) (2 * n) x2) (2 * n + 1) x3)) 0 (upd (S 0) 9 (nI (n + 1)))
def ms_span (S : Nat → Nat → Int32) (n : Nat) (x1 x2 x3 : Int32) : Nat → Nat → Int32 := va_up (va_up (va_up (va_up S 10 (upd (S 10) n x1)) 11 (upd (S 11) n x2)) 12 (upd (S 12) n x3)) 0 (upd (S 0) 12 (nI (n + 1)))
def ms_clear (S : Nat → Nat → Int32) : Nat → Nat → Int32 := va_up S 0 (upd (upd (S 0) 9 0) 12 0)
theorem shf_zero (g : Nat → Int32) (lo : Nat) : shf g lo lo = g := by
  funext q
  unfold shf
  rw [if_neg (by omega)]
theorem shf_succ (g : Nat → Int32) (lo k : Nat) (h : lo ≤ k) : upd (shf g lo k) k (shf g lo k (k + 3)) = shf g lo (k + 1) := by
  funext q
  unfold upd shf
  rw [if_neg (by omega : ¬ (lo ≤ k + 3 ∧ k + 3 < k))]
  by_cases h1 : q = k
  · rw [if_pos h1, if_pos (by omega), h1]
  · rw [if_neg h1]
    by_cases h2 : lo ≤ q ∧ q < k
    · rw [if_pos h2, if_pos (by omega)]
    · rw [if_neg h2, if_neg (by omega)]
section M4
variable {F : ac_hp} {ki : Nat → ClassId} {am : Nat → Nat} {s : Nat → Nat → Int32} {f : ac_hp}
theorem pm_2 {a : Nat} : (2 * nI a) = nI (2 * a) := by rw [show (2 : Int32) = nI 2 from rfl, pk_mul]
theorem pm_21 {a : Nat} : (2 * nI a) + 1 = nI (2 * a + 1) := by rw [pm_2, nI_1]
theorem sm_drop {x1 x2 : Int32} {Q : Int32 → ac_hp → Prop} (h : mr_R F ki am s f) (hsz : ∀ t, t < 4 → ∃ n, n ≤ 20 ∧ s 2 t = nI n)
    (hbad : (¬ ∃ t : Nat, t < 4 ∧ x1 = nI t) → ∀ f', mr_R F ki am (th0 s) f' → Q (-1) f')
    (hgo : ∀ t n : Nat, t < 4 → n ≤ 20 → x1 = nI t → s 2 t = nI n → ((¬ ∃ i : Nat, i < n ∧ x2 = nI i) → ∀ f', mr_R F ki am (th0 s) f' → Q (-1) f') ∧ ∀ i, i < n → x2 = nI i → ∀ f', mr_R F ki am (ms_drop (th0 s) t i n) f' → Q (nI (n - 1)) f') : wp_X9_drop ki (am 0) x1 x2 f Q := by
  unfold wp_X9_drop
  refine wm_0 h (fun f1 h => ?_)
  refine pm_in 4 (by omega) (by decide) (fun t ht e1 => ⟨fun z => absurd z ne10, fun _ => ?_⟩) (fun hn => ⟨fun _ => hbad hn f1 h, fun z => absurd rfl z⟩)
  obtain ⟨n, hn, hs⟩ := hsz t ht
  obtain ⟨g0, g1⟩ := hgo t n ht hn e1 hs
  subst e1
  have h : mr_R F ki am (th0 s) f1 := h
  have hs' : th0 s 2 t = nI n := by rw [th0, va_up_ne _ _ (by omega), hs]
  refine ⟨_, rm_f h rfl, _, rm_i (i := 2) (j := t) h (by omega) rfl rfl ht (by omega), ?_⟩
  rw [hs']
  refine pm_in n (by omega) ?_ (fun i hi e2 => ⟨fun _ => ?_, fun z => absurd z ne10⟩) (fun hno => ⟨fun z => absurd rfl z, fun _ => g0 hno f1 h⟩)
  · rcases Nat.eq_zero_or_pos n with z | z
    · rw [z]; decide
    · obtain ⟨m, rfl⟩ : ∃ m, n = m + 1 := ⟨n - 1, by omega⟩
      rw [nI_pred, nI_toInt (by omega)]
      omega
  · have g2 := g1 i hi e2
    subst e2
    obtain ⟨m, rfl⟩ : ∃ m, n = m + 1 := ⟨n - 1, by omega⟩
    refine ⟨_, rm_f h rfl, _, rm_i (i := 2) (j := t) h (by omega) rfl rfl ht (by omega), ?_⟩
    rw [hs', nI_pred]
    refine wm_i (i := 2) (j := t) h (by omega) (fun _ => rfl) rfl (by omega) (by omega) (fun f2 h2 => ?_)
    intro v11 e11
    rw [pm_60] at e11
    subst e11
    refine ⟨3 * (m - i) + 1, ?_⟩
    have key : ∀ (d k : Nat) (f : ac_hp), d + k = 60 * t + 3 * m → 60 * t + 3 * i ≤ k → mr_R F ki am (va_up (va_up (th0 s) 2 (upd (th0 s 2) t (nI m))) 1 (shf (th0 s 1) (60 * t + 3 * i) k)) f → wp_X9_drop_L51 ki (am 0) (nI t) (fun f20 => ∃ o21 : Nat, hr_f f20 (am 0) 9 2 (.ref o21) ∧ ∃ v22 : Int32, hr_i (ki 0) f20 o21 (nI t) v22 ∧ Q v22 f20) (d + 1) (nI k) f := by
      intro d
      induction d with
      | zero =>
        intro k f hk hlo hf
        have e : k = 60 * t + 3 * m := by omega
        subst e
        rw [wp_X9_drop_L51]
        have r2 := rm_i (i := 2) (j := t) (c := ki 0) (n := 4) (x := nI t) hf (by omega) rfl rfl ht (by omega)
        rw [va_up_ne _ _ (by omega), va_up_self, upd_self] at r2
        refine ⟨_, rm_f hf rfl, _, r2, ?_⟩
        rw [pm_60]
        refine ⟨fun _ => ⟨_, rm_f hf rfl, _, r2, ?_⟩, fun z => absurd (nI_le (Nat.le_refl _) (by omega)) z⟩
        exact g2 f hf
      | succ d ih =>
        intro k f hk hlo hf
        rw [wp_X9_drop_L51]
        have r2 := rm_i (i := 2) (j := t) (c := ki 0) (n := 4) (x := nI t) hf (by omega) rfl rfl ht (by omega)
        rw [va_up_ne _ _ (by omega), va_up_self, upd_self] at r2
        refine ⟨_, rm_f hf rfl, _, r2, ?_⟩
        rw [pm_60]
        refine ⟨fun z => absurd z (nI_ge (by omega) (by omega)), fun _ => ⟨_, rm_f hf rfl, _, rm_f hf rfl, _, rm_i (i := 1) (j := k + 3) hf (by omega) rfl (nI_add k 3) (by omega) (by omega), ?_⟩⟩
        refine wm_i (i := 1) (j := k) hf (by omega) (fun _ => rfl) rfl (by omega) (by omega) (fun f3 h3 => ?_)
        intro v18 e18
        rw [e18, nI_1]
        refine ih (k + 1) f3 (by omega) (by omega) ?_
        rw [va_up_self, bx_uu, shf_succ _ _ _ hlo] at h3
        exact h3
    refine key (3 * (m - i)) (60 * t + 3 * i) f2 (by omega) (Nat.le_refl _) ?_
    rw [shf_zero]
    refine mr_eq h2 ?_
    funext j
    by_cases hj : j = 1
    · rw [hj, va_up_self, va_up_ne _ _ (by omega)]
    · rw [va_up_ne _ _ hj]
theorem sm_mapping {x1 x2 x3 x4 x5 x6 : Int32} {m : Nat} {Q : Int32 → ac_hp → Prop} (h : mr_R F ki am s f) (hm : s 0 4 = nI m) (hm12 : m ≤ 12)
    (hbad : ¬ ((∃ t : Nat, t < 4 ∧ x1 = nI t) ∧ (∃ p : Nat, p < 8 ∧ x2 = nI p) ∧ (∃ a : Nat, a < 6 ∧ x3 = nI a) ∧ (∃ c : Nat, c < 3 ∧ x4 = nI c) ∧ (∃ a : Nat, a < 6 ∧ x5 = nI a) ∧ (∃ c : Nat, c < 3 ∧ x6 = nI c)) → ∀ f', mr_R F ki am (th0 s) f' → Q (-1) f')
    (hgo : (∃ t : Nat, t < 4 ∧ x1 = nI t) → (∃ p : Nat, p < 8 ∧ x2 = nI p) → (∃ a : Nat, a < 6 ∧ x3 = nI a) → (∃ c : Nat, c < 3 ∧ x4 = nI c) → (∃ a : Nat, a < 6 ∧ x5 = nI a) → (∃ c : Nat, c < 3 ∧ x6 = nI c) →
      (m = 12 → ∀ f', mr_R F ki am (th0 s) f' → Q (-2) f') ∧ (m < 12 → ∀ f', mr_R F ki am (ms_map (th0 s) m x1 x2 x3 x4 x5 x6) f' → Q (nI m) f')) : wp_X9_mapping ki (am 0) x1 x2 x3 x4 x5 x6 f Q := by
  unfold wp_X9_mapping
  refine wm_0 h (fun f1 h => ?_)
  refine pm_in 4 (by omega) (by decide) (fun t ht e1 => ⟨fun z => absurd z ne10, fun _ => ?_⟩) (fun hn => ⟨fun _ => hbad (fun q => hn q.1) f1 h, fun z => absurd rfl z⟩)
  refine pm_in 8 (by omega) (by decide) (fun p hp e2 => ⟨fun z => absurd z ne10, fun _ => ?_⟩) (fun hn => ⟨fun _ => hbad (fun q => hn q.2.1) f1 h, fun z => absurd rfl z⟩)
  refine pm_in 6 (by omega) (by decide) (fun a ha e3 => ⟨fun z => absurd z ne10, fun _ => ?_⟩) (fun hn => ⟨fun _ => hbad (fun q => hn q.2.2.1) f1 h, fun z => absurd rfl z⟩)
  refine pm_in 3 (by omega) (by decide) (fun c hc e4 => ⟨fun z => absurd z ne10, fun _ => ?_⟩) (fun hn => ⟨fun _ => hbad (fun q => hn q.2.2.2.1) f1 h, fun z => absurd rfl z⟩)
  refine pm_in 6 (by omega) (by decide) (fun b hb e5 => ⟨fun z => absurd z ne10, fun _ => ?_⟩) (fun hn => ⟨fun _ => hbad (fun q => hn q.2.2.2.2.1) f1 h, fun z => absurd rfl z⟩)
  refine pm_in 3 (by omega) (by decide) (fun d hd e6 => ⟨fun z => absurd z ne10, fun _ => ?_⟩) (fun hn => ⟨fun _ => hbad (fun q => hn q.2.2.2.2.2) f1 h, fun z => absurd rfl z⟩)
  obtain ⟨g0, g1⟩ := hgo ⟨t, ht, e1⟩ ⟨p, hp, e2⟩ ⟨a, ha, e3⟩ ⟨c, hc, e4⟩ ⟨b, hb, e5⟩ ⟨d, hd, e6⟩
  have h : mr_R F ki am (th0 s) f1 := h
  have hm' : th0 s 0 4 = nI m := by rw [th0, va_up_self, ← hm]; simp [upd]
  refine ⟨_, rm_f h rfl, ?_⟩
  rw [hm']
  refine ⟨fun hne => ?_, fun he => g0 ((nI_eq (b := 12) (by omega) (by omega)).mp he) f1 h⟩
  have hlt : m < 12 := by
    rcases Nat.lt_or_ge m 12 with z | z
    · exact z
    · exact absurd (by rw [show m = 12 by omega]; rfl) hne
  refine ⟨_, rm_f h rfl, _, rm_f h rfl, ?_⟩
  refine wm_i (i := 4) (j := m) h (by omega) (fun _ => rfl) hm' (by omega) (by omega) (fun f2 h2 => ⟨_, rm_f h2 rfl, _, rm_f h2 rfl, ?_⟩)
  simp (disch := omega) only [va_up_ne, va_up_self, hm'] at h2 ⊢
  refine wm_i (i := 5) (j := m) h2 (by omega) (fun _ => rfl) rfl (by omega) (by omega) (fun f3 h3 => ⟨_, rm_f h3 rfl, _, rm_f h3 rfl, ?_⟩)
  simp (disch := omega) only [va_up_ne, va_up_self, hm'] at h3 ⊢
  refine wm_i (i := 6) (j := 2 * m) h3 (by omega) (fun _ => rfl) pm_2 (by omega) (by omega) (fun f4 h4 => ⟨_, rm_f h4 rfl, _, rm_f h4 rfl, ?_⟩)
  simp (disch := omega) only [va_up_ne, va_up_self, hm'] at h4 ⊢
  refine wm_i (i := 6) (j := 2 * m + 1) h4 (by omega) (fun _ => rfl) pm_21 (by omega) (by omega) (fun f5 h5 => ⟨_, rm_f h5 rfl, _, rm_f h5 rfl, ?_⟩)
  simp (disch := omega) only [va_up_ne, va_up_self, hm', bx_uu] at h5 ⊢
  refine wm_i (i := 7) (j := 2 * m) h5 (by omega) (fun _ => rfl) pm_2 (by omega) (by omega) (fun f6 h6 => ⟨_, rm_f h6 rfl, _, rm_f h6 rfl, ?_⟩)
  simp (disch := omega) only [va_up_ne, va_up_self, hm'] at h6 ⊢
  refine wm_i (i := 7) (j := 2 * m + 1) h6 (by omega) (fun _ => rfl) pm_21 (by omega) (by omega) (fun f7 h7 => ⟨_, rm_f h7 rfl, ?_⟩)
  simp (disch := omega) only [va_up_ne, va_up_self, hm', bx_uu, nI_1] at h7 ⊢
  refine wm_4 h7 (fun f8 h8 => ⟨_, rm_f h8 rfl, ?_⟩)
  simp (disch := omega) only [va_up_ne, va_up_self, upd_self, nI_pred] at h8 ⊢
  exact g1 hlt f8 h8
theorem sm_atom {x1 x2 x3 : Int32} {n : Nat} {Q : Int32 → ac_hp → Prop} (h : mr_R F ki am s f) (hs : s 0 9 = nI n) (hn : n ≤ 4)
    (hbad : ¬ ((∃ p : Nat, p < 8 ∧ x1 = nI p) ∧ (¬ x2 < (-6) ∧ x2 < 60000) ∧ (¬ x3 < (-6) ∧ x3 < 60000)) → ∀ f', mr_R F ki am (th0 s) f' → Q (-1) f')
    (hgo : (∃ p : Nat, p < 8 ∧ x1 = nI p) → (¬ x2 < (-6) ∧ x2 < 60000) → (¬ x3 < (-6) ∧ x3 < 60000) → (n = 4 → ∀ f', mr_R F ki am (th0 s) f' → Q (-2) f') ∧ (n < 4 → ∀ f', mr_R F ki am (ms_atom (th0 s) n x1 x2 x3) f' → Q (nI (n + 1)) f')) : wp_X9_atom ki (am 0) x1 x2 x3 f Q := by
  unfold wp_X9_atom
  refine wm_0 h (fun f1 h => ?_)
  refine pm_in 8 (by omega) (by decide) (fun p hp e1 => ⟨fun z => absurd z ne10, fun _ => ?_⟩) (fun hn => ⟨fun _ => hbad (fun q => hn q.1) f1 h, fun z => absurd rfl z⟩)
  refine pm_place (fun p2 => ⟨fun z => absurd z ne10, fun _ => ?_⟩) (fun hn => ⟨fun _ => hbad (fun q => hn q.2.1) f1 h, fun z => absurd rfl z⟩)
  refine pm_place (fun p3 => ⟨fun _ => ?_, fun z => absurd z ne10⟩) (fun hn => ⟨fun z => absurd rfl z, fun _ => hbad (fun q => hn q.2.2) f1 h⟩)
  obtain ⟨g0, g1⟩ := hgo ⟨p, hp, e1⟩ p2 p3
  have h : mr_R F ki am (th0 s) f1 := h
  have hs' : th0 s 0 9 = nI n := by rw [th0, va_up_self, ← hs]; simp [upd]
  refine ⟨_, rm_f h rfl, ?_⟩
  rw [hs']
  refine ⟨fun hne => ?_, fun he => g0 ((nI_eq (b := 4) (by omega) (by omega)).mp he) f1 h⟩
  have hlt : n < 4 := by
    rcases Nat.lt_or_ge n 4 with z | z
    · exact z
    · exact absurd (by rw [show n = 4 by omega]; rfl) hne
  refine ⟨_, rm_f h rfl, _, rm_f h rfl, ?_⟩
  refine wm_i (i := 8) (j := n) h (by omega) (fun _ => rfl) hs' (by omega) (by omega) (fun f2 h2 => ⟨_, rm_f h2 rfl, _, rm_f h2 rfl, ?_⟩)
  simp (disch := omega) only [va_up_ne, va_up_self, hs'] at h2 ⊢
  refine wm_i (i := 9) (j := 2 * n) h2 (by omega) (fun _ => rfl) pm_2 (by omega) (by omega) (fun f3 h3 => ⟨_, rm_f h3 rfl, _, rm_f h3 rfl, ?_⟩)
  simp (disch := omega) only [va_up_ne, va_up_self, hs'] at h3 ⊢
  refine wm_i (i := 9) (j := 2 * n + 1) h3 (by omega) (fun _ => rfl) pm_21 (by omega) (by omega) (fun f4 h4 => ⟨_, rm_f h4 rfl, ?_⟩)
  simp (disch := omega) only [va_up_ne, va_up_self, hs', bx_uu, nI_1] at h4 ⊢
  refine wm_9 h4 (fun f5 h5 => ⟨_, rm_f h5 rfl, ?_⟩)
  simp (disch := omega) only [va_up_ne, va_up_self, upd_self] at h5 ⊢
  exact g1 hlt f5 h5
theorem sm_span {x1 x2 x3 : Int32} {n : Nat} {Q : Int32 → ac_hp → Prop} (h : mr_R F ki am s f) (hs : s 0 12 = nI n) (hn : n ≤ 4)
    (hbad : (¬ ∃ v : Nat, v < 6 ∧ x1 = nI v) → ∀ f', mr_R F ki am (th0 s) f' → Q (-1) f')
    (hgo : ∀ v : Nat, v < 6 → x1 = nI v → (n = 4 → ∀ f', mr_R F ki am (th0 s) f' → Q (-2) f') ∧ (n < 4 → ∀ f', mr_R F ki am (ms_span (th0 s) n x1 x2 x3) f' → Q (nI (n + 1)) f')) : wp_X9_span ki (am 0) x1 x2 x3 f Q := by
  unfold wp_X9_span
  refine wm_0 h (fun f1 h => ?_)
  refine pm_in 6 (by omega) (by decide) (fun v hv e1 => ⟨fun _ => ?_, fun z => absurd z ne10⟩) (fun hn => ⟨fun z => absurd rfl z, fun _ => hbad hn f1 h⟩)
  obtain ⟨g0, g1⟩ := hgo v hv e1
  have h : mr_R F ki am (th0 s) f1 := h
  have hs' : th0 s 0 12 = nI n := by rw [th0, va_up_self, ← hs]; simp [upd]
  refine ⟨_, rm_f h rfl, ?_⟩
  rw [hs']
  refine ⟨fun hne => ?_, fun he => g0 ((nI_eq (b := 4) (by omega) (by omega)).mp he) f1 h⟩
  have hlt : n < 4 := by
    rcases Nat.lt_or_ge n 4 with z | z
    · exact z
    · exact absurd (by rw [show n = 4 by omega]; rfl) hne
  refine ⟨_, rm_f h rfl, _, rm_f h rfl, ?_⟩
  refine wm_i (i := 10) (j := n) h (by omega) (fun _ => rfl) hs' (by omega) (by omega) (fun f2 h2 => ⟨_, rm_f h2 rfl, _, rm_f h2 rfl, ?_⟩)
  simp (disch := omega) only [va_up_ne, va_up_self, hs'] at h2 ⊢
  refine wm_i (i := 11) (j := n) h2 (by omega) (fun _ => rfl) rfl (by omega) (by omega) (fun f3 h3 => ⟨_, rm_f h3 rfl, _, rm_f h3 rfl, ?_⟩)
  simp (disch := omega) only [va_up_ne, va_up_self, hs'] at h3 ⊢
  refine wm_i (i := 12) (j := n) h3 (by omega) (fun _ => rfl) rfl (by omega) (by omega) (fun f4 h4 => ⟨_, rm_f h4 rfl, ?_⟩)
  simp (disch := omega) only [va_up_ne, va_up_self, hs', nI_1] at h4 ⊢
  refine wm_12 h4 (fun f5 h5 => ⟨_, rm_f h5 rfl, ?_⟩)
  simp (disch := omega) only [va_up_ne, va_up_self, upd_self] at h5 ⊢
  exact g1 hlt f5 h5
theorem sm_clear {n : Nat} {Q : Int32 → ac_hp → Prop} (h : mr_R F ki am s f) (hs : s 0 9 = nI n) (hq : ∀ f', mr_R F ki am (ms_clear (th0 s)) f' → Q (nI n) f') : wp_X9_clear ki (am 0) f Q := by
  unfold wp_X9_clear
  refine wm_0 h (fun f1 h => ?_)
  have h : mr_R F ki am (th0 s) f1 := h
  have hs' : th0 s 0 9 = nI n := by rw [th0, va_up_self, ← hs]; simp [upd]
  refine ⟨_, rm_f h rfl, wm_9 h (fun f2 h2 => wm_12 h2 (fun f3 h3 => ?_))⟩
  rw [hs']
  rw [va_up_self, bx_uu] at h3
  exact hq f3 h3
end M4
