/-! triples -/
section VR39
variable {F : ac_hp} {ki : Nat → ClassId} {ad : Nat → Nat} {s : Nat → Nat → Int32} {tl : Nat → Int64} {f : ac_hp}
variable {mc : Nat} {mt : Nat → Nat} {ml : Nat → Nat → Nat} {sz : Nat → Nat}
theorem ctI_next {i : Nat} {tl : Nat → Int64} {n : Nat} (h : ctI s mt ml sz i (sz (mt i)) tl n) (hs : sz (mt i) ≤ 20) : ctI s mt ml sz (i + 1) 0 tl n := by
  obtain ⟨h1, h2, h3⟩ := h
  refine ⟨by omega, h2, fun x => (h3 x).trans ⟨fun ⟨j, q, z1, z2⟩ => ⟨j, q, ?_, z2⟩, fun ⟨j, q, z1, z2⟩ => ⟨j, q, ?_, z2⟩⟩⟩
  · rcases z1 with z | ⟨z, y⟩
    · exact Or.inl ⟨by omega, z.2⟩
    · subst z; exact Or.inl ⟨by omega, y⟩
  · rcases z1 with ⟨z, y⟩ | z
    · by_cases e : j = i
      · subst e; exact Or.inr ⟨rfl, y⟩
      · exact Or.inl ⟨by omega, y⟩
    · omega
theorem sp_triples {Q : Int32 → ac_hp → Prop} (h : vr_R F ki ad s tl f) (hmc : mc ≤ 12) (h13 : s 1 3 = nI mc) (hm : ∀ j, j < mc → vm_ok s j (mt j) (ml j)) (hsz : ∀ k, k < 4 → sz k ≤ 20 ∧ s (30 + 3 * k) 2 = nI (sz k))
    (hq : ∀ (tl' : Nat → Int64) (n : Nat) (f' : ac_hp), n ≤ 240 → ctI s mt ml sz mc 0 tl' n → vr_R F ki ad (va_up s 1 (upd (s 1) 4 (nI n))) tl' f' → Q (nI n) f') : wp_X0_triples ki (ad 0) f Q := by
  unfold wp_X0_triples wp_X1_countTriples
  refine ⟨_, rd_f (i := 0) h (by omega) rfl rfl, rd_o (i := 1) h (by omega) rfl, wr_1_4 h (fun f1 h1 => ⟨mc + 1, ?_⟩)⟩
  have key : ∀ (d i : Nat) (tl : Nat → Int64) (n : Nat) (f : ac_hp), d + i = mc → ctI s mt ml sz i 0 tl n → vr_R F ki ad (va_up s 1 (upd (s 1) 4 (nI n))) tl f → wp_X1_countTriples_L7 ki (ad 1) (fun f18 => ∃ v19 : Int32, hr_f f18 (ad 1) 1 4 (.int v19) ∧ Q v19 f18) (d + 1) (nI i) f := by
    intro d
    induction d with
    | zero =>
      intro i tl n f hi hI h
      rw [wp_X1_countTriples_L7]
      have : i = mc := by omega
      subst this
      refine ⟨_, rd_f (i := 1) h (by omega) rfl rfl, ?_⟩
      rw [va_up_self, show upd (s 1) 4 (nI n) 3 = s 1 3 by simp [upd], h13]
      refine ⟨fun _ => ⟨_, rd_f (i := 1) h (by omega) rfl rfl, ?_⟩, fun z => absurd (nI_le (Nat.le_refl _) (by omega)) z⟩
      rw [va_up_self, show upd (s 1) 4 (nI n) 4 = nI n by simp [upd]]
      exact hq tl n f (by have := hI.1; omega) hI h
    | succ d ih =>
      intro i tl n f hi hI h
      rw [wp_X1_countTriples_L7]
      have himc : i < mc := by omega
      obtain ⟨m1, m2, m3, m4⟩ := hm i himc
      refine ⟨_, rd_f (i := 1) h (by omega) rfl rfl, ?_⟩
      rw [va_up_self, show upd (s 1) 4 (nI n) 3 = s 1 3 by simp [upd], h13]
      refine ⟨fun z => absurd z (nI_ge himc (by omega)), fun _ => ⟨_, rd_f (i := 1) h (by omega) rfl rfl, _, rd_map h (by omega), rd_o (i := 1) h (by omega) rfl, sp_tableOf1 h m1 m2 (by rw [va_up_ne _ _ (by omega)]; exact m3) ⟨_, rd_f h (by omega) (lay_T m2) rfl, sz (mt i) + 1, ?_⟩⟩⟩
      rw [va_up_ne _ _ (by omega), (hsz _ m2).2]
      refine sp_ct31 himc hmc hm hsz (fun tl' n' f' hI' h' y hy => ?_) (sz (mt i)) 0 tl n f (by omega) hI h
      rw [hy, nI_1]
      exact ih (i + 1) tl' n' f' (by omega) (ctI_next hI' (hsz _ m2).1) h'
  refine key mc 0 tl 0 f1 (by omega) ⟨by omega, fun a b _ hb => absurd hb (by omega), fun x => ⟨fun ⟨a, ha, _⟩ => absurd ha (by omega), fun ⟨j, q, z, _⟩ => by omega⟩⟩ h1
end VR39
