/-! THE REFERENCE'S METHODS, ONE BY ONE: thrown is set to 0 first (th0) -/
def th0 (s : Nat → Nat → Int32) : Nat → Nat → Int32 := va_up s 0 (upd (s 0) 0 0)
/-- how many of the first n rows of table t have v in column c -/
def mcnt (g : Nat → Int32) (t c : Nat) (v : Int32) : Nat → Nat
  | 0 => 0
  | n + 1 => mcnt g t c v n + if g (60 * t + 3 * n + c) = v then 1 else 0
theorem mcnt_le (g : Nat → Int32) (t c : Nat) (v : Int32) (n : Nat) : mcnt g t c v n ≤ n := by
  induction n with
  | zero => exact Nat.le_refl 0
  | succ n ih => rw [mcnt]; split <;> omega
section M2
variable {F : ac_hp} {ki : Nat → ClassId} {am : Nat → Nat} {s : Nat → Nat → Int32} {f : ac_hp}
theorem pm_lin {t i c : Nat} : ((60 * nI t) + (3 * nI i)) + nI c = nI (60 * t + 3 * i + c) := by
  rw [show (60 : Int32) = nI 60 from rfl, show (3 : Int32) = nI 3 from rfl, pk_mul, pk_mul, nI_add, nI_add]
theorem pm_3 {t c : Nat} : (3 * nI t) + nI c = nI (3 * t + c) := by
  rw [show (3 : Int32) = nI 3 from rfl, pk_mul, nI_add]
theorem pm_60 {t i : Nat} : (60 * nI t) + (3 * nI i) = nI (60 * t + 3 * i) := by
  rw [show (60 : Int32) = nI 60 from rfl, show (3 : Int32) = nI 3 from rfl, pk_mul, pk_mul, nI_add]
theorem sm_count {t c n : Nat} {v : Int32} {Q : Int32 → ac_hp → Prop} (h : mr_R F ki am s f) (ht : t < 4) (hs : s 2 t = nI n) (hn : n ≤ 20) (hc : c < 3) (hq : Q (nI (mcnt (s 1) t c v n)) f) : wp_X9_count ki (am 0) (nI t) (nI c) v f Q := by
  unfold wp_X9_count
  refine ⟨n + 1, ?_⟩
  have key : ∀ (d i : Nat), d + i = n → wp_X9_count_L6 ki (am 0) (nI t) (nI c) v (fun y10 f11 => Q y10 f11) (d + 1) (nI (mcnt (s 1) t c v i)) (nI i) f := by
    intro d
    induction d with
    | zero =>
      intro i hi
      have e : i = n := by omega
      subst e
      rw [wp_X9_count_L6]
      refine ⟨_, rm_f h rfl, _, rm_i (i := 2) (j := t) h (by omega) rfl rfl ht (by omega), ?_⟩
      rw [hs]
      exact ⟨fun _ => hq, fun z => absurd (nI_le (Nat.le_refl _) (by omega)) z⟩
    | succ d ih =>
      intro i hi
      rw [wp_X9_count_L6]
      refine ⟨_, rm_f h rfl, _, rm_i (i := 2) (j := t) h (by omega) rfl rfl ht (by omega), ?_⟩
      rw [hs]
      refine ⟨fun z => absurd z (nI_ge (by omega) (by omega)), fun _ => ⟨_, rm_f h rfl, _, rm_i (i := 1) (j := 60 * t + 3 * i + c) h (by omega) rfl pm_lin (by omega) (by omega), ?_⟩⟩
      have hm := mcnt_le (s 1) t c v i
      refine ⟨fun hne v5 e5 v6 e6 => ?_, fun he v5 e5 v6 e6 => ?_⟩
      · rw [e5, e6, nI_1, Int32.add_zero]
        have := ih (i + 1) (by omega)
        rw [mcnt, if_neg hne, Nat.add_zero] at this
        exact this
      · rw [e5, e6, nI_1, nI_1]
        have := ih (i + 1) (by omega)
        rw [mcnt, if_pos he] at this
        exact this
  exact key n 0 (by omega)
/-- a number of a key column stands twice -/
def mtw (g : Nat → Int32) (t c n : Nat) : Prop := ∃ i, i < n ∧ 1 < mcnt g t c (g (60 * t + 3 * i + c)) n
theorem sm_key {x1 x2 x3 : Int32} {Q : Int32 → ac_hp → Prop} (h : mr_R F ki am s f) (hsz : ∀ t, t < 4 → ∃ n, n ≤ 20 ∧ s 2 t = nI n) (hb : x3 = 0 ∨ x3 = 1)
    (hbad : (¬ ∃ t : Nat, t < 4 ∧ x1 = nI t) ∨ (¬ ∃ c : Nat, c < 3 ∧ x2 = nI c) → ∀ f', mr_R F ki am (th0 s) f' → Q (-1) f')
    (hgo : ∀ t c n : Nat, t < 4 → c < 3 → n ≤ 20 → x1 = nI t → x2 = nI c → s 2 t = nI n →
      (s 3 (3 * t + c) = x3 → ∀ f', mr_R F ki am (th0 s) f' → Q 0 f') ∧ (¬ s 3 (3 * t + c) = x3 → (x3 ≠ 0 ∧ mtw (s 1) t c n → ∀ f', mr_R F ki am (th0 s) f' → Q (-4) f') ∧ (¬ (x3 ≠ 0 ∧ mtw (s 1) t c n) → ∀ f', mr_R F ki am (va_up (th0 s) 3 (upd (s 3) (3 * t + c) x3)) f' → Q 1 f'))) : wp_X9_key ki (am 0) x1 x2 x3 f Q := by
  unfold wp_X9_key
  refine wm_0 h (fun f1 h => ?_)
  refine pm_in 4 (by omega) (by decide) (fun t ht e1 => ⟨fun z => absurd z ne10, fun _ => ?_⟩) (fun hn => ⟨fun _ => hbad (Or.inl hn) f1 h, fun z => absurd rfl z⟩)
  refine pm_in 3 (by omega) (by decide) (fun c hc e2 => ⟨fun _ => ?_, fun z => absurd z ne10⟩) (fun hn => ⟨fun z => absurd rfl z, fun _ => hbad (Or.inr hn) f1 h⟩)
  obtain ⟨n, hn, hs⟩ := hsz t ht
  obtain ⟨g0, g1⟩ := hgo t c n ht hc hn e1 e2 hs
  subst e1 e2
  have e3 : va_up s 0 (upd (s 0) 0 0) 3 = s 3 := va_up_ne _ _ (by omega)
  have e1' : va_up s 0 (upd (s 0) 0 0) 1 = s 1 := va_up_ne _ _ (by omega)
  have e2' : va_up s 0 (upd (s 0) 0 0) 2 = s 2 := va_up_ne _ _ (by omega)
  refine ⟨_, rm_f h rfl, _, rm_i (i := 3) (j := 3 * t + c) h (by omega) rfl pm_3 (by omega) (by omega), ?_⟩
  rw [e3]
  refine ⟨fun hne => ⟨n + 1, ?_⟩, fun he => g0 he f1 h⟩
  obtain ⟨gno, gyes⟩ := g1 hne
  have wr : ∀ (Q' : Int32 → ac_hp → Prop), (∀ f', mr_R F ki am (va_up (th0 s) 3 (upd (s 3) (3 * t + c) x3)) f' → Q' 1 f') → ∃ o20 : Nat, hr_f f1 (am 0) 9 3 (.ref o20) ∧ ∃ f21 : ac_hp, hw_i (ki 1) f1 o20 ((3 * nI t) + nI c) (vp_nar .boolean x3) f21 ∧ Q' 1 f21 := by
    intro Q' hq'
    refine ⟨_, rm_f h rfl, wm_i (i := 3) (j := 3 * t + c) h (by omega) (fun _ => rfl) pm_3 (by omega) (by omega) (fun f' h' => hq' f' ?_)⟩
    rw [e3] at h'
    rcases hb with rfl | rfl <;> exact h'
  have key : ∀ (d i : Nat) (y : Int32), d + i = n → (y = 0 ∨ y = 1) → ((¬ y = 0) ↔ ∃ j, j < i ∧ 1 < mcnt (s 1) t c (s 1 (60 * t + 3 * j + c)) n) → wp_X9_key_L47 ki (am 0) (nI t) (nI c) x3 (fun y18 f19 => ((x3 = 0 → ∃ o20 : Nat, hr_f f19 (am 0) 9 3 (.ref o20) ∧ ∃ f21 : ac_hp, hw_i (ki 1) f19 o20 ((3 * nI t) + nI c) (vp_nar .boolean x3) f21 ∧ Q 1 f21) ∧ (¬ x3 = 0 → ((y18 = 0 → ∃ o22 : Nat, hr_f f19 (am 0) 9 3 (.ref o22) ∧ ∃ f23 : ac_hp, hw_i (ki 1) f19 o22 ((3 * nI t) + nI c) (vp_nar .boolean x3) f23 ∧ Q 1 f23) ∧ (¬ y18 = 0 → Q (-4) f19))))) (d + 1) y (nI i) f1 := by
    intro d
    induction d with
    | zero =>
      intro i y hi hy hyi
      have e : i = n := by omega
      subst e
      rw [wp_X9_key_L47]
      refine ⟨_, rm_f h rfl, _, rm_i (i := 2) (j := t) h (by omega) rfl rfl ht (by omega), ?_⟩
      rw [e2', hs]
      refine ⟨fun _ => ⟨fun h0 => wr Q (gyes (fun q => q.1 h0)), fun h0 => ⟨fun hy0 => wr Q (gyes (fun q => (hyi.mpr q.2) hy0)), fun hy0 => gno ⟨h0, hyi.mp hy0⟩ f1 h⟩⟩, fun z => absurd (nI_le (Nat.le_refl _) (by omega)) z⟩
    | succ d ih =>
      intro i y hi hy hyi
      rw [wp_X9_key_L47]
      refine ⟨_, rm_f h rfl, _, rm_i (i := 2) (j := t) h (by omega) rfl rfl ht (by omega), ?_⟩
      rw [e2', hs]
      refine ⟨fun z => absurd z (nI_ge (by omega) (by omega)), fun _ => ⟨fun hy0 v10 e10 => ?_, fun hy0 => ⟨_, rm_f h rfl, _, rm_i (i := 1) (j := 60 * t + 3 * i + c) h (by omega) rfl pm_lin (by omega) (by omega), rm_o h, ?_⟩⟩⟩
      · rw [e10, nI_1]
        refine ih (i + 1) 1 (by omega) (Or.inr rfl) ⟨fun _ => ?_, fun _ => ne10⟩
        obtain ⟨j, hj, hj2⟩ := hyi.mp hy0
        exact ⟨j, by omega, hj2⟩
      · refine sm_count (n := n) h ht (by rw [e2', hs]) hn hc ?_
        rw [e1']
        have hm := mcnt_le (s 1) t c (s 1 (60 * t + 3 * i + c)) n
        refine ⟨fun hle v15 e15 => ?_, fun hle v15 e15 => ?_⟩
        · rw [e15, nI_1]
          refine ih (i + 1) 0 (by omega) (Or.inl rfl) ⟨fun z => absurd rfl z, ?_⟩
          rintro ⟨j, hj, hj2⟩
          exfalso
          have hle2 : mcnt (s 1) t c (s 1 (60 * t + 3 * i + c)) n ≤ 1 := (nI_leI (by omega) (by omega)).mp hle
          rcases Nat.lt_succ_iff_lt_or_eq.mp hj with z | z
          · exact absurd hy0 (hyi.mpr ⟨j, z, hj2⟩)
          · rw [z] at hj2; omega
        · rw [e15, nI_1]
          refine ih (i + 1) 1 (by omega) (Or.inr rfl) ⟨fun _ => ⟨i, by omega, ?_⟩, fun _ => ne10⟩
          have hle2 : ¬ mcnt (s 1) t c (s 1 (60 * t + 3 * i + c)) n ≤ 1 := fun z => hle ((nI_leI (b := 1) (by omega) (by omega)).mpr z)
          omega
  exact key n 0 0 (by omega) (Or.inl rfl) ⟨fun z => absurd rfl z, fun ⟨j, hj, _⟩ => absurd hj (by omega)⟩
end M2
