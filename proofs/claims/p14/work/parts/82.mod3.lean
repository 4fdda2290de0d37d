/-! THE REFERENCE: row -/
def mw_t (ki : Nat → ClassId) (r0 : Nat) (x1 x2 x3 x4 : Int32) (f : ac_hp) (Q : Int32 → ac_hp → Prop) : Prop := ∃ o16 : Nat, hr_f f r0 9 2 (.ref o16) ∧ ∃ v17 : Int32, hr_i (ki 0) f o16 x1 v17 ∧ ((¬ v17 = 20 → ∃ o18 : Nat, hr_f f r0 9 2 (.ref o18) ∧ ∃ v19 : Int32, hr_i (ki 0) f o18 x1 v19 ∧ ∀ v20 : Int32, v20 = (60 * x1) + (3 * v19) → ∃ o21 : Nat, hr_f f r0 9 1 (.ref o21) ∧ ∃ f22 : ac_hp, hw_i (ki 0) f o21 v20 x2 f22 ∧ ∃ o23 : Nat, hr_f f22 r0 9 1 (.ref o23) ∧ ∃ f24 : ac_hp, hw_i (ki 0) f22 o23 (v20 + 1) x3 f24 ∧ ∃ o25 : Nat, hr_f f24 r0 9 1 (.ref o25) ∧ ∃ f26 : ac_hp, hw_i (ki 0) f24 o25 (v20 + 2) x4 f26 ∧ ∃ o27 : Nat, hr_f f26 r0 9 2 (.ref o27) ∧ ∃ v28 : Int32, hr_i (ki 0) f26 o27 x1 v28 ∧ ∃ f29 : ac_hp, hw_i (ki 0) f26 o27 x1 (v28 + 1) f29 ∧ ∃ o30 : Nat, hr_f f29 r0 9 2 (.ref o30) ∧ ∃ v31 : Int32, hr_i (ki 0) f29 o30 x1 v31 ∧ Q v31 f29) ∧ (v17 = 20 → Q (-2) f))
def mw_2 (ki : Nat → ClassId) (r0 : Nat) (x1 x2 x3 x4 : Int32) (f : ac_hp) (Q : Int32 → ac_hp → Prop) : Prop := ∃ o14 : Nat, hr_f f r0 9 3 (.ref o14) ∧ ∃ v15 : Int32, hr_i (ki 1) f o14 ((3 * x1) + 2) v15 ∧ ((v15 = 0 → mw_t ki r0 x1 x2 x3 x4 f Q) ∧ (¬ v15 = 0 → hr_o f r0 9 ∧ wp_X9_count ki r0 x1 2 x4 f (fun v33 f32 => ((v33 ≤ 0 → mw_t ki r0 x1 x2 x3 x4 f32 Q) ∧ (¬ v33 ≤ 0 → Q (-4) f32)))))
def mw_1 (ki : Nat → ClassId) (r0 : Nat) (x1 x2 x3 x4 : Int32) (f : ac_hp) (Q : Int32 → ac_hp → Prop) : Prop := ∃ o12 : Nat, hr_f f r0 9 3 (.ref o12) ∧ ∃ v13 : Int32, hr_i (ki 1) f o12 ((3 * x1) + 1) v13 ∧ ((v13 = 0 → mw_2 ki r0 x1 x2 x3 x4 f Q) ∧ (¬ v13 = 0 → hr_o f r0 9 ∧ wp_X9_count ki r0 x1 1 x3 f (fun v51 f50 => ((0 < v51 → Q (-4) f50) ∧ (¬ 0 < v51 → mw_2 ki r0 x1 x2 x3 x4 f50 Q)))))
def ms_row (S : Nat → Nat → Int32) (t n : Nat) (a b c : Int32) : Nat → Nat → Int32 := va_up (va_up S 1 (upd (upd (upd (S 1) (60 * t + 3 * n) a) (60 * t + 3 * n + 1) b) (60 * t + 3 * n + 2) c)) 2 (upd (S 2) t (nI (n + 1)))
section M3
variable {F : ac_hp} {ki : Nat → ClassId} {am : Nat → Nat} {S : Nat → Nat → Int32} {f : ac_hp}
theorem upd_self (g : Nat → Int32) (k : Nat) (v : Int32) : upd g k v k = v := by simp [upd]
theorem sm_wt {t n : Nat} {x2 x3 x4 : Int32} {Q : Int32 → ac_hp → Prop} (h : mr_R F ki am S f) (ht : t < 4) (hs : S 2 t = nI n) (hn : n ≤ 20) (hF : n = 20 → Q (-2) f) (hq : n < 20 → ∀ f', mr_R F ki am (ms_row S t n x2 x3 x4) f' → Q (nI (n + 1)) f') : mw_t ki (am 0) (nI t) x2 x3 x4 f Q := by
  unfold mw_t
  refine ⟨_, rm_f h rfl, _, rm_i (i := 2) (j := t) h (by omega) rfl rfl ht (by omega), ?_⟩
  rw [hs]
  refine ⟨fun hne => ?_, fun he => hF ((nI_eq (b := 20) (by omega) (by omega)).mp he)⟩
  have hlt : n < 20 := by
    rcases Nat.lt_or_ge n 20 with z | z
    · exact z
    · exact absurd (by rw [show n = 20 by omega]; rfl) hne
  refine ⟨_, rm_f h rfl, _, rm_i (i := 2) (j := t) h (by omega) rfl rfl ht (by omega), fun v20 e20 => ?_⟩
  rw [hs, pm_60] at e20
  subst e20
  refine ⟨_, rm_f h rfl, wm_i (i := 1) (j := 60 * t + 3 * n) h (by omega) (fun _ => rfl) rfl (by omega) (by omega) (fun f1 h1 => ?_)⟩
  refine ⟨_, rm_f h1 rfl, wm_i (i := 1) (j := 60 * t + 3 * n + 1) h1 (by omega) (fun _ => rfl) (nI_add _ 1) (by omega) (by omega) (fun f2 h2 => ?_)⟩
  refine ⟨_, rm_f h2 rfl, wm_i (i := 1) (j := 60 * t + 3 * n + 2) h2 (by omega) (fun _ => rfl) (nI_add _ 2) (by omega) (by omega) (fun f3 h3 => ?_)⟩
  refine ⟨_, rm_f h3 rfl, _, rm_i (i := 2) (j := t) h3 (by omega) rfl rfl ht (by omega), ?_⟩
  refine wm_i (i := 2) (j := t) h3 (by omega) (fun _ => rfl) rfl (by omega) (by omega) (fun f4 h4 => ?_)
  refine ⟨_, rm_f h4 rfl, _, rm_i (i := 2) (j := t) h4 (by omega) rfl rfl ht (by omega), ?_⟩
  simp (disch := omega) only [va_up_self, va_up_ne, bx_uu, upd_self, hs, nI_1] at h4 ⊢
  exact hq hlt f4 h4
/-- a key's number is there -/
def mno (S : Nat → Nat → Int32) (t n c : Nat) (v : Int32) : Prop := S 3 (3 * t + c) ≠ 0 ∧ 0 < mcnt (S 1) t c v n
theorem sm_w2 {t n : Nat} {x2 x3 x4 : Int32} {Q : Int32 → ac_hp → Prop} (h : mr_R F ki am S f) (ht : t < 4) (hs : S 2 t = nI n) (hn : n ≤ 20) (hN : mno S t n 2 x4 → Q (-4) f) (hF : ¬ mno S t n 2 x4 → n = 20 → Q (-2) f) (hq : ¬ mno S t n 2 x4 → n < 20 → ∀ f', mr_R F ki am (ms_row S t n x2 x3 x4) f' → Q (nI (n + 1)) f') : mw_2 ki (am 0) (nI t) x2 x3 x4 f Q := by
  unfold mw_2
  refine ⟨_, rm_f h rfl, _, rm_i (i := 3) (j := 3 * t + 2) h (by omega) rfl pm_3 (by omega) (by omega), ?_⟩
  refine ⟨fun h0 => sm_wt h ht hs hn (hF (fun q => q.1 h0)) (hq (fun q => q.1 h0)), fun h0 => ⟨rm_o h, ?_⟩⟩
  refine sm_count (c := 2) h ht hs hn (by omega) ?_
  have hm := mcnt_le (S 1) t 2 x4 n
  refine ⟨fun hle => ?_, fun hle => hN ⟨h0, ?_⟩⟩
  · have hz : mcnt (S 1) t 2 x4 n ≤ 0 := (nI_leI (b := 0) (by omega) (by omega)).mp hle
    exact sm_wt h ht hs hn (hF (fun q => by have := q.2; omega)) (hq (fun q => by have := q.2; omega))
  · rcases Nat.eq_zero_or_pos (mcnt (S 1) t 2 x4 n) with z | z
    · exact absurd (by rw [z]; decide) hle
    · exact z
theorem sm_w1 {t n : Nat} {x2 x3 x4 : Int32} {Q : Int32 → ac_hp → Prop} (h : mr_R F ki am S f) (ht : t < 4) (hs : S 2 t = nI n) (hn : n ≤ 20) (hN : mno S t n 1 x3 ∨ mno S t n 2 x4 → Q (-4) f) (hF : ¬ (mno S t n 1 x3 ∨ mno S t n 2 x4) → n = 20 → Q (-2) f) (hq : ¬ (mno S t n 1 x3 ∨ mno S t n 2 x4) → n < 20 → ∀ f', mr_R F ki am (ms_row S t n x2 x3 x4) f' → Q (nI (n + 1)) f') : mw_1 ki (am 0) (nI t) x2 x3 x4 f Q := by
  unfold mw_1
  refine ⟨_, rm_f h rfl, _, rm_i (i := 3) (j := 3 * t + 1) h (by omega) rfl pm_3 (by omega) (by omega), ?_⟩
  have go : ¬ mno S t n 1 x3 → mw_2 ki (am 0) (nI t) x2 x3 x4 f Q := fun hz => sm_w2 h ht hs hn (fun q => hN (Or.inr q)) (fun q => hF (fun z => z.elim hz q)) (fun q => hq (fun z => z.elim hz q))
  refine ⟨fun h0 => go (fun q => q.1 h0), fun h0 => ⟨rm_o h, ?_⟩⟩
  refine sm_count (c := 1) h ht hs hn (by omega) ?_
  have hm := mcnt_le (S 1) t 1 x3 n
  refine ⟨fun hlt => hN (Or.inl ⟨h0, ?_⟩), fun hlt => go (fun q => hlt ?_)⟩
  · exact (nI_ltI (a := 0) (by omega) (by omega)).mp hlt
  · exact nI_lt (a := 0) q.2 (by omega)
theorem sm_row {s : Nat → Nat → Int32} {x1 x2 x3 x4 : Int32} {Q : Int32 → ac_hp → Prop} (h : mr_R F ki am s f) (hsz : ∀ t, t < 4 → ∃ n, n ≤ 20 ∧ s 2 t = nI n)
    (hbad : ¬ ((∃ t : Nat, t < 4 ∧ x1 = nI t) ∧ (∃ a : Nat, a < 10000 ∧ x2 = nI a) ∧ (∃ a : Nat, a < 10000 ∧ x3 = nI a) ∧ (∃ a : Nat, a < 10000 ∧ x4 = nI a)) → ∀ f', mr_R F ki am (th0 s) f' → Q (-1) f')
    (hgo : ∀ t a b c n : Nat, t < 4 → a < 10000 → b < 10000 → c < 10000 → n ≤ 20 → x1 = nI t → x2 = nI a → x3 = nI b → x4 = nI c → s 2 t = nI n →
      (mno s t n 0 x2 ∨ mno s t n 1 x3 ∨ mno s t n 2 x4 → ∀ f', mr_R F ki am (th0 s) f' → Q (-4) f') ∧ (¬ (mno s t n 0 x2 ∨ mno s t n 1 x3 ∨ mno s t n 2 x4) → (n = 20 → ∀ f', mr_R F ki am (th0 s) f' → Q (-2) f') ∧ (n < 20 → ∀ f', mr_R F ki am (ms_row (th0 s) t n x2 x3 x4) f' → Q (nI (n + 1)) f'))) : wp_X9_row ki (am 0) x1 x2 x3 x4 f Q := by
  unfold wp_X9_row
  refine wm_0 h (fun f1 h => ?_)
  refine pm_in 4 (by omega) (by decide) (fun t ht e1 => ⟨fun z => absurd z ne10, fun _ => ?_⟩) (fun hn => ⟨fun _ => hbad (fun q => hn q.1) f1 h, fun z => absurd rfl z⟩)
  refine pm_in 10000 (by omega) (by decide) (fun a ha e2 => ⟨fun z => absurd z ne10, fun _ => ?_⟩) (fun hn => ⟨fun _ => hbad (fun q => hn q.2.1) f1 h, fun z => absurd rfl z⟩)
  refine pm_in 10000 (by omega) (by decide) (fun b hb e3 => ⟨fun z => absurd z ne10, fun _ => ?_⟩) (fun hn => ⟨fun _ => hbad (fun q => hn q.2.2.1) f1 h, fun z => absurd rfl z⟩)
  refine pm_in 10000 (by omega) (by decide) (fun c hc e4 => ⟨fun _ => ?_, fun z => absurd z ne10⟩) (fun hn => ⟨fun z => absurd rfl z, fun _ => hbad (fun q => hn q.2.2.2) f1 h⟩)
  obtain ⟨n, hn, hs⟩ := hsz t ht
  obtain ⟨g0, g1⟩ := hgo t a b c n ht ha hb hc hn e1 e2 e3 e4 hs
  subst e1
  have hs' : th0 s 2 t = nI n := by rw [th0, va_up_ne _ _ (by omega), hs]
  have e3' : ∀ c v, mno (th0 s) t n c v ↔ mno s t n c v := fun c v => by unfold mno th0; rw [va_up_ne _ _ (by omega), va_up_ne _ _ (by omega)]
  have h : mr_R F ki am (th0 s) f1 := h
  refine ⟨_, rm_f h rfl, _, rm_i (i := 3) (j := 3 * t) h (by omega) rfl (by rw [show (3 : Int32) = nI 3 from rfl, pk_mul]) (by omega) (by omega), ?_⟩
  have go : ¬ mno s t n 0 x2 → mw_1 ki (am 0) (nI t) x2 x3 x4 f1 Q := fun hz => sm_w1 h ht hs' hn
    (fun q => g0 (Or.inr (q.imp (e3' _ _).mp (e3' _ _).mp)) f1 h)
    (fun q h20 => (g1 (fun z => z.elim hz (fun z => q (z.imp (e3' _ _).mpr (e3' _ _).mpr)))).1 h20 f1 h)
    (fun q => (g1 (fun z => z.elim hz (fun z => q (z.imp (e3' _ _).mpr (e3' _ _).mpr)))).2)
  refine ⟨fun h0 => go (fun q => (((e3' 0 x2).mpr q).1 h0)), fun h0 => ⟨rm_o h, ?_⟩⟩
  refine sm_count (c := 0) h ht hs' hn (by omega) ?_
  have hm := mcnt_le (th0 s 1) t 0 x2 n
  refine ⟨fun hlt => g0 (Or.inl ((e3' 0 x2).mp ⟨h0, ?_⟩)) f1 h, fun hlt => go (fun q => hlt ?_)⟩
  · exact (nI_ltI (a := 0) (by omega) (by omega)).mp hlt
  · exact nI_lt (a := 0) ((e3' 0 x2).mpr q).2 (by omega)
end M3
