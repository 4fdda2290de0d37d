/-! productOfRows, estimate, union -/
/-- the product of the tables' sizes over the slots of the first a atoms, and the slots seen -/
def prS (g t sz : Nat → Nat) : Nat → Nat × Nat
  | 0 => (1, 0)
  | a + 1 => if g a = (prS g t sz a).2 then ((prS g t sz a).1 * sz (t a), (prS g t sz a).2 + 1) else prS g t sz a
theorem prS_le {g t sz : Nat → Nat} : ∀ a, (prS g t sz a).2 ≤ a := by
  intro a
  induction a with
  | zero => exact Nat.le_refl 0
  | succ a ih =>
    rw [prS]
    by_cases e : g a = (prS g t sz a).2
    · rw [if_pos e]; exact Nat.succ_le_succ ih
    · rw [if_neg e]; omega
section VR34
variable {F : ac_hp} {ki : Nat → ClassId} {ad : Nat → Nat} {s : Nat → Nat → Int32} {tl : Nat → Int64} {f : ac_hp}
variable {u n : Nat} {g m t sz : Nat → Nat} {c : Nat → Nat → Nat}
theorem sp_product {Q : Int32 → ac_hp → Prop} (h : vr_R F ki ad s tl f) (hu : uok s u n m t c) (hn : n ≤ 4) (h5 : s 5 4 = nI n) (h15 : ∀ a, a < n → g a < 4 ∧ s 15 a = nI (g a)) (hsz : ∀ k, k < 4 → s (30 + 3 * k) 2 = nI (sz k)) (hq : Q (nI (prS g t sz n).1) f) : wp_X6_productOfRows ki (ad 14) (nI u) f Q := by
  unfold wp_X6_productOfRows
  have key : ∀ (d a : Nat), d + a = n → wp_X6_productOfRows_L7 ki (ad 14) (nI u) (fun y14 f15 => Q y14 f15) (d + 1) (nI (prS g t sz a).1) (nI (prS g t sz a).2) (nI a) f := by
    intro d
    induction d with
    | zero =>
      intro a ha
      rw [wp_X6_productOfRows_L7]
      have : a = n := by omega
      subst this
      refine ⟨_, rd_f (i := 14) h (by omega) rfl rfl, _, rd_f (i := 5) h (by omega) rfl rfl, ?_⟩
      rw [h5]
      exact ⟨fun _ => hq, fun z => absurd (nI_le (Nat.le_refl a) (by omega)) z⟩
    | succ d ih =>
      intro a ha
      rw [wp_X6_productOfRows_L7]
      have han : a < n := by omega
      have hle := prS_le (g := g) (t := t) (sz := sz) a
      have hnx := ih (a + 1) (by omega)
      rw [prS] at hnx
      obtain ⟨g1, g2⟩ := h15 a han
      obtain ⟨l3, m1, m2, m3, m4⟩ := hu.2 a han
      have hu150 := hu.1
      refine ⟨_, rd_f (i := 14) h (by omega) rfl rfl, _, rd_f (i := 5) h (by omega) rfl rfl, ?_⟩
      rw [h5]
      refine ⟨fun z => absurd z (nI_ge han (by omega)), fun _ => ⟨_, rd_f (i := 14) h (by omega) rfl rfl, _, rd_i (i := 15) h (by omega) rfl rfl (show a < 4 by omega) (by omega), ?_⟩⟩
      rw [g2]
      refine ⟨fun hne => ?_, fun he => ?_⟩
      · rw [if_neg (fun e => hne (by rw [e]))] at hnx
        intro x hx
        rw [hx, nI_1]; exact hnx
      · have e : g a = (prS g t sz a).2 := (nI_eq (by omega) (by omega)).mp he
        rw [if_pos e] at hnx
        refine ⟨_, rd_f (i := 14) h (by omega) rfl rfl, rd_o (i := 10) h (by omega) rfl, sp_tableOf5 h (by omega) m1 l3 m2 m3 ⟨_, rd_f h (by omega) (lay_T m2) rfl, ?_⟩⟩
        rw [hsz _ m2, pk_mul]
        intro x hx y hy z hz
        rw [hx, hy, hz, nI_1, nI_1]
        exact hnx
  exact ⟨n + 1, key n 0 (by omega)⟩
/-- estimate of union u that is there -/
theorem sp_estimate {mc : Nat} {x : Int32} {Q : Int32 → ac_hp → Prop} (h : vr_R F ki ad s tl f) (hk : qok s n mc)
    (hneg : x < 0 ∨ n = 0 → Q (-1) f)
    (hL : ¬ x < 0 → n ≠ 0 → 150 < (unions s n mc).length → ∀ s' f', rfd s s' n mc → vr_R F ki ad s' tl f' → Q (-3) f')
    (hB : ¬ x < 0 → n ≠ 0 → (unions s n mc).length ≤ 150 → (¬ ∃ u, u < (unions s n mc).length ∧ x = nI u) → ∀ s' f', rfd s s' n mc → vr_R F ki ad s' tl f' → Q (-1) f')
    (hS : ∀ u, n ≠ 0 → (unions s n mc).length ≤ 150 → u < (unions s n mc).length → x = nI u → ∀ s1 f1, rfd s s1 n mc → vr_R F ki ad s1 tl f1 →
      ∃ m t c sz, uok s1 u n m t c ∧ (∀ k, k < 4 → s1 (30 + 3 * k) 2 = nI (sz k)) ∧ ∀ g ct w f', SL (one_ s1 t c) n g ct → vr_R F ki ad (vs_sl s1 w ct) tl f' → Q (nI (prS g t sz n).1) f') : wp_X0_estimate ki (ad 0) x f Q := by
  unfold wp_X0_estimate
  have hn := hk.1
  refine ⟨rd_o (i := 0) h (by omega) rfl, sp_trouble h hk (fun z => ⟨fun y => absurd y (by decide), fun _ => hneg z⟩) (fun z1 z2 z3 s' f' hr h' => ⟨fun y => absurd y (by decide), fun _ => hL z1 z2 z3 s' f' hr h'⟩) (fun z1 z2 z3 z4 s' f' hr h' => ⟨fun y => absurd y (by decide), fun _ => hB z1 z2 z3 z4 s' f' hr h'⟩) (fun u z1 z2 z3 z4 s' f' hr h' => ⟨fun _ => ?_, fun y => absurd rfl y⟩)⟩
  obtain ⟨m, t, c, sz, y1, y2, y3⟩ := hS u z1 z2 z3 z4 s' f' hr h'
  subst z4
  have h5 : s' 5 4 = nI n := by rw [hr.1 5 (by omega)]; exact hk.2.2.2.1
  refine ⟨_, rd_f (i := 0) h' (by omega) rfl rfl, rd_o (i := 14) h' (by omega) rfl, sp_assign h' y1 hn h5 (fun g ct w f2 hSL hw h2 => ?_)⟩
  refine ⟨_, rd_f (i := 0) h2 (by omega) rfl rfl, rd_o (i := 14) h2 (by omega) rfl, ?_⟩
  have hlt := SL_le hSL
  refine sp_product (g := g) (sz := sz) h2 (uok_s y1 vsl_o) hn (by rw [vsl_o 5 (by omega) (by omega)]; exact h5) (fun a ha => ⟨by have := hlt.2 a ha; omega, by rw [vsl_15]; exact hw a ha⟩) (fun k hk => by rw [vsl_o _ (by omega) (by omega)]; exact y2 k hk) (y3 g ct w f2 hSL h2)
end VR34
