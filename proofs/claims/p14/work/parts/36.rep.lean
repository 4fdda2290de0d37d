/-! THE SEARCH, walked -/
def sm (s s' : Nat → Nat → Int32) : Prop := (∀ j, j < 16 ∨ 20 < j → j ≠ 29 → s' j = s j) ∧ s' 16 5 = s 16 5
theorem sm_tr {s s1 s2 : Nat → Nat → Int32} (h1 : sm s s1) (h2 : sm s1 s2) : sm s s2 := ⟨fun j a b => by rw [h2.1 j a b, h1.1 j a b], by rw [h2.2, h1.2]⟩
def aA (s : Nat → Nat → Int32) (A : AS) : Prop := ∃ o, aok s A.1 o A.2.1 A.2.2.1 A.2.2.2
theorem sm_29 {s : Nat → Nat → Int32} {w : Nat → Int32} : sm s (va_up s 29 w) := ⟨fun j _ h => va_up_ne _ _ h, by rw [va_up_ne _ _ (by omega)]⟩
theorem aA_29 {s : Nat → Nat → Int32} {w : Nat → Int32} {A : AS} (h : aA s A) : aA (va_up s 29 w) A := by
  obtain ⟨o, h1, h2, h3, h4, h5, h6⟩ := h
  refine ⟨o, h1, by rw [va_up_ne _ _ (by omega)]; exact h2, fun i hi => by rw [va_up_ne _ _ (by omega)]; exact h3 i hi, h4, fun i hi => ?_, h6⟩
  rw [va_up_ne _ _ (by omega), va_up_ne _ _ (by omega), va_up_ne _ _ (by omega)]
  exact h5 i hi
section VR17
variable {F : ac_hp} {ki : Nat → ClassId} {ad : Nat → Nat} {s : Nat → Nat → Int32} {tl : Nat → Int64} {f : ac_hp}
variable {u ct : Nat} {tb mk : Nat → Nat} {cl : Nat → Nat → Nat} {rc : Nat → Nat} {rw_ : Nat → Nat → Nat} {od tp : Nat → Nat} {vl : Nat → Nat → Nat → Nat}
theorem fok_sm {s' : Nat → Nat → Int32} (hf : fok s u ct tb mk cl rc rw_ od tp vl) (hs : sm s s') : fok s' u ct tb mk cl rc rw_ od tp vl := by
  obtain ⟨h1, h2, h3, h4, h5, h6⟩ := hf
  have e : ∀ j, j < 16 ∨ 20 < j → j ≠ 29 → s' j = s j := hs.1
  refine ⟨h1, h2, by rw [e 21 (by omega) (by omega)]; exact h3, by rw [e 14 (by omega) (by omega)]; exact h4, fun v hv => by rw [e 28 (by omega) (by omega)]; exact h5 v hv, fun k hk => ?_⟩
  obtain ⟨g1, g2, g3, g4, g5, g6, g7, ⟨a, m, a1, a2, a3, a4, a5⟩, g9, g10⟩ := h6 k hk
  refine ⟨g1, g2, by rw [e 23 (by omega) (by omega)]; exact g3, g4, by rw [e 26 (by omega) (by omega)]; exact g5, g6, by rw [e 27 (by omega) (by omega)]; exact g7, ⟨a, m, a1, by rw [e 22 (by omega) (by omega)]; exact a2, a3, by rw [e 11 (by omega) (by omega)]; exact a4, by rw [e _ (by omega) (by omega)]; exact a5⟩, fun v hv => by rw [e 24 (by omega) (by omega)]; exact g9 v hv, fun i hi => ?_⟩
  obtain ⟨r1, r2, r3⟩ := g10 i hi
  exact ⟨r1, by rw [e 25 (by omega) (by omega)]; exact r2, fun v hv hb => by rw [e _ (by omega) (by omega)]; exact r3 v hv hb⟩
def blm (ct : Nat) (mk rc od tp : Nat → Nat) (vl : Nat → Nat → Nat → Nat) (e dp M B : Nat) (W : Nat → Nat) : Prop := ∀ W', (∀ v, v < 6 → B.testBit v = true → W' v % 10000 = W v % 10000) → sols ct mk rc od tp vl e dp M W' = []
def s_post (u ct : Nat) (mk rc od tp : Nat → Nat) (vl : Nat → Nat → Nat → Nat) (s : Nat → Nat → Int32) (e dp M : Nat) (W : Nat → Nat) (A : AS) (r : Int32) (s' : Nat → Nat → Int32) (A' : AS) (lg : Bool) : Prop :=
  sm s s' ∧ tks u (sols ct mk rc od tp vl e dp M W) A A' lg ∧ aA s' A' ∧ (∃ W', tok s' W' ∧ eqv ct mk od dp M W W') ∧ (lg = true → s' 16 6 = 1 ∧ r = (-1)) ∧
  (lg = false → s' 16 6 = 0 ∧ ((sols ct mk rc od tp vl e dp M W ≠ [] ∧ r = (-1)) ∨ (sols ct mk rc od tp vl e dp M W = [] ∧ ∃ B, B < 64 ∧ r = nI B ∧ B &&& M = B ∧ blm ct mk rc od tp vl e dp M B W)))
theorem tb_sub {B M v : Nat} (h : B &&& M = B) (hv : B.testBit v = true) : M.testBit v = true := by
  rw [← h, Nat.testBit_and] at hv
  simp only [Bool.and_eq_true] at hv
  exact hv.2
theorem sp_search_L {e dp M : Nat} {W : Nat → Nat} {A0 : AS} {s0 : Nat → Nat → Int32} {Q : Int32 → ac_hp → Prop} {rec : Nat → Int32 → Int32 → ac_hp → (Int32 → ac_hp → Prop) → Prop} {k : Nat} (hkd : od dp = k)
    (hf0 : fok s0 u ct tb mk cl rc rw_ od tp vl) (hdp : dp < ct) (he : ct < e + (dp + 1)) (hM : M < 64) (hwt : ∀ v, v < 6 → M.testBit v = true → W v / 10000 = tp v)
    (hrec : ∀ (M : Nat) (W : Nat → Nat) (A : AS) (s : Nat → Nat → Int32) (f : ac_hp) (Q : Int32 → ac_hp → Prop), M < 64 → fok s u ct tb mk cl rc rw_ od tp vl → tok s W → (∀ v, v < 6 → M.testBit v = true → W v / 10000 = tp v) → aA s A → s 16 6 = 0 → vr_R F ki ad s tl f →
      (∀ r s' f' A' lg, s_post u ct mk rc od tp vl s e (dp + 1) M W A r s' A' lg → vr_R F ki ad s' tl f' → Q r f') → rec (ad 21) (nI (dp + 1)) (nI M) f Q)
    (g : Nat → List (Nat → Nat)) (hg : g = fun i => if agrb mk vl k i M W = true then sols ct mk rc od tp vl e (dp + 1) (M ||| mk k) (setv mk tp vl k i W) else [])
    (hfin : ∀ r s' f' A' lg, s_post u ct mk rc od tp vl s0 (e + 1) dp M W A0 r s' A' lg → vr_R F ki ad s' tl f' → Q r f') :
    ∀ (d i : Nat) (s : Nat → Nat → Int32) (f : ac_hp) (A : AS) (lg : Bool) (Bm : Nat) (W1 : Nat → Nat) (x7 : Int32), d + i = rc k → sm s0 s → tks u ((List.range i).flatMap g) A0 A lg → aA s A → tok s W1 → eqv ct mk od dp M W W1 →
      (lg = true → s 16 6 = 1 ∧ x7 = 1) → (lg = false → s 16 6 = 0 ∧ (((List.range i).flatMap g = [] ∧ x7 = 0) ∨ ((List.range i).flatMap g ≠ [] ∧ x7 = 1))) →
      Bm < 64 → (∀ v, M.testBit v = true → (mk k).testBit v = true → Bm.testBit v = true) →
      ((List.range i).flatMap g = [] → ∀ j, j < i → ∀ W', (∀ v, v < 6 → Bm.testBit v = true → M.testBit v = true → W' v % 10000 = W v % 10000) → agrb mk vl k j M W' = true → sols ct mk rc od tp vl e (dp + 1) (M ||| mk k) (setv mk tp vl k j W') = []) →
      vr_R F ki ad s tl f → wp_X8_search_L68 ki (ad 21) (nI dp) (nI M) (nI k) (ad (30 + 3 * tb k)) (nI (M ||| mk k)) Q (fun y29 y30 f31 => ((y30 = 0 → Q (y29 &&& nI M) f31) ∧ (¬ y30 = 0 → Q (-1) f31))) rec (d + 1) (nI Bm) x7 (nI i) f := by
  have hct := hf0.1
  have hk : k < ct := by rw [← hkd]; exact (hf0.2.2.2.2.2 dp hdp).2.2.2.2.2.1
  have hS : sols ct mk rc od tp vl (e + 1) dp M W = (List.range (rc k)).flatMap g := by
    rw [sols]; simp only [if_neg (show ¬ ct ≤ dp by omega), hkd, hg]
  obtain ⟨g1, g2, g3, g4, g5, g6, g7, g8, g9, g10⟩ := hf0.2.2.2.2.2 k hk
  have hMk := (mk_or M hM (mk k) g2)
  -- the end of the loop, with all rows or with 'large'
  have fin : ∀ (i : Nat) (s : Nat → Nat → Int32) (f : ac_hp) (A : AS) (lg : Bool) (Bm : Nat) (W1 : Nat → Nat) (x7 : Int32), i ≤ rc k → (lg = true ∨ i = rc k) → sm s0 s → tks u ((List.range i).flatMap g) A0 A lg → aA s A → tok s W1 → eqv ct mk od dp M W W1 →
      (lg = true → s 16 6 = 1 ∧ x7 = 1) → (lg = false → s 16 6 = 0 ∧ (((List.range i).flatMap g = [] ∧ x7 = 0) ∨ ((List.range i).flatMap g ≠ [] ∧ x7 = 1))) → Bm < 64 → (∀ v, M.testBit v = true → (mk k).testBit v = true → Bm.testBit v = true) →
      ((List.range i).flatMap g = [] → ∀ j, j < i → ∀ W', (∀ v, v < 6 → Bm.testBit v = true → M.testBit v = true → W' v % 10000 = W v % 10000) → agrb mk vl k j M W' = true → sols ct mk rc od tp vl e (dp + 1) (M ||| mk k) (setv mk tp vl k j W') = []) →
      vr_R F ki ad s tl f → ((x7 = 0 → Q (nI Bm &&& nI M) f) ∧ (¬ x7 = 0 → Q (-1) f)) := by
    intro i s f A lg Bm W1 x7 hi hor q1 q2 q3 q4 q5 q6 q7 q8 q9 q10 h
    have hL : ∃ L2, (List.range (rc k)).flatMap g = (List.range i).flatMap g ++ L2 := by
      clear q2 q7 q10 hor
      have : ∀ n, i ≤ n → ∃ L2, (List.range n).flatMap g = (List.range i).flatMap g ++ L2 := by
        intro n
        induction n with
        | zero => intro hn; have : i = 0 := by omega
                  subst this; exact ⟨[], by simp⟩
        | succ n ih =>
          intro hn
          by_cases e : i = n + 1
          · subst e; exact ⟨[], by simp⟩
          · obtain ⟨L2, hL2⟩ := ih (by omega)
            refine ⟨L2 ++ g n, ?_⟩
            rw [List.range_succ, List.flatMap_append, hL2]; simp
      exact this _ hi
    obtain ⟨L2, hL2⟩ := hL
    cases lg with
    | true =>
      obtain ⟨z1, z2⟩ := q6 rfl
      have hne := tks_ne q2
      refine ⟨fun z => absurd (z2.symm.trans z) ne10, fun _ => hfin _ s f A true ⟨q1, ?_, q3, ⟨W1, q4, q5⟩, fun _ => ⟨z1, rfl⟩, fun z => by cases z⟩ h⟩
      rw [hS, hL2]; exact tks_stop q2
    | false =>
      have hi2 : i = rc k := by rcases hor with z | z; cases z; exact z
      subst hi2
      obtain ⟨z1, z2⟩ := q7 rfl
      rcases z2 with ⟨z2, z3⟩ | ⟨z2, z3⟩
      · refine ⟨fun _ => hfin _ s f A false ⟨q1, by rw [hS]; exact q2, q3, ⟨W1, q4, q5⟩, fun z => (by cases z), fun _ => ⟨z1, Or.inr ⟨by rw [hS]; exact z2, Bm &&& M, (mk_and Bm q8 M hM).2, (mk_and Bm q8 M hM).1, by rw [Nat.and_assoc, Nat.and_self], ?_⟩⟩⟩ h, fun z => absurd z3 z⟩
        intro W' hW'
        rw [sols]; simp only [if_neg (show ¬ ct ≤ dp by omega), hkd]
        rw [fm_nil]
        intro j hj
        by_cases ha : agrb mk vl k j M W' = true
        · simp only [if_pos ha]
          exact q10 z2 j hj W' (fun v hv b1 b2 => hW' v hv (by rw [Nat.testBit_and, b1, b2]; rfl)) ha
        · simp only [if_neg ha]
      · exact ⟨fun z => absurd (z3.symm.trans z) ne10, fun _ => hfin _ s f A false ⟨q1, by rw [hS]; exact q2, q3, ⟨W1, q4, q5⟩, fun z => (by cases z), fun _ => ⟨z1, Or.inl ⟨by rw [hS]; exact z2, rfl⟩⟩⟩ h⟩
  intro d
  induction d with
  | zero =>
    intro i s f A lg Bm W1 x7 hi q1 q2 q3 q4 q5 q6 q7 q8 q9 q10 h
    rw [wp_X8_search_L68]
    refine ⟨_, rd_f (i := 21) h (by omega) rfl rfl, _, rd_i (i := 26) h (by omega) rfl rfl (show k < 4 by omega) (by omega), ?_⟩
    rw [q1.1 26 (by omega) (by omega), g5]
    have hi2 : i = rc k := by omega
    refine ⟨fun _ => fin i s f A lg Bm W1 x7 (by omega) (Or.inr hi2) q1 q2 q3 q4 q5 q6 q7 q8 q9 q10 h, fun z => absurd (nI_le (by omega) (by omega)) z⟩
  | succ d ih =>
    intro i s f A lg Bm W1 x7 hi q1 q2 q3 q4 q5 q6 q7 q8 q9 q10 h
    rw [wp_X8_search_L68]
    refine ⟨_, rd_f (i := 21) h (by omega) rfl rfl, _, rd_i (i := 26) h (by omega) rfl rfl (show k < 4 by omega) (by omega), ?_⟩
    rw [q1.1 26 (by omega) (by omega), g5]
    have hirc : i < rc k := by omega
    refine ⟨fun z => absurd z (nI_ge hirc (by omega)), fun _ => ?_⟩
    refine ⟨_, rd_f (i := 21) h (by omega) rfl rfl, _, rd_f (i := 16) h (by omega) rfl rfl, ?_⟩
    cases lg with
    | true =>
      rw [(q6 rfl).1]
      exact ⟨fun _ => fin i s f A true Bm W1 x7 (by omega) (Or.inl rfl) q1 q2 q3 q4 q5 q6 q7 q8 q9 q10 h, fun z => absurd z ne10⟩
    | false =>
    obtain ⟨z16, zm⟩ := q7 rfl
    rw [z16]
    refine ⟨fun z => absurd rfl z, fun _ => ?_⟩
    obtain ⟨r1, r2, r3⟩ := g10 i hirc
    have hf := fok_sm hf0 q1
    refine ⟨_, rd_f (i := 21) h (by omega) rfl rfl, _, rd_i (i := 25) (j := k * 20 + i) h (by omega) rfl (by rw [show (20 : Int32) = nI 20 from rfl, pk_mul, nI_add]) (by omega) (by omega), rd_o (i := 21) h (by omega) rfl, ?_⟩
    rw [q1.1 25 (by omega) (by omega), r2]
    have hag : agrb mk vl k i M W1 = agrb mk vl k i M W := agr_eq (fun v hv h1 _ => by rw [q5 v hv (Or.inl h1)])
    refine sp_agrees h hf q4 hk hirc hM (fun ha => ⟨fun z => absurd z ne10, fun _ => ?_⟩) (fun ha => ⟨fun _ => ?_, fun z => absurd rfl z⟩)
    · have hagW : agrb mk vl k i M W = true := by rw [← hag]; exact agrb_iff.mpr ha
      have haW : agr mk vl k i M W := agrb_iff.mp hagW
      have hgi : g i = sols ct mk rc od tp vl e (dp + 1) (M ||| mk k) (setv mk tp vl k i W) := by rw [hg]; simp only [if_pos hagW]
      have hLs : (List.range (i + 1)).flatMap g = (List.range i).flatMap g ++ sols ct mk rc od tp vl e (dp + 1) (M ||| mk k) (setv mk tp vl k i W) := by rw [List.range_succ, List.flatMap_append]; simp [hgi]
      have aft : ∀ v, (M ||| mk k).testBit v = true → (mk k).testBit v = true ∨ ((mk k).testBit v = false ∧ M.testBit v = true) := fun v hv => by
        rw [Nat.testBit_or] at hv
        cases hb : (mk k).testBit v with
        | true => exact Or.inl rfl
        | false => right; rw [hb] at hv; exact ⟨rfl, by simpa using hv⟩
      refine ⟨rd_o (i := 21) h (by omega) rfl, sp_setv h hf q4 hk hirc (fun w f22 hw h22 => ⟨rd_o (i := 21) h22 (by omega) rfl, ?_⟩)⟩
      rw [nI_1]
      refine hrec (M ||| mk k) (setv mk tp vl k i W1) A (va_up s 29 w) f22 _ hMk.2 (fok_sm hf sm_29) (fun v hv => ⟨?_, by rw [va_up_self]; exact hw v hv⟩) (fun v hv hb => ?_) (aA_29 q3) (by rw [va_up_ne _ _ (by omega)]; exact z16) h22 (fun r s' f' A' lg' hp h' => ?_)
      · simp only [setv]
        by_cases hb : (mk k).testBit v = true
        · rw [if_pos hb]
          have := (hf.2.2.2.2.1 v hv).1
          have := (r3 v hv hb).1
          omega
        · rw [if_neg hb]; exact (q4 v hv).1
      · rcases aft v hb with z | ⟨z1, z2⟩
        · simp only [setv, if_pos z]
          have := (r3 v hv z).1
          omega
        · simp only [setv, z1]
          rw [← q5 v hv (Or.inl z2)]
          exact hwt v hv z2
      obtain ⟨p1, p2, p3, ⟨W2, p4, p5⟩, p6, p7⟩ := hp
      have hsE : sols ct mk rc od tp vl e (dp + 1) (M ||| mk k) (setv mk tp vl k i W1) = sols ct mk rc od tp vl e (dp + 1) (M ||| mk k) (setv mk tp vl k i W) := by
        refine sols_eqv e (dp + 1) _ _ _ he (fun v hv hc => ?_)
        simp only [setv]
        by_cases hb : (mk k).testBit v = true
        · simp only [if_pos hb]
        · simp only [if_neg hb]
          refine (q5 v hv ?_).symm
          rcases hc with z | z
          · rcases aft v z with y | ⟨-, y⟩
            · exact absurd y hb
            · exact Or.inl y
          · right
            intro d2 h1 h2
            by_cases e2 : d2 = dp
            · subst e2; rw [hkd]; simpa using hb
            · exact z d2 (by omega) h2
      rw [hsE] at p2 p7
      have hsm : sm s0 s' := sm_tr q1 (sm_tr sm_29 p1)
      have heq : eqv ct mk od dp M W W2 := fun v hv hc => by
        have c2 : (M ||| mk k).testBit v = true ∨ ∀ d2, dp + 1 ≤ d2 → d2 < ct → (mk (od d2)).testBit v = false := by
          rcases hc with z | z
          · left; rw [Nat.testBit_or, z]; rfl
          · right; intro d2 h1 h2; exact z d2 (by omega) h2
        rw [← p5 v hv c2]
        simp only [setv]
        by_cases hb : (mk k).testBit v = true
        · rcases hc with z | z
          · rw [if_pos hb, ← haW v hv hb z, ← hwt v hv z]; omega
          · have := z dp (Nat.le_refl dp) hdp
            rw [hkd, hb] at this; cases this
        · rw [if_neg hb]; exact q5 v hv hc
      have tkA : tks u ((List.range (i + 1)).flatMap g) A0 A' lg' := by rw [hLs]; exact tks_app q2 p2
      have nonnil : sols ct mk rc od tp vl e (dp + 1) (M ||| mk k) (setv mk tp vl k i W) ≠ [] → (List.range (i + 1)).flatMap g ≠ [] := fun z y => by
        rw [hLs] at y; exact z (List.append_eq_nil_iff.mp y).2
      cases lg' with
      | true =>
        obtain ⟨y1, y2⟩ := p6 rfl
        subst y2
        refine ⟨fun z => absurd rfl z, fun _ => ?_⟩
        intro x hx
        rw [hx, nI_1]
        exact ih (i + 1) s' f' A' true Bm W2 1 (by omega) hsm tkA p3 p4 heq (fun _ => ⟨y1, rfl⟩) (fun z => by cases z) q8 q9 (fun z => absurd z (nonnil (tks_ne p2))) h'
      | false =>
        obtain ⟨y1, y2⟩ := p7 rfl
        rcases y2 with ⟨y2, y3⟩ | ⟨y2, B, hB, y3, y4, y5⟩
        · subst y3
          refine ⟨fun z => absurd rfl z, fun _ => ?_⟩
          intro x hx
          rw [hx, nI_1]
          exact ih (i + 1) s' f' A' false Bm W2 1 (by omega) hsm tkA p3 p4 heq (fun z => by cases z) (fun _ => ⟨y1, Or.inr ⟨nonnil y2, rfl⟩⟩) q8 q9 (fun z => absurd z (nonnil y2)) h'
        · subst y3
          have hLn : (List.range (i + 1)).flatMap g = (List.range i).flatMap g := by rw [hLs, y2, List.append_nil]
          -- what agrees with W1's row on B finds nothing either
          have y6 : ∀ W', (∀ v, v < 6 → B.testBit v = true → W' v % 10000 = setv mk tp vl k i W1 v % 10000) → sols ct mk rc od tp vl e (dp + 1) (M ||| mk k) W' = [] := y5
          have rowi : ∀ v, v < 6 → M.testBit v = true → setv mk tp vl k i W1 v % 10000 = W v % 10000 := fun v hv hb => by
            simp only [setv]
            by_cases hm : (mk k).testBit v = true
            · rw [if_pos hm, haW v hv hm hb]
              have := (r3 v hv hm).1
              omega
            · rw [if_neg hm, q5 v hv (Or.inl hb)]
          have rowj : ∀ j, j < rc k → ∀ W', agrb mk vl k j M W' = true → ∀ v, v < 6 → M.testBit v = true → setv mk tp vl k j W' v % 10000 = W' v % 10000 := fun j hj W' haj v hv hb => by
            simp only [setv]
            by_cases hm : (mk k).testBit v = true
            · rw [if_pos hm, agrb_iff.mp haj v hv hm hb]
              have := ((g10 j hj).2.2 v hv hm).1
              omega
            · rw [if_neg hm]
          refine ⟨fun _ => ⟨fun hns => ?_, fun hsub => ?_⟩, fun z => absurd z (nI_m1 B hB)⟩
          · intro x5 hx5
            rw [(mk_or Bm q8 B hB).1] at hx5
            subst hx5
            intro x hx
            rw [hx, nI_1]
            refine ih (i + 1) s' f' A' false (Bm ||| B) W2 x7 (by omega) hsm tkA p3 p4 heq (fun z => by cases z) (fun _ => ⟨y1, by rw [hLn]; exact zm⟩) (mk_or Bm q8 B hB).2 (fun v h1 h2 => by rw [Nat.testBit_or, q9 v h1 h2]; rfl) ?_ h'
            rw [hLn]
            intro hnil j hj W' hW' haj
            by_cases ej : j = i
            · subst ej
              refine y6 _ (fun v hv hb => ?_)
              rcases aft v (tb_sub y4 hb) with z | ⟨z1, z2⟩
              · simp only [setv, if_pos z]
              · rw [rowj j hirc W' haj v hv z2, rowi v hv z2]
                exact hW' v hv (by rw [Nat.testBit_or, hb]; simp) z2
            · exact q10 hnil j (by omega) W' (fun v hv h1 h2 => hW' v hv (by rw [Nat.testBit_or, h1]; rfl) h2) haj
          · have hBM : B &&& M = B := (mk_sub B hB M hM).mp hsub
            have hall : ∀ W', (∀ v, v < 6 → B.testBit v = true → W' v % 10000 = W v % 10000) → sols ct mk rc od tp vl (e + 1) dp M W' = [] := fun W' hW' => by
              rw [sols]; simp only [if_neg (show ¬ ct ≤ dp by omega), hkd]
              rw [fm_nil]
              intro j hj
              by_cases haj : agrb mk vl k j M W' = true
              · simp only [if_pos haj]
                refine y6 _ (fun v hv hb => ?_)
                have hMb := tb_sub hBM hb
                rw [rowj j hj W' haj v hv hMb, rowi v hv hMb]
                exact hW' v hv hb
              · simp only [if_neg haj]
            have hnil := hall W (fun _ _ _ => rfl)
            have hLi : (List.range i).flatMap g = [] := by
              rw [hS, fm_nil] at hnil
              rw [fm_nil]
              exact fun j hj => hnil j (by omega)
            have hA : A = A0 := by rw [hLi] at q2; exact q2.1
            have hA' : A' = A := by rw [y2] at p2; exact p2.1
            exact hfin _ s' f' A' false ⟨hsm, by rw [hnil]; exact ⟨by rw [hA', hA], rfl⟩, p3, ⟨W2, p4, heq⟩, fun z => (by cases z), fun _ => ⟨y1, Or.inr ⟨hnil, B, hB, rfl, hBM, hall⟩⟩⟩ h'
    · have hgi : g i = [] := by
        rw [hg]
        have : ¬ agrb mk vl k i M W = true := fun z => ha (agrb_iff.mp (hag ▸ z))
        simp only [if_neg this]
      have hLs : (List.range (i + 1)).flatMap g = (List.range i).flatMap g := by rw [List.range_succ, List.flatMap_append]; simp [hgi]
      intro x hx
      rw [hx, nI_1]
      refine ih (i + 1) s f A false Bm W1 x7 (by omega) q1 (by rw [hLs]; exact q2) q3 q4 q5 q6 (by rw [hLs]; exact q7) q8 q9 ?_ h
      rw [hLs]
      intro hnil j hj W' hW' haj
      by_cases ej : j = i
      · subst ej
        exfalso
        have e2 : agrb mk vl k j M W' = agrb mk vl k j M W := agr_eq (fun v hv h1 h2 => hW' v hv (q9 v h1 h2) h1)
        exact ha (agrb_iff.mp (by rw [hag, ← e2]; exact haj))
      · exact q10 hnil j (by omega) W' hW' haj
end VR17
