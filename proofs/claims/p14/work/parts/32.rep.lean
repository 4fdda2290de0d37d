/-! ANSWERS: compare, firstNotBefore -/
/-- a and b agree before k and differ there, a being less -/
def lexl (a b : Nat → Nat) : Prop := ∃ k, k < 6 ∧ (∀ j, j < k → a j = b j) ∧ a k < b k
def vec6 (a b : Nat → Nat) : Prop := ∀ j, j < 6 → a j = b j
theorem lex_tri (a b : Nat → Nat) : vec6 a b ∨ lexl a b ∨ lexl b a := by
  by_cases h : vec6 a b
  · exact Or.inl h
  · right
    obtain ⟨k, hk, hmin⟩ := pk_least (fun k => k < 6 ∧ a k ≠ b k) (Classical.byContradiction fun hno => h (fun j hj => Classical.byContradiction fun hne => hno ⟨j, hj, hne⟩))
    have hb : ∀ j, j < k → a j = b j := fun j hj => Classical.byContradiction fun hne => hmin j hj ⟨by omega, hne⟩
    rcases Nat.lt_or_gt_of_ne hk.2 with z | z
    · exact Or.inl ⟨k, hk.1, hb, z⟩
    · exact Or.inr ⟨k, hk.1, fun j hj => (hb j hj).symm, z⟩
theorem lex_irr {a b : Nat → Nat} (h1 : lexl a b) (h2 : lexl b a) : False := by
  obtain ⟨k, hk, e1, l1⟩ := h1
  obtain ⟨m, hm, e2, l2⟩ := h2
  rcases Nat.lt_trichotomy k m with z | z | z
  · have := e2 k z; omega
  · subst z; omega
  · have := e1 m z; omega
theorem lex_ne {a b : Nat → Nat} (h1 : lexl a b) (h2 : vec6 a b) : False := by
  obtain ⟨k, hk, e1, l1⟩ := h1
  have := h2 k hk; omega
theorem lex_trans {a b c : Nat → Nat} (h1 : lexl a b) (h2 : lexl b c) : lexl a c := by
  obtain ⟨k, hk, e1, l1⟩ := h1
  obtain ⟨m, hm, e2, l2⟩ := h2
  rcases Nat.lt_trichotomy k m with z | z | z
  · exact ⟨k, hk, fun j hj => by rw [e1 j hj, e2 j (by omega)], by rw [← e2 k z]; exact l1⟩
  · subst z; exact ⟨k, hk, fun j hj => by rw [e1 j hj, e2 j hj], by omega⟩
  · exact ⟨m, hm, fun j hj => by rw [e1 j (by omega), e2 j hj], by rw [e1 m z]; exact l2⟩
theorem lex_vl {a b c : Nat → Nat} (h1 : vec6 a b) (h2 : lexl b c) : lexl a c := by
  obtain ⟨m, hm, e2, l2⟩ := h2
  exact ⟨m, hm, fun j hj => by rw [h1 j (by omega), e2 j hj], by rw [h1 m hm]; exact l2⟩
theorem lex_lv {a b c : Nat → Nat} (h1 : lexl a b) (h2 : vec6 b c) : lexl a c := by
  obtain ⟨k, hk, e1, l1⟩ := h1
  exact ⟨k, hk, fun j hj => by rw [e1 j hj, h2 j (by omega)], by rw [← h2 k hk]; exact l1⟩
theorem nI_dz {a b : Nat} (ha : a < 60000) (hb : b < 60000) : nI a - nI b = 0 ↔ a = b := by
  constructor
  · intro h
    have h1 := pk_sub_toInt (a := a) (b := b) (by omega) (by omega)
    rw [h] at h1
    have : (0 : Int32).toInt = 0 := by decide
    omega
  · intro h; subst h; rw [pk_sub (Nat.le_refl a), Nat.sub_self]; rfl
theorem nI_dn {a b : Nat} (ha : a < 60000) (hb : b < 60000) : 0 ≤ nI a - nI b ↔ b ≤ a := by
  rw [Int32.le_iff_toInt_le, pk_sub_toInt (by omega) (by omega)]
  have : (0 : Int32).toInt = 0 := by decide
  rw [this]; omega
/-- the answers: n of them, cd i their codes, fd i how many unions found them, fs i the first that did; o their places -/
def aok (s : Nat → Nat → Int32) (n : Nat) (o : Nat → Nat) (cd : Nat → Nat → Nat) (fd fs : Nat → Nat) : Prop :=
  n ≤ 300 ∧ s 16 4 = nI n ∧ (∀ i, i < n → o i < n ∧ s 18 i = nI (o i)) ∧ (∀ i j, i < n → j < n → o i = o j → i = j) ∧
  (∀ i, i < n → (∀ v, v < 6 → cd i v < 60000 ∧ s 17 (o i * 6 + v) = nI (cd i v)) ∧ s 19 (o i) = nI (fd i) ∧ s 20 (o i) = nI (fs i)) ∧
  ∀ i j, i < j → j < n → lexl (cd i) (cd j)
def tok (s : Nat → Nat → Int32) (w : Nat → Nat) : Prop := ∀ v, v < 6 → w v < 60000 ∧ s 29 v = nI (w v)
section VR13
variable {F : ac_hp} {ki : Nat → ClassId} {ad : Nat → Nat} {s : Nat → Nat → Int32} {tl : Nat → Int64} {f : ac_hp}
theorem sp_code {n i v : Nat} {o : Nat → Nat} {cd : Nat → Nat → Nat} {fd fs : Nat → Nat} {Q : Int32 → ac_hp → Prop} (h : vr_R F ki ad s tl f) (ha : aok s n o cd fd fs) (hi : i < n) (hv : v < 6) (hq : Q (nI (cd i v)) f) : wp_X7_code ki (ad 16) (nI i) (nI v) f Q := by
  obtain ⟨h1, h2, h3, h4, h5, h6⟩ := ha
  unfold wp_X7_code
  have ho := (h3 i hi).1
  refine ⟨_, rd_f (i := 16) h (by omega) rfl rfl, _, rd_f (i := 16) h (by omega) rfl rfl, _, rd_i (i := 18) h (by omega) rfl rfl (show i < 300 by omega) (by omega), _, rd_i (i := 17) (j := o i * 6 + v) h (by omega) rfl ?_ (by omega) (by omega), ?_⟩
  · rw [(h3 i hi).2, show (6 : Int32) = nI 6 from rfl, pk_mul, nI_add]
  · rw [((h5 i hi).1 v hv).2]; exact hq
theorem sp_cmp_L {n i : Nat} {o : Nat → Nat} {cd : Nat → Nat → Nat} {fd fs w : Nat → Nat} {Q : Int32 → ac_hp → Prop} {E : ac_hp → Prop} (h : vr_R F ki ad s tl f) (ha : aok s n o cd fd fs) (hw : tok s w) (hi : i < n)
    (he : vec6 (cd i) w → E f) (hl : lexl (cd i) w → ∀ v : Int32, ¬ v = 0 → ¬ 0 ≤ v → Q v f) (hg : lexl w (cd i) → ∀ v : Int32, ¬ v = 0 → 0 ≤ v → Q v f) : ∀ (d v : Nat), d + v = 6 → (∀ j, j < v → cd i j = w j) → wp_X7_compare_L2 ki (ad 16) (nI i) (ad 29) Q E (d + 1) (nI v) f := by
  intro d
  induction d with
  | zero =>
    intro v hv hq
    rw [wp_X7_compare_L2]
    have : v = 6 := by omega
    subst this
    exact ⟨fun _ => he hq, fun z => absurd (show (6 : Int32) ≤ nI 6 by decide) z⟩
  | succ d ih =>
    intro v hv hq
    rw [wp_X7_compare_L2]
    have hv6 : v < 6 := by omega
    refine ⟨fun z => absurd z (by rw [show (6 : Int32) = nI 6 from rfl]; exact nI_ge hv6 (by omega)), fun _ => ⟨rd_o (i := 16) h (by omega) rfl, sp_code h ha hi hv6 ?_⟩⟩
    refine ⟨_, rd_i (i := 29) h (by omega) rfl rfl hv6 (by omega), ?_⟩
    have c1 := ((ha.2.2.2.2.1 i hi).1 v hv6).1
    have c2 := (hw v hv6).1
    rw [(hw v hv6).2]
    intro x hx
    subst hx
    refine ⟨fun hz => ?_, fun hz => ?_⟩
    · intro y hy
      rw [hy, nI_1]
      refine ih (v + 1) (by omega) (fun j hj => ?_)
      by_cases e : j = v
      · subst e; exact (nI_dz c1 c2).mp hz
      · exact hq j (by omega)
    · have hne : cd i v ≠ w v := fun z => hz ((nI_dz c1 c2).mpr z)
      rcases Nat.lt_or_gt_of_ne hne with z | z
      · exact hl ⟨v, hv6, hq, z⟩ _ hz (fun q => absurd ((nI_dn c1 c2).mp q) (by omega))
      · exact hg ⟨v, hv6, fun j hj => (hq j hj).symm, z⟩ _ hz ((nI_dn c1 c2).mpr (by omega))
theorem sp_cmp {n i : Nat} {o : Nat → Nat} {cd : Nat → Nat → Nat} {fd fs w : Nat → Nat} {Q : Int32 → ac_hp → Prop} (h : vr_R F ki ad s tl f) (ha : aok s n o cd fd fs) (hw : tok s w) (hi : i < n)
    (he : vec6 (cd i) w → Q 0 f) (hl : lexl (cd i) w → ∀ v : Int32, ¬ v = 0 → ¬ 0 ≤ v → Q v f) (hg : lexl w (cd i) → ∀ v : Int32, ¬ v = 0 → 0 ≤ v → Q v f) : wp_X7_compare ki (ad 16) (nI i) (ad 29) f Q := by
  unfold wp_X7_compare
  exact ⟨7, sp_cmp_L h ha hw hi he hl hg 6 0 (by omega) (fun j hj => absurd hj (by omega))⟩
theorem mid_n {a b : Nat} (h : a + b < 2 ^ 31) : ((nI a + nI b).toUInt32 >>> ((1 : Int32).toUInt32 &&& Int32.toUInt32 31)).toInt32 = nI ((a + b) / 2) := by
  rw [nI_add, pk_ushrN (n := a + b) (by omega) 1 1 (by decide)]
theorem sp_first_L {n : Nat} {o : Nat → Nat} {cd : Nat → Nat → Nat} {fd fs w : Nat → Nat} {E : Int32 → ac_hp → Prop} (h : vr_R F ki ad s tl f) (ha : aok s n o cd fd fs) (hw : tok s w)
    (hE : ∀ at0, at0 ≤ n → (∀ i, i < at0 → lexl (cd i) w) → (∀ i, at0 ≤ i → i < n → ¬ lexl (cd i) w) → E (nI at0) f) : ∀ (d lo hi : Nat), hi - lo < d → lo ≤ hi → hi ≤ n → (∀ i, i < lo → lexl (cd i) w) → (∀ i, hi ≤ i → i < n → ¬ lexl (cd i) w) → wp_X7_firstNotBefore_L7 ki (ad 16) (ad 29) E d (nI lo) (nI hi) f := by
  have hn := ha.1
  intro d
  induction d with
  | zero => intro lo hi h1; omega
  | succ d ih =>
    intro lo hi hd hlh hhn q1 q2
    rw [wp_X7_firstNotBefore_L7]
    by_cases e : lo = hi
    · subst e
      exact ⟨fun _ => hE lo hhn q1 q2, fun z => absurd (nI_le (Nat.le_refl lo) (by omega)) z⟩
    · refine ⟨fun z => absurd z (nI_ge (by omega) (by omega)), fun _ => ?_⟩
      intro v hv
      rw [mid_n (by omega)] at hv
      subst hv
      have hm : (lo + hi) / 2 < hi ∧ lo ≤ (lo + hi) / 2 := by omega
      have srt := ha.2.2.2.2.2
      refine ⟨rd_o (i := 16) h (by omega) rfl, sp_cmp h ha hw (by omega) (fun hv => ⟨fun _ => ?_, fun z => absurd (show (0 : Int32) ≤ 0 by decide) z⟩) (fun hl x _ hx => ⟨fun z => absurd z hx, fun _ => ?_⟩) (fun hg x _ hx => ⟨fun _ => ?_, fun z => absurd hx z⟩)⟩
      · refine ih lo _ (by omega) (by omega) (by omega) q1 (fun i hi1 hi2 hl => ?_)
        by_cases e2 : i = (lo + hi) / 2
        · subst e2; exact lex_ne hl hv
        · exact lex_ne (lex_trans (srt _ i (by omega) hi2) hl) hv
      · intro y hy
        rw [hy, nI_1]
        refine ih _ hi (by omega) (by omega) hhn (fun i hi1 => ?_) q2
        by_cases e2 : i = (lo + hi) / 2
        · subst e2; exact hl
        · exact lex_trans (srt i _ (by omega) (by omega)) hl
      · refine ih lo _ (by omega) (by omega) (by omega) q1 (fun i hi1 hi2 hl => ?_)
        by_cases e2 : i = (lo + hi) / 2
        · subst e2; exact lex_irr hl hg
        · exact lex_irr (lex_trans (srt _ i (by omega) hi2) hl) hg
theorem sp_first {n : Nat} {o : Nat → Nat} {cd : Nat → Nat → Nat} {fd fs w : Nat → Nat} {Q : Int32 → ac_hp → Prop} (h : vr_R F ki ad s tl f) (ha : aok s n o cd fd fs) (hw : tok s w)
    (hq : ∀ at0, at0 ≤ n → (∀ i, i < at0 → lexl (cd i) w) → (∀ i, at0 ≤ i → i < n → ¬ lexl (cd i) w) → Q (nI at0) f) : wp_X7_firstNotBefore ki (ad 16) (ad 29) f Q := by
  unfold wp_X7_firstNotBefore
  refine ⟨_, rd_f (i := 16) h (by omega) rfl rfl, n + 1, ?_⟩
  rw [ha.2.1]
  exact sp_first_L h ha hw hq (n + 1) 0 n (by omega) (by omega) (Nat.le_refl n) (fun i hi => absurd hi (by omega)) (fun i h1 h2 => absurd h1 (by omega))
end VR13
