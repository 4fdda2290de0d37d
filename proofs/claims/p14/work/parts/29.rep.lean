/-! SLOTS -/
section VR10
variable {F : ac_hp} {ki : Nat → ClassId} {ad : Nat → Nat} {s : Nat → Nat → Int32} {tl : Nat → Int64} {f : ac_hp}
theorem sp_chosen {u a : Nat} {Q : Int32 → ac_hp → Prop} (h : vr_R F ki ad s tl f) (hb : u * 4 + a < 600) (hq : Q (s 11 (u * 4 + a)) f) : wp_X5_chosen ki (ad 10) (nI u) (nI a) f Q := by
  unfold wp_X5_chosen
  refine ⟨_, rd_f (i := 10) h (by omega) rfl rfl, _, rd_i (i := 11) h (by omega) rfl ?_ hb (by omega), hq⟩
  rw [show (4 : Int32) = nI 4 from rfl, pk_mul, nI_add]
theorem sp_mappingOf {u a m : Nat} {Q : Nat → ac_hp → Prop} (h : vr_R F ki ad s tl f) (hb : u * 4 + a < 600) (hm : m < 12) (he : s 11 (u * 4 + a) = nI m) (hq : Q (ad (42 + 3 * m)) f) : wp_X5_mappingOf ki (ad 10) (nI u) (nI a) f Q := by
  unfold wp_X5_mappingOf
  refine ⟨_, rd_f (i := 10) h (by omega) rfl rfl, _, rd_f (i := 1) h (by omega) rfl rfl, rd_o (i := 10) h (by omega) rfl, sp_chosen h hb ?_⟩
  rw [he]
  exact ⟨_, rd_map h hm, hq⟩
theorem sp_tableOf1 {m t : Nat} {Q : Nat → ac_hp → Prop} (h : vr_R F ki ad s tl f) (hm : m < 12) (ht : t < 4) (he : s (42 + 3 * m) 2 = nI t) (hq : Q (ad (30 + 3 * t)) f) : wp_X1_tableOf ki (ad 1) (ad (42 + 3 * m)) f Q := by
  unfold wp_X1_tableOf
  refine ⟨_, rd_f (i := 1) h (by omega) rfl rfl, _, rd_f h (by omega) (lay_M hm) rfl, ?_⟩
  rw [he]
  exact ⟨_, rd_tab h ht, hq⟩
theorem sp_tableOf5 {u a m t : Nat} {Q : Nat → ac_hp → Prop} (h : vr_R F ki ad s tl f) (hb : u * 4 + a < 600) (hm : m < 12) (he : s 11 (u * 4 + a) = nI m) (ht : t < 4) (het : s (42 + 3 * m) 2 = nI t) (hq : Q (ad (30 + 3 * t)) f) : wp_X5_tableOf ki (ad 10) (nI u) (nI a) f Q := by
  unfold wp_X5_tableOf
  exact ⟨_, rd_f (i := 10) h (by omega) rfl rfl, rd_o (i := 10) h (by omega) rfl, sp_mappingOf h hb hm he ⟨rd_o (i := 1) h (by omega) rfl, sp_tableOf1 h hm ht het hq⟩⟩
/-- mapping m is told: a table, columns -/
def vm_ok (s : Nat → Nat → Int32) (m t : Nat) (c : Nat → Nat) : Prop := m < 12 ∧ t < 4 ∧ s (42 + 3 * m) 2 = nI t ∧ ∀ p, p < 2 → c p < 3 ∧ s (44 + 3 * m) p = nI (c p)
/-- places i of atom a, j of atom b are one key -/
def pr1 (s : Nat → Nat → Int32) (t a b : Nat) (ca cb : Nat → Nat) (i j : Nat) : Prop := ca i = cb j ∧ s (32 + 3 * t) (ca i) ≠ 0 ∧ s 7 (a * 2 + i) = s 7 (b * 2 + j)
theorem sp_one63 {a b ma mb t tb i : Nat} {ca cb : Nat → Nat} {Q : Int32 → ac_hp → Prop} {E : ac_hp → Prop} (h : vr_R F ki ad s tl f) (ha : a < 4) (hb : b < 4) (hma : vm_ok s ma t ca) (hmb : vm_ok s mb tb cb) (hi : i < 2)
    (hy : (∃ j, j < 2 ∧ pr1 s t a b ca cb i j) → Q 1 f) (hn : (∀ j, j < 2 → ¬ pr1 s t a b ca cb i j) → E f) : ∀ (d j : Nat), d + j = 2 → (∀ q, q < j → ¬ pr1 s t a b ca cb i q) → wp_X6_areOfOneRow_L63 ki (ad 14) (nI a) (nI b) (ad (42 + 3 * ma)) (ad (42 + 3 * mb)) (ad (32 + 3 * t)) (nI i) Q E (d + 1) (nI j) f := by
  obtain ⟨m1, t1, e1, c1⟩ := hma
  obtain ⟨m2, -, e2, c2⟩ := hmb
  intro d
  induction d with
  | zero =>
    intro j hj hq
    rw [wp_X6_areOfOneRow_L63]
    have : j = 2 := by omega
    subst this
    exact ⟨fun _ => hn hq, fun z => absurd (show (2 : Int32) ≤ nI 2 by decide) z⟩
  | succ d ih =>
    intro j hj hq
    rw [wp_X6_areOfOneRow_L63]
    have hj2 : j < 2 := by omega
    have next : ¬ pr1 s t a b ca cb i j → ∀ v : Int32, v = nI j + 1 → wp_X6_areOfOneRow_L63 ki (ad 14) (nI a) (nI b) (ad (42 + 3 * ma)) (ad (42 + 3 * mb)) (ad (32 + 3 * t)) (nI i) Q E (d + 1) v f := fun hno v hv => by
      rw [hv, nI_1]
      refine ih (j + 1) (by omega) (fun q hq1 => ?_)
      by_cases e : q = j
      · subst e; exact hno
      · exact hq q (by omega)
    refine ⟨fun z => absurd z (by rw [show (2 : Int32) = nI 2 from rfl]; exact nI_ge hj2 (by omega)), fun _ => ?_⟩
    refine ⟨_, rd_f h (by omega) (lay_M m1) rfl, _, rd_i h (by omega) (lay_Mc m1) rfl hi (by omega), _, rd_f h (by omega) (lay_M m2) rfl, _, rd_i h (by omega) (lay_Mc m2) rfl hj2 (by omega), ?_⟩
    rw [(c1 i hi).2, (c2 j hj2).2]
    have q1 := (c1 i hi).1
    have q2 := (c2 j hj2).1
    refine ⟨fun hne => next (fun z => hne (by rw [z.1])), fun he => ?_⟩
    have hcc : ca i = cb j := (nI_eq (by omega) (by omega)).mp he
    refine ⟨_, rd_f h (by omega) (lay_M m1) rfl, _, rd_i h (by omega) (lay_Mc m1) rfl hi (by omega), ?_⟩
    rw [(c1 i hi).2]
    refine ⟨_, rd_i h (by omega) (lay_Tk t1) rfl q1 (by omega), fun hz => next (fun z => z.2.1 hz), fun hz => ?_⟩
    refine ⟨_, rd_f (i := 14) h (by omega) rfl rfl, rd_o (i := 5) h (by omega) rfl, sp_told h (by omega) ?_⟩
    refine ⟨_, rd_f (i := 14) h (by omega) rfl rfl, rd_o (i := 5) h (by omega) rfl, sp_told h (by omega) ?_⟩
    exact ⟨fun hne => next (fun z => hne z.2.2), fun hee => hy ⟨j, hj2, hcc, hz, hee⟩⟩
theorem sp_one54 {a b ma mb t tb : Nat} {ca cb : Nat → Nat} {Q : Int32 → ac_hp → Prop} {E : ac_hp → Prop} (h : vr_R F ki ad s tl f) (ha : a < 4) (hb : b < 4) (hma : vm_ok s ma t ca) (hmb : vm_ok s mb tb cb)
    (hy : (∃ i, i < 2 ∧ ∃ j, j < 2 ∧ pr1 s t a b ca cb i j) → Q 1 f) (hn : (∀ i, i < 2 → ∀ j, j < 2 → ¬ pr1 s t a b ca cb i j) → E f) : ∀ (d i : Nat), d + i = 2 → (∀ q, q < i → ∀ j, j < 2 → ¬ pr1 s t a b ca cb q j) → wp_X6_areOfOneRow_L54 ki (ad 14) (nI a) (nI b) (ad (42 + 3 * ma)) (ad (42 + 3 * mb)) (ad (32 + 3 * t)) Q E (d + 1) (nI i) f := by
  intro d
  induction d with
  | zero =>
    intro i hi hq
    rw [wp_X6_areOfOneRow_L54]
    have : i = 2 := by omega
    subst this
    exact ⟨fun _ => hn hq, fun z => absurd (show (2 : Int32) ≤ nI 2 by decide) z⟩
  | succ d ih =>
    intro i hi hq
    rw [wp_X6_areOfOneRow_L54]
    have hi2 : i < 2 := by omega
    refine ⟨fun z => absurd z (by rw [show (2 : Int32) = nI 2 from rfl]; exact nI_ge hi2 (by omega)), fun _ => ⟨3, ?_⟩⟩
    refine sp_one63 h ha hb hma hmb hi2 (fun ⟨j, hj, hp⟩ => hy ⟨i, hi2, j, hj, hp⟩) (fun hno => ?_) 2 0 (by omega) (fun q hq1 => absurd hq1 (by omega))
    intro v hv
    rw [hv, nI_1]
    refine ih (i + 1) (by omega) (fun q hq1 => ?_)
    by_cases e : q = i
    · subst e; exact hno
    · exact hq q (by omega)
/-- the atoms a and b, under mappings ma and mb, are of one row -/
def oneR (s : Nat → Nat → Int32) (a b ta tb : Nat) (ca cb : Nat → Nat) : Prop := ta = tb ∧ ∃ i, i < 2 ∧ ∃ j, j < 2 ∧ pr1 s ta a b ca cb i j
theorem sp_areOne {u a b ma mb ta tb : Nat} {ca cb : Nat → Nat} {Q : Int32 → ac_hp → Prop} (h : vr_R F ki ad s tl f) (hu : u < 150) (ha : a < 4) (hb : b < 4) (ea : s 11 (u * 4 + a) = nI ma) (eb : s 11 (u * 4 + b) = nI mb) (hma : vm_ok s ma ta ca) (hmb : vm_ok s mb tb cb)
    (hy : oneR s a b ta tb ca cb → Q 1 f) (hn : ¬ oneR s a b ta tb ca cb → Q 0 f) : wp_X6_areOfOneRow ki (ad 14) (nI u) (nI a) (nI b) f Q := by
  unfold wp_X6_areOfOneRow
  refine ⟨_, rd_f (i := 14) h (by omega) rfl rfl, rd_o (i := 10) h (by omega) rfl, sp_mappingOf h (by omega) hma.1 ea ?_⟩
  refine ⟨_, rd_f (i := 14) h (by omega) rfl rfl, rd_o (i := 10) h (by omega) rfl, sp_mappingOf h (by omega) hmb.1 eb ?_⟩
  refine ⟨_, rd_f h (by have := hma.1; omega) (lay_M hma.1) rfl, _, rd_f h (by have := hmb.1; omega) (lay_M hmb.1) rfl, ?_⟩
  rw [hma.2.2.1, hmb.2.2.1]
  have t1 := hma.2.1
  have t2 := hmb.2.1
  refine ⟨fun he => ?_, fun hne => hn (fun z => hne (by rw [z.1]))⟩
  have ht : ta = tb := (nI_eq (by omega) (by omega)).mp he
  refine ⟨_, rd_f (i := 14) h (by omega) rfl rfl, rd_o (i := 1) h (by omega) rfl, sp_tableOf1 h hma.1 t1 hma.2.2.1 ?_⟩
  refine ⟨_, rd_f h (by omega) (lay_T t1) rfl, 3, ?_⟩
  exact sp_one54 h ha hb hma hmb (fun z => hy ⟨ht, z⟩) (fun z => hn (fun ⟨_, i, hi, j, hj, hp⟩ => z i hi j hj hp)) 2 0 (by omega) (fun q hq => absurd hq (by omega))
end VR10
