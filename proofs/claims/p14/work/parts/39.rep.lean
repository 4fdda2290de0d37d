/-! FINDER: allows, suitsAtom, suits, gatherRows -/
/-- place p of atom a, of slot k, fits row r -/
def fitP (s : Nat → Nat → Int32) (tb : Nat → Nat) (cl : Nat → Nat → Nat) (k a : Nat) (c : Nat → Nat) (r p : Nat) : Prop :=
  (∀ x, pl_c (s 7 (a * 2 + p)) x → s (31 + 3 * tb k) (r * 3 + c p) = nI (x % 10000)) ∧
  ∀ v, pl_v (s 7 (a * 2 + p)) v → s (31 + 3 * tb k) (r * 3 + c p) = s (31 + 3 * tb k) (r * 3 + cl k v) ∧ ¬ s (31 + 3 * tb k) (r * 3 + c p) < s 8 v ∧ ¬ s 9 v < s (31 + 3 * tb k) (r * 3 + c p)
/-- the atoms of the question, each with its slot and the mapping that the union chose -/
def lat (s : Nat → Nat → Int32) (u n ct : Nat) (sl ma : Nat → Nat) (ca : Nat → Nat → Nat) (tb mk : Nat → Nat) : Prop :=
  n ≤ 4 ∧ s 5 4 = nI n ∧ ∀ a, a < n → sl a < ct ∧ s 15 a = nI (sl a) ∧ s 11 (u * 4 + a) = nI (ma a) ∧ vm_ok s (ma a) (tb (sl a)) (ca a) ∧ vs_pl s a ∧ ∀ p v, p < 2 → pl_v (s 7 (a * 2 + p)) v → (mk (sl a)).testBit v = true
/-- row r suits slot k: each of its atoms fits -/
def suit (s : Nat → Nat → Int32) (n : Nat) (sl : Nat → Nat) (ca : Nat → Nat → Nat) (tb : Nat → Nat) (cl : Nat → Nat → Nat) (k r : Nat) : Prop := ∀ a, a < n → sl a = k → ∀ p, p < 2 → fitP s tb cl k a (ca a) r p
theorem plv_inj {x : Int32} {v w : Nat} (h1 : pl_v x v) (h2 : pl_v x w) : v = w := by
  have e := (var_of v h1.1).1
  rw [← h1.2, h2.2, (var_of w h2.1).1] at e
  exact ((nI_eq (by have := h2.1; omega) (by have := h1.1; omega)).mp e).symm
section VR20
variable {F : ac_hp} {ki : Nat → ClassId} {ad : Nat → Nat} {s : Nat → Nat → Int32} {tl : Nat → Int64} {f : ac_hp}
variable {u ct n : Nat} {tb mk : Nat → Nat} {cl : Nat → Nat → Nat} {tp : Nat → Nat} {sl ma : Nat → Nat} {ca : Nat → Nat → Nat}
theorem sp_allows {v : Nat} {y : Int32} {Q : Int32 → ac_hp → Prop} (h : vr_R F ki ad s tl f) (hv : v < 6) (hy : ¬ y < s 8 v → ¬ s 9 v < y → Q 1 f) (hn : y < s 8 v ∨ s 9 v < y → Q 0 f) : wp_X4_allows ki (ad 5) (nI v) y f Q := by
  unfold wp_X4_allows
  refine ⟨_, rd_f (i := 5) h (by omega) rfl rfl, _, rd_i (i := 8) h (by omega) rfl rfl hv (by omega), fun z => hn (Or.inl z), fun z => ?_⟩
  exact ⟨_, rd_f (i := 5) h (by omega) rfl rfl, _, rd_i (i := 9) h (by omega) rfl rfl hv (by omega), fun y => hn (Or.inr y), fun y => hy z y⟩
theorem sp_suitsAtom_L {a r : Nat} {Q : Int32 → ac_hp → Prop} {E : ac_hp → Prop} (h : vr_R F ki ad s tl f) (hf : lok s u ct tb mk cl tp) (hl : lat s u n ct sl ma ca tb mk) (ha : a < n) (hr : r < 20)
    (hy : (∀ p, p < 2 → fitP s tb cl (sl a) a (ca a) r p) → E f) (hn : ¬ (∀ p, p < 2 → fitP s tb cl (sl a) a (ca a) r p) → Q 0 f) :
    ∀ (d p : Nat), d + p = 2 → (∀ q, q < p → fitP s tb cl (sl a) a (ca a) r q) → wp_X8_suitsAtom_L17 ki (ad 21) (nI a) (ad (30 + 3 * tb (sl a))) (nI r) (ad (42 + 3 * ma a)) Q E (d + 1) (nI p) f := by
  have hct := hf.1
  obtain ⟨hn4, -, hl⟩ := hl
  obtain ⟨l1, l2, l3, ⟨m1, m2, m3, m4⟩, l5, l6⟩ := hl a ha
  obtain ⟨g1, g2, g3, g8, g9⟩ := hf.2.2.2.2.2 (sl a) l1
  intro d
  induction d with
  | zero =>
    intro p hp hq
    rw [wp_X8_suitsAtom_L17]
    have : p = 2 := by omega
    subst this
    exact ⟨fun _ => hy hq, fun z => absurd (show (2 : Int32) ≤ nI 2 by decide) z⟩
  | succ d ih =>
    intro p hp hq
    rw [wp_X8_suitsAtom_L17]
    have hp2 : p < 2 := by omega
    obtain ⟨c1, c2⟩ := m4 p hp2
    have next : fitP s tb cl (sl a) a (ca a) r p → ∀ x : Int32, x = nI p + 1 → wp_X8_suitsAtom_L17 ki (ad 21) (nI a) (ad (30 + 3 * tb (sl a))) (nI r) (ad (42 + 3 * ma a)) Q E (d + 1) x f := fun hz x hx => by
      rw [hx, nI_1]
      refine ih (p + 1) (by omega) (fun j hj => ?_)
      by_cases e : j = p
      · subst e; exact hz
      · exact hq j (by omega)
    refine ⟨fun z => absurd z (by rw [show (2 : Int32) = nI 2 from rfl]; exact nI_ge hp2 (by omega)), fun _ => ?_⟩
    refine ⟨_, rd_f (i := 21) h (by omega) rfl rfl, rd_o (i := 5) h (by omega) rfl, sp_told h (by omega) ?_⟩
    refine ⟨_, rd_f h (by omega) (lay_M m1) rfl, _, rd_i h (by omega) (lay_Mc m1) rfl hp2 (by omega), rd_o h (by omega) (lay_T g1), ?_⟩
    rw [c2]
    refine sp_cell h g1 (by omega) ?_
    rcases pl_cases (l5 p hp2) with ⟨x, hx⟩ | ⟨v, hv⟩
    · have hx0 : 0 ≤ s 7 (a * 2 + p) := by rw [hx.2]; exact nI_pos' (by have := hx.1; omega)
      refine pb_isV (fun _ => ⟨fun z => absurd rfl z, fun _ => ?_⟩) (fun z => absurd hx0 z)
      rw [hx.2, show (10000 : Int32) = nI 10000 from rfl, pk_rem (by have := hx.1; omega) (by omega) (by omega)]
      refine ⟨fun he => next ⟨fun y hy => ?_, fun v hv => ?_⟩, fun hne => hn (fun z => hne ((z p hp2).1 x hx).symm)⟩
      · have : y = x := (nI_eq (by have := hy.1; omega) (by have := hx.1; omega)).mp (hy.2.symm.trans hx.2)
        rw [this]; exact he.symm
      · exact absurd hx0 (by rw [hv.2]; exact (var_of v hv.1).2)
    · have hv6 := hv.1
      have ev : (-1 : Int32) - s 7 (a * 2 + p) = nI v := by rw [hv.2]; exact (var_of v hv6).1
      have hneg : ¬ 0 ≤ s 7 (a * 2 + p) := by rw [hv.2]; exact (var_of v hv6).2
      obtain ⟨b1, b2⟩ := (g9 v hv6).1 (l6 p v hp2 hv)
      refine pb_isV (fun z => absurd z hneg) (fun _ => ⟨fun _ => ?_, fun z => absurd z ne10⟩)
      unfold wp_X0_variableOf
      rw [ev]
      refine ⟨_, rd_f (i := 21) h (by omega) rfl rfl, _, rd_f (i := 21) h (by omega) rfl rfl, _, rd_f (i := 14) h (by omega) rfl rfl, _, rd_i (i := 15) h (by omega) rfl rfl (show a < 4 by omega) (by omega), ?_⟩
      rw [l2]
      refine ⟨_, rd_i (i := 24) (j := sl a * 6 + v) h (by omega) rfl (by rw [show (6 : Int32) = nI 6 from rfl, pk_mul, nI_add]) (by omega) (by omega), rd_o h (by omega) (lay_T g1), ?_⟩
      rw [b2]
      refine sp_cell h g1 (by omega) ⟨fun hne => hn (fun z => hne ((z p hp2).2 v hv).1), fun he => ?_⟩
      refine ⟨_, rd_f (i := 21) h (by omega) rfl rfl, rd_o (i := 5) h (by omega) rfl, sp_allows h hv6 (fun z1 z2 => ⟨fun _ => next ⟨fun y hy => ?_, fun w hw => ?_⟩, fun z => absurd z ne10⟩) (fun z => ⟨fun y => absurd rfl y, fun _ => hn (fun q => ?_)⟩)⟩
      · exact absurd (by rw [hy.2]; exact nI_pos' (by have := hy.1; omega)) hneg
      · have := plv_inj hw hv
        subst this
        exact ⟨he, z1, z2⟩
      · obtain ⟨-, q1, q2⟩ := (q p hp2).2 v hv
        rcases z with z | z
        · exact q1 z
        · exact q2 z
theorem sp_suitsAtom {a r : Nat} {Q : Int32 → ac_hp → Prop} (h : vr_R F ki ad s tl f) (hf : lok s u ct tb mk cl tp) (hl : lat s u n ct sl ma ca tb mk) (ha : a < n) (hr : r < 20)
    (hy : (∀ p, p < 2 → fitP s tb cl (sl a) a (ca a) r p) → Q 1 f) (hn : ¬ (∀ p, p < 2 → fitP s tb cl (sl a) a (ca a) r p) → Q 0 f) : wp_X8_suitsAtom ki (ad 21) (nI a) (ad (30 + 3 * tb (sl a))) (nI r) f Q := by
  unfold wp_X8_suitsAtom
  have hu := hf.2.1
  have hn4 := hl.1
  obtain ⟨l1, l2, l3, ⟨m1, m2, m3, m4⟩, l5, l6⟩ := hl.2.2 a ha
  refine ⟨_, rd_f (i := 21) h (by omega) rfl rfl, _, rd_f (i := 21) h (by omega) rfl rfl, rd_o (i := 10) h (by omega) rfl, ?_⟩
  rw [hf.2.2.1]
  exact sp_mappingOf h (by omega) m1 l3 ⟨3, sp_suitsAtom_L h hf hl ha hr hy hn 2 0 (by omega) (fun q hq => absurd hq (by omega))⟩
theorem sp_suits_L {k r : Nat} {Q : Int32 → ac_hp → Prop} {E : ac_hp → Prop} (h : vr_R F ki ad s tl f) (hf : lok s u ct tb mk cl tp) (hl : lat s u n ct sl ma ca tb mk) (hk : k < ct) (hr : r < 20)
    (hy : suit s n sl ca tb cl k r → E f) (hn : ¬ suit s n sl ca tb cl k r → Q 0 f) :
    ∀ (d a : Nat), d + a = n → (∀ b, b < a → sl b = k → ∀ p, p < 2 → fitP s tb cl k b (ca b) r p) → wp_X8_suits_L3 ki (ad 21) (nI k) (ad (30 + 3 * tb k)) (nI r) Q E (d + 1) (nI a) f := by
  have hct := hf.1
  have hn4 := hl.1
  intro d
  induction d with
  | zero =>
    intro a ha hq
    rw [wp_X8_suits_L3]
    have : a = n := by omega
    subst this
    refine ⟨_, rd_f (i := 21) h (by omega) rfl rfl, _, rd_f (i := 5) h (by omega) rfl rfl, ?_⟩
    rw [hl.2.1]
    exact ⟨fun _ => hy hq, fun z => absurd (nI_le (Nat.le_refl a) (by omega)) z⟩
  | succ d ih =>
    intro a ha hq
    rw [wp_X8_suits_L3]
    have han : a < n := by omega
    obtain ⟨l1, l2, l3, -, -, -⟩ := hl.2.2 a han
    have next : (sl a = k → ∀ p, p < 2 → fitP s tb cl k a (ca a) r p) → ∀ x : Int32, x = nI a + 1 → wp_X8_suits_L3 ki (ad 21) (nI k) (ad (30 + 3 * tb k)) (nI r) Q E (d + 1) x f := fun hz x hx => by
      rw [hx, nI_1]
      refine ih (a + 1) (by omega) (fun j hj => ?_)
      by_cases e : j = a
      · subst e; exact hz
      · exact hq j (by omega)
    refine ⟨_, rd_f (i := 21) h (by omega) rfl rfl, _, rd_f (i := 5) h (by omega) rfl rfl, ?_⟩
    rw [hl.2.1]
    refine ⟨fun z => absurd z (nI_ge han (by omega)), fun _ => ?_⟩
    refine ⟨_, rd_f (i := 21) h (by omega) rfl rfl, _, rd_f (i := 14) h (by omega) rfl rfl, _, rd_i (i := 15) h (by omega) rfl rfl (show a < 4 by omega) (by omega), ?_⟩
    rw [l2]
    refine ⟨fun hne => next (fun e => absurd (by rw [e]) hne), fun he => ⟨rd_o (i := 21) h (by omega) rfl, ?_⟩⟩
    have hek : sl a = k := (nI_eq (by omega) (by omega)).mp he
    subst hek
    exact sp_suitsAtom h hf hl han hr (fun z => ⟨fun _ => next (fun _ => z), fun y => absurd y ne10⟩) (fun z => ⟨fun y => absurd rfl y, fun _ => hn (fun q => z (q a han rfl))⟩)
theorem sp_suits {k r : Nat} {Q : Int32 → ac_hp → Prop} (h : vr_R F ki ad s tl f) (hf : lok s u ct tb mk cl tp) (hl : lat s u n ct sl ma ca tb mk) (hk : k < ct) (hr : r < 20)
    (hy : suit s n sl ca tb cl k r → Q 1 f) (hn : ¬ suit s n sl ca tb cl k r → Q 0 f) : wp_X8_suits ki (ad 21) (nI k) (ad (30 + 3 * tb k)) (nI r) f Q :=
  ⟨n + 1, sp_suits_L h hf hl hk hr hy hn n 0 (by omega) (fun b hb => absurd hb (by omega))⟩
end VR20
