/-! SETS OF VARIABLES AS MASKS, PLACES, settle -/
theorem bt_has : ∀ k, k < 64 → ∀ v, v < 6 → (((nI k >>> (nI v &&& 31)) &&& 1) = 0 ↔ k.testBit v = false) := by decide +kernel
theorem bt_with : ∀ k, k < 64 → ∀ v, v < 6 → nI k ||| ((1 : Int32) <<< (nI v &&& 31)) = nI (k ||| 2 ^ v) ∧ (k ||| 2 ^ v) < 64 := by decide +kernel
theorem bt_or : ∀ k, k < 64 → ∀ v, v < 6 → ∀ w, w < 6 → (k ||| 2 ^ v).testBit w = (k.testBit w || decide (w = v)) := by decide +kernel
theorem nI_m1 : ∀ k, k < 64 → ¬ nI k = (-1) := by decide +kernel
theorem var_of : ∀ v, v < 6 → (-1 : Int32) - ((-1) - nI v) = nI v ∧ ¬ (0 : Int32) ≤ (-1) - nI v := by decide +kernel
/-- a place of an atom: a code, or a variable -/
def pl_c (x : Int32) (c : Nat) : Prop := c < 60000 ∧ x = nI c
def pl_v (x : Int32) (v : Nat) : Prop := v < 6 ∧ x = (-1) - nI v
theorem pl_cases {x : Int32} (h : ¬ x < (-6) ∧ x < 60000) : (∃ c, pl_c x c) ∨ ∃ v, pl_v x v := by
  rcases pk_ix x (n := 60000) (by omega) with z | z | ⟨j, hj, e⟩
  · right
    have h1 : (-6 : Int) ≤ x.toInt := by
      have := Int32.not_lt.mp h.1
      rw [Int32.le_iff_toInt_le] at this
      exact this
    have h2 : x.toInt < 0 := by
      rw [Int32.lt_iff_toInt_lt] at z
      exact z
    have h3 : x.toInt = -6 ∨ x.toInt = -5 ∨ x.toInt = -4 ∨ x.toInt = -3 ∨ x.toInt = -2 ∨ x.toInt = -1 := by omega
    rcases h3 with q | q | q | q | q | q
    · exact ⟨5, by omega, Int32.toInt_inj.mp (by rw [q]; decide)⟩
    · exact ⟨4, by omega, Int32.toInt_inj.mp (by rw [q]; decide)⟩
    · exact ⟨3, by omega, Int32.toInt_inj.mp (by rw [q]; decide)⟩
    · exact ⟨2, by omega, Int32.toInt_inj.mp (by rw [q]; decide)⟩
    · exact ⟨1, by omega, Int32.toInt_inj.mp (by rw [q]; decide)⟩
    · exact ⟨0, by omega, Int32.toInt_inj.mp (by rw [q]; decide)⟩
  · exact absurd h.2 (Int32.not_lt.mpr z)
  · exact Or.inl ⟨j, hj, e⟩
/-- one place meets a template: the settled variables and their templates behind it -/
def pst (q : Nat × (Nat → Int32)) (x t : Int32) : Option (Nat × (Nat → Int32)) :=
  if 0 ≤ x then (if x / 10000 = t then some q else none)
  else (if q.1.testBit ((-1) - x).toNatClampNeg then (if q.2 ((-1) - x).toNatClampNeg = t then some q else none) else some (q.1 ||| 2 ^ ((-1) - x).toNatClampNeg, upd q.2 ((-1) - x).toNatClampNeg t))
section VR7
variable {F : ac_hp} {ki : Nat → ClassId} {ad : Nat → Nat} {s : Nat → Nat → Int32} {tl : Nat → Int64} {f : ac_hp}
theorem pb_isV {x : Int32} {Q : Int32 → ac_hp → Prop} (h0 : 0 ≤ x → Q 0 f) (h1 : ¬ 0 ≤ x → Q 1 f) : wp_X0_isVariable ki x f Q := ⟨h0, h1⟩
theorem sp_told {a p : Nat} {Q : Int32 → ac_hp → Prop} (h : vr_R F ki ad s tl f) (hb : a * 2 + p < 8) (hq : Q (s 7 (a * 2 + p)) f) : wp_X4_told ki (ad 5) (nI a) (nI p) f Q := by
  unfold wp_X4_told
  refine ⟨_, rd_f (i := 5) h (by omega) rfl rfl, _, rd_i (i := 7) h (by omega) rfl ?_ hb (by omega), hq⟩
  rw [show (2 : Int32) = nI 2 from rfl, pk_mul, nI_add]
/-- the places of atom a are told -/
def vs_pl (s : Nat → Nat → Int32) (a : Nat) : Prop := ∀ p, p < 2 → ¬ s 7 (a * 2 + p) < (-6) ∧ s 7 (a * 2 + p) < 60000
theorem sp_settle1 {a m k p n : Nat} {T : Nat → Int32} {Q : Int32 → ac_hp → Prop} {E : Int32 → ac_hp → Prop} (h : vr_R F ki ad (va_up s 13 T) tl f) (ha : a < 4) (hm : m < 12) (hp : p < 2) (hk : k < 64) (hpl : vs_pl s a)
    (hnone : pst (k, T) (s 7 (a * 2 + p)) (s (43 + 3 * m) p) = none → Q (-1) f)
    (hsome : ∀ k' T' f', k' < 64 → pst (k, T) (s 7 (a * 2 + p)) (s (43 + 3 * m) p) = some (k', T') → vr_R F ki ad (va_up s 13 T') tl f' → wp_X5_settle_L6 ki (ad 10) (nI a) (ad (42 + 3 * m)) Q E n (nI k') (nI (p + 1)) f') : wp_X5_settle_L6 ki (ad 10) (nI a) (ad (42 + 3 * m)) Q E (n + 1) (nI k) (nI p) f := by
  rw [wp_X5_settle_L6]
  have e7 : va_up s 13 T 7 = s 7 := va_up_ne _ _ (by omega)
  have e43 : va_up s 13 T (43 + 3 * m) = s (43 + 3 * m) := va_up_ne _ _ (by omega)
  refine ⟨fun z => absurd z (by rw [show (2 : Int32) = nI 2 from rfl]; exact nI_ge hp (by omega)), fun _ => ?_⟩
  refine ⟨_, rd_f (i := 10) h (by omega) rfl rfl, rd_o (i := 5) h (by omega) rfl, sp_told h (by omega) ?_⟩
  rw [e7]
  refine ⟨_, rd_f h (by omega) (lay_M hm) rfl, _, rd_i h (by omega) (lay_Mt hm) rfl hp (by omega), ?_⟩
  rw [e43]
  refine pb_isV (fun hx => ⟨fun z => absurd rfl z, fun _ => ⟨fun he => ?_, fun hne => ?_⟩⟩) (fun hx => ⟨fun _ => ?_, fun z => absurd z ne10⟩)
  · intro w hw
    rw [hw, nI_1]
    exact hsome k T f hk (by simp only [pst, if_pos hx, if_pos he]) h
  · exact hnone (by simp only [pst, if_pos hx, if_neg hne])
  · rcases pl_cases (hpl p hp) with ⟨c, hc, e⟩ | ⟨v, hv, e⟩
    · exact absurd (by rw [e]; exact nI_pos' (by omega)) hx
    · have ev : (-1 : Int32) - s 7 (a * 2 + p) = nI v := by rw [e]; exact (var_of v hv).1
      have ecl : ((-1 : Int32) - s 7 (a * 2 + p)).toNatClampNeg = v := by rw [ev, nI_clamp (by omega)]
      unfold wp_X0_variableOf wp_X0_has
      rw [ev]
      refine ⟨fun hz => ⟨fun z => absurd rfl z, fun _ => ?_⟩, fun hz => ⟨fun _ => ?_, fun z => absurd z ne10⟩⟩
      · have hb : k.testBit v = false := (bt_has k hk v hv).mp hz
        refine ⟨_, rd_f (i := 10) h (by omega) rfl rfl, ?_⟩
        refine wr_i (i := 13) h (by omega) (fun s' => rfl) rfl hv (by omega) (fun f20 h20 => ?_)
        unfold wp_X0_with
        dsimp only
        rw [(bt_with k hk v hv).1]
        intro w hw
        rw [hw, nI_1]
        refine hsome (k ||| 2 ^ v) (upd T v (s (43 + 3 * m) p)) f20 (bt_with k hk v hv).2 ?_ (R_eq h20 ?_)
        · simp only [pst, if_neg hx, ecl, hb]
          rfl
        · simp only [va_up_self, bx_uu]
      · have hb : k.testBit v = true := by
          cases hq : k.testBit v with
          | true => rfl
          | false => exact absurd ((bt_has k hk v hv).mpr hq) hz
        refine ⟨_, rd_f (i := 10) h (by omega) rfl rfl, ?_⟩
        refine ⟨_, rd_i (i := 13) h (by omega) rfl rfl hv (by omega), ?_⟩
        rw [va_up_self]
        refine ⟨fun he => ?_, fun hne => hnone ?_⟩
        · intro w hw
          rw [hw, nI_1]
          exact hsome k T f hk (by simp only [pst, if_neg hx, ecl, hb, he, if_true]) h
        · simp only [pst, if_neg hx, ecl, hb, if_true, if_neg hne]
/-- both places of an atom under mapping m -/
def pst2 (s : Nat → Nat → Int32) (a m k : Nat) (T : Nat → Int32) : Option (Nat × (Nat → Int32)) :=
  (pst (k, T) (s 7 (a * 2)) (s (43 + 3 * m) 0)).bind fun q => pst q (s 7 (a * 2 + 1)) (s (43 + 3 * m) 1)
theorem pst_keep {k : Nat} {T : Nat → Int32} {x t : Int32} {k' : Nat} {T' : Nat → Int32} (h : pst (k, T) x t = some (k', T')) : ∀ v, k.testBit v = true → T' v = T v := by
  intro v hv
  unfold pst at h
  split at h
  · split at h
    · cases h; rfl
    · cases h
  · split at h
    · split at h
      · cases h; rfl
      · cases h
    · rename_i hb
      cases h
      show upd T _ t v = T v
      unfold upd
      rw [if_neg]
      intro e
      rw [e] at hv
      exact hb hv
theorem sp_settle {a m k : Nat} {T : Nat → Int32} {Q : Int32 → ac_hp → Prop} (h : vr_R F ki ad (va_up s 13 T) tl f) (ha : a < 4) (hm : m < 12) (hk : k < 64) (hpl : vs_pl s a)
    (hnone : ∀ T' f', pst2 s a m k T = none → (∀ v, k.testBit v = true → T' v = T v) → vr_R F ki ad (va_up s 13 T') tl f' → Q (-1) f')
    (hsome : ∀ k' T' f', k' < 64 → pst2 s a m k T = some (k', T') → vr_R F ki ad (va_up s 13 T') tl f' → Q (nI k') f') : wp_X5_settle ki (ad 10) (nI a) (ad (42 + 3 * m)) (nI k) f Q := by
  unfold wp_X5_settle
  refine ⟨3, sp_settle1 (p := 0) h ha hm (by omega) hk hpl (fun hn => hnone T f (by simp only [pst2, Nat.add_zero] at hn ⊢; rw [hn]; rfl) (fun _ _ => rfl) h) (fun k1 T1 f1 hk1 e1 h1 => ?_)⟩
  refine sp_settle1 (p := 1) h1 ha hm (by omega) hk1 hpl (fun hn => hnone T1 f1 ?_ (pst_keep e1) h1) (fun k2 T2 f2 hk2 e2 h2 => ?_)
  · simp only [pst2, Nat.add_zero] at e1 hn ⊢
    rw [e1]; exact hn
  · rw [wp_X5_settle_L6]
    refine ⟨fun _ => hsome k2 T2 f2 hk2 ?_ h2, fun z => absurd (show (2 : Int32) ≤ nI 2 by decide) z⟩
    simp only [pst2, Nat.add_zero] at e1 e2 ⊢
    rw [e1]; exact e2
end VR7
