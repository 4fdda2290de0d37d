/-! THE UNIONS: extend, by induction on the atoms that are left -/
def on_ (k : Nat) (T T' : Nat → Int32) : Prop := ∀ v, k.testBit v = true → T v = T' v
theorem pst_congr {k : Nat} {T T2 : Nat → Int32} {x t : Int32} (hT : on_ k T T2) : (pst (k, T) x t = none ∧ pst (k, T2) x t = none) ∨ ∃ k' T' T2', pst (k, T) x t = some (k', T') ∧ pst (k, T2) x t = some (k', T2') ∧ on_ k' T' T2' := by
  unfold pst
  by_cases h0 : 0 ≤ x
  · simp only [if_pos h0]
    by_cases h1 : x / 10000 = t
    · simp only [if_pos h1]; exact Or.inr ⟨k, T, T2, rfl, rfl, hT⟩
    · simp only [if_neg h1]; exact Or.inl ⟨trivial, trivial⟩
  · simp only [if_neg h0]
    generalize ((-1) - x).toNatClampNeg = v
    by_cases hb : k.testBit v = true
    · simp only [if_pos hb, ← hT v hb]
      by_cases h1 : T v = t
      · simp only [if_pos h1]; exact Or.inr ⟨k, T, T2, rfl, rfl, hT⟩
      · simp only [if_neg h1]; exact Or.inl ⟨trivial, trivial⟩
    · simp only [if_neg hb]
      refine Or.inr ⟨_, _, _, rfl, rfl, fun w hw => ?_⟩
      simp only [upd]
      by_cases e : w = v
      · simp [e]
      · simp only [if_neg e]
        refine hT w ?_
        rw [Nat.testBit_or, Nat.testBit_two_pow] at hw
        simpa [Ne.symm e] using hw
theorem pst2_congr {s : Nat → Nat → Int32} {a m k : Nat} {T T2 : Nat → Int32} (hT : on_ k T T2) : (pst2 s a m k T = none ∧ pst2 s a m k T2 = none) ∨ ∃ k' T' T2', pst2 s a m k T = some (k', T') ∧ pst2 s a m k T2 = some (k', T2') ∧ on_ k' T' T2' := by
  unfold pst2
  rcases pst_congr (x := s 7 (a * 2)) (t := s (43 + 3 * m) 0) hT with ⟨e1, e2⟩ | ⟨k1, T1, T12, e1, e2, h1⟩
  · rw [e1, e2]; exact Or.inl ⟨rfl, rfl⟩
  · rw [e1, e2]; exact pst_congr h1
theorem pst_grow {k : Nat} {T : Nat → Int32} {x t : Int32} {k' : Nat} {T' : Nat → Int32} (h : pst (k, T) x t = some (k', T')) : ∀ v, k.testBit v = true → k'.testBit v = true := by
  intro v hv
  unfold pst at h
  split at h
  · split at h
    · cases h; exact hv
    · cases h
  · split at h
    · split at h
      · cases h; exact hv
      · cases h
    · cases h
      show (k ||| _).testBit v = true
      rw [Nat.testBit_or, hv]; rfl
theorem pst2_grow {s : Nat → Nat → Int32} {a m k : Nat} {T : Nat → Int32} {k' : Nat} {T' : Nat → Int32} (h : pst2 s a m k T = some (k', T')) : ∀ v, k.testBit v = true → k'.testBit v = true ∧ T v = T' v := by
  intro v hv
  unfold pst2 at h
  cases e1 : pst (k, T) (s 7 (a * 2)) (s (43 + 3 * m) 0) with
  | none => rw [e1] at h; cases h
  | some q =>
    obtain ⟨k1, T1⟩ := q
    rw [e1] at h
    have h2 : pst (k1, T1) (s 7 (a * 2 + 1)) (s (43 + 3 * m) 1) = some (k', T') := h
    have z := pst_grow e1 v hv
    exact ⟨pst_grow h2 v z, by rw [pst_keep h2 v z, pst_keep e1 v hv]⟩
theorem un_congr {s : Nat → Nat → Int32} {n mc : Nat} : ∀ (d a k : Nat) (T T2 : Nat → Int32) (pre : List Nat), on_ k T T2 → un s n mc d a k T pre = un s n mc d a k T2 pre := by
  intro d
  induction d with
  | zero => intros; rfl
  | succ d ih =>
    intro a k T T2 pre hT
    unfold un
    by_cases h : n ≤ a
    · simp only [if_pos h]
    · simp only [if_neg h]
      congr 1
      funext i
      by_cases hp : s (42 + 3 * i) 3 = s 6 a
      · simp only [if_pos hp]
        rcases pst2_congr (s := s) (a := a) (m := i) hT with ⟨e1, e2⟩ | ⟨k1, T1, T12, e1, e2, h1⟩
        · rw [e1, e2]
        · rw [e1, e2]; exact ih _ _ _ _ _ h1
      · simp only [if_neg hp]
theorem fm_s {g : Nat → List (List Nat)} {r : Nat} : (List.range (r + 1)).flatMap g = (List.range r).flatMap g ++ g r := by
  rw [List.range_succ, List.flatMap_append]; simp
theorem fm_mono {g : Nat → List (List Nat)} {r m : Nat} (h : r ≤ m) : ((List.range r).flatMap g).length ≤ ((List.range m).flatMap g).length := by
  induction m with
  | zero => have : r = 0 := by omega
            subst this; exact Nat.le_refl _
  | succ m ih =>
    by_cases e : r = m + 1
    · subst e; exact Nat.le_refl _
    · rw [fm_s, List.length_append]
      have := ih (by omega)
      omega
section VR9
variable {F : ac_hp} {ki : Nat → ClassId} {ad : Nat → Nat} {s : Nat → Nat → Int32} {tl : Nat → Int64} {f : ac_hp}
theorem pst2_x {s0 : Nat → Nat → Int32} {a m k : Nat} {T : Nat → Int32} (h7 : s0 7 = s 7) (hm : s0 (43 + 3 * m) = s (43 + 3 * m)) : pst2 s0 a m k T = pst2 s a m k T := by
  unfold pst2; rw [h7, hm]
/-- the loop over the mappings at atom a -/
theorem sp_extend_L {n mc d a k : Nat} {T0 R0 K0 : Nat → Int32} {c0 : Nat} {pre : List Nat} {E : ac_hp → Prop} {rec : Nat → Int32 → Int32 → ac_hp → (ac_hp → Prop) → Prop}
    (hn : n ≤ 4) (hmc : mc ≤ 12) (hs1 : s 1 3 = nI mc) (ha : a < n) (hk : k < 64) (hpl : vs_pl s a) (hpre : pre.length = a) (hR0 : ∀ j, j < a → R0 j = nI (pre.getD j 0))
    (hrec : ∀ (k : Nat) (T R K : Nat → Int32) (c : Nat) (pre : List Nat) (f : ac_hp) (Q : ac_hp → Prop), pre.length = a + 1 → k < 64 → c ≤ 150 → (∀ j, j < a + 1 → R j = nI (pre.getD j 0)) → vr_R F ki ad (vs_x s (nI c) 0 K R T) tl f →
      (∀ c' lg K' R' T' f', x_post n K c (un s n mc d (a + 1) k T pre) c' lg K' → (∀ j, j < a + 1 → R' j = R j) → on_ k T T' → vr_R F ki ad (vs_x s (nI c') lg K' R' T') tl f' → Q f') → rec (ad 10) (nI (a + 1)) (nI k) f Q)
    (g : Nat → List (List Nat)) (hg : g = fun i => if s (42 + 3 * i) 3 = s 6 a then (match pst2 s a i k T0 with
        | none => []
        | some q => un s n mc d (a + 1) q.1 q.2 (pre ++ [i])) else [])
    (hE : ∀ c' lg K' R' T' f', x_post n K0 c0 ((List.range mc).flatMap g) c' lg K' → (∀ j, j < a → R' j = R0 j) → on_ k T0 T' → vr_R F ki ad (vs_x s (nI c') lg K' R' T') tl f' → E f') :
    ∀ (d2 r c : Nat) (lg : Int32) (K R T : Nat → Int32) (f : ac_hp), d2 + r = mc → x_post n K0 c0 ((List.range r).flatMap g) c lg K → (∀ j, j < a → R j = R0 j) → on_ k T0 T → vr_R F ki ad (vs_x s (nI c) lg K R T) tl f → wp_X5_extend_L18 ki (ad 10) (nI a) (nI k) E rec (d2 + 1) (nI r) f := by
  intro d2
  induction d2 with
  | zero =>
    intro r c lg K R T f hr hx hR hT h
    rw [wp_X5_extend_L18]
    refine ⟨_, rd_f (i := 10) h (by omega) rfl rfl, _, rd_f (i := 1) h (by omega) rfl rfl, ?_⟩
    rw [vx_o (by omega), hs1]
    have : r = mc := by omega
    subst this
    exact ⟨fun _ => hE c lg K R T f hx hR hT h, fun z => absurd (nI_le (Nat.le_refl r) (by omega)) z⟩
  | succ d2 ih =>
    intro r c lg K R T f hr hx hR hT h
    rw [wp_X5_extend_L18]
    refine ⟨_, rd_f (i := 10) h (by omega) rfl rfl, _, rd_f (i := 1) h (by omega) rfl rfl, ?_⟩
    rw [vx_o (by omega), hs1]
    refine ⟨fun z => absurd z (nI_ge (by omega) (by omega)), fun _ => ?_⟩
    refine ⟨_, rd_f (i := 10) h (by omega) rfl rfl, ?_⟩
    have e6 : vs_x s (nI c) lg K R T 10 6 = lg := by rw [vx_10]; simp [upd]
    rw [e6]
    refine ⟨fun hlg => hE c lg K R T f ?_ hR hT h, fun hlg => ?_⟩
    · obtain ⟨hc, q⟩ := hx
      refine ⟨hc, Or.inr ?_⟩
      rcases q with ⟨-, -, q, -⟩ | ⟨q1, q2⟩
      · exact absurd q hlg
      · have := fm_mono (g := g) (show r ≤ mc by omega)
        exact ⟨by omega, q2⟩
    subst hlg
    obtain ⟨hc, q⟩ := hx
    obtain ⟨hle, hceq, -, hkp⟩ : c0 + ((List.range r).flatMap g).length ≤ 150 ∧ c = c0 + ((List.range r).flatMap g).length ∧ (0 : Int32) = 0 ∧ kpt n K0 c0 ((List.range r).flatMap g) K := by
      rcases q with q | ⟨-, q⟩
      · exact q
      · exact absurd q (by decide)
    have hr12 : r < 12 := by omega
    -- nothing comes of this mapping
    have hnil : g r = [] → x_post n K0 c0 ((List.range (r + 1)).flatMap g) c 0 K := fun e => by
      rw [fm_s, e, List.append_nil]
      exact ⟨hc, Or.inl ⟨hle, hceq, rfl, hkp⟩⟩
    refine ⟨_, rd_f (i := 10) h (by omega) rfl rfl, _, rd_f (i := 1) h (by omega) rfl rfl, _, rd_map h hr12, _, rd_f h (by omega) (lay_M hr12) rfl, _, rd_f (i := 10) h (by omega) rfl rfl, _, rd_f (i := 5) h (by omega) rfl rfl, _, rd_i (i := 6) h (by omega) rfl rfl (show a < 4 by omega) (by omega), ?_⟩
    rw [vx_o (by omega), vx_o (by omega)]
    refine ⟨fun hne => ?_, fun heq => ?_⟩
    · intro w hw
      rw [hw, nI_1]
      exact ih (r + 1) c 0 K R T f (by omega) (hnil (by rw [hg]; simp only [if_neg hne])) hR hT h
    · refine ⟨_, rd_f (i := 10) h (by omega) rfl rfl, _, rd_f (i := 1) h (by omega) rfl rfl, _, rd_map h hr12, rd_o (i := 10) h (by omega) rfl, ?_⟩
      have hs0 : ∀ T', pst2 (va_up (va_up (va_up s 10 (upd (upd (s 10) 5 (nI c)) 6 0)) 11 K) 12 R) a r k T' = pst2 s a r k T' := fun T' => pst2_x (by simp (disch := omega) only [va_up_ne]) (by simp (disch := omega) only [va_up_ne])
      refine sp_settle (s := va_up (va_up (va_up s 10 (upd (upd (s 10) 5 (nI c)) 6 0)) 11 K) 12 R) (T := T) h (by omega) hr12 hk ?_ (fun T' f' e hk' h' => ⟨fun _ => ?_, fun z => absurd rfl z⟩) (fun k' T' f' hk' e h' => ⟨fun z => absurd z (nI_m1 k' hk'), fun _ => ?_⟩)
      · intro p hp
        rw [show va_up (va_up (va_up s 10 (upd (upd (s 10) 5 (nI c)) 6 0)) 11 K) 12 R 7 = s 7 by simp (disch := omega) only [va_up_ne]]
        exact hpl p hp
      · intro w hw
        rw [hw, nI_1]
        rw [hs0] at e
        refine ih (r + 1) c 0 K R T' f' (by omega) (hnil ?_) hR (fun v hv => by rw [hT v hv, hk' v hv]) h'
        rcases pst2_congr (s := s) (a := a) (m := r) hT with ⟨e1, -⟩ | ⟨k1, T1, T12, -, e2, -⟩
        · rw [hg]; simp only [if_pos heq, e1]
        · rw [e] at e2; cases e2
      · rw [hs0] at e
        obtain ⟨T0', e0, hon⟩ : ∃ T0', pst2 s a r k T0 = some (k', T0') ∧ on_ k' T0' T' := by
          rcases pst2_congr (s := s) (a := a) (m := r) hT with ⟨-, e2⟩ | ⟨k1, T1, T12, e1, e2, h1⟩
          · rw [e] at e2; cases e2
          · rw [e] at e2; cases e2; exact ⟨T1, e1, h1⟩
        have hgr : g r = un s n mc d (a + 1) k' T' (pre ++ [r]) := by
          rw [hg]; simp only [if_pos heq, e0]
          exact un_congr _ _ _ _ _ _ hon
        have h' : vr_R F ki ad (vs_x s (nI c) 0 K R T') tl f' := h'
        refine ⟨_, rd_f (i := 10) h' (by omega) rfl rfl, ?_⟩
        refine wr_i (i := 12) h' (by omega) (fun s' => rfl) rfl (show a < 4 by omega) (by omega) (fun f21 h21 => ?_)
        rw [vx_12, vx_u12] at h21
        rw [nI_1]
        refine ⟨rd_o (i := 10) h21 (by omega) rfl, hrec k' T' (upd R a (nI r)) K c (pre ++ [r]) f21 _ (by simp [hpre]) hk' hc ?_ h21 (fun c' lg' K' R' T'' f'' hx' hR' hT' h'' => ?_)⟩
        · intro j hj
          by_cases hja : j = a
          · subst hja
            simp only [upd, if_true, List.getD_eq_getElem?_getD]
            rw [← hpre]
            simp
          · have hj2 : j < a := by omega
            simp only [upd, if_neg hja, List.getD_eq_getElem?_getD]
            rw [List.getElem?_append_left (by omega), ← List.getD_eq_getElem?_getD, hR j hj2, hR0 j hj2]
        · intro w hw
          rw [hw, nI_1]
          refine ih (r + 1) c' lg' K' R' T'' f'' (by omega) ?_ (fun j hj => by rw [hR' j (by omega)]; simp only [upd, if_neg (show ¬ j = a by omega)]; exact hR j hj) (fun v hv => ?_) h''
          · rw [fm_s, hgr]
            obtain ⟨q1, q2⟩ := hx'
            refine ⟨q1, ?_⟩
            rw [List.length_append]
            rcases q2 with ⟨z1, z2, z3, z4⟩ | ⟨z1, z2⟩
            · exact Or.inl ⟨by omega, by omega, z3, kpt_app hkp (hceq ▸ z4) hn⟩
            · exact Or.inr ⟨by omega, z2⟩
          · have z := pst2_grow e v hv
            rw [hT v hv, z.2, hT' v z.1]
theorem sp_extend {n mc : Nat} (hn : n ≤ 4) (hmc : mc ≤ 12) (hs1 : s 1 3 = nI mc) (hs5 : s 5 4 = nI n) (hpl : ∀ a, a < n → vs_pl s a) : ∀ (d a k : Nat) (T R K : Nat → Int32) (c : Nat) (pre : List Nat) (f : ac_hp) (Q : ac_hp → Prop), n < d + a → a ≤ n → pre.length = a → k < 64 → c ≤ 150 → (∀ j, j < a → R j = nI (pre.getD j 0)) → vr_R F ki ad (vs_x s (nI c) 0 K R T) tl f →
      (∀ c' lg K' R' T' f', x_post n K c (un s n mc d a k T pre) c' lg K' → (∀ j, j < a → R' j = R j) → on_ k T T' → vr_R F ki ad (vs_x s (nI c') lg K' R' T') tl f' → Q f') → wp_X5_extend ki d (ad 10) (nI a) (nI k) f Q := by
  intro d
  induction d with
  | zero => intro a k T R K c pre f Q h1 h2; omega
  | succ d ih =>
    intro a k T R K c pre f Q hd ha hpre hk hc hR h hq
    rw [wp_X5_extend]
    refine ⟨_, rd_f (i := 10) h (by omega) rfl rfl, _, rd_f (i := 5) h (by omega) rfl rfl, ?_⟩
    rw [vx_o (by omega), hs5]
    refine ⟨fun hlt => ?_, fun hge => ?_⟩
    · have ha2 : a < n := by
        rcases Nat.lt_or_ge a n with z | z
        · exact z
        · exact absurd hlt (nI_nlt z (by omega))
      refine ⟨mc + 1, sp_extend_L (n := n) (mc := mc) (d := d) (T0 := T) (R0 := R) (K0 := K) (c0 := c) (pre := pre) hn hmc hs1 ha2 hk (hpl a ha2) hpre hR (fun k T R K c pre f Q z1 z2 z3 z4 z5 z6 => ih (a + 1) k T R K c pre f Q (by omega) (by omega) z1 z2 z3 z4 z5 z6) _ rfl (fun c' lg K' R' T' f' z1 z2 z3 z4 => hq c' lg K' R' T' f' ?_ z2 z3 z4) mc 0 c 0 K R T f (by omega) ⟨hc, Or.inl ⟨by simp; omega, by simp, rfl, kpt_0⟩⟩ (fun _ _ => rfl) (fun _ _ => rfl) h⟩
      unfold un
      simp only [if_neg (show ¬ n ≤ a by omega)]
      exact z1
    · have ha2 : a = n := by
        rcases Nat.lt_or_ge a n with z | z
        · exact absurd (nI_lt z (by omega)) hge
        · omega
      subst ha2
      refine ⟨rd_o (i := 10) h (by omega) rfl, sp_keep h hc hn hR (fun c' lg K' f' z1 z2 => hq c' lg K' R T f' ?_ (fun _ _ => rfl) (fun _ _ => rfl) z2)⟩
      unfold un
      simp only [if_pos (Nat.le_refl a)]
      exact z1
/-- all unions that are not dropped, in their order -/
def unions (s : Nat → Nat → Int32) (n mc : Nat) : List (List Nat) := un s n mc 5 0 0 (fun _ => 0) []
/-- behind refresh: the unions are known -/
def known (s : Nat → Nat → Int32) (n mc : Nat) : Prop := ∃ c, s 10 5 = nI c ∧ x_post n (fun _ => 0) 0 (unions s n mc) c (s 10 6) (s 11)
theorem x_post_K {n : Nat} {K K2 : Nat → Int32} {L : List (List Nat)} {c : Nat} {lg : Int32} {K' : Nat → Int32} (h : x_post n K 0 L c lg K') : x_post n K2 0 L c lg K' := by
  obtain ⟨h1, h2⟩ := h
  refine ⟨h1, ?_⟩
  rcases h2 with ⟨a, b, c, d⟩ | h2
  · exact Or.inl ⟨a, b, c, fun x hx => absurd hx (by omega), d.2⟩
  · exact Or.inr h2
theorem sp_refresh {n mc : Nat} {Q : ac_hp → Prop} (h : vr_R F ki ad s tl f) (hn : n ≤ 4) (hmc : mc ≤ 12) (hs1 : s 1 3 = nI mc) (hs5 : s 5 4 = nI n) (hpl : ∀ a, a < n → vs_pl s a)
    (hk : ¬ s 10 7 = 0 → Q f)
    (hq : s 10 7 = 0 → ∀ c lg K R T f', x_post n (fun _ => 0) 0 (unions s n mc) c lg K → vr_R F ki ad (va_up (vs_x s (nI c) lg K R T) 10 (upd (upd (upd (s 10) 5 (nI c)) 6 lg) 7 1)) tl f' → Q f') : wp_X5_refresh ki (ad 10) f Q := by
  unfold wp_X5_refresh
  refine ⟨_, rd_f (i := 10) h (by omega) rfl rfl, fun h0 => ?_, hk⟩
  refine wr_10_5 h (fun f2 h2 => ?_)
  refine wr_10_6 h2 (fun f3 h3 => ?_)
  have h3 : vr_R F ki ad (vs_x s (nI 0) 0 (s 11) (s 12) (s 13)) tl f3 := R_eq h3 (by
    funext i; unfold vs_x
    by_cases h4 : i = 10
    · subst h4; simp (disch := omega) only [va_up_self, va_up_ne]; rfl
    · by_cases h5 : i = 11
      · subst h5; simp (disch := omega) only [va_up_self, va_up_ne]
      · by_cases h6 : i = 12
        · subst h6; simp (disch := omega) only [va_up_self, va_up_ne]
        · by_cases h7 : i = 13
          · subst h7; simp (disch := omega) only [va_up_self, va_up_ne]
          · simp (disch := omega) only [va_up_self, va_up_ne])
  refine ⟨rd_o (i := 10) h3 (by omega) rfl, 5, by omega, ?_⟩
  refine sp_extend hn hmc hs1 hs5 hpl 5 0 0 (s 13) (s 12) (s 11) 0 [] f3 _ (by omega) (by omega) rfl (by omega) (by omega) (fun j hj => absurd hj (by omega)) h3 (fun c' lg K' R' T' f' hx hR hT h' => ?_)
  refine wr_10_7 h' (fun f5 h5 => hq h0 c' lg K' R' T' f5 ?_ (R_eq h5 (by rw [vx_10])))
  have e : un s n mc 5 0 0 (s 13) [] = unions s n mc := un_congr _ _ _ _ _ _ (fun v hv => by simp at hv)
  rw [← e]
  exact x_post_K hx
end VR9
