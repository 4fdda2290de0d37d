/-! the reference's agree, step by step -/
def stN (N : Nat → Int32) (pl x : Int32) : Option (Nat → Int32) := if pl < 0 then (if N ((-1) - pl).toNatClampNeg < 0 ∨ N ((-1) - pl).toNatClampNeg = x then some (upd N ((-1) - pl).toNatClampNeg x) else none) else (if pl - pl / 10000 * 10000 = x then some N else none)
def agP (t : Nat → Nat → Int32) (val : Nat → Nat → Int32) (a p : Nat) (o : Option (Nat → Int32)) : Option (Nat → Int32) := o.bind fun N => stN N (t 9 (2 * a + p)) (val a p)
def agA (t : Nat → Nat → Int32) (val : Nat → Nat → Int32) (sl : Nat → Nat) (la : Nat) : Nat → Option (Nat → Int32)
  | 0 => some (fun _ => -1)
  | a + 1 => if la < sl a then agA t val sl la a else agP t val a 1 (agP t val a 0 (agA t val sl la a))
def spO (t : Nat → Nat → Int32) (sp : Nat) (N : Nat → Int32) : Prop := ∀ q, q < sp → ∀ v, v < 6 → t 10 q = nI v → ¬ N v < 0 → ¬ N v < t 11 q ∧ ¬ t 12 q < N v
def an (x : Int32) (o : Option (Nat → Int32)) (w : Nat → Int32) : Prop := (x = 0 ∧ o = none) ∨ (x = 1 ∧ ∃ N, o = some N ∧ ∀ u, u < 6 → w u = N u)
theorem an.b {x : Int32} {o : Option (Nat → Int32)} {w : Nat → Int32} (h : an x o w) : x = 0 ∨ x = 1 := h.elim (fun z => Or.inl z.1) (fun z => Or.inr z.1)
theorem agA_none {t : Nat → Nat → Int32} {val : Nat → Nat → Int32} {sl : Nat → Nat} {la a : Nat} (h : agA t val sl la a = none) : ∀ d, agA t val sl la (a + d) = none
  | 0 => h
  | d + 1 => by
    rw [← Nat.add_assoc, agA, agA_none h d]
    split <;> rfl
theorem stN_v {N : Nat → Int32} {v : Nat} {x : Int32} (hv : v < 6) : stN N ((-1) - nI v) x = if N v < 0 ∨ N v = x then some (upd N v x) else none := by
  unfold stN
  have : (-1) - nI v < 0 := by
    have h6 : v = 0 ∨ v = 1 ∨ v = 2 ∨ v = 3 ∨ v = 4 ∨ v = 5 := by omega
    rcases h6 with rfl | rfl | rfl | rfl | rfl | rfl <;> decide
  rw [if_pos this, pm_neg, nI_cl (by omega)]
theorem stN_c {N : Nat → Int32} {d : Nat} {x : Int32} (hd : d < 60000) : stN N (nI d) x = if nI d - nI d / 10000 * 10000 = x then some N else none := by
  unfold stN
  rw [if_neg (nI_pos (by omega))]
section FI1
variable {F : ac_hp} {ki : Nat → ClassId} {am : Nat → Nat} {s : Nat → Nat → Int32} {f : ac_hp}
variable {sz : Nat → Nat} {nn : Nat → Nat → Nat → Nat} {kk : Nat → Nat → Int32} {mc n sp : Nat} {mt pr : Nat → Nat} {ml mtm : Nat → Nat → Nat}
def valR (s : Nat → Nat → Int32) (mt : Nat → Nat) (ml : Nat → Nat → Nat) (c sl R : Nat → Nat) (a p : Nat) : Int32 := s 1 (60 * mt (c a) + 3 * R (sl a) + ml (c a) p)
theorem rj_agree {u la : Nat} {c sl R : Nat → Nat} {Q : Int32 → ac_hp → Prop} (h : mr_R F ki am s f) (hx : RX s sz nn kk mc n sp) (hr : RM s mc mt pr ml mtm) (hu : u ≤ 150) (hc : ∀ a, a < n → c a < mc ∧ s 13 (4 * u + a) = nI (c a)) (hs : ∀ a, a < n → sl a < 4 ∧ s 14 (4 * u + a) = nI (sl a)) (hla : la < 4) (hR : ∀ k, k ≤ la → R k < 20 ∧ s 16 k = nI (R k))
    (hq : ∀ v w f', ((v = 0 ∧ ¬ ∃ N, agA s (valR s mt ml c sl R) sl la n = some N ∧ spO s sp N) ∨ (v = 1 ∧ ∃ N, agA s (valR s mt ml c sl R) sl la n = some N ∧ spO s sp N ∧ ∀ u, u < 6 → w u = N u)) → mr_R F ki am (va_up s 17 w) f' → Q v f') : wp_X9_agree ki (am 0) (nI u) (nI la) f Q := by
  obtain ⟨-, -, ⟨h4, h5, -⟩, ⟨h7, h8, h9⟩, h10, h11, h12⟩ := id hx
  unfold wp_X9_agree
  refine ⟨7, ?_⟩
  -- the spans
  have L225 : ∀ (o : Option (Nat → Int32)), o = agA s (valR s mt ml c sl R) sl la n → ∀ (d q : Nat) (x3 : Int32) (w : Nat → Int32) (f : ac_hp), d + q = sp → ((x3 = 0 ∧ ¬ ∃ N, o = some N ∧ spO s sp N) ∨ (x3 = 1 ∧ ∃ N, o = some N ∧ (∀ q', q' < q → ∀ v, v < 6 → s 10 q' = nI v → ¬ N v < 0 → ¬ N v < s 11 q' ∧ ¬ s 12 q' < N v) ∧ ∀ u, u < 6 → w u = N u)) → mr_R F ki am (va_up s 17 w) f → wp_X9_agree_L225 ki (am 0) (fun y63 f64 => narrow .boolean (.int y63) = .int y63 ∧ Q y63 f64) (d + 1) x3 (nI q) f := by
    intro o ho d
    induction d with
    | zero =>
      intro q x3 w f hq2 hx3 hf
      have e : q = sp := by omega
      subst e
      rw [wp_X9_agree_L225]
      refine ⟨_, rm_f hf rfl, ?_⟩
      rw [va_up_ne _ _ (by omega), h11]
      refine ⟨fun _ => ⟨by rcases hx3 with ⟨z, -⟩ | ⟨z, -⟩ <;> rw [z] <;> rfl, hq x3 w f ?_ hf⟩, fun z => absurd (nI_le (by omega) (by omega)) z⟩
      rw [← ho]
      exact hx3
    | succ d ih =>
      intro q x3 w f hq2 hx3 hf
      rw [wp_X9_agree_L225]
      refine ⟨_, rm_f hf rfl, ?_⟩
      rw [va_up_ne _ _ (by omega), h11]
      obtain ⟨v, hv, ev⟩ := h12 q (by omega)
      have r10 := rm_i (i := 10) (j := q) (c := ki 0) (n := 4) (x := nI q) hf (by omega) rfl rfl (by omega) (by omega)
      rw [va_up_ne _ _ (by omega), ev] at r10
      have r17 := rm_i (i := 17) (j := v) (c := ki 0) (n := 6) (x := nI v) hf (by omega) rfl rfl (by omega) (by omega)
      rw [va_up_self] at r17
      have r11 := rm_i (i := 11) (j := q) (c := ki 0) (n := 4) (x := nI q) hf (by omega) rfl rfl (by omega) (by omega)
      rw [va_up_ne _ _ (by omega)] at r11
      have r12 := rm_i (i := 12) (j := q) (c := ki 0) (n := 4) (x := nI q) hf (by omega) rfl rfl (by omega) (by omega)
      rw [va_up_ne _ _ (by omega)] at r12
      have n0 : (¬ ∃ N, o = some N ∧ spO s sp N) → ∀ v : Int32, v = nI q + 1 → wp_X9_agree_L225 ki (am 0) (fun y63 f64 => narrow .boolean (.int y63) = .int y63 ∧ Q y63 f64) (d + 1) 0 v f := fun z v hv => by
        rw [hv, nI_1]; exact ih (q + 1) 0 w f (by omega) (Or.inl ⟨rfl, z⟩) hf
      have n1 : ¬ x3 = 0 → (∀ N, o = some N → (∀ u, u < 6 → w u = N u) → ¬ N v < 0 → ¬ N v < s 11 q ∧ ¬ s 12 q < N v) → ∀ v : Int32, v = nI q + 1 → wp_X9_agree_L225 ki (am 0) (fun y63 f64 => narrow .boolean (.int y63) = .int y63 ∧ Q y63 f64) (d + 1) 1 v f := fun z y v' hv' => by
        rw [hv', nI_1]
        refine ih (q + 1) 1 w f (by omega) (Or.inr ⟨rfl, ?_⟩) hf
        rcases hx3 with ⟨a, -⟩ | ⟨-, N, e1, e2, e3⟩
        · exact absurd a z
        · refine ⟨N, e1, fun q' hq' v2 hv2 ev2 hn2 => ?_, e3⟩
          by_cases e : q' = q
          · subst e
            have : v2 = v := (nI_eq (by omega) (by omega)).mp (ev2.symm.trans ev)
            subst this
            exact y N e1 e3 hn2
          · exact e2 q' (by omega) v2 hv2 ev2 hn2
      have bad : ¬ x3 = 0 → ¬ w v < 0 → (w v < s 11 q ∨ s 12 q < w v) → ¬ ∃ N, o = some N ∧ spO s sp N := fun z y1 y2 => by
        rcases hx3 with ⟨a, -⟩ | ⟨-, N, e1, e2, e3⟩
        · exact absurd a z
        · rintro ⟨N', e1', e2'⟩
          rw [e1] at e1'
          cases e1'
          have := e2' q (by omega) v hv ev (by rw [← e3 v hv]; exact y1)
          rw [← e3 v hv] at this
          exact y2.elim this.1 this.2
      refine ⟨fun z => absurd z (nI_ge (by omega) (by omega)), fun _ => ⟨_, rm_f hf rfl, _, rm_f hf rfl, _, r10, _, r17, fun z => n0 ?_, fun z => ⟨fun y => n1 z (fun N e1 e3 hn => absurd (by rw [← e3 v hv]; exact y) hn), fun y => ⟨_, rm_f hf rfl, _, r11, fun y2 => n0 (bad z y (Or.inl y2)), fun y2 => ⟨_, rm_f hf rfl, _, r12, fun y3 => n0 (bad z y (Or.inr y3)), fun y3 => n1 z (fun N e1 e3 hn => by rw [← e3 v hv]; exact ⟨y2, y3⟩)⟩⟩⟩⟩⟩
      rcases hx3 with ⟨-, a⟩ | ⟨a, -⟩
      · exact a
      · exact absurd (a.symm.trans z) ne10
  have L55 : ∀ (E : Int32 → ac_hp → Prop) (a : Nat) (o : Option (Nat → Int32)), a < n → (∀ y w f', an y (if la < sl a then o else agP s (valR s mt ml c sl R) a 1 (agP s (valR s mt ml c sl R) a 0 o)) w → mr_R F ki am (va_up s 17 w) f' → E y f') → ∀ (x3 : Int32) (w : Nat → Int32) (f : ac_hp), an x3 o w → mr_R F ki am (va_up s 17 w) f → wp_X9_agree_L55 ki (am 0) (nI u) (nI la) (nI a) (nI (sl a)) E 3 x3 (nI 0) f := by
    intro E a o ha hE x3 w f han hf
    obtain ⟨hm, em⟩ := hc a ha
    obtain ⟨t1, t2, -, -, t5⟩ := hr (c a) hm
    obtain ⟨s1, s2⟩ := hs a ha
    by_cases hlt : la < sl a
    · rw [wp_X9_agree_L55]
      rw [if_pos hlt] at hE
      exact ⟨fun z => absurd z (nI_ge (a := 0) (b := 2) (by omega) (by omega)), fun _ => ⟨fun _ => hE x3 w f han hf, fun z => absurd (nI_lt hlt (by omega)) z⟩⟩
    rw [if_neg hlt] at hE
    obtain ⟨g1, g2⟩ := hR (sl a) (by omega)
    have one : ∀ (N p : Nat) (o : Option (Nat → Int32)), p < 2 → (∀ y w f', an y (agP s (valR s mt ml c sl R) a p o) w → mr_R F ki am (va_up s 17 w) f' → wp_X9_agree_L55 ki (am 0) (nI u) (nI la) (nI a) (nI (sl a)) E N y (nI (p + 1)) f') → ∀ (x3 : Int32) (w : Nat → Int32) (f : ac_hp), an x3 o w → mr_R F ki am (va_up s 17 w) f → wp_X9_agree_L55 ki (am 0) (nI u) (nI la) (nI a) (nI (sl a)) E (N + 1) x3 (nI p) f := by
      intro N p o hp nx x3 w f han hf
      obtain ⟨-, -, c1, c2⟩ := t5 p hp
      rw [wp_X9_agree_L55]
      have r13 := rm_i (i := 13) (j := 4 * u + a) (c := ki 0) (n := 604) (x := (4 * nI u) + nI a) hf (by omega) rfl pm_41 (by omega) (by omega)
      rw [va_up_ne _ _ (by omega), em] at r13
      have r4 := rm_i (i := 4) (j := c a) (c := ki 0) (n := 12) (x := nI (c a)) hf (by omega) rfl rfl (by omega) (by omega)
      rw [va_up_ne _ _ (by omega), t2] at r4
      have r16 := rm_i (i := 16) (j := sl a) (c := ki 0) (n := 4) (x := nI (sl a)) hf (by omega) rfl rfl (by omega) (by omega)
      rw [va_up_ne _ _ (by omega), g2] at r16
      have r7 := rm_i (i := 7) (j := 2 * c a + p) (c := ki 0) (n := 24) (x := (2 * nI (c a)) + nI p) hf (by omega) rfl pm_12 (by omega) (by omega)
      rw [va_up_ne _ _ (by omega), c2] at r7
      have r9 := rm_i (i := 9) (j := 2 * a + p) (c := ki 0) (n := 8) (x := (2 * nI a) + nI p) hf (by omega) rfl pm_12 (by omega) (by omega)
      rw [va_up_ne _ _ (by omega)] at r9
      have r1 := rm_i (i := 1) (j := 60 * mt (c a) + 3 * R (sl a) + ml (c a) p) (c := ki 0) (n := 240) (x := ((60 * nI (mt (c a))) + (3 * nI (R (sl a)))) + nI (ml (c a) p)) hf (by omega) rfl pm_lin (by omega) (by omega)
      rw [va_up_ne _ _ (by omega)] at r1
      refine ⟨fun z => absurd z (nI_ge (b := 2) (by omega) (by omega)), fun _ => ⟨fun z => absurd z (nI_nlt (by omega) (by omega)), fun _ => ⟨_, rm_f hf rfl, _, r13, _, rm_f hf rfl, _, rm_f hf rfl, _, r4, _, rm_f hf rfl, _, r16, _, rm_f hf rfl, _, r7, _, r1, _, rm_f hf rfl, _, r9, ?_⟩⟩⟩
      show _ ∧ _
      have hval : s 1 (60 * mt (c a) + 3 * R (sl a) + ml (c a) p) = valR s mt ml c sl R a p := rfl
      rw [hval]
      have go1 : ∀ (y : Int32) (w' : Nat → Int32) (f' : ac_hp), an y (agP s (valR s mt ml c sl R) a p o) w' → mr_R F ki am (va_up s 17 w') f' → ∀ v : Int32, v = nI p + 1 → wp_X9_agree_L55 ki (am 0) (nI u) (nI la) (nI a) (nI (sl a)) E N y v f' := fun y w' f' hy hf' v hv => by rw [hv, nI_1]; exact nx y w' f' hy hf'
      have an0 : ∀ w', x3 = 0 → an 0 (agP s (valR s mt ml c sl R) a p o) w' := fun w' hz => by
        rcases han with ⟨-, z⟩ | ⟨z, -⟩
        · exact Or.inl ⟨rfl, by rw [z]; rfl⟩
        · exact absurd (z.symm.trans hz) ne10
      have pl := h9 (2 * a + p) (by omega)
      rcases pl_cases pl with ⟨d, hd1, hd2⟩ | ⟨v, hv1, hv2⟩
      · have e : ∀ M, o = some M → agP s (valR s mt ml c sl R) a p o = if nI d - nI d / 10000 * 10000 = valR s mt ml c sl R a p then some M else none := fun M eM => by
          rw [eM]; unfold agP; rw [Option.bind_some, hd2]; exact stN_c hd1
        refine ⟨fun z => absurd (by rw [← hd2]; exact z) (nI_pos (by omega)), fun _ => ⟨fun z => go1 0 w f (an0 w z) hf, fun z => ?_⟩⟩
        rcases han with ⟨y, -⟩ | ⟨-, M, eM, hM⟩
        · exact absurd y z
        · rw [hd2]
          exact ⟨fun y => go1 0 w f (Or.inl ⟨rfl, by rw [e M eM, if_neg y]⟩) hf, fun y => go1 1 w f (Or.inr ⟨rfl, M, by rw [e M eM, if_pos y], hM⟩) hf⟩
      · have e : ∀ M, o = some M → agP s (valR s mt ml c sl R) a p o = if M v < 0 ∨ M v = valR s mt ml c sl R a p then some (upd M v (valR s mt ml c sl R a p)) else none := fun M eM => by
          rw [eM]; unfold agP; rw [Option.bind_some, hv2]; exact stN_v hv1
        refine ⟨fun _ v21 e21 => ?_, fun z => absurd ?_ z⟩
        · rw [hv2, pm_neg] at e21
          subst e21
          have wr : ∀ (y : Int32), an y (agP s (valR s mt ml c sl R) a p o) (upd w v (valR s mt ml c sl R a p)) → ∃ o22 : Nat, hr_f f (am 0) 9 21 (.ref o22) ∧ ∃ f23 : ac_hp, hw_i (ki 0) f o22 (nI v) (valR s mt ml c sl R a p) f23 ∧ ∀ v24 : Int32, v24 = nI p + 1 → wp_X9_agree_L55 ki (am 0) (nI u) (nI la) (nI a) (nI (sl a)) E N y v24 f23 := by
            intro y hy
            refine ⟨_, rm_f hf rfl, wm_i (i := 17) (j := v) hf (by omega) (fun _ => rfl) rfl (by omega) (by omega) (fun f' hf' => ?_)⟩
            rw [bx_uu, va_up_self] at hf'
            exact fun v22 e22 => go1 y _ f' hy hf' v22 e22
          have e17 := rm_i (i := 17) (j := v) (c := ki 0) (n := 6) (x := nI v) hf (by omega) rfl rfl (by omega) (by omega)
          rw [va_up_self] at e17
          have ok : ¬ x3 = 0 → (w v < 0 ∨ w v = valR s mt ml c sl R a p) → an 1 (agP s (valR s mt ml c sl R) a p o) (upd w v (valR s mt ml c sl R a p)) := fun z y => by
            rcases han with ⟨q, -⟩ | ⟨-, M, eM, hM⟩
            · exact absurd q z
            · rw [hM v hv1] at y
              refine Or.inr ⟨rfl, _, by rw [e M eM, if_pos y], fun q hq => ?_⟩
              by_cases hqv : q = v
              · rw [hqv, upd_self, upd_self]
              · rw [pk_un hqv, pk_un hqv]; exact hM q hq
          have no : ¬ x3 = 0 → ¬ w v < 0 → ¬ w v = valR s mt ml c sl R a p → an 0 (agP s (valR s mt ml c sl R) a p o) (upd w v (valR s mt ml c sl R a p)) := fun z y1 y2 => by
            rcases han with ⟨q, -⟩ | ⟨-, M, eM, hM⟩
            · exact absurd q z
            · rw [hM v hv1] at y1 y2
              exact Or.inl ⟨rfl, by rw [e M eM, if_neg (fun q => q.elim y1 y2)]⟩
          exact ⟨fun z => wr 0 (an0 _ z), fun z => ⟨_, rm_f hf rfl, _, e17, fun y => wr 1 (ok z (Or.inl y)), fun y => ⟨_, rm_f hf rfl, _, e17, fun q => wr 0 (no z y q), fun q => wr 1 (ok z (Or.inr q))⟩⟩⟩
        · rw [hv2]
          have h6 : v = 0 ∨ v = 1 ∨ v = 2 ∨ v = 3 ∨ v = 4 ∨ v = 5 := by omega
          rcases h6 with rfl | rfl | rfl | rfl | rfl | rfl <;> decide
    refine one 2 0 o (by omega) (one 1 1 _ (by omega) (fun y w f' hy hf' => ?_)) x3 w f han hf
    rw [wp_X9_agree_L55]
    exact ⟨fun _ => hE y w f' hy hf', fun z => absurd (nI_le (a := 2) (b := 2) (by omega) (by omega)) z⟩
  have L26 : ∀ (d a : Nat) (x3 : Int32) (w : Nat → Int32) (f : ac_hp), d + a = n → an x3 (agA s (valR s mt ml c sl R) sl la a) w → mr_R F ki am (va_up s 17 w) f → wp_X9_agree_L26 ki (am 0) (nI u) (nI la) (fun y46 f47 => ∃ n62 : Nat, wp_X9_agree_L225 ki (am 0) (fun y63 f64 => narrow .boolean (.int y63) = .int y63 ∧ Q y63 f64) n62 y46 0 f47) (d + 1) x3 (nI a) f := by
    have fin : ∀ (x3 : Int32) (w : Nat → Int32) (f : ac_hp), an x3 (agA s (valR s mt ml c sl R) sl la n) w → mr_R F ki am (va_up s 17 w) f → ∃ n62 : Nat, wp_X9_agree_L225 ki (am 0) (fun y63 f64 => narrow .boolean (.int y63) = .int y63 ∧ Q y63 f64) n62 x3 0 f := fun x3 w f hx3 hf => by
      refine ⟨sp + 1, L225 _ rfl sp 0 x3 w f (by omega) ?_ hf⟩
      rcases hx3 with ⟨z, y⟩ | ⟨z, N, y, e⟩
      · exact Or.inl ⟨z, fun ⟨N, e, _⟩ => by rw [y] at e; cases e⟩
      · exact Or.inr ⟨z, N, y, fun q hq => absurd hq (by omega), e⟩
    intro d
    induction d with
    | zero =>
      intro a x3 w f ha hx3 hf
      have e : a = n := by omega
      subst e
      rw [wp_X9_agree_L26]
      refine ⟨_, rm_f hf rfl, ?_⟩
      rw [va_up_ne _ _ (by omega), h8]
      exact ⟨fun _ => fin x3 w f hx3 hf, fun z => absurd (nI_le (by omega) (by omega)) z⟩
    | succ d ih =>
      intro a x3 w f ha hx3 hf
      rw [wp_X9_agree_L26]
      refine ⟨_, rm_f hf rfl, ?_⟩
      rw [va_up_ne _ _ (by omega), h8]
      have r14 := rm_i (i := 14) (j := 4 * u + a) (c := ki 0) (n := 604) (x := (4 * nI u) + nI a) hf (by omega) rfl pm_41 (by omega) (by omega)
      rw [va_up_ne _ _ (by omega), (hs a (by omega)).2] at r14
      refine ⟨fun z => absurd z (nI_ge (by omega) (by omega)), fun _ => ⟨fun hz => fin x3 w f ?_ hf, fun _ => ⟨_, rm_f hf rfl, _, r14, 3, L55 _ a _ (by omega) (fun y w' f' hy hf' v hv => ?_) x3 w f hx3 hf⟩⟩⟩
      · rcases hx3 with ⟨z, y⟩ | ⟨z, -⟩
        · have := agA_none y (n - a)
          rw [show a + (n - a) = n by omega] at this
          exact Or.inl ⟨z, this⟩
        · exact absurd (z.symm.trans hz) ne10
      · rw [hv, nI_1]; exact ih (a + 1) y w' f' (by omega) (by rw [agA]; exact hy) hf'
  have L2 : ∀ (d v : Nat) (w : Nat → Int32) (f : ac_hp), d + v = 6 → (∀ u, u < v → w u = -1) → mr_R F ki am (va_up s 17 w) f → wp_X9_agree_L2 ki (am 0) (nI u) (nI la) (fun f5 => ∃ n45 : Nat, wp_X9_agree_L26 ki (am 0) (nI u) (nI la) (fun y46 f47 => ∃ n62 : Nat, wp_X9_agree_L225 ki (am 0) (fun y63 f64 => narrow .boolean (.int y63) = .int y63 ∧ Q y63 f64) n62 y46 0 f47) n45 1 0 f5) (d + 1) (nI v) f := by
    intro d
    induction d with
    | zero =>
      intro v w f hv hw hf
      rw [wp_X9_agree_L2]
      exact ⟨fun _ => ⟨n + 1, L26 n 0 1 w f (by omega) (Or.inr ⟨rfl, _, rfl, fun u hu => hw u (by omega)⟩) hf⟩, fun z => absurd (nI_le (a := 6) (by omega) (by omega)) z⟩
    | succ d ih =>
      intro v w f hv hw hf
      rw [wp_X9_agree_L2]
      refine ⟨fun z => absurd z (nI_ge (a := v) (b := 6) (by omega) (by omega)), fun _ => ⟨_, rm_f hf rfl, wm_i (i := 17) (j := v) hf (by omega) (fun _ => rfl) rfl (by omega) (by omega) (fun f' hf' => ?_)⟩⟩
      intro v3 e3
      rw [e3, nI_1]
      rw [bx_uu, va_up_self] at hf'
      refine ih (v + 1) _ f' (by omega) (fun q hq => ?_) hf'
      by_cases hqv : q = v
      · rw [hqv, upd_self]
      · rw [pk_un hqv]; exact hw q (by omega)
  exact L2 6 0 (s 17) f rfl (fun q hq => absurd hq (by omega)) (mr_eq h (va_up_id 17).symm)
end FI1
