/-! the reference's canMeet, in the class's words (pst) -/
theorem nI_cl {v : Nat} (h : v < 2 ^ 31) : (nI v).toNatClampNeg = v := by
  unfold Int32.toNatClampNeg
  rw [nI_toInt h]
  rfl
def rp0 (t : Nat → Nat → Int32) (c : Nat → Nat) (a : Nat) (o : Option (Nat × (Nat → Int32))) : Option (Nat × (Nat → Int32)) := o.bind fun q => if t 5 (c a) = t 8 a then some q else none
def rpp (t : Nat → Nat → Int32) (c : Nat → Nat) (a p : Nat) (o : Option (Nat × (Nat → Int32))) : Option (Nat × (Nat → Int32)) := o.bind fun q => pst q (t 9 (2 * a + p)) (t 6 (2 * c a + p))
def rst (t : Nat → Nat → Int32) (c : Nat → Nat) : Nat → Option (Nat × (Nat → Int32))
  | 0 => some (0, fun _ => 0)
  | a + 1 => rpp t c a 1 (rpp t c a 0 (rp0 t c a (rst t c a)))
def TR (q : Nat × (Nat → Int32)) (w : Nat → Int32) : Prop := q.1 < 64 ∧ ∀ v, v < 6 → (q.1.testBit v = true → w v = q.2 v ∧ ∃ y, y < 6 ∧ q.2 v = nI y) ∧ (q.1.testBit v = false → w v = -1)
def cm (x : Int32) (o : Option (Nat × (Nat → Int32))) (w : Nat → Int32) : Prop := (x = 0 ∧ o = none) ∨ (x = 1 ∧ ∃ q, o = some q ∧ TR q w)
theorem cm.b {x : Int32} {o : Option (Nat × (Nat → Int32))} {w : Nat → Int32} (h : cm x o w) : x = 0 ∨ x = 1 := h.elim (fun z => Or.inl z.1) (fun z => Or.inr z.1)
theorem rst_none {t : Nat → Nat → Int32} {c : Nat → Nat} {a : Nat} (h : rst t c a = none) : ∀ d, rst t c (a + d) = none
  | 0 => h
  | d + 1 => by
    rw [← Nat.add_assoc, rst, rst_none h d]
    rfl
theorem pst_v {q : Nat × (Nat → Int32)} {v : Nat} {t : Int32} (hv : v < 6) : pst q ((-1) - nI v) t = if q.1.testBit v then (if q.2 v = t then some q else none) else some (q.1 ||| 2 ^ v, upd q.2 v t) := by
  unfold pst
  rw [pm_neg, nI_cl (by omega)]
  have : ¬ (0 : Int32) ≤ (-1) - nI v := by
    have h6 : v = 0 ∨ v = 1 ∨ v = 2 ∨ v = 3 ∨ v = 4 ∨ v = 5 := by omega
    rcases h6 with rfl | rfl | rfl | rfl | rfl | rfl <;> decide
  rw [if_neg this]
theorem pst_c {q : Nat × (Nat → Int32)} {x : Nat} {t : Int32} (hx : x < 60000) : pst q (nI x) t = if nI x / 10000 = t then some q else none := by
  unfold pst
  rw [if_pos (show (0 : Int32) ≤ nI x from nI_le (a := 0) (by omega) (by omega))]
section UN1
variable {F : ac_hp} {ki : Nat → ClassId} {am : Nat → Nat} {s : Nat → Nat → Int32} {f : ac_hp}
variable {sz : Nat → Nat} {nn : Nat → Nat → Nat → Nat} {kk : Nat → Nat → Int32} {mc n sp : Nat} {mt pr : Nat → Nat} {ml mtm : Nat → Nat → Nat}
theorem rj_canMeet {A : Nat} {c : Nat → Nat} {Q : Int32 → ac_hp → Prop} (h : mr_R F ki am s f) (hx : RX s sz nn kk mc n sp) (hr : RM s mc mt pr ml mtm) (hA : A + n ≤ 604) (hc : ∀ a, a < n → c a < mc ∧ s 13 (A + a) = nI (c a)) (hq : ∀ v w f', cm v (rst s c n) w → mr_R F ki am (va_up s 18 w) f' → Q v f') : wp_X9_canMeet ki (am 0) (nI A) f Q := by
  obtain ⟨-, -, ⟨h4, h5, h6⟩, ⟨h7, h8, h9⟩, -⟩ := id hx
  unfold wp_X9_canMeet
  refine ⟨7, ?_⟩
  have stp : ∀ (a p : Nat) (x : Int32) (o : Option (Nat × (Nat → Int32))) (w : Nat → Int32), a < n → p < 2 → cm x o w → ((s 9 (2 * a + p) < 0 → ∀ v19 : Int32, v19 = (-1) - s 9 (2 * a + p) → ∃ v : Nat, v < 6 ∧ v19 = nI v ∧ (x = 0 → cm 0 (rpp s c a p o) (upd w v (s 6 (2 * c a + p)))) ∧ (¬ x = 0 → (w v < 0 → cm 1 (rpp s c a p o) (upd w v (s 6 (2 * c a + p)))) ∧ (¬ w v < 0 → (¬ w v = s 6 (2 * c a + p) → cm 0 (rpp s c a p o) (upd w v (s 6 (2 * c a + p)))) ∧ (w v = s 6 (2 * c a + p) → cm 1 (rpp s c a p o) (upd w v (s 6 (2 * c a + p))))))) ∧ (¬ s 9 (2 * a + p) < 0 → (x = 0 → cm 0 (rpp s c a p o) w) ∧ (¬ x = 0 → (¬ (s 9 (2 * a + p) / 10000) = s 6 (2 * c a + p) → cm 0 (rpp s c a p o) w) ∧ ((s 9 (2 * a + p) / 10000) = s 6 (2 * c a + p) → cm 1 (rpp s c a p o) w)))) := by
    intro a p x o w ha hp hcm
    obtain ⟨hm, -⟩ := hc a ha
    obtain ⟨b1, b2, -, -⟩ := (hr (c a) hm).2.2.2.2 p hp
    have pl := h9 (2 * a + p) (by omega)
    have nn0 : ∀ y : Int32, x = 0 → cm 0 (rpp s c a p o) w := fun _ hz => by
      rcases hcm with ⟨-, z⟩ | ⟨z, -⟩
      · exact Or.inl ⟨rfl, by rw [z]; rfl⟩
      · exact absurd (z.symm.trans hz) ne10
    have nn1 : ∀ v y, x = 0 → cm 0 (rpp s c a p o) (upd w v y) := fun v y hz => by
      rcases hcm with ⟨-, z⟩ | ⟨z, -⟩
      · exact Or.inl ⟨rfl, by rw [z]; rfl⟩
      · exact absurd (z.symm.trans hz) ne10
    rcases pl_cases pl with ⟨d, hd1, hd2⟩ | ⟨v, hv1, hv2⟩
    · rw [hd2]
      refine ⟨fun z => absurd z (nI_pos (by omega)), fun _ => ⟨nn0 0, fun hz => ?_⟩⟩
      rcases hcm with ⟨z, -⟩ | ⟨-, q, eo, hT⟩
      · exact absurd z hz
      · have e : rpp s c a p o = if nI d / 10000 = s 6 (2 * c a + p) then some q else none := by
          rw [eo]; unfold rpp; rw [Option.bind_some, hd2]; exact pst_c hd1
        rw [e]
        exact ⟨fun y => Or.inl ⟨rfl, if_neg y⟩, fun y => Or.inr ⟨rfl, q, if_pos y, hT⟩⟩
    · rw [hv2]
      refine ⟨fun _ v19 e19 => ⟨v, hv1, by rw [e19, pm_neg], nn1 v _, fun hz => ?_⟩, fun z => absurd ?_ z⟩
      · rcases hcm with ⟨z, -⟩ | ⟨-, q, eo, hT⟩
        · exact absurd z hz
        · have e : rpp s c a p o = if q.1.testBit v then (if q.2 v = s 6 (2 * c a + p) then some q else none) else some (q.1 ||| 2 ^ v, upd q.2 v (s 6 (2 * c a + p))) := by
            rw [eo]; unfold rpp; rw [Option.bind_some, hv2]; exact pst_v hv1
          obtain ⟨hk, hT⟩ := hT
          rw [e]
          cases hb : q.1.testBit v with
          | true =>
            obtain ⟨w1, y, hy, w2⟩ := (hT v hv1).1 hb
            have hT' : ∀ z : Int32, w v = z → TR q (upd w v z) := fun z hz2 => by
              have : upd w v z = w := by
                funext j
                by_cases hj : j = v
                · rw [hj, upd_self]; exact hz2.symm
                · exact pk_un hj
              rw [this]; exact ⟨hk, hT⟩
            refine ⟨fun z => absurd z (by rw [w1, w2]; exact nI_pos (by omega)), fun _ => ⟨fun z => Or.inl ⟨rfl, ?_⟩, fun z => Or.inr ⟨rfl, q, ?_, hT' _ z⟩⟩⟩
            · rw [if_pos rfl, if_neg (by rw [← w1]; exact z)]
            · rw [if_pos rfl, if_pos (by rw [← w1]; exact z)]
          | false =>
            have w1 := (hT v hv1).2 hb
            refine ⟨fun _ => Or.inr ⟨rfl, _, by rw [if_neg (by simp)], (bt_with q.1 hk v hv1).2, fun u hu => ?_⟩, fun z => absurd (by rw [w1]; decide) z⟩
            show ((q.1 ||| 2 ^ v).testBit u = true → _) ∧ ((q.1 ||| 2 ^ v).testBit u = false → _)
            rw [bt_or q.1 hk v hv1 u hu]
            by_cases huv : u = v
            · subst huv
              rw [upd_self]
              refine ⟨fun _ => ⟨by show _ = upd q.2 u _ u; rw [upd_self], mtm (c a) p, b1, by show upd q.2 u _ u = _; rw [upd_self]; exact b2⟩, fun z => absurd z (by simp)⟩
            · rw [pk_un huv]
              show (_ → _ = upd q.2 v _ u ∧ ∃ y, y < 6 ∧ upd q.2 v _ u = nI y) ∧ _
              rw [pk_un huv]
              simp only [huv, decide_false, Bool.or_false]
              exact hT u hu
      · have h6 : v = 0 ∨ v = 1 ∨ v = 2 ∨ v = 3 ∨ v = 4 ∨ v = 5 := by omega
        rcases h6 with rfl | rfl | rfl | rfl | rfl | rfl <;> decide
  have L68 : ∀ (E : Int32 → ac_hp → Prop) (a : Nat) (o : Option (Nat × (Nat → Int32))), a < n → (∀ y w f', cm y (rpp s c a 1 (rpp s c a 0 o)) w → mr_R F ki am (va_up s 18 w) f' → E y f') → ∀ (x2 : Int32) (w : Nat → Int32) (f : ac_hp), cm x2 o w → mr_R F ki am (va_up s 18 w) f → wp_X9_canMeet_L68 ki (am 0) (nI A) (nI a) E 3 x2 (nI 0) f := by
    intro E a o ha hE
    obtain ⟨hm, em⟩ := hc a ha
    have one : ∀ (N p : Nat) (o : Option (Nat × (Nat → Int32))), p < 2 → (∀ y w f', cm y (rpp s c a p o) w → mr_R F ki am (va_up s 18 w) f' → wp_X9_canMeet_L68 ki (am 0) (nI A) (nI a) E N y (nI (p + 1)) f') → ∀ (x2 : Int32) (w : Nat → Int32) (f : ac_hp), cm x2 o w → mr_R F ki am (va_up s 18 w) f → wp_X9_canMeet_L68 ki (am 0) (nI A) (nI a) E (N + 1) x2 (nI p) f := by
      intro N p o hp nx x2 w f hcm hf
      rw [wp_X9_canMeet_L68]
      have e9 := rm_i (i := 9) (j := 2 * a + p) (c := ki 0) (n := 8) (x := (2 * nI a) + nI p) hf (by omega) rfl pm_12 (by omega) (by omega)
      rw [va_up_ne _ _ (by omega)] at e9
      have e13 := rm_i (i := 13) (j := A + a) (c := ki 0) (n := 604) (x := nI A + nI a) hf (by omega) rfl (nI_add A a) (by omega) (by omega)
      rw [va_up_ne _ _ (by omega), em] at e13
      have e6 := rm_i (i := 6) (j := 2 * c a + p) (c := ki 0) (n := 24) (x := (2 * nI (c a)) + nI p) hf (by omega) rfl pm_12 (by omega) (by omega)
      rw [va_up_ne _ _ (by omega)] at e6
      refine ⟨fun z => absurd z (nI_ge (a := p) (b := 2) (by omega) (by omega)), fun _ => ⟨_, rm_f hf rfl, _, e9, _, rm_f hf rfl, _, rm_f hf rfl, _, e13, _, e6, ?_⟩⟩
      obtain ⟨S1, S2⟩ := stp a p x2 o w ha hp hcm
      have go1 : ∀ (y : Int32) (w' : Nat → Int32) (f' : ac_hp), cm y (rpp s c a p o) w' → mr_R F ki am (va_up s 18 w') f' → ∀ v : Int32, v = nI p + 1 → wp_X9_canMeet_L68 ki (am 0) (nI A) (nI a) E N y v f' := fun y w' f' hy hf' v hv => by rw [hv, nI_1]; exact nx y w' f' hy hf'
      refine ⟨fun hlt v19 e19 => ?_, fun hge => ?_⟩
      · obtain ⟨v, hv, ev, c0, c1⟩ := S1 hlt v19 e19
        subst ev
        have wr : ∀ (y : Int32), cm y (rpp s c a p o) (upd w v (s 6 (2 * c a + p))) → ∃ o20 : Nat, hr_f f (am 0) 9 22 (.ref o20) ∧ ∃ f21 : ac_hp, hw_i (ki 0) f o20 (nI v) (s 6 (2 * c a + p)) f21 ∧ ∀ v22 : Int32, v22 = nI p + 1 → wp_X9_canMeet_L68 ki (am 0) (nI A) (nI a) E N y v22 f21 := by
          intro y hy
          refine ⟨_, rm_f hf rfl, wm_i (i := 18) (j := v) hf (by omega) (fun _ => rfl) rfl (by omega) (by omega) (fun f' hf' => ?_)⟩
          rw [bx_uu, va_up_self] at hf'
          exact fun v22 e22 => go1 y _ f' hy hf' v22 e22
        have e18 := rm_i (i := 18) (j := v) (c := ki 0) (n := 6) (x := nI v) hf (by omega) rfl rfl (by omega) (by omega)
        rw [va_up_self] at e18
        exact ⟨fun z => wr 0 (c0 z), fun z => ⟨_, rm_f hf rfl, _, e18, fun y => wr 1 ((c1 z).1 y), fun y => ⟨_, rm_f hf rfl, _, e18, fun q => wr 0 (((c1 z).2 y).1 q), fun q => wr 1 (((c1 z).2 y).2 q)⟩⟩⟩
      · obtain ⟨c0, c1⟩ := S2 hge
        exact ⟨fun z => go1 0 w f (c0 z) hf, fun z => ⟨fun q => go1 0 w f ((c1 z).1 q) hf, fun q => go1 1 w f ((c1 z).2 q) hf⟩⟩
    refine one 2 0 o (by omega) (one 1 1 _ (by omega) (fun y w f' hy hf' => ?_))
    rw [wp_X9_canMeet_L68]
    exact ⟨fun _ => hE y w f' hy hf', fun z => absurd (nI_le (a := 2) (b := 2) (by omega) (by omega)) z⟩
  have L25 : ∀ (d a : Nat) (x2 : Int32) (w : Nat → Int32) (f : ac_hp), d + a = n → cm x2 (rst s c a) w → mr_R F ki am (va_up s 18 w) f → wp_X9_canMeet_L25 ki (am 0) (nI A) (fun y48 f49 => narrow .boolean (.int y48) = .int y48 ∧ Q y48 f49) (d + 1) x2 (nI a) f := by
    have fin : ∀ (x2 : Int32) (w : Nat → Int32) (f : ac_hp), cm x2 (rst s c n) w → mr_R F ki am (va_up s 18 w) f → narrow .boolean (.int x2) = .int x2 ∧ Q x2 f := fun x2 w f hx2 hf => ⟨by rcases hx2.b with rfl | rfl <;> rfl, hq x2 w f hx2 hf⟩
    intro d
    induction d with
    | zero =>
      intro a x2 w f ha hx2 hf
      have e : a = n := by omega
      subst e
      rw [wp_X9_canMeet_L25]
      refine ⟨_, rm_f hf rfl, ?_⟩
      rw [va_up_ne _ _ (by omega), h8]
      exact ⟨fun _ => fin x2 w f hx2 hf, fun z => absurd (nI_le (Nat.le_refl _) (by omega)) z⟩
    | succ d ih =>
      intro a x2 w f ha hx2 hf
      obtain ⟨hm, em⟩ := hc a (by omega)
      rw [wp_X9_canMeet_L25]
      refine ⟨_, rm_f hf rfl, ?_⟩
      rw [va_up_ne _ _ (by omega), h8]
      have e13 := rm_i (i := 13) (j := A + a) (c := ki 0) (n := 604) (x := nI A + nI a) hf (by omega) rfl (nI_add A a) (by omega) (by omega)
      rw [va_up_ne _ _ (by omega), em] at e13
      have e5 := rm_i (i := 5) (j := c a) (c := ki 0) (n := 12) (x := nI (c a)) hf (by omega) rfl rfl (by omega) (by omega)
      rw [va_up_ne _ _ (by omega)] at e5
      have e8 := rm_i (i := 8) (j := a) (c := ki 0) (n := 4) (x := nI a) hf (by omega) rfl rfl (by omega) (by omega)
      rw [va_up_ne _ _ (by omega)] at e8
      have hE : ∀ (y : Int32) (w' : Nat → Int32) (f' : ac_hp), cm y (rpp s c a 1 (rpp s c a 0 (rp0 s c a (rst s c a)))) w' → mr_R F ki am (va_up s 18 w') f' → ∀ v42 : Int32, v42 = nI a + 1 → wp_X9_canMeet_L25 ki (am 0) (nI A) (fun y48 f49 => narrow .boolean (.int y48) = .int y48 ∧ Q y48 f49) (d + 1) y v42 f' := fun y w' f' hy hf' v hv => by
        rw [hv, nI_1]; exact ih (a + 1) y w' f' (by omega) hy hf'
      refine ⟨fun z => absurd z (nI_ge (by omega) (by omega)), fun _ => ⟨fun hz => fin x2 w f ?_ hf, fun hz => ⟨_, rm_f hf rfl, _, rm_f hf rfl, _, e13, _, e5, _, rm_f hf rfl, _, e8, fun hne => ⟨3, L68 _ a _ (by omega) hE 0 w f ?_ hf⟩, fun heq => ⟨3, L68 _ a _ (by omega) hE 1 w f ?_ hf⟩⟩⟩⟩
      · rcases hx2 with ⟨z, y⟩ | ⟨z, -⟩
        · have := rst_none y (n - a)
          rw [show a + (n - a) = n by omega] at this
          exact Or.inl ⟨z, this⟩
        · exact absurd (z.symm.trans hz) ne10
      · refine Or.inl ⟨rfl, ?_⟩
        unfold rp0
        cases rst s c a with
        | none => rfl
        | some q => rw [Option.bind_some, if_neg hne]
      · rcases hx2 with ⟨z, -⟩ | ⟨-, q, y, hT⟩
        · exact absurd z hz
        · refine Or.inr ⟨rfl, q, ?_, hT⟩
          unfold rp0
          rw [y, Option.bind_some, if_pos heq]
  have L2 : ∀ (d v : Nat) (w : Nat → Int32) (f : ac_hp), d + v = 6 → (∀ u, u < v → w u = -1) → mr_R F ki am (va_up s 18 w) f → wp_X9_canMeet_L2 ki (am 0) (nI A) (fun f5 => ∃ n47 : Nat, wp_X9_canMeet_L25 ki (am 0) (nI A) (fun y48 f49 => narrow .boolean (.int y48) = .int y48 ∧ Q y48 f49) n47 1 0 f5) (d + 1) (nI v) f := by
    intro d
    induction d with
    | zero =>
      intro v w f hv hw hf
      rw [wp_X9_canMeet_L2]
      exact ⟨fun _ => ⟨n + 1, L25 n 0 1 w f (by omega) (Or.inr ⟨rfl, _, rfl, by show 0 < 64; omega, fun u hu => ⟨fun z => absurd z (by simp), fun _ => hw u (by omega)⟩⟩) hf⟩, fun z => absurd (nI_le (a := 6) (by omega) (by omega)) z⟩
    | succ d ih =>
      intro v w f hv hw hf
      rw [wp_X9_canMeet_L2]
      refine ⟨fun z => absurd z (nI_ge (a := v) (b := 6) (by omega) (by omega)), fun _ => ⟨_, rm_f hf rfl, wm_i (i := 18) (j := v) hf (by omega) (fun _ => rfl) rfl (by omega) (by omega) (fun f' hf' => ?_)⟩⟩
      intro v3 e3
      rw [e3, nI_1]
      rw [bx_uu, va_up_self] at hf'
      refine ih (v + 1) _ f' (by omega) (fun u hu => ?_) hf'
      by_cases huv : u = v
      · rw [huv, upd_self]
      · rw [pk_un huv]; exact hw u (by omega)
  exact L2 6 0 (s 18) f rfl (fun u hu => absurd hu (by omega)) (mr_eq h (va_up_id 18).symm)
end UN1
