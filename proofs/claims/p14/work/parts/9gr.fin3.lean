/-! the reference's keep -/
def shi (k i : Nat) : Nat := if k < i then i - 1 else i
/-- rows above k have moved up by one -/
def mvd (s s2 : Nat → Nat → Int32) (na k : Nat) : Prop := ∀ i, i ≤ na → (∀ v, v < 6 → s2 20 (6 * i + v) = s 20 (6 * shi k i + v)) ∧ s2 21 i = s 21 (shi k i) ∧ s2 22 i = s 22 (shi k i) ∧ s2 23 i = s 23 (shi k i)
section FI3
variable {F : ac_hp} {ki : Nat → ClassId} {am : Nat → Nat} {s : Nat → Nat → Int32} {f : ac_hp}
theorem hand_k {s' : Nat → Nat → Int32} {VB : Nat → Bool} {w : Nat → Nat} (h : hand s VB w) (e : KP s s') : hand s' VB w := fun v hv => by
  rw [e.1 17 (by omega) (by omega), e.1 18 (by omega) (by omega)]
  exact h v hv
theorem rj_keep {u : Nat} {VB : Nat → Bool} {w : Nat → Nat} {A : AS} {ls : Nat → Nat} {Q : ac_hp → Prop} (h : mr_R F ki am s f) (hu : u < 150) (hna : A.1 ≤ 300) (ha : aR s VB A ls) (hls : ∀ i, i < A.1 → ls i < 150) (hw : cfit VB w) (hh : hand s VB w)
    (hq : ∀ s' f' B ls', KP s s' → kp1 u w A ls B ls' → aR s' VB B ls' → mr_R F ki am s' f' → Q f') : wp_X9_keep ki (am 0) (nI u) f Q := by
  obtain ⟨na, cd0, fd, fs⟩ := A
  obtain ⟨e23, hrow, hsrt⟩ := id ha
  simp only at e23 hrow hsrt hna hls
  unfold wp_X9_keep
  refine ⟨na + 1, ?_⟩
  have r23 : hr_f f (am 0) 9 23 (.int (nI na)) := by rw [← e23]; exact rm_f h rfl
  -- a new answer at y
  have INS : ∀ (y : Nat), y ≤ na → (∀ i, i < y → lexl (cd0 i) w) → (∀ i, y ≤ i → i < na → lexl w (cd0 i)) → ∃ n30 : Nat, wp_X9_keep_L77 ki (am 0) (nI u) (nI y) (fun f31 => ∃ n43 : Nat, wp_X9_keep_L175 ki (am 0) (nI u) (nI y) (fun f44 => ∃ o45 : Nat, hr_f f44 (am 0) 9 26 (.ref o45) ∧ ∃ f46 : ac_hp, hw_i (ki 0) f44 o45 (nI y) 1 f46 ∧ ∃ o47 : Nat, hr_f f46 (am 0) 9 27 (.ref o47) ∧ ∃ f48 : ac_hp, hw_i (ki 0) f46 o47 (nI y) (nI u) f48 ∧ ∃ o49 : Nat, hr_f f48 (am 0) 9 28 (.ref o49) ∧ ∃ f50 : ac_hp, hw_i (ki 0) f48 o49 (nI y) (nI u) f50 ∧ ∃ v51 : Int32, hr_f f50 (am 0) 9 23 (.int v51) ∧ ∃ f52 : ac_hp, hw_f f50 (am 0) 9 23 (.int (v51 + 1)) f52 ∧ Q f52) n43 0 f31) n30 (nI na) f := by
    intro y hy lo hi
    -- the last four writes
    have W : ∀ (s2 : Nat → Nat → Int32) (f2 : ac_hp), KP s s2 → s2 0 23 = nI na → (∀ v, v < 6 → s2 20 (6 * y + v) = ec VB w v) → (∀ i, i ≤ na → i ≠ y → (∀ v, v < 6 → s2 20 (6 * i + v) = s 20 (6 * shi y i + v)) ∧ s2 21 i = s 21 (shi y i) ∧ s2 22 i = s 22 (shi y i) ∧ s2 23 i = s 23 (shi y i)) → mr_R F ki am s2 f2 → ∃ o45 : Nat, hr_f f2 (am 0) 9 26 (.ref o45) ∧ ∃ f46 : ac_hp, hw_i (ki 0) f2 o45 (nI y) 1 f46 ∧ ∃ o47 : Nat, hr_f f46 (am 0) 9 27 (.ref o47) ∧ ∃ f48 : ac_hp, hw_i (ki 0) f46 o47 (nI y) (nI u) f48 ∧ ∃ o49 : Nat, hr_f f48 (am 0) 9 28 (.ref o49) ∧ ∃ f50 : ac_hp, hw_i (ki 0) f48 o49 (nI y) (nI u) f50 ∧ ∃ v51 : Int32, hr_f f50 (am 0) 9 23 (.int v51) ∧ ∃ f52 : ac_hp, hw_f f50 (am 0) 9 23 (.int (v51 + 1)) f52 ∧ Q f52 := by
      intro s2 f2 k2 e2 hnew hold h2
      refine ⟨_, rm_f h2 rfl, wm_i (i := 21) (j := y) h2 (by omega) (fun _ => rfl) rfl (by omega) (by omega) (fun f3 h3 => ?_)⟩
      refine ⟨_, rm_f h3 rfl, wm_i (i := 22) (j := y) h3 (by omega) (fun _ => rfl) rfl (by omega) (by omega) (fun f4 h4 => ?_)⟩
      refine ⟨_, rm_f h4 rfl, wm_i (i := 23) (j := y) h4 (by omega) (fun _ => rfl) rfl (by omega) (by omega) (fun f5 h5 => ?_)⟩
      refine ⟨_, rm_f h5 rfl, wm_23 h5 (fun f6 h6 => ?_)⟩
      refine hq _ f6 (na + 1, ins cd0 y w, ins fd y 1, ins fs y u) (ins ls y u) ((((k2.trans (KP.cell (by omega))).trans (KP.cell (by omega))).trans (KP.cell (by omega))).trans KP.fld) (Or.inr ⟨fun i hi2 z => ?_, y, hy, lo, hi, rfl, rfl⟩) ⟨?_, fun i hi2 => ?_, fun i j hij hj => ?_⟩ h6
      · rcases Nat.lt_or_ge i y with q | q
        · exact lex_ne (lo i q) z
        · exact lex_ne (hi i q hi2) (fun j hj => (z j hj).symm)
      · rw [va_up_self, upd_self]
        simp (disch := omega) only [va_up_ne]
        rw [e2, nI_1]
      · simp only at hi2
        simp (disch := omega) only [va_up_ne, va_up_self]
        rcases Nat.lt_trichotomy i y with q | q | q
        · obtain ⟨a1, a2, a3, a4, a5⟩ := hrow i (by omega)
          obtain ⟨b1, b2, b3, b4⟩ := hold i (by omega) (by omega)
          have es : shi y i = i := if_neg (by omega)
          rw [es] at b1 b2 b3 b4
          rw [ins_lt q, ins_lt q, ins_lt q, ins_lt q, pk_un (by omega), pk_un (by omega), pk_un (by omega)]
          exact ⟨a1, fun v hv => by rw [b1 v hv]; exact a2 v hv, by rw [b2]; exact a3, by rw [b3]; exact a4, by rw [b4]; exact a5⟩
        · subst q
          rw [ins_eq, ins_eq, ins_eq, ins_eq, upd_self, upd_self, upd_self]
          exact ⟨hw, hnew, rfl, rfl, rfl⟩
        · obtain ⟨a1, a2, a3, a4, a5⟩ := hrow (i - 1) (by omega)
          obtain ⟨b1, b2, b3, b4⟩ := hold i (by omega) (by omega)
          have es : shi y i = i - 1 := if_pos q
          rw [es] at b1 b2 b3 b4
          rw [ins_gt q, ins_gt q, ins_gt q, ins_gt q, pk_un (by omega), pk_un (by omega), pk_un (by omega)]
          exact ⟨a1, fun v hv => by rw [b1 v hv]; exact a2 v hv, by rw [b2]; exact a3, by rw [b3]; exact a4, by rw [b4]; exact a5⟩
      · simp only at hj
        show lexl (ins cd0 y w i) (ins cd0 y w j)
        rcases Nat.lt_trichotomy i y with q | q | q
        · rw [ins_lt q]
          rcases Nat.lt_trichotomy j y with r | r | r
          · rw [ins_lt r]; exact hsrt i j hij (by omega)
          · subst r; rw [ins_eq]; exact lo i q
          · rw [ins_gt r]
            exact lex_trans (lo i q) (hi (j - 1) (by omega) (by omega))
        · subst q
          rw [ins_eq, ins_gt hij]
          exact hi (j - 1) (by omega) (by omega)
        · rw [ins_gt q, ins_gt (show y < j by omega)]
          exact hsrt (i - 1) (j - 1) (by omega) (by omega)
    -- the codes of the new answer
    have L175 : ∀ (E : ac_hp → Prop), (∀ s2 f2, KP s s2 → s2 0 23 = nI na → (∀ v, v < 6 → s2 20 (6 * y + v) = ec VB w v) → (∀ i, i ≤ na → i ≠ y → (∀ v, v < 6 → s2 20 (6 * i + v) = s 20 (6 * shi y i + v)) ∧ s2 21 i = s 21 (shi y i) ∧ s2 22 i = s 22 (shi y i) ∧ s2 23 i = s 23 (shi y i)) → mr_R F ki am s2 f2 → E f2) → ∀ (d v : Nat) (s2 : Nat → Nat → Int32) (f2 : ac_hp), d + v = 6 → KP s s2 → s2 0 23 = nI na → (∀ q, q < v → s2 20 (6 * y + q) = ec VB w q) → (∀ i, i ≤ na → i ≠ y → (∀ v, v < 6 → s2 20 (6 * i + v) = s 20 (6 * shi y i + v)) ∧ s2 21 i = s 21 (shi y i) ∧ s2 22 i = s 22 (shi y i) ∧ s2 23 i = s 23 (shi y i)) → mr_R F ki am s2 f2 → wp_X9_keep_L175 ki (am 0) (nI u) (nI y) E (d + 1) (nI v) f2 := by
      intro E hE d
      induction d with
      | zero =>
        intro v s2 f2 hv k2 e2 hn ho h2
        rw [wp_X9_keep_L175]
        exact ⟨fun _ => hE s2 f2 k2 e2 (fun q hq2 => hn q (by omega)) ho h2, fun z => absurd (nI_le (a := 6) (by omega) (by omega)) z⟩
      | succ d ih =>
        intro v s2 f2 hv k2 e2 hn ho h2
        rw [wp_X9_keep_L175]
        have hh2 := hand_k hh k2
        have wr : ∀ val : Int32, val = ec VB w v → ∃ f39 : ac_hp, hw_i (ki 0) f2 (am 20) ((6 * nI y) + nI v) val f39 ∧ ∀ v40 : Int32, v40 = nI v + 1 → wp_X9_keep_L175 ki (am 0) (nI u) (nI y) E (d + 1) v40 f39 := fun val hval =>
          wm_i (i := 20) (j := 6 * y + v) h2 (by omega) (fun _ => rfl) pm_61 (by omega) (by omega) (fun f3 h3 v40 e40 => by
            rw [e40, nI_1]
            refine ih (v + 1) _ f3 (by omega) (k2.trans (KP.cell (by omega))) (by rw [va_up_ne _ _ (by omega)]; exact e2) (fun q hq2 => ?_) (fun i hi2 hiy => ?_) h3
            · rw [va_up_self]
              by_cases hqv : q = v
              · rw [hqv, upd_self]; exact hval
              · rw [pk_un (by omega)]; exact hn q (by omega)
            · rw [va_up_ne _ _ (show (21 : Nat) ≠ 20 by omega), va_up_ne _ _ (show (22 : Nat) ≠ 20 by omega), va_up_ne _ _ (show (23 : Nat) ≠ 20 by omega), va_up_self]
              obtain ⟨b1, b2⟩ := ho i hi2 hiy
              exact ⟨fun q hq2 => by rw [pk_un (by omega)]; exact b1 q hq2, b2⟩)
        have r17 := rm_i (i := 17) (j := v) (c := ki 0) (n := 6) (x := nI v) h2 (by omega) rfl rfl (by omega) (by omega)
        have r18 := rm_i (i := 18) (j := v) (c := ki 0) (n := 6) (x := nI v) h2 (by omega) rfl rfl (by omega) (by omega)
        refine ⟨fun z => absurd z (nI_ge (b := 6) (by omega) (by omega)), fun _ => ⟨_, rm_f h2 rfl, _, rm_f h2 rfl, _, r17, fun hge => ⟨_, rm_f h2 rfl, _, r18, _, rm_f h2 rfl, _, r17, wr _ ?_⟩, fun hlt => wr _ ?_⟩⟩
        · cases hb : VB v with
          | false => rw [(hh2 v (by omega)).2 hb] at hge; exact absurd hge (by decide)
          | true =>
            obtain ⟨x, z, hx, e1, e3, e4⟩ := (hh2 v (by omega)).1 hb
            unfold ec
            rw [if_pos hb, e1, e3, show (10000 : Int32) = nI 10000 from rfl, pk_mul, nI_add, ← e4]
        · cases hb : VB v with
          | true =>
            obtain ⟨x, z, hx, e1, e3, e4⟩ := (hh2 v (by omega)).1 hb
            rw [e1] at hlt
            exact absurd (nI_le (a := 0) (by omega) (by omega)) hlt
          | false => unfold ec; rw [if_neg (by rw [hb]; decide)]
    -- the rows behind move up
    have L85 : ∀ (E : ac_hp → Prop) (k : Nat), k + 1 ≤ na → ∀ (s1 : Nat → Nat → Int32), (∀ s2 f2, KP s1 s2 → s2 0 23 = s1 0 23 → (∀ v, v < 6 → s2 20 (6 * (k + 1) + v) = s1 20 (6 * k + v)) → (∀ i v, i ≠ k + 1 → v < 6 → s2 20 (6 * i + v) = s1 20 (6 * i + v)) → s2 21 = s1 21 → s2 22 = s1 22 → s2 23 = s1 23 → mr_R F ki am s2 f2 → E f2) → ∀ (d v : Nat) (w2 : Nat → Int32) (f2 : ac_hp), d + v = 6 → (∀ q, q < v → w2 (6 * (k + 1) + q) = s1 20 (6 * k + q)) → (∀ i v, i ≠ k + 1 → v < 6 → w2 (6 * i + v) = s1 20 (6 * i + v)) → mr_R F ki am (va_up s1 20 w2) f2 → wp_X9_keep_L85 ki (am 0) (nI u) (nI y) (nI (k + 1)) E (d + 1) (nI v) f2 := by
      intro E k hk s1 hE d
      induction d with
      | zero =>
        intro v w2 f2 hv hn ho h2
        rw [wp_X9_keep_L85]
        exact ⟨fun _ => hE _ f2 (KP.cell (by omega)) (by rw [va_up_ne _ _ (by omega)]) (fun q hq2 => by rw [va_up_self]; exact hn q (by omega)) (fun i q hi2 hq2 => by rw [va_up_self]; exact ho i q hi2 hq2) (va_up_ne _ _ (by omega)) (va_up_ne _ _ (by omega)) (va_up_ne _ _ (by omega)) h2, fun z => absurd (nI_le (a := 6) (by omega) (by omega)) z⟩
      | succ d ih =>
        intro v w2 f2 hv hn ho h2
        rw [wp_X9_keep_L85]
        have r20 := rm_i (i := 20) (j := 6 * k + v) (c := ki 0) (n := 1812) (x := ((6 * nI (k + 1)) - 6) + nI v) h2 (by omega) rfl pm_66 (by omega) (by omega)
        rw [va_up_self, ho k v (by omega) (by omega)] at r20
        refine ⟨fun z => absurd z (nI_ge (b := 6) (by omega) (by omega)), fun _ => ⟨_, rm_f h2 rfl, _, rm_f h2 rfl, _, r20, wm_i (i := 20) (j := 6 * (k + 1) + v) h2 (by omega) (fun _ => rfl) pm_61 (by omega) (by omega) (fun f3 h3 v40 e40 => ?_)⟩⟩
        rw [e40, nI_1]
        rw [bx_uu, va_up_self] at h3
        refine ih (v + 1) _ f3 (by omega) (fun q hq2 => ?_) (fun i q hi2 hq2 => ?_) h3
        · by_cases hqv : q = v
          · rw [hqv, upd_self]
          · rw [pk_un (by omega)]; exact hn q (by omega)
        · rw [pk_un (by omega)]; exact ho i q hi2 hq2
    have L77 : ∀ (E : ac_hp → Prop), (∀ s2 f2, KP s s2 → s2 0 23 = nI na → mvd s s2 na y → mr_R F ki am s2 f2 → E f2) → ∀ (d : Nat) (s2 : Nat → Nat → Int32) (f2 : ac_hp), d + y ≤ na → KP s s2 → s2 0 23 = nI na → mvd s s2 na (d + y) → mr_R F ki am s2 f2 → wp_X9_keep_L77 ki (am 0) (nI u) (nI y) E (d + 1) (nI (d + y)) f2 := by
      intro E hE d
      induction d with
      | zero =>
        intro s2 f2 hd k2 e2 hm h2
        rw [Nat.zero_add] at hm
        rw [wp_X9_keep_L77]
        exact ⟨fun _ => hE s2 f2 k2 e2 hm h2, fun z => absurd (nI_le (by omega) (by omega)) z⟩
      | succ d ih =>
        intro s2 f2 hd k2 e2 hm h2
        rw [wp_X9_keep_L77]
        refine ⟨fun z => absurd z (nI_ge (by omega) (by omega)), fun _ => ⟨7, ?_⟩⟩
        rw [show d + 1 + y = (d + y) + 1 by omega] at hm ⊢
        refine L85 _ (d + y) (by omega) s2 (fun s3 f3 k3 e3 hnew hold c21 c22 c23 h3 => ?_) 6 0 (s2 20) f2 rfl (fun q hq2 => absurd hq2 (by omega)) (fun _ _ _ _ => rfl) (mr_eq h2 (va_up_id 20).symm)
        have pr : nI (d + y + 1) - 1 = nI (d + y) := nI_pred _
        refine ⟨_, rm_f h3 rfl, _, rm_f h3 rfl, _, rm_i (i := 21) (j := d + y) h3 (by omega) rfl pr (by omega) (by omega), wm_i (i := 21) (j := d + y + 1) h3 (by omega) (fun _ => rfl) rfl (by omega) (by omega) (fun f4 h4 => ?_)⟩
        refine ⟨_, rm_f h4 rfl, _, rm_f h4 rfl, _, rm_i (i := 22) (j := d + y) h4 (by omega) rfl pr (by omega) (by omega), wm_i (i := 22) (j := d + y + 1) h4 (by omega) (fun _ => rfl) rfl (by omega) (by omega) (fun f5 h5 => ?_)⟩
        refine ⟨_, rm_f h5 rfl, _, rm_f h5 rfl, _, rm_i (i := 23) (j := d + y) h5 (by omega) rfl pr (by omega) (by omega), wm_i (i := 23) (j := d + y + 1) h5 (by omega) (fun _ => rfl) rfl (by omega) (by omega) (fun f6 h6 => ?_)⟩
        intro v29 e29
        rw [e29, pm_m1, pr]
        refine ih _ f6 (by omega) (((((k2.trans k3)).trans (KP.cell (by omega))).trans (KP.cell (by omega))).trans (KP.cell (by omega))) ?_ (fun i hi2 => ?_) h6
        · simp (disch := omega) only [va_up_ne]
          rw [e3]; exact e2
        · simp (disch := omega) only [va_up_ne, va_up_self]
          rw [c21, c22, c23]
          by_cases hik : i = d + y + 1
          · subst hik
            obtain ⟨b1, b2, b3, b4⟩ := hm (d + y) (by omega)
            have es : shi (d + y + 1) (d + y) = d + y := if_neg (by omega)
            have es2 : shi (d + y) (d + y + 1) = d + y := if_pos (by omega)
            rw [es] at b1 b2 b3 b4
            rw [es2, upd_self, upd_self, upd_self]
            exact ⟨fun v hv => by rw [hnew v hv]; exact b1 v hv, b2, b3, b4⟩
          · obtain ⟨b1, b2, b3, b4⟩ := hm i hi2
            have es : shi (d + y + 1) i = shi (d + y) i := by
              unfold shi
              by_cases q : d + y < i
              · rw [if_pos q, if_pos (by omega)]
              · rw [if_neg q, if_neg (by omega)]
            rw [es] at b1 b2 b3 b4
            rw [pk_un hik, pk_un hik, pk_un hik]
            exact ⟨fun v hv => by rw [hold i v hik hv]; exact b1 v hv, b2, b3, b4⟩
    obtain ⟨d, hd⟩ : ∃ d, d + y = na := ⟨na - y, by omega⟩
    refine ⟨d + 1, ?_⟩
    have start : mvd s s na (d + y) := fun i hi2 => by
      have es : shi (d + y) i = i := if_neg (by omega)
      rw [es]
      exact ⟨fun _ _ => rfl, rfl, rfl, rfl⟩
    rw [← hd]
    refine L77 _ ?_ d s f (by omega) KP.rfl' e23 start h
    intro s2 f2 k2 e2 hm h2
    exact ⟨7, L175 _ (fun s3 f3 k3 e3 hn ho h3 => W s3 f3 k3 e3 hn ho h3) 6 0 s2 f2 rfl k2 e2 (fun q hq2 => absurd hq2 (by omega)) (fun i hi2 _ => hm i hi2) h2⟩
  -- told before
  have EQL : ∀ (y : Nat), y < na → vec6 (cd0 y) w → ∃ o68 : Nat, hr_f f (am 0) 9 26 (.ref o68) ∧ ∃ v69 : Int32, hr_i (ki 0) f o68 (nI y) v69 ∧ ∃ o70 : Nat, hr_f f (am 0) 9 28 (.ref o70) ∧ ∃ v71 : Int32, hr_i (ki 0) f o70 (nI y) v71 ∧ ((¬ v71 = nI u → ∃ f72 : ac_hp, hw_i (ki 0) f o68 (nI y) (v69 + 1) f72 ∧ ∃ o73 : Nat, hr_f f72 (am 0) 9 28 (.ref o73) ∧ ∃ f74 : ac_hp, hw_i (ki 0) f72 o73 (nI y) (nI u) f74 ∧ Q f74) ∧ (v71 = nI u → ∃ f75 : ac_hp, hw_i (ki 0) f o68 (nI y) (v69 + 0) f75 ∧ ∃ o76 : Nat, hr_f f75 (am 0) 9 28 (.ref o76) ∧ ∃ f77 : ac_hp, hw_i (ki 0) f75 o76 (nI y) (nI u) f77 ∧ Q f77)) := by
    intro y hy hv
    obtain ⟨-, -, a3, -, a5⟩ := hrow y hy
    have hlsy := hls y hy
    have r21 := rm_i (i := 21) (j := y) (c := ki 0) (n := 302) (x := nI y) h (by omega) rfl rfl (by omega) (by omega)
    rw [a3] at r21
    have r23' := rm_i (i := 23) (j := y) (c := ki 0) (n := 302) (x := nI y) h (by omega) rfl rfl (by omega) (by omega)
    rw [a5] at r23'
    have put : ∀ (val : Int32) (b : Nat), val = nI (fd y + b) → (b = if ls y = u then 0 else 1) → ∃ f72 : ac_hp, hw_i (ki 0) f (am 21) (nI y) val f72 ∧ ∃ o73 : Nat, hr_f f72 (am 0) 9 28 (.ref o73) ∧ ∃ f74 : ac_hp, hw_i (ki 0) f72 o73 (nI y) (nI u) f74 ∧ Q f74 := by
      intro val b hval hb
      refine wm_i (i := 21) (j := y) h (by omega) (fun _ => rfl) rfl (by omega) (by omega) (fun f4 h4 => ⟨_, rm_f h4 rfl, wm_i (i := 23) (j := y) h4 (by omega) (fun _ => rfl) rfl (by omega) (by omega) (fun f5 h5 => ?_)⟩)
      refine hq _ f5 (na, cd0, (fun j => if j = y then fd y + (if ls y = u then 0 else 1) else fd j), fs) (fun j => if j = y then u else ls j) (KP.trans (KP.cell (by omega)) (KP.cell (by omega))) (Or.inl ⟨y, hy, hv, rfl, rfl⟩) ⟨?_, fun i hi2 => ?_, hsrt⟩ h5
      · rw [va_up_ne _ _ (by omega), va_up_ne _ _ (by omega)]; exact e23
      · simp only at hi2
        simp (disch := omega) only [va_up_ne, va_up_self]
        obtain ⟨a1, a2, a3, a4, a5⟩ := hrow i hi2
        by_cases hiy : i = y
        · subst hiy
          rw [upd_self, upd_self]
          simp only [if_true]
          exact ⟨a1, a2, by rw [hval, hb], a4, trivial⟩
        · rw [pk_un hiy, pk_un hiy]
          simp only [if_neg hiy]
          exact ⟨a1, a2, a3, a4, a5⟩
    refine ⟨_, rm_f h rfl, _, r21, _, rm_f h rfl, _, r23', fun z => put _ 1 (nI_1 _) ?_, fun z => put _ 0 (by rw [Int32.add_zero]; rfl) ?_⟩
    · rw [if_neg (fun e => z (by rw [e]))]
    · rw [if_pos ((nI_eq (by omega) (by omega)).mp z)]
  have L2 : ∀ (E : Int32 → ac_hp → Prop), (∀ y, y ≤ na → (∀ i, i < y → lexl (cd0 i) w) → (y < na → ¬ lexl (cd0 y) w) → E (nI y) f) → ∀ (d i : Nat), d + i = na → (∀ j, j < i → lexl (cd0 j) w) → wp_X9_keep_L2 ki (am 0) (nI u) E (d + 1) (nI i) f := by
    intro E hE d
    induction d with
    | zero =>
      intro i hi lo
      rw [wp_X9_keep_L2]
      exact ⟨_, r23, fun _ => hE i (by omega) lo (fun z => absurd z (by omega)), fun z => absurd (nI_le (by omega) (by omega)) z⟩
    | succ d ih =>
      intro i hi lo
      rw [wp_X9_keep_L2]
      obtain ⟨a1, a2, -⟩ := hrow i (by omega)
      refine ⟨_, r23, fun z => absurd z (nI_ge (by omega) (by omega)), fun _ => ⟨rm_o h, rj_compare h (by omega) hw a1 hh a2 (fun q => ⟨fun _ => hE i (by omega) lo (fun _ y => lex_ne y (fun j hj => (q j hj).symm)), fun z => absurd (by decide) z⟩) (fun q => ⟨fun z => absurd z (by decide), fun _ v4 e4 => ?_⟩) (fun q => ⟨fun _ => hE i (by omega) lo (fun _ y => lex_irr y q), fun z => absurd (by decide) z⟩)⟩⟩
      rw [e4, nI_1]
      refine ih (i + 1) (by omega) (fun j hj => ?_)
      by_cases hji : j = i
      · rw [hji]; exact q
      · exact lo j (by omega)
  refine L2 _ ?_ na 0 (by omega) (fun j hj => absurd hj (by omega))
  intro y hy lo hno
  refine ⟨nI na, r23, fun hle => ⟨_, r23, INS y hy lo (fun i h1 h2 => absurd h2 (by have := (nI_leI (by omega) (by omega)).mp hle; omega))⟩, fun hlt => ⟨rm_o h, ?_⟩⟩
  have hyn : y < na := by
    rcases Nat.lt_or_ge y na with z | z
    · exact z
    · exact absurd (nI_le z (by omega)) hlt
  obtain ⟨a1, a2, -⟩ := hrow y hyn
  refine rj_compare h (by omega) hw a1 hh a2 (fun q => ⟨fun z => absurd rfl z, fun _ => EQL y hyn (fun j hj => (q j hj).symm)⟩) (fun q => ⟨fun _ => ⟨_, r23, INS y hy lo (fun i h1 h2 => ?_)⟩, fun z => absurd z (by decide)⟩) (fun q => ⟨fun _ => ⟨_, r23, INS y hy lo (fun i h1 h2 => ?_)⟩, fun z => absurd z (by decide)⟩)
  · exact absurd q (hno hyn)
  · by_cases e : i = y
    · rw [e]; exact q
    · exact lex_trans q (hsrt y i (by omega) h2)
end FI3
