/-! the reference's find: every answer of the union is told -/
def kps (u : Nat) : List (Nat → Nat) → AS → (Nat → Nat) → AS → (Nat → Nat) → Prop
  | [], A, ls, B, ls' => B = A ∧ ls' = ls
  | w :: L, A, ls, B, ls' => ∃ C lsC, kp1 u w A ls C lsC ∧ kps u L C lsC B ls'
theorem kps_snoc {u : Nat} {w : Nat → Nat} : ∀ {L : List (Nat → Nat)} {A : AS} {ls : Nat → Nat} {B : AS} {ls' : Nat → Nat} {C : AS} {ls2 : Nat → Nat}, kps u L A ls B ls' → kp1 u w B ls' C ls2 → kps u (L ++ [w]) A ls C ls2
  | [], A, ls, B, ls', C, ls2, h, h2 => by
    obtain ⟨rfl, rfl⟩ := h
    exact ⟨C, ls2, h2, rfl, rfl⟩
  | x :: L, A, ls, B, ls', C, ls2, h, h2 => by
    obtain ⟨D, lsD, h3, h4⟩ := h
    exact ⟨D, lsD, h3, kps_snoc h4 h2⟩
theorem kp1_n {u : Nat} {w : Nat → Nat} {A B : AS} {ls ls' : Nat → Nat} (h : kp1 u w A ls B ls') (hn : A.1 ≤ 300) : B.1 ≤ 301 := by
  rcases h with ⟨i, hi, -, e, -⟩ | ⟨-, a, ha, -, -, e, -⟩ <;> rw [e] <;> simp only <;> omega
theorem kp1_l {u : Nat} {w : Nat → Nat} {A B : AS} {ls ls' : Nat → Nat} (h : kp1 u w A ls B ls') (hu : u < 150) (hl : ∀ i, i < A.1 → ls i < 150) : ∀ i, i < B.1 → ls' i < 150 := by
  rcases h with ⟨i, hi, -, e, e2⟩ | ⟨-, a, ha, -, -, e, e2⟩
  · rw [e, e2]
    intro j hj
    simp only at hj ⊢
    by_cases q : j = i
    · rw [if_pos q]; exact hu
    · rw [if_neg q]; exact hl j hj
  · rw [e, e2]
    intro j hj
    simp only at hj
    rcases Nat.lt_trichotomy j a with q | q | q
    · rw [ins_lt q]; exact hl j (by omega)
    · subst q; rw [ins_eq]; exact hu
    · rw [ins_gt q]; exact hl (j - 1) (by omega)
theorem agA_t {t t' : Nat → Nat → Int32} {val : Nat → Nat → Int32} {sl : Nat → Nat} {la : Nat} (h : t' 9 = t 9) : ∀ a, agA t' val sl la a = agA t val sl la a
  | 0 => rfl
  | a + 1 => by rw [agA, agA, agA_t h a]; unfold agP; rw [h]
def Dn (K : Nat) (e R : Nat → Nat) : Prop := ∃ j, j < K ∧ (∀ i, i < j → R i + 1 = e i) ∧ R j < (if j + 1 = K then e j else e j - 1)
section FI5
variable {F : ac_hp} {ki : Nat → ClassId} {am : Nat → Nat} {s : Nat → Nat → Int32} {f : ac_hp}
variable {sz : Nat → Nat} {nn : Nat → Nat → Nat → Nat} {kk : Nat → Nat → Int32} {mc n sp : Nat} {mt pr : Nat → Nat} {ml mtm : Nat → Nat → Nat}
/-- rows R of the slots make the numbers N -/
def RA (s : Nat → Nat → Int32) (mt : Nat → Nat) (ml : Nat → Nat → Nat) (sz : Nat → Nat) (sp n ct : Nat) (c sl R : Nat → Nat) (N : Nat → Int32) : Prop := (∀ a, a < n → R (sl a) < sz (mt (c a))) ∧ agA s (valR s mt ml c sl R) sl (ct - 1) n = some N ∧ spO s sp N
theorem rj_find {u ct : Nat} {c sl : Nat → Nat} {VB : Nat → Bool} {q : Nat × (Nat → Int32)} {W : (Nat → Int32) → Nat → Nat} {A : AS} {ls : Nat → Nat} {Q : ac_hp → Prop} (h : mr_R F ki am s f) (hx : RX s sz nn kk mc n sp) (hr : RM s mc mt pr ml mtm) (hn : 0 < n) (hu : u < 150)
    (hc : ∀ a, a < n → c a < mc ∧ s 13 (4 * u + a) = nI (c a)) (hs : ∀ a, a < n → sl a < ct ∧ s 14 (4 * u + a) = nI (sl a)) (hsur : ∀ k, k < ct → ∃ a, a < n ∧ sl a = k) (hct : ct ≤ 4) (hct1 : 0 < ct) (h15 : s 15 u = nI ct) (htab : ∀ a b, a < n → b < n → sl a = sl b → mt (c a) = mt (c b)) (hrst : rst s c n = some q)
    (hF : ∀ R N, RA s mt ml sz sp n ct c sl R N → cfit VB (W N) ∧ ∀ w18 s2, TR q w18 → s2 18 = w18 → (∀ v, v < 6 → s2 17 v = N v) → hand s2 VB (W N))
    (hna : A.1 ≤ 301) (ha : aR s VB A ls) (hls : ∀ i, i < A.1 → ls i < 150)
    (hq : ∀ s' f' B ls' L, FP s s' → s' 19 = s 19 → kps u L A ls B ls' → (∀ w, w ∈ L → ∃ R N, RA s mt ml sz sp n ct c sl R N ∧ w = W N) → (B.1 ≤ 300 → ∀ R N, RA s mt ml sz sp n ct c sl R N → W N ∈ L) → aR s' VB B ls' → (∀ i, i < B.1 → ls' i < 150) → B.1 ≤ 301 → mr_R F ki am s' f' → Q f') : wp_X9_find ki (am 0) (nI u) f Q := by
  have hn4 := hx.2.2.2.1.1
  have hx1 := hx.1.1
  have hs4 : ∀ a, a < n → sl a < 4 ∧ s 14 (4 * u + a) = nI (sl a) := fun a ha => ⟨by have := (hs a ha).1; omega, (hs a ha).2⟩
  have main : ∀ (w18 : Nat → Int32), TR q w18 → ∀ (M K : Nat) (e : Nat → Nat) (B : AS) (ls' : Nat → Nat) (L : List (Nat → Nat)) (s2 : Nat → Nat → Int32) (f2 : ac_hp), mu K e ≤ M → K ≤ ct → FP s s2 → (s2 18 = w18 ∧ s2 19 = s 19) → aR s2 VB B ls' → B.1 ≤ 301 → (∀ i, i < B.1 → ls' i < 150) → kps u L A ls B ls' → (∀ w, w ∈ L → ∃ R N, RA s mt ml sz sp n ct c sl R N ∧ w = W N) → (∀ R N, RA s mt ml sz sp n ct c sl R N → (K = 0 ∨ Dn K e R) → W N ∈ L) → mr_R F ki am s2 f2 → (∀ j, j < K → e j ≤ 20 ∧ s2 16 j = nI (e j) - 1) → (∀ j, j + 1 < K → 1 ≤ e j ∧ ∀ a, a < n → sl a = j → e j ≤ sz (mt (c a))) → wp_X9_find_L17 ki (am 0) (nI u) Q (M + 1) (nI K - 1) f2 := by
    intro w18 hT M
    have out0 : ∀ (e : Nat → Nat) (B : AS) (ls' : Nat → Nat) (L : List (Nat → Nat)) (s2 : Nat → Nat → Int32) (f2 : ac_hp) (M : Nat), FP s s2 → s2 19 = s 19 → aR s2 VB B ls' → B.1 ≤ 301 → (∀ i, i < B.1 → ls' i < 150) → kps u L A ls B ls' → (∀ w, w ∈ L → ∃ R N, RA s mt ml sz sp n ct c sl R N ∧ w = W N) → (∀ R N, RA s mt ml sz sp n ct c sl R N → (0 = 0 ∨ Dn 0 e R) → W N ∈ L) → mr_R F ki am s2 f2 → wp_X9_find_L17 ki (am 0) (nI u) Q (M + 1) (nI 0 - 1) f2 := by
      intro e B ls' L s2 f2 M k2 q19 ha2 hB hl2 hk hin hdn h2
      rw [wp_X9_find_L17]
      exact ⟨fun _ => hq s2 f2 B ls' L k2 q19 hk hin (fun _ R N hRA => hdn R N hRA (Or.inl rfl)) ha2 hl2 hB h2, fun z => absurd (by decide) z⟩
    induction M with
    | zero =>
      intro K e B ls' L s2 f2 hmu hK k2 q18 ha2 hB hl2 hk hin hdn h2 he he1
      cases K with
      | zero => exact out0 e B ls' L s2 f2 0 k2 q18.2 ha2 hB hl2 hk hin hdn h2
      | succ k =>
        have := mu_up (he k (by omega)).1
        exact absurd hmu (by omega)
    | succ M ih =>
      intro K e B ls' L s2 f2 hmu hK k2 q18 ha2 hB hl2 hk hin hdn h2 he he1
      cases K with
      | zero => exact out0 e B ls' L s2 f2 (M + 1) k2 q18.2 ha2 hB hl2 hk hin hdn h2
      | succ k =>
        have hek := he k (by omega)
        rw [nI_pred, wp_X9_find_L17]
        have r23 : hr_f f2 (am 0) 9 23 (.int (nI B.1)) := by rw [← ha2.1]; exact rm_f h2 rfl
        refine ⟨fun z => absurd z (nI_pos (by omega)), fun _ => ⟨_, r23, fun hbig => hq s2 f2 B ls' L k2 q18.2 hk hin (fun z => absurd ((nI_ltI (a := 300) (by omega) (by omega)).mp hbig) (by omega)) ha2 hl2 hB h2, fun hle => ?_⟩⟩
        have hna' : B.1 ≤ 300 := by
          rcases Nat.lt_or_ge 300 B.1 with z | z
          · exact absurd (nI_lt (a := 300) z (by omega)) hle
          · exact z
        have r16 := rm_i (i := 16) (j := k) (c := ki 0) (n := 4) (x := nI k) h2 (by omega) rfl rfl (by omega) (by omega)
        rw [hek.2] at r16
        refine ⟨_, rm_f h2 rfl, _, r16, ?_⟩
        rw [Int32.sub_add_cancel]
        refine wm_i (i := 16) (j := k) h2 (by omega) (fun _ => rfl) rfl (by omega) (by omega) (fun f3 h3 => ?_)
        have k3 := k2.trans (FP.cell (s := s2) (j := 16) (w := upd (s2 16) k (nI (e k))) (by omega))
        have c3 : ∀ j, j ≠ 16 → va_up s2 16 (upd (s2 16) k (nI (e k))) j = s2 j := fun j hj => va_up_ne _ _ hj
        have q3 : ∀ j, j < k → va_up s2 16 (upd (s2 16) k (nI (e k))) 16 j = nI (e j) - 1 := fun j hj => by rw [va_up_self, pk_un (by omega)]; exact (he j (by omega)).2
        have q3k : va_up s2 16 (upd (s2 16) k (nI (e k))) 16 k = nI (e k) := by rw [va_up_self, upd_self]
        have ha3 : aR (va_up s2 16 (upd (s2 16) k (nI (e k)))) VB B ls' := by
          unfold aR
          rw [c3 0 (by omega), c3 20 (by omega), c3 21 (by omega), c3 22 (by omega), c3 23 (by omega)]
          exact ha2
        have q183 : va_up s2 16 (upd (s2 16) k (nI (e k))) 18 = w18 ∧ va_up s2 16 (upd (s2 16) k (nI (e k))) 19 = s 19 := ⟨by rw [c3 18 (by omega)]; exact q18.1, by rw [c3 19 (by omega)]; exact q18.2⟩
        generalize va_up s2 16 (upd (s2 16) k (nI (e k))) = s3 at h3 k3 c3 q3 q3k ha3 q183
        have x3 := hx.sc k3.sc
        have r3 := hr.sc k3.sc
        have cc3 : ∀ a, a < n → c a < mc ∧ s3 13 (4 * u + a) = nI (c a) := fun a ha => by rw [k3.1 13 (by omega) (by omega)]; exact hc a ha
        have ss3 : ∀ a, a < n → sl a < 4 ∧ s3 14 (4 * u + a) = nI (sl a) := fun a ha => by rw [k3.1 14 (by omega) (by omega)]; exact hs4 a ha
        have r16' := rm_i (i := 16) (j := k) (c := ki 0) (n := 4) (x := nI k) h3 (by omega) rfl rfl (by omega) (by omega)
        rw [q3k] at r16'
        refine ⟨_, rm_f h3 rfl, _, r16', _, rm_f h3 rfl, rm_o h3, rj_table h3 x3 r3 (by omega) cc3 ss3 (hsur k (by omega)) (fun a0 ha0 esa0 => ?_)⟩
        have ht4 := (hr (c a0) (hc a0 ha0).1).1
        have r2 := rm_i (i := 2) (j := mt (c a0)) (c := ki 0) (n := 4) (x := nI (mt (c a0))) h3 (by omega) rfl rfl ht4 (by omega)
        rw [k3.1 2 (by omega) (by omega), (hx1 _ ht4).2] at r2
        have hs20 := (hx1 _ ht4).1
        have hsame : ∀ a, a < n → sl a = k → mt (c a) = mt (c a0) := fun a ha e => htab a a0 ha ha0 (by rw [e, esa0])
        refine ⟨_, r2, fun hlt => ⟨rm_o h3, ?_⟩, fun hge v23 e23 => ?_⟩
        · have hlt' : e k < sz (mt (c a0)) := by
            rcases Nat.lt_or_ge (e k) (sz (mt (c a0))) with z | z
            · exact z
            · exact absurd hlt (nI_nlt z (by omega))
          obtain ⟨Rc, Rk, Rl⟩ : ∃ Rc : Nat → Nat, Rc k = e k ∧ ∀ j, j < k → Rc j + 1 = e j := ⟨fun j => if j = k then e k else e j - 1, if_pos rfl, fun j hj => by show (if j = k then e k else e j - 1) + 1 = e j; rw [if_neg (by omega)]; have := (he1 j (by omega)).1; omega⟩
          have hRc : ∀ j, j ≤ k → Rc j < 20 ∧ s3 16 j = nI (Rc j) := fun j hj => by
            by_cases z : j = k
            · subst z; rw [Rk]; exact ⟨by omega, q3k⟩
            · have := Rl j (by omega)
              have h20 := (he j (by omega)).1
              exact ⟨by omega, by rw [q3 j (by omega), ← this, nI_pred]⟩
          have ev3 : valR s3 mt ml c sl Rc = valR s mt ml c sl Rc := by
            funext a p; unfold valR; rw [k3.1 1 (by omega) (by omega)]
          have eA : ∀ val, agA s3 val sl k n = agA s val sl k n := fun val => agA_t (k3.1 9 (by omega) (by omega)) n
          have eS : ∀ N, spO s3 sp N ↔ spO s sp N := fun N => by unfold spO; rw [k3.1 10 (by omega) (by omega), k3.1 11 (by omega) (by omega), k3.1 12 (by omega) (by omega)]
          -- rows that begin as Rc
          have same : ∀ R, R k = e k → (∀ i, i < k → R i + 1 = e i) → agA s (valR s mt ml c sl R) sl k n = agA s (valR s mt ml c sl Rc) sl k n := fun R h1 h2 => by
            refine agA_R (fun a ha hsl p => ?_) n (Nat.le_refl _)
            unfold valR
            have : R (sl a) = Rc (sl a) := by
              by_cases z : sl a = k
              · rw [z, h1, Rk]
              · have := h2 (sl a) (by omega)
                have := Rl (sl a) (by omega)
                omega
            rw [this]
          refine rj_agree h3 x3 r3 (by omega) cc3 ss3 (by omega) hRc (fun v w f4 hv h4 => ?_)
          rw [ev3, eA] at hv
          have k4 := k3.trans (FP.cell (s := s3) (j := 17) (w := w) (by omega))
          have c4 : ∀ j, j ≠ 17 → va_up s3 17 w j = s3 j := fun j hj => va_up_ne _ _ hj
          have q17 : va_up s3 17 w 17 = w := va_up_self _ _ _
          have ha4 : aR (va_up s3 17 w) VB B ls' := by
            unfold aR
            rw [c4 0 (by omega), c4 20 (by omega), c4 21 (by omega), c4 22 (by omega), c4 23 (by omega)]
            exact ha3
          have q184 : va_up s3 17 w 18 = w18 ∧ va_up s3 17 w 19 = s 19 := ⟨by rw [c4 18 (by omega)]; exact q183.1, by rw [c4 19 (by omega)]; exact q183.2⟩
          have q4 : va_up s3 17 w 16 = s3 16 := va_up_ne _ _ (by omega)
          generalize va_up s3 17 w = s4 at h4 k4 c4 q17 ha4 q184 q4
          obtain ⟨e', E1, E2⟩ : ∃ e' : Nat → Nat, (∀ j, j < k → e' j = e j) ∧ e' k = e k + 1 := ⟨fun j => if j = k then e k + 1 else e j, fun j hj => if_neg (by omega), if_pos rfl⟩
          -- the next row of the same slot
          have again : ∀ (B' : AS) (ls2 : Nat → Nat) (L' : List (Nat → Nat)) (s5 : Nat → Nat → Int32) (f5 : ac_hp), FP s s5 → (s5 18 = w18 ∧ s5 19 = s 19) → s5 16 = s3 16 → aR s5 VB B' ls2 → B'.1 ≤ 301 → (∀ i, i < B'.1 → ls2 i < 150) → kps u L' A ls B' ls2 → (∀ w, w ∈ L' → ∃ R N, RA s mt ml sz sp n ct c sl R N ∧ w = W N) → (∀ w, w ∈ L → w ∈ L') → (∀ R N, RA s mt ml sz sp n ct c sl R N → R k = e k → (∀ i, i < k → R i + 1 = e i) → W N ∈ L') → mr_R F ki am s5 f5 → wp_X9_find_L17 ki (am 0) (nI u) Q (M + 1) (nI k) f5 := by
            intro B' ls2 L' s5 f5 k5 q185 q165 ha5 hB5 hl5 hk5 hin5 hsub hnew h5
            rw [← nI_pred k]
            have := mu_same E1 E2 hek.1
            refine ih (k + 1) e' B' ls2 L' s5 f5 (by omega) hK k5 q185 ha5 hB5 hl5 hk5 hin5 (fun R N hRA hD => ?_) h5 (fun j hj => ?_) (fun j hj => ?_)
            · rcases hD with z | ⟨j, hj, hp, hb⟩
              · exact absurd z (by omega)
              · by_cases hjk : j = k
                · subst hjk
                  rw [if_pos rfl, E2] at hb
                  have hp' : ∀ i, i < j → R i + 1 = e i := fun i hi => by rw [← E1 i hi]; exact hp i hi
                  by_cases hRe : R j = e j
                  · exact hnew R N hRA hRe hp'
                  · exact hsub _ (hdn R N hRA (Or.inr ⟨j, by omega, hp', by rw [if_pos rfl]; omega⟩))
                · rw [if_neg (by omega), E1 j (by omega)] at hb
                  exact hsub _ (hdn R N hRA (Or.inr ⟨j, by omega, fun i hi => by rw [← E1 i (by omega)]; exact hp i hi, by rw [if_neg (by omega)]; exact hb⟩))
            · rcases Nat.lt_or_ge j k with z | z
              · rw [E1 j z, q165]; exact ⟨(he j (by omega)).1, q3 j z⟩
              · have : j = k := by omega
                subst this
                rw [E2, q165, q3k, nI_pred]; exact ⟨by omega, rfl⟩
            · rw [E1 j (by omega)]; exact he1 j (by omega)
          refine ⟨fun hz => ?_, fun hz => ?_⟩
          · -- does not agree
            have hno : ¬ ∃ N, agA s (valR s mt ml c sl Rc) sl k n = some N ∧ spO s sp N := by
              rcases hv with ⟨-, z⟩ | ⟨z, -⟩
              · exact fun ⟨N, y1, y2⟩ => z ⟨N, y1, (eS N).mpr y2⟩
              · exact absurd (z.symm.trans hz) ne10
            refine again B ls' L s4 f4 k4 q184 q4 ha4 hB hl2 hk hin (fun _ z => z) (fun R N hRA h1 h2 => absurd ?_ hno) h4
            obtain ⟨N2, y1, y2⟩ := agA_pre (la := k) (la' := ct - 1) (by omega) n N hRA.2.1
            rw [same R h1 h2] at y1
            exact ⟨N2, y1, spO_sub hRA.2.2 y2⟩
          · obtain ⟨N, hN1, hN2, hN3⟩ : ∃ N, agA s (valR s mt ml c sl Rc) sl k n = some N ∧ spO s sp N ∧ ∀ u, u < 6 → w u = N u := by
              rcases hv with ⟨z, -⟩ | ⟨-, N, y1, y2, y3⟩
              · exact absurd z hz
              · exact ⟨N, y1, (eS N).mp y2, y3⟩
            have r15 := rm_i (i := 15) (j := u) (c := ki 0) (n := 151) (x := nI u) h4 (by omega) rfl rfl (by omega) (by omega)
            rw [k4.1 15 (by omega) (by omega), h15] at r15
            refine ⟨_, rm_f h4 rfl, _, r15, fun hne v19 e19 => ⟨_, rm_f h4 rfl, ?_⟩, fun heq => ⟨rm_o h4, ?_⟩⟩
            · have hk1 : k + 1 < ct := by
                rcases Nat.lt_or_ge (k + 1) ct with z | z
                · exact z
                · exact absurd (by rw [nI_1, show k + 1 = ct by omega]) hne
              rw [e19, nI_1]
              refine wm_i (i := 16) (j := k + 1) h4 (by omega) (fun _ => rfl) rfl (by omega) (by omega) (fun f5 h5 => ?_)
              rw [← nI_pred (k + 1)]
              obtain ⟨e'', G1, G2, G3⟩ : ∃ e' : Nat → Nat, (∀ j, j < k → e' j = e j) ∧ e' k = e k + 1 ∧ e' (k + 1) = 0 := ⟨fun j => if j = k then e k + 1 else if j = k + 1 then 0 else e j, fun j hj => by show (if _ then _ else _) = _; rw [if_neg (by omega), if_neg (by omega)], if_pos rfl, by show (if _ then _ else _) = _; rw [if_neg (by omega), if_pos rfl]⟩
              have := mu_deep G1 G2 hek.1 G3 (by omega)
              refine ih (k + 2) e'' B ls' L _ f5 (by omega) (by omega) (k4.trans (FP.cell (by omega))) ⟨by rw [va_up_ne _ _ (by omega)]; exact q184.1, by rw [va_up_ne _ _ (by omega)]; exact q184.2⟩ ?_ hB hl2 hk hin (fun R N hRA hD => ?_) h5 (fun j hj => ?_) (fun j hj => ?_)
              · unfold aR
                rw [va_up_ne _ _ (show (0 : Nat) ≠ 16 by omega), va_up_ne _ _ (show (20 : Nat) ≠ 16 by omega), va_up_ne _ _ (show (21 : Nat) ≠ 16 by omega), va_up_ne _ _ (show (22 : Nat) ≠ 16 by omega), va_up_ne _ _ (show (23 : Nat) ≠ 16 by omega)]
                exact ha4
              · rcases hD with z | ⟨j, hj, hp, hb⟩
                · exact absurd z (by omega)
                · rcases Nat.lt_trichotomy j k with z | z | z
                  · rw [if_neg (by omega), G1 j z] at hb
                    exact hdn R N hRA (Or.inr ⟨j, by omega, fun i hi => by rw [← G1 i (by omega)]; exact hp i hi, by rw [if_neg (by omega)]; exact hb⟩)
                  · subst z
                    rw [if_neg (by omega), G2] at hb
                    exact hdn R N hRA (Or.inr ⟨j, by omega, fun i hi => by rw [← G1 i (by omega)]; exact hp i hi, by rw [if_pos rfl]; omega⟩)
                  · have : j = k + 1 := by omega
                    subst this
                    rw [if_pos rfl, G3] at hb
                    exact absurd hb (by omega)
              · rw [va_up_self]
                rcases Nat.lt_or_ge j k with z | z
                · rw [G1 j z, pk_un (by omega), q4]; exact ⟨(he j (by omega)).1, q3 j z⟩
                · rcases Nat.lt_or_ge k j with y | y
                  · have : j = k + 1 := by omega
                    subst this
                    rw [G3, upd_self]; exact ⟨by omega, rfl⟩
                  · have : j = k := by omega
                    subst this
                    rw [G2, pk_un (by omega), q4, q3k, nI_pred]; exact ⟨by omega, rfl⟩
              · rcases Nat.lt_or_ge j k with z | z
                · rw [G1 j z]; exact he1 j (by omega)
                · have : j = k := by omega
                  subst this
                  rw [G2]
                  exact ⟨by omega, fun a ha esa => by rw [hsame a ha esa]; omega⟩
            · -- all slots have rows: keep
              have hk1 : k + 1 = ct := by
                rw [nI_1] at heq
                exact (nI_eq (by omega) (by omega)).mp heq
              have ek : ct - 1 = k := by omega
              have hRA : RA s mt ml sz sp n ct c sl Rc N := by
                refine ⟨fun a ha => ?_, by rw [ek]; exact hN1, hN2⟩
                have hsa := (hs a ha).1
                by_cases z : sl a = k
                · rw [z, Rk, hsame a ha z]; exact hlt'
                · have h1 := Rl (sl a) (by omega)
                  have h2 := (he1 (sl a) (by omega)).2 a ha rfl
                  omega
              obtain ⟨F1, F2⟩ := hF Rc N hRA
              refine rj_keep h4 hu hna' ha4 hl2 F1 (F2 w18 s4 hT q184.1 (fun v hv => by rw [q17]; exact hN3 v hv)) (fun s5 f5 B' ls2 kp hkp ha5 h5 => ?_)
              refine again B' ls2 (L ++ [W N]) s5 f5 (k4.trans kp.fp) ⟨by rw [kp.1 18 (by omega) (by omega)]; exact q184.1, by rw [kp.1 19 (by omega) (by omega)]; exact q184.2⟩ ((kp.1 16 (by omega) (by omega)).trans q4) ha5 (kp1_n hkp hna') (kp1_l hkp hu hl2) (kps_snoc hk hkp) (fun w' hw' => ?_) (fun w' hw' => by simp [hw']) (fun R N' hRA' h1 h2 => ?_) h5
              · rcases List.mem_append.mp hw' with z | z
                · exact hin w' z
                · exact ⟨Rc, N, hRA, by simpa using z⟩
              · have e1 := hRA'.2.1
                rw [ek, same R h1 h2, hN1] at e1
                cases e1
                simp
        · rw [e23, pm_m1]
          have hge' : sz (mt (c a0)) ≤ e k := by
            rcases Nat.lt_or_ge (e k) (sz (mt (c a0))) with z | z
            · exact absurd (nI_lt z (by omega)) hge
            · exact z
          have := mu_up hek.1
          refine ih k e B ls' L s3 f3 (by omega) (by omega) k3 q183 ha3 hB hl2 hk hin (fun R N hRA hD => hdn R N hRA (Or.inr ?_)) h3 (fun j hj => ⟨(he j (by omega)).1, q3 j hj⟩) (fun j hj => he1 j (by omega))
          have hRk : R k < sz (mt (c a0)) := by have := hRA.1 a0 ha0; rw [esa0] at this; exact this
          rcases hD with z | ⟨j, hj, hp, hb⟩
          · exact ⟨k, by omega, fun i hi => absurd hi (by omega), by rw [if_pos rfl]; omega⟩
          · by_cases hjk : j + 1 = k
            · rw [if_pos hjk] at hb
              by_cases hRj : R j + 1 = e j
              · exact ⟨k, by omega, fun i hi => by
                  by_cases z : i = j
                  · rw [z]; exact hRj
                  · exact hp i (by omega), by rw [if_pos rfl]; omega⟩
              · exact ⟨j, by omega, hp, by rw [if_neg (by omega)]; omega⟩
            · rw [if_neg hjk] at hb
              exact ⟨j, by omega, hp, by rw [if_neg (by omega)]; exact hb⟩
  unfold wp_X9_find
  refine ⟨rm_o h, ?_⟩
  rw [show (4 : Int32) = nI 4 from rfl, pk_mul]
  refine rj_canMeet (c := c) h hx hr (by omega) hc (fun v w f1 hv h1 => ⟨_, rm_f h1 rfl, wm_i (i := 16) (j := 0) h1 (by omega) (fun _ => rfl) nI_0.symm (by omega) (by omega) (fun f2 h2 => ⟨mu 1 (fun _ => 0) + 1, ?_⟩)⟩)
  have hT : TR q w := by
    rcases hv with ⟨-, z⟩ | ⟨-, q', z, y⟩
    · rw [hrst] at z; cases z
    · rw [hrst] at z; cases z; exact y
  have := main w hT (mu 1 (fun _ => 0)) 1 (fun _ => 0) A ls [] _ f2 (Nat.le_refl _) (by omega) (FP.trans (FP.cell (j := 18) (w := w) (by omega)) (FP.cell (j := 16) (by omega))) ⟨by rw [va_up_ne _ _ (by omega), va_up_self], by rw [va_up_ne _ _ (by omega), va_up_ne _ _ (by omega)]⟩ (by
    unfold aR
    simp (disch := omega) only [va_up_ne]
    exact ha) hna hls ⟨rfl, rfl⟩ (fun w hw => by cases hw) (fun R N _ hD => by
    rcases hD with z | ⟨j, hj, -, hb⟩
    · exact absurd z (by omega)
    · rw [if_pos (by omega)] at hb; exact absurd hb (Nat.not_lt_zero _)) h2 (fun j hj => ⟨Nat.zero_le _, by rw [show j = 0 by omega, va_up_self, upd_self]; rfl⟩) (fun j hj => absurd hj (by omega))
  exact this
end FI5
