/-! the reference: triples; agree; compare; keep -/
section R5
variable {F : ac_hp} {ki : Nat → ClassId} {am : Nat → Nat} {s : Nat → Nat → Int32} {f : ac_hp}
variable {sz : Nat → Nat} {nn : Nat → Nat → Nat → Nat} {kk : Nat → Nat → Int32} {mc n sp : Nat}
theorem rs_code {m p i : Nat} {xp : Int32} {Q : Int32 → ac_hp → Prop} (h : mr_R F ki am s f) (hx : RX s sz nn kk mc n sp) (hm : m < mc) (hp : p < 2) (ep : xp = nI p) (hi : i < 20) (hq : ∀ v, Q v f) : wp_X9_code ki (am 0) (nI m) xp (nI i) f Q := by
  obtain ⟨-, -, ⟨h4, h5, h6⟩, -⟩ := id hx
  obtain ⟨⟨t, ht, et⟩, hc⟩ := h6 m hm
  obtain ⟨c, hc1, ec⟩ := hc p hp
  subst ep
  unfold wp_X9_code
  have r4 := rm_i (i := 4) (j := m) (c := ki 0) (n := 12) (x := nI m) h (by omega) rfl rfl (by omega) (by omega)
  rw [et] at r4
  have r7 := rm_i (i := 7) (j := 2 * m + p) (c := ki 0) (n := 24) (x := (2 * nI m) + nI p) h (by omega) rfl pm_12 (by omega) (by omega)
  rw [ec] at r7
  exact ⟨_, rm_f h rfl, _, rm_i (i := 6) (j := 2 * m + p) h (by omega) rfl pm_12 (by omega) (by omega), _, rm_f h rfl, _, rm_f h rfl, _, r4, _, rm_f h rfl, _, r7, _, rm_i (i := 1) (j := 60 * t + 3 * i + c) h (by omega) rfl pm_lin (by omega) (by omega), hq _⟩
theorem rs_triples {Q : Int32 → ac_hp → Prop} (h : mr_R F ki am s f) (hi : RI s sz nn kk mc n sp) (hq : ∀ v s' f', RI s' sz nn kk mc n sp → mr_R F ki am s' f' → Q v f') : wp_X9_triples ki (am 0) f Q := by
  unfold wp_X9_triples
  refine wm_0 h (fun f1 h => ⟨mc + 1, ?_⟩)
  have h : mr_R F ki am (th0 s) f1 := h
  have hi1 := RI_t0 hi
  have hq' : ∀ v, Q v f1 := fun v => hq v _ f1 hi1 h
  have hx := hi1.1
  obtain ⟨⟨h1, -⟩, -, ⟨h4, h5, h6⟩, -⟩ := id hx
  have rt : ∀ m t, m < mc → th0 s 4 m = nI t → t < 4 → hr_i (ki 0) f1 (am 4) (nI m) (nI t) ∧ hr_i (ki 0) f1 (am 2) (nI t) (nI (sz t)) := fun m t hm et ht => by
    have r4 := rm_i (i := 4) (j := m) (c := ki 0) (n := 12) (x := nI m) h (by omega) rfl rfl (by omega) (by omega)
    rw [et] at r4
    have r2 := rm_i (i := 2) (j := t) (c := ki 0) (n := 4) (x := nI t) h (by omega) rfl rfl ht (by omega)
    rw [(h1 t ht).2] at r2
    exact ⟨r4, r2⟩
  have L49 : ∀ (E : Int32 → ac_hp → Prop) (x1 : Int32) (m i k : Nat), m < mc → i < 20 → k < mc → (∀ y, E y f1) → ∃ B, B ≤ 20 ∧ ∀ (d j : Nat) (x4 : Int32), d + j = B → wp_X9_triples_L49 ki (am 0) x1 (nI m) (nI i) (nI k) E (d + 1) x4 (nI j) f1 := by
    intro E x1 m i k hm hi2 hk hE
    obtain ⟨⟨t, ht, et⟩, -⟩ := h6 k hk
    have hs20 := (h1 t ht).1
    have hkm : ¬ nI k = nI m ↔ k ≠ m := not_congr (nI_eq (by omega) (by omega))
    have hB20 : (if k = m then i else sz t) ≤ 20 := by split <;> omega
    refine ⟨if k = m then i else sz t, hB20, ?_⟩
    have tail : ∀ (d j : Nat) (x4 : Int32), j < 20 → (∀ (x4 : Int32), wp_X9_triples_L49 ki (am 0) x1 (nI m) (nI i) (nI k) E (d + 1) x4 (nI (j + 1)) f1) → ((x4 = 0 → ∀ v11 : Int32, v11 = nI j + 1 → wp_X9_triples_L49 ki (am 0) x1 (nI m) (nI i) (nI k) E (d + 1) 0 v11 f1) ∧ (¬ x4 = 0 → ∃ o12 : Nat, hr_f f1 (am 0) 9 6 (.ref o12) ∧ ∃ v13 : Int32, hr_i (ki 0) f1 o12 (nI k) v13 ∧ ∃ o14 : Nat, hr_f f1 (am 0) 9 6 (.ref o14) ∧ ∃ v15 : Int32, hr_i (ki 0) f1 o14 (nI m) v15 ∧ ((¬ v13 = v15 → ∀ v16 : Int32, v16 = nI j + 1 → wp_X9_triples_L49 ki (am 0) x1 (nI m) (nI i) (nI k) E (d + 1) 1 v16 f1) ∧ (v13 = v15 → hr_o f1 (am 0) 9 ∧ wp_X9_code ki (am 0) (nI k) 0 (nI j) f1 (fun v18 f17 => hr_o f17 (am 0) 9 ∧ wp_X9_code ki (am 0) (nI m) 0 (nI i) f17 (fun v20 f19 => ((¬ v18 = v20 → ∀ v21 : Int32, v21 = nI j + 1 → wp_X9_triples_L49 ki (am 0) x1 (nI m) (nI i) (nI k) E (d + 1) 1 v21 f19) ∧ (v18 = v20 → hr_o f19 (am 0) 9 ∧ wp_X9_code ki (am 0) (nI k) 1 (nI j) f19 (fun v23 f22 => hr_o f22 (am 0) 9 ∧ wp_X9_code ki (am 0) (nI m) 1 (nI i) f22 (fun v25 f24 => ((v23 = v25 → ∀ v26 : Int32, v26 = nI j + 1 → wp_X9_triples_L49 ki (am 0) x1 (nI m) (nI i) (nI k) E (d + 1) 0 v26 f24) ∧ (¬ v23 = v25 → ∀ v27 : Int32, v27 = nI j + 1 → wp_X9_triples_L49 ki (am 0) x1 (nI m) (nI i) (nI k) E (d + 1) 1 v27 f24)))))))))))) := by
      intro d j x4 hj nx
      have nx' : ∀ (y v : Int32), v = nI j + 1 → wp_X9_triples_L49 ki (am 0) x1 (nI m) (nI i) (nI k) E (d + 1) y v f1 := fun y v hv => by rw [hv, nI_1]; exact nx y
      exact ⟨fun _ => nx' 0, fun _ => ⟨_, rm_f h rfl, _, rm_i (i := 5) (j := k) h (by omega) rfl rfl (by omega) (by omega), _, rm_f h rfl, _, rm_i (i := 5) (j := m) h (by omega) rfl rfl (by omega) (by omega), fun _ => nx' 1, fun _ => ⟨rm_o h, rs_code (p := 0) h hx hk (by omega) nI_0.symm hj (fun v18 => ⟨rm_o h, rs_code (p := 0) h hx hm (by omega) nI_0.symm hi2 (fun v20 => ⟨fun _ => nx' 1, fun _ => ⟨rm_o h, rs_code (p := 1) h hx hk (by omega) rfl hj (fun v23 => ⟨rm_o h, rs_code (p := 1) h hx hm (by omega) rfl hi2 (fun v25 => ⟨fun _ => nx' 0, fun _ => nx' 1⟩)⟩)⟩⟩)⟩)⟩⟩⟩
    intro d
    induction d with
    | zero =>
      intro j x4 hj
      rw [wp_X9_triples_L49]
      refine ⟨fun hne => ⟨_, rm_f h rfl, _, rm_f h rfl, _, (rt k t hk et ht).1, _, (rt k t hk et ht).2, fun _ => hE _, fun z => absurd (nI_le (by rw [if_neg (hkm.mp hne)] at hj; omega) (by omega)) z⟩, fun he => ⟨fun _ => hE _, fun z => absurd (nI_le (by rw [if_pos ((nI_eq (by omega) (by omega)).mp he)] at hj; omega) (by omega)) z⟩⟩
    | succ d ih =>
      intro j x4 hj
      rw [wp_X9_triples_L49]
      have hj20 : j < 20 := by split at hj <;> omega
      have tl := tail d j x4 hj20 (fun y => ih (j + 1) y (by omega))
      refine ⟨fun hne => ⟨_, rm_f h rfl, _, rm_f h rfl, _, (rt k t hk et ht).1, _, (rt k t hk et ht).2, fun _ => hE _, fun _ => tl⟩, fun he => ⟨fun _ => hE _, fun _ => tl⟩⟩
  have L40 : ∀ (E : Int32 → ac_hp → Prop) (x1 : Int32) (m i : Nat), m < mc → i < 20 → (∀ y, E y f1) → ∀ (d k : Nat) (x4 : Int32), d + k = m + 1 → wp_X9_triples_L40 ki (am 0) x1 (nI m) (nI i) E (d + 1) x4 (nI k) f1 := by
    intro E x1 m i hm hi2 hE d
    induction d with
    | zero =>
      intro k x4 hk
      rw [wp_X9_triples_L40]
      exact ⟨fun _ => hE _, fun z => absurd (nI_lt (by omega) (by omega)) z⟩
    | succ d ih =>
      intro k x4 hk
      rw [wp_X9_triples_L40]
      refine ⟨fun _ => hE _, fun _ => ?_⟩
      obtain ⟨B, -, hB⟩ := L49 (fun y46 f47 => ∀ v48 : Int32, v48 = nI k + 1 → wp_X9_triples_L40 ki (am 0) x1 (nI m) (nI i) E (d + 1) y46 v48 f47) x1 m i k hm hi2 (by omega) (fun y v hv => by rw [hv, nI_1]; exact ih (k + 1) y (by omega))
      exact ⟨B + 1, hB B 0 x4 (by omega)⟩
  have L19 : ∀ (E : Int32 → ac_hp → Prop) (m : Nat), m < mc → (∀ y, E y f1) → ∃ B, ∀ (d i : Nat) (x1 : Int32), d + i = B → wp_X9_triples_L19 ki (am 0) (nI m) E (d + 1) x1 (nI i) f1 := by
    intro E m hm hE
    obtain ⟨⟨t, ht, et⟩, -⟩ := h6 m hm
    have hs20 := (h1 t ht).1
    refine ⟨sz t, fun d => ?_⟩
    induction d with
    | zero =>
      intro i x1 hi2
      rw [wp_X9_triples_L19]
      exact ⟨_, rm_f h rfl, _, rm_f h rfl, _, (rt m t hm et ht).1, _, (rt m t hm et ht).2, fun _ => hE _, fun z => absurd (nI_le (by omega) (by omega)) z⟩
    | succ d ih =>
      intro i x1 hi2
      rw [wp_X9_triples_L19]
      refine ⟨_, rm_f h rfl, _, rm_f h rfl, _, (rt m t hm et ht).1, _, (rt m t hm et ht).2, fun _ => hE _, fun _ => ⟨m + 2, L40 _ x1 m i hm (by omega) (fun y => ⟨fun _ v e v' e' => ?_, fun _ v e v' e' => ?_⟩) (m + 1) 0 1 (by omega)⟩⟩
      · rw [e', nI_1]; exact ih (i + 1) v (by omega)
      · rw [e', nI_1]; exact ih (i + 1) v (by omega)
  have L9 : ∀ (d m : Nat) (x1 : Int32), d + m = mc → wp_X9_triples_L9 ki (am 0) (fun y61 f62 => Q y61 f62) (d + 1) x1 (nI m) f1 := by
    intro d
    induction d with
    | zero =>
      intro m x1 hm
      rw [wp_X9_triples_L9]
      refine ⟨_, rm_f h rfl, ?_⟩
      rw [h5]
      exact ⟨fun _ => hq' _, fun z => absurd (nI_le (by omega) (by omega)) z⟩
    | succ d ih =>
      intro m x1 hm
      rw [wp_X9_triples_L9]
      refine ⟨_, rm_f h rfl, ?_⟩
      rw [h5]
      refine ⟨fun z => absurd z (nI_ge (by omega) (by omega)), fun _ => ?_⟩
      obtain ⟨B, hB⟩ := L19 (fun y57 f58 => ∀ v59 : Int32, v59 = nI m + 1 → wp_X9_triples_L9 ki (am 0) (fun y61 f62 => Q y61 f62) (d + 1) y57 v59 f58) m (by omega) (fun y v hv => by rw [hv, nI_1]; exact ih (m + 1) y (by omega))
      exact ⟨B + 1, hB B 0 x1 (by omega)⟩
  exact L9 mc 0 0 (by omega)
theorem rs_compare {i : Nat} {Q : Int32 → ac_hp → Prop} (h : mr_R F ki am s f) (hi : i ≤ 300) (hq : ∀ v, Q v f) : wp_X9_compare ki (am 0) (nI i) f Q := by
  unfold wp_X9_compare
  refine ⟨7, ?_⟩
  have key : ∀ (d v : Nat), d + v = 6 → wp_X9_compare_L2 ki (am 0) (nI i) Q (fun f19 => Q 0 f19) (d + 1) (nI v) f := by
    intro d
    induction d with
    | zero =>
      intro v hv
      rw [wp_X9_compare_L2]
      exact ⟨fun _ => hq _, fun z => absurd (nI_le (a := 6) (by omega) (by omega)) z⟩
    | succ d ih =>
      intro v hv
      rw [wp_X9_compare_L2]
      have r20 := rm_i (i := 20) (j := 6 * i + v) (c := ki 0) (n := 1812) (x := (6 * nI i) + nI v) h (by omega) rfl (by rw [show (6 : Int32) = nI 6 from rfl, pk_mul, nI_add]) (by omega) (by omega)
      have r17 := rm_i (i := 17) (j := v) (c := ki 0) (n := 6) (x := nI v) h (by omega) rfl rfl (by omega) (by omega)
      have nx : ∀ w : Int32, w = nI v + 1 → wp_X9_compare_L2 ki (am 0) (nI i) Q (fun f19 => Q 0 f19) (d + 1) w f := fun w hw => by rw [hw, nI_1]; exact ih (v + 1) (by omega)
      exact ⟨fun z => absurd z (nI_ge (b := 6) (by omega) (by omega)), fun _ => ⟨_, rm_f h rfl, _, r17, fun _ => ⟨_, rm_f h rfl, _, rm_i (i := 18) (j := v) h (by omega) rfl rfl (by omega) (by omega), _, rm_f h rfl, _, r17, fun v7 _ => ⟨_, rm_f h rfl, _, r20, fun _ => nx, fun _ => ⟨_, rm_f h rfl, _, r20, fun _ => hq _, fun _ => hq _⟩⟩⟩, fun _ => ⟨_, rm_f h rfl, _, r20, fun _ => nx, fun _ => ⟨_, rm_f h rfl, _, r20, fun _ => hq _, fun _ => hq _⟩⟩⟩⟩
  exact key 6 0 rfl
end R5
