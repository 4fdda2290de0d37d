/-! CALLS WHERE NOTHING IS THERE YET: no atoms, no mappings, no answers; the class, then the reference -/
section FR1
variable {F : ac_hp} {ki : Nat → ClassId} {ad : Nat → Nat} {s : Nat → Nat → Int32} {tl : Nat → Int64} {f : ac_hp}
theorem le00 : (0 : Int32) ≤ 0 := by decide
theorem nem1 : ¬ (-1 : Int32) = 0 := by decide
theorem sp_triples0 {Q : Int32 → ac_hp → Prop} (h : vr_R F ki ad s tl f) (h0 : s 1 3 = 0) (hq : ∀ f', vr_R F ki ad (va_up s 1 (upd (s 1) 4 0)) tl f' → Q 0 f') : wp_X0_triples ki (ad 0) f Q := by
  unfold wp_X0_triples wp_X1_countTriples
  refine ⟨_, rd_f (i := 0) h (by omega) rfl rfl, rd_o (i := 1) h (by omega) rfl, wr_1_4 h (fun f1 h1 => ⟨1, ?_⟩)⟩
  rw [wp_X1_countTriples_L7]
  refine ⟨_, rd_f (i := 1) h1 (by omega) rfl rfl, ?_⟩
  rw [va_up_self, show upd (s 1) 4 0 3 = s 1 3 by simp [upd], h0]
  refine ⟨fun _ => ⟨_, rd_f (i := 1) h1 (by omega) rfl rfl, ?_⟩, fun z => absurd le00 z⟩
  rw [va_up_self, upd_self]
  exact hq f1 h1
theorem sp_unions0 {Q : Int32 → ac_hp → Prop} (h : vr_R F ki ad s tl f) (h0 : s 5 4 = 0) (hq : Q (-1) f) : wp_X0_unions ki (ad 0) f Q := by
  unfold wp_X0_unions
  refine ⟨_, rd_f (i := 0) h (by omega) rfl rfl, _, rd_f (i := 5) h (by omega) rfl rfl, ?_⟩
  rw [h0]
  exact ⟨fun z => absurd rfl z, fun _ => hq⟩
theorem sp_trouble0 {x : Int32} {Q : Int32 → ac_hp → Prop} (h : vr_R F ki ad s tl f) (h0 : s 5 4 = 0) (hq : Q (-1) f) : wp_X0_troubleWith ki (ad 0) x f Q := by
  unfold wp_X0_troubleWith
  refine ⟨fun _ => hq, fun _ => ⟨_, rd_f (i := 0) h (by omega) rfl rfl, _, rd_f (i := 5) h (by omega) rfl rfl, ?_⟩⟩
  rw [h0]
  exact ⟨fun z => absurd rfl z, fun _ => hq⟩
theorem sp_estimate0 {x : Int32} {Q : Int32 → ac_hp → Prop} (h : vr_R F ki ad s tl f) (h0 : s 5 4 = 0) (hq : Q (-1) f) : wp_X0_estimate ki (ad 0) x f Q := by
  unfold wp_X0_estimate
  exact ⟨rd_o (i := 0) h (by omega) rfl, sp_trouble0 h h0 ⟨fun z => absurd z nem1, fun _ => hq⟩⟩
theorem sp_union0 {x y : Int32} {Q : Int32 → ac_hp → Prop} (h : vr_R F ki ad s tl f) (h0 : s 5 4 = 0) (hq : Q (-1) f) : wp_X0_union ki (ad 0) x y f Q := by
  unfold wp_X0_union
  refine ⟨rd_o (i := 0) h (by omega) rfl, ?_⟩
  have k1 : ∀ v2 : Int32, ((¬ v2 = 0 → hr_o f (ad 0) 0 ∧ wp_X0_troubleWith ki (ad 0) x f (fun v4 f3 => ((v4 = 0 → ((4 ≤ y → ∃ o5 : Nat, hr_f f3 (ad 0) 0 3 (.ref o5) ∧ hr_o f3 o5 6 ∧ wp_X6_assign ki o5 x f3 (fun f6 => ((8 ≤ y → ∃ o7 : Nat, hr_f f6 (ad 0) 0 3 (.ref o7) ∧ ∃ v8 : Int32, hr_f f6 o7 6 4 (.int v8) ∧ Q v8 f6) ∧ (¬ 8 ≤ y → ∃ o9 : Nat, hr_f f6 (ad 0) 0 3 (.ref o9) ∧ ∃ o10 : Nat, hr_f f6 o9 6 3 (.ref o10) ∧ ∃ v11 : Int32, hr_i (ki 0) f6 o10 (y - 4) v11 ∧ Q v11 f6)))) ∧ (¬ 4 ≤ y → ∃ o12 : Nat, hr_f f3 (ad 0) 0 2 (.ref o12) ∧ hr_o f3 o12 5 ∧ wp_X5_chosen ki o12 x y f3 (fun v14 f13 => Q v14 f13)))) ∧ (¬ v4 = 0 → Q v4 f3)))) ∧ (v2 = 0 → Q (-1) f)) := fun v2 => ⟨fun _ => ⟨rd_o (i := 0) h (by omega) rfl, sp_trouble0 h h0 ⟨fun z => absurd z nem1, fun _ => hq⟩⟩, fun _ => hq⟩
  unfold wp_X0_isAsked wp_X0_isBelow
  refine ⟨fun _ => ⟨fun _ => ⟨fun _ => k1 0, fun z => absurd rfl z⟩, fun _ => ⟨fun _ => ⟨fun _ => k1 0, fun z => absurd rfl z⟩, fun _ => ⟨fun z => absurd z ne10, fun _ => ⟨_, rd_f (i := 0) h (by omega) rfl rfl, _, rd_f (i := 5) h (by omega) rfl rfl, fun _ => k1 0, fun _ => k1 1⟩⟩⟩⟩, fun _ => k1 1⟩
theorem sp_run0 {Q : Int32 → ac_hp → Prop} (h : vr_R F ki ad s tl f) (h0 : s 5 4 = 0) (hq : ∀ f', vr_R F ki ad (va_up s 16 (upd (upd (upd (s 16) 4 0) 5 0) 6 0)) tl f' → Q (-1) f') : wp_X0_run ki (ad 0) f Q := by
  unfold wp_X0_run wp_X4_variables wp_X7_begin
  refine ⟨_, rd_f (i := 0) h (by omega) rfl rfl, _, rd_f (i := 0) h (by omega) rfl rfl, rd_o (i := 5) h (by omega) rfl, 1, ?_⟩
  rw [wp_X4_variables_L4]
  refine ⟨_, rd_f (i := 5) h (by omega) rfl rfl, ?_⟩
  rw [h0]
  refine ⟨fun _ => ⟨rd_o (i := 16) h (by omega) rfl, ?_⟩, fun z => absurd (by decide : (0 : Int32) * 2 ≤ 0) z⟩
  refine wr_16_4 h (fun f1 h1 => wr_16_5 h1 (fun f2 h2 => wr_16_6 h2 (fun f3 h3 => ?_)))
  simp (disch := omega) only [va_up_self, va_up_ne, bx_uu] at h3
  refine ⟨_, rd_f (i := 0) h3 (by omega) rfl rfl, _, rd_f (i := 5) h3 (by omega) rfl rfl, ?_⟩
  rw [va_up_ne _ _ (by omega), h0]
  exact ⟨fun z => absurd rfl z, fun _ => hq f3 h3⟩
theorem pb_below0 {a : Int32} {Q : Int32 → ac_hp → Prop} (h0 : Q 0 f) : wp_X0_isBelow ki a 0 f Q := by
  unfold wp_X0_isBelow
  refine ⟨fun _ => h0, fun h => ⟨fun _ => h0, fun g => ?_⟩⟩
  rw [Int32.not_le] at g
  exact absurd g h
theorem sp_value0 {x y : Int32} {Q : Int32 → ac_hp → Prop} (h : vr_R F ki ad s tl f) (h0 : s 16 4 = 0) (hq : Q (-1) f) : wp_X0_value ki (ad 0) x y f Q := by
  unfold wp_X0_value
  refine ⟨_, rd_f (i := 0) h (by omega) rfl rfl, _, rd_f (i := 16) h (by omega) rfl rfl, ?_⟩
  rw [h0]
  exact pb_below0 ⟨fun _ => hq, fun z => absurd rfl z⟩
theorem sp_found0 {x y : Int32} {Q : Int32 → ac_hp → Prop} (h : vr_R F ki ad s tl f) (h0 : s 16 4 = 0) (hq : Q (-1) f) : wp_X0_found ki (ad 0) x y f Q := by
  unfold wp_X0_found
  refine ⟨_, rd_f (i := 0) h (by omega) rfl rfl, _, rd_f (i := 16) h (by omega) rfl rfl, ?_⟩
  rw [h0]
  exact pb_below0 ⟨fun _ => hq, fun z => absurd rfl z⟩
end FR1
section FR2
variable {F : ac_hp} {ki : Nat → ClassId} {am : Nat → Nat} {s : Nat → Nat → Int32} {f : ac_hp}
theorem th0_k {k : Nat} {v : Int32} (hk : k ≠ 0) (h : s 0 k = v) : th0 s 0 k = v := by rw [th0, va_up_self, ← h]; simp [upd, hk]
theorem sm_triples0 {Q : Int32 → ac_hp → Prop} (h : mr_R F ki am s f) (h0 : s 0 4 = 0) (hq : ∀ f', mr_R F ki am (th0 s) f' → Q 0 f') : wp_X9_triples ki (am 0) f Q := by
  unfold wp_X9_triples
  refine wm_0 h (fun f1 h => ⟨1, ?_⟩)
  have h : mr_R F ki am (th0 s) f1 := h
  rw [wp_X9_triples_L9]
  refine ⟨_, rm_f h rfl, ?_⟩
  rw [th0_k (by omega) h0]
  exact ⟨fun _ => hq f1 h, fun z => absurd le00 z⟩
theorem sm_unions0 {Q : Int32 → ac_hp → Prop} (h : mr_R F ki am s f) (h0 : s 0 9 = 0) (hq : ∀ f', mr_R F ki am (th0 s) f' → Q (-1) f') : wp_X9_unions ki (am 0) f Q := by
  unfold wp_X9_unions
  refine wm_0 h (fun f1 h => ?_)
  have h : mr_R F ki am (th0 s) f1 := h
  refine ⟨_, rm_f h rfl, ?_⟩
  rw [th0_k (by omega) h0]
  exact ⟨fun z => absurd rfl z, fun _ => hq f1 h⟩
theorem sm_union0 {x y : Int32} {Q : Int32 → ac_hp → Prop} (h : mr_R F ki am s f) (h0 : s 0 9 = 0) (hq : ∀ f', mr_R F ki am (th0 s) f' → Q (-1) f') : wp_X9_union ki (am 0) x y f Q := by
  unfold wp_X9_union
  refine wm_0 h (fun f1 h => ?_)
  have h : mr_R F ki am (th0 s) f1 := h
  refine ⟨_, rm_f h rfl, ?_⟩
  rw [th0_k (by omega) h0]
  exact ⟨fun z => absurd rfl z, fun _ => hq f1 h⟩
theorem sm_estimate0 {x : Int32} {Q : Int32 → ac_hp → Prop} (h : mr_R F ki am s f) (h0 : s 0 9 = 0) (hq : ∀ f', mr_R F ki am (th0 s) f' → Q (-1) f') : wp_X9_estimate ki (am 0) x f Q := by
  unfold wp_X9_estimate
  refine wm_0 h (fun f1 h => ?_)
  have h : mr_R F ki am (th0 s) f1 := h
  refine ⟨_, rm_f h rfl, ?_⟩
  rw [th0_k (by omega) h0]
  exact ⟨fun z => absurd rfl z, fun _ => hq f1 h⟩
theorem sm_run0 {Q : Int32 → ac_hp → Prop} (h : mr_R F ki am s f) (h0 : s 0 9 = 0) (hq : ∀ f', mr_R F ki am (va_up (th0 s) 0 (upd (th0 s 0) 23 0)) f' → Q (-1) f') : wp_X9_run ki (am 0) f Q := by
  unfold wp_X9_run
  refine wm_0 h (fun f1 h => ?_)
  have h : mr_R F ki am (th0 s) f1 := h
  refine wm_23 h (fun f2 h2 => ⟨_, rm_f h2 rfl, ?_⟩)
  rw [va_up_self, show upd (th0 s 0) 23 0 9 = th0 s 0 9 by simp [upd], th0_k (by omega) h0]
  exact ⟨fun z => absurd rfl z, fun _ => hq f2 h2⟩
theorem pm_in0 {x : Int32} {Q : Int32 → ac_hp → Prop} (h0 : Q 0 f) : wp_X9_in ki x 0 (0 - 1) f Q := pm_in 0 (by omega) (by decide) (fun j hj => absurd hj (by omega)) (fun _ => h0)
theorem sm_value0 {x y : Int32} {Q : Int32 → ac_hp → Prop} (h : mr_R F ki am s f) (h0 : s 0 23 = 0) (hq : ∀ f', mr_R F ki am (th0 s) f' → Q (-1) f') : wp_X9_value ki (am 0) x y f Q := by
  unfold wp_X9_value
  refine wm_0 h (fun f1 h => ?_)
  have h : mr_R F ki am (th0 s) f1 := h
  refine ⟨_, rm_f h rfl, ?_⟩
  rw [th0_k (by omega) h0]
  exact pm_in0 ⟨fun _ => hq f1 h, fun z => absurd rfl z⟩
theorem sm_found0 {x y : Int32} {Q : Int32 → ac_hp → Prop} (h : mr_R F ki am s f) (h0 : s 0 23 = 0) (hq : ∀ f', mr_R F ki am (th0 s) f' → Q (-1) f') : wp_X9_found ki (am 0) x y f Q := by
  unfold wp_X9_found
  refine wm_0 h (fun f1 h => ?_)
  have h : mr_R F ki am (th0 s) f1 := h
  refine ⟨_, rm_f h rfl, ?_⟩
  rw [th0_k (by omega) h0]
  exact pm_in0 ⟨fun _ => hq f1 h, fun z => absurd rfl z⟩
end FR2
