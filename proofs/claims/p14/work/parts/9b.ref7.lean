/-! the reference: keep -/
/-- all but the answers stays -/
def KP (s s' : Nat → Nat → Int32) : Prop := (∀ j, 1 ≤ j → j ≤ 19 → s' j = s j) ∧ ∀ k, k ≠ 23 → s' 0 k = s 0 k
section R7
variable {F : ac_hp} {ki : Nat → ClassId} {am : Nat → Nat} {s : Nat → Nat → Int32} {f : ac_hp}
variable {sz : Nat → Nat} {nn : Nat → Nat → Nat → Nat} {kk : Nat → Nat → Int32} {mc n sp : Nat}
theorem KP.rfl' : KP s s := ⟨fun _ _ _ => rfl, fun _ _ => rfl⟩
theorem KP.trans {s1 s2 s3 : Nat → Nat → Int32} (h : KP s1 s2) (h' : KP s2 s3) : KP s1 s3 := ⟨fun j h1 h2 => (h'.1 j h1 h2).trans (h.1 j h1 h2), fun k hk => (h'.2 k hk).trans (h.2 k hk)⟩
theorem KP.cell {j : Nat} {w : Nat → Int32} (hj : 20 ≤ j) : KP s (va_up s j w) := ⟨fun i _ hi => va_up_ne _ _ (by omega), fun k _ => by rw [va_up_ne _ _ (by omega)]⟩
theorem KP.fld {v : Int32} : KP s (va_up s 0 (upd (s 0) 23 v)) := ⟨fun i h1 hi => va_up_ne _ _ (by omega), fun k hk => by rw [va_up_self, pk_un hk]⟩
theorem KP.sc {s' : Nat → Nat → Int32} (h : KP s s') : SC s s' := ⟨fun j h1 h2 => h.1 j h1 (by omega), h.2 _ (by omega), h.2 _ (by omega), h.2 _ (by omega)⟩
theorem pm_61 {u a : Nat} : (6 * nI u) + nI a = nI (6 * u + a) := by rw [show (6 : Int32) = nI 6 from rfl, pk_mul, nI_add]
theorem pm_66 {u a : Nat} : ((6 * nI (u + 1)) - 6) + nI a = nI (6 * u + a) := by rw [show (6 : Int32) = nI 6 from rfl, pk_mul, pk_sub (by omega), nI_add]; congr 1
theorem rs_keep {x1 : Int32} {na : Nat} {Q : ac_hp → Prop} (h : mr_R F ki am s f) (hna : na ≤ 300) (e23 : s 0 23 = nI na) (hq : ∀ s' f' na', KP s s' → na' ≤ 301 → s' 0 23 = nI na' → mr_R F ki am s' f' → Q f') : wp_X9_keep ki (am 0) x1 f Q := by
  unfold wp_X9_keep
  refine ⟨na + 1, ?_⟩
  -- the write of a new answer at y
  have W : ∀ (y : Nat), y ≤ na → ∀ (s2 : Nat → Nat → Int32) (f2 : ac_hp), KP s s2 → s2 0 23 = nI na → mr_R F ki am s2 f2 → ∃ o45 : Nat, hr_f f2 (am 0) 9 26 (.ref o45) ∧ ∃ f46 : ac_hp, hw_i (ki 0) f2 o45 (nI y) 1 f46 ∧ ∃ o47 : Nat, hr_f f46 (am 0) 9 27 (.ref o47) ∧ ∃ f48 : ac_hp, hw_i (ki 0) f46 o47 (nI y) x1 f48 ∧ ∃ o49 : Nat, hr_f f48 (am 0) 9 28 (.ref o49) ∧ ∃ f50 : ac_hp, hw_i (ki 0) f48 o49 (nI y) x1 f50 ∧ ∃ v51 : Int32, hr_f f50 (am 0) 9 23 (.int v51) ∧ ∃ f52 : ac_hp, hw_f f50 (am 0) 9 23 (.int (v51 + 1)) f52 ∧ Q f52 := by
    intro y hy s2 f2 k2 e2 h2
    refine ⟨_, rm_f h2 rfl, wm_i (i := 21) (j := y) h2 (by omega) (fun _ => rfl) rfl (by omega) (by omega) (fun f3 h3 => ?_)⟩
    refine ⟨_, rm_f h3 rfl, wm_i (i := 22) (j := y) h3 (by omega) (fun _ => rfl) rfl (by omega) (by omega) (fun f4 h4 => ?_)⟩
    refine ⟨_, rm_f h4 rfl, wm_i (i := 23) (j := y) h4 (by omega) (fun _ => rfl) rfl (by omega) (by omega) (fun f5 h5 => ?_)⟩
    refine ⟨_, rm_f h5 rfl, wm_23 h5 (fun f6 h6 => ?_)⟩
    refine hq _ f6 (na + 1) ((((k2.trans (KP.cell (by omega))).trans (KP.cell (by omega))).trans (KP.cell (by omega))).trans KP.fld) (by omega) ?_ h6
    rw [va_up_self, upd_self]
    simp (disch := omega) only [va_up_ne]
    rw [e2, nI_1]
  have L175 : ∀ (E : ac_hp → Prop) (x2 y : Nat), x2 ≤ na → y = y → (∀ s2 f2, KP s s2 → s2 0 23 = nI na → mr_R F ki am s2 f2 → E f2) → ∀ (d v : Nat) (s2 : Nat → Nat → Int32) (f2 : ac_hp), d + v = 6 → KP s s2 → s2 0 23 = nI na → mr_R F ki am s2 f2 → wp_X9_keep_L175 ki (am 0) x1 (nI x2) E (d + 1) (nI v) f2 := by
    intro E x2 y hx2 _ hE d
    induction d with
    | zero =>
      intro v s2 f2 hv k2 e2 h2
      rw [wp_X9_keep_L175]
      exact ⟨fun _ => hE s2 f2 k2 e2 h2, fun z => absurd (nI_le (a := 6) (by omega) (by omega)) z⟩
    | succ d ih =>
      intro v s2 f2 hv k2 e2 h2
      rw [wp_X9_keep_L175]
      have wr : ∀ val : Int32, ∃ f39 : ac_hp, hw_i (ki 0) f2 (am 20) ((6 * nI x2) + nI v) val f39 ∧ ∀ v40 : Int32, v40 = nI v + 1 → wp_X9_keep_L175 ki (am 0) x1 (nI x2) E (d + 1) v40 f39 := fun val =>
        wm_i (i := 20) (j := 6 * x2 + v) h2 (by omega) (fun _ => rfl) pm_61 (by omega) (by omega) (fun f3 h3 v40 e40 => by
          rw [e40, nI_1]
          exact ih (v + 1) _ f3 (by omega) (k2.trans (KP.cell (by omega))) (by rw [va_up_ne _ _ (by omega)]; exact e2) h3)
      exact ⟨fun z => absurd z (nI_ge (b := 6) (by omega) (by omega)), fun _ => ⟨_, rm_f h2 rfl, _, rm_f h2 rfl, _, rm_i (i := 17) (j := v) h2 (by omega) rfl rfl (by omega) (by omega), fun _ => ⟨_, rm_f h2 rfl, _, rm_i (i := 18) (j := v) h2 (by omega) rfl rfl (by omega) (by omega), _, rm_f h2 rfl, _, rm_i (i := 17) (j := v) h2 (by omega) rfl rfl (by omega) (by omega), wr _⟩, fun _ => wr _⟩⟩
  have L85 : ∀ (E : ac_hp → Prop) (x2 x3 : Nat), x3 + 1 ≤ na → (∀ s2 f2, KP s s2 → s2 0 23 = nI na → mr_R F ki am s2 f2 → E f2) → ∀ (d v : Nat) (s2 : Nat → Nat → Int32) (f2 : ac_hp), d + v = 6 → KP s s2 → s2 0 23 = nI na → mr_R F ki am s2 f2 → wp_X9_keep_L85 ki (am 0) x1 (nI x2) (nI (x3 + 1)) E (d + 1) (nI v) f2 := by
    intro E x2 x3 hx3 hE d
    induction d with
    | zero =>
      intro v s2 f2 hv k2 e2 h2
      rw [wp_X9_keep_L85]
      exact ⟨fun _ => hE s2 f2 k2 e2 h2, fun z => absurd (nI_le (a := 6) (by omega) (by omega)) z⟩
    | succ d ih =>
      intro v s2 f2 hv k2 e2 h2
      rw [wp_X9_keep_L85]
      refine ⟨fun z => absurd z (nI_ge (b := 6) (by omega) (by omega)), fun _ => ⟨_, rm_f h2 rfl, _, rm_f h2 rfl, _, rm_i (i := 20) (j := 6 * x3 + v) h2 (by omega) rfl pm_66 (by omega) (by omega), wm_i (i := 20) (j := 6 * (x3 + 1) + v) h2 (by omega) (fun _ => rfl) pm_61 (by omega) (by omega) (fun f3 h3 v40 e40 => ?_)⟩⟩
      rw [e40, nI_1]
      exact ih (v + 1) _ f3 (by omega) (k2.trans (KP.cell (by omega))) (by rw [va_up_ne _ _ (by omega)]; exact e2) h3
  have L77 : ∀ (E : ac_hp → Prop) (x2 : Nat), x2 ≤ na → (∀ s2 f2, KP s s2 → s2 0 23 = nI na → mr_R F ki am s2 f2 → E f2) → ∀ (d : Nat) (s2 : Nat → Nat → Int32) (f2 : ac_hp), d + x2 ≤ na → KP s s2 → s2 0 23 = nI na → mr_R F ki am s2 f2 → wp_X9_keep_L77 ki (am 0) x1 (nI x2) E (d + 1) (nI (d + x2)) f2 := by
    intro E x2 hx2 hE d
    induction d with
    | zero =>
      intro s2 f2 hd k2 e2 h2
      rw [wp_X9_keep_L77]
      exact ⟨fun _ => hE s2 f2 k2 e2 h2, fun z => absurd (nI_le (by omega) (by omega)) z⟩
    | succ d ih =>
      intro s2 f2 hd k2 e2 h2
      rw [wp_X9_keep_L77]
      refine ⟨fun _ => hE s2 f2 k2 e2 h2, fun _ => ⟨7, ?_⟩⟩
      rw [show d + 1 + x2 = (d + x2) + 1 by omega]
      refine L85 _ x2 (d + x2) (by omega) (fun s3 f3 k3 e3 h3 => ?_) 6 0 s2 f2 rfl k2 e2 h2
      have pr : nI (d + x2 + 1) - 1 = nI (d + x2) := nI_pred _
      have ex : ∀ i : Nat, 20 ≤ i → ∀ w : Nat → Int32, ∀ t : Nat → Nat → Int32, t 0 23 = nI na → (va_up t i w) 0 23 = nI na := fun i hi w t ht => by rw [va_up_ne _ _ (by omega)]; exact ht
      refine ⟨_, rm_f h3 rfl, _, rm_f h3 rfl, _, rm_i (i := 21) (j := d + x2) h3 (by omega) rfl pr (by omega) (by omega), wm_i (i := 21) (j := d + x2 + 1) h3 (by omega) (fun _ => rfl) rfl (by omega) (by omega) (fun f4 h4 => ?_)⟩
      refine ⟨_, rm_f h4 rfl, _, rm_f h4 rfl, _, rm_i (i := 22) (j := d + x2) h4 (by omega) rfl pr (by omega) (by omega), wm_i (i := 22) (j := d + x2 + 1) h4 (by omega) (fun _ => rfl) rfl (by omega) (by omega) (fun f5 h5 => ?_)⟩
      refine ⟨_, rm_f h5 rfl, _, rm_f h5 rfl, _, rm_i (i := 23) (j := d + x2) h5 (by omega) rfl pr (by omega) (by omega), wm_i (i := 23) (j := d + x2 + 1) h5 (by omega) (fun _ => rfl) rfl (by omega) (by omega) (fun f6 h6 => ?_)⟩
      intro v29 e29
      rw [e29, pm_m1, pr]
      exact ih _ f6 (by omega) (((k3.trans (KP.cell (by omega))).trans (KP.cell (by omega))).trans (KP.cell (by omega))) (ex 23 (by omega) _ _ (ex 22 (by omega) _ _ (ex 21 (by omega) _ _ e3))) h6
  have A : ∀ (y : Nat), y ≤ na → ∃ n30 : Nat, wp_X9_keep_L77 ki (am 0) x1 (nI y) (fun f31 => ∃ n43 : Nat, wp_X9_keep_L175 ki (am 0) x1 (nI y) (fun f44 => ∃ o45 : Nat, hr_f f44 (am 0) 9 26 (.ref o45) ∧ ∃ f46 : ac_hp, hw_i (ki 0) f44 o45 (nI y) 1 f46 ∧ ∃ o47 : Nat, hr_f f46 (am 0) 9 27 (.ref o47) ∧ ∃ f48 : ac_hp, hw_i (ki 0) f46 o47 (nI y) x1 f48 ∧ ∃ o49 : Nat, hr_f f48 (am 0) 9 28 (.ref o49) ∧ ∃ f50 : ac_hp, hw_i (ki 0) f48 o49 (nI y) x1 f50 ∧ ∃ v51 : Int32, hr_f f50 (am 0) 9 23 (.int v51) ∧ ∃ f52 : ac_hp, hw_f f50 (am 0) 9 23 (.int (v51 + 1)) f52 ∧ Q f52) n43 0 f31) n30 (nI na) f := by
    intro y hy
    obtain ⟨d, hd⟩ : ∃ d, d + y = na := ⟨na - y, by omega⟩
    refine ⟨d + 1, ?_⟩
    rw [← hd]
    exact L77 _ y hy (fun s2 f2 k2 e2 h2 => ⟨7, L175 _ y 0 hy rfl (fun s3 f3 k3 e3 h3 => W y hy s3 f3 k3 e3 h3) 6 0 s2 f2 rfl k2 e2 h2⟩) d s f (by omega) KP.rfl' e23 h
  have r23 : hr_f f (am 0) 9 23 (.int (nI na)) := by rw [← e23]; exact rm_f h rfl
  have L2 : ∀ (E : Int32 → ac_hp → Prop), (∀ y, y ≤ na → E (nI y) f) → ∀ (d i : Nat), d + i = na → wp_X9_keep_L2 ki (am 0) x1 E (d + 1) (nI i) f := by
    intro E hE d
    induction d with
    | zero =>
      intro i hi
      rw [wp_X9_keep_L2]
      exact ⟨_, r23, fun _ => hE i (by omega), fun z => absurd (nI_le (by omega) (by omega)) z⟩
    | succ d ih =>
      intro i hi
      rw [wp_X9_keep_L2]
      exact ⟨_, r23, fun _ => hE i (by omega), fun _ => ⟨rm_o h, rs_compare h (by omega) (fun v3 => ⟨fun _ => hE i (by omega), fun _ v4 e4 => by rw [e4, nI_1]; exact ih (i + 1) (by omega)⟩)⟩⟩
  exact L2 _ (fun y hy => ⟨nI na, r23, fun _ => ⟨_, r23, A y hy⟩, fun hlt => ⟨rm_o h, rs_compare h (by omega) (fun v54 => ⟨fun _ => ⟨_, r23, A y hy⟩, fun _ => ⟨_, rm_f h rfl, _, rm_i (i := 21) (j := y) h (by omega) rfl rfl (by omega) (by omega), _, rm_f h rfl, _, rm_i (i := 23) (j := y) h (by omega) rfl rfl (by omega) (by omega), fun _ => wm_i (i := 21) (j := y) h (by omega) (fun _ => rfl) rfl (by omega) (by omega) (fun f4 h4 => ⟨_, rm_f h4 rfl, wm_i (i := 23) (j := y) h4 (by omega) (fun _ => rfl) rfl (by omega) (by omega) (fun f5 h5 => hq _ f5 na (KP.trans (KP.cell (by omega)) (KP.cell (by omega))) (by omega) (by rw [va_up_ne _ _ (by omega), va_up_ne _ _ (by omega)]; exact e23) h5)⟩), fun _ => wm_i (i := 21) (j := y) h (by omega) (fun _ => rfl) rfl (by omega) (by omega) (fun f4 h4 => ⟨_, rm_f h4 rfl, wm_i (i := 23) (j := y) h4 (by omega) (fun _ => rfl) rfl (by omega) (by omega) (fun f5 h5 => hq _ f5 na (KP.trans (KP.cell (by omega)) (KP.cell (by omega))) (by omega) (by rw [va_up_ne _ _ (by omega), va_up_ne _ _ (by omega)]; exact e23) h5)⟩)⟩⟩)⟩⟩) na 0 (by omega)
end R7
