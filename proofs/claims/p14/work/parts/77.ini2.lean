/-! THE CATALOG'S CONSTRUCTOR -/
section CI
variable {F f : ac_hp} {ki : Nat → ClassId}
def tcl (ki : Nat → ClassId) (k : Nat) (a b c : Nat → Nat) : List (Nat × va_E) := (List.range k).flatMap (fun t => [(a t, .inr (2, [.ref (b t), .ref (c t), .int 0])), (b t, .inl (ki 0, 60, .inl (fun _ => 0))), (c t, .inl (ki 1, 3, .inl (fun _ => 0)))])
def mcl (ki : Nat → ClassId) (k : Nat) (a b c : Nat → Nat) : List (Nat × va_E) := (List.range k).flatMap (fun t => [(a t, .inr (3, [.ref (b t), .ref (c t), .int 0, .int 0])), (b t, .inl (ki 0, 2, .inl (fun _ => 0))), (c t, .inl (ki 0, 2, .inl (fun _ => 0)))])
theorem fm_congr {α : Type} {g h : Nat → List α} : ∀ (l : List Nat), (∀ t ∈ l, g t = h t) → l.flatMap g = l.flatMap h := by
  intro l
  induction l with
  | nil => intro _; rfl
  | cons x l ih =>
    intro hh
    rw [List.flatMap_cons, List.flatMap_cons, hh x List.mem_cons_self, ih (fun t ht => hh t (List.mem_cons_of_mem _ ht))]
theorem tcl_succ (k x y z : Nat) (a b c : Nat → Nat) : tcl ki (k + 1) (va_up a k x) (va_up b k y) (va_up c k z) = tcl ki k a b c ++ [(x, .inr (2, [.ref y, .ref z, .int 0])), (y, .inl (ki 0, 60, .inl (fun _ => 0))), (z, .inl (ki 1, 3, .inl (fun _ => 0)))] := by
  unfold tcl
  rw [List.range_succ, List.flatMap_append, fm_congr (List.range k) (h := fun t => [(a t, .inr (2, [.ref (b t), .ref (c t), .int 0])), (b t, .inl (ki 0, 60, .inl (fun _ => 0))), (c t, .inl (ki 1, 3, .inl (fun _ => 0)))]) (fun t ht => by
    have hne : t ≠ k := by have := List.mem_range.mp ht; omega
    simp only [va_up_ne _ _ hne])]
  simp only [List.flatMap_cons, List.flatMap_nil, va_up_self, List.append_nil]
theorem mcl_succ (k x y z : Nat) (a b c : Nat → Nat) : mcl ki (k + 1) (va_up a k x) (va_up b k y) (va_up c k z) = mcl ki k a b c ++ [(x, .inr (3, [.ref y, .ref z, .int 0, .int 0])), (y, .inl (ki 0, 2, .inl (fun _ => 0))), (z, .inl (ki 0, 2, .inl (fun _ => 0)))] := by
  unfold mcl
  rw [List.range_succ, List.flatMap_append, fm_congr (List.range k) (h := fun t => [(a t, .inr (3, [.ref (b t), .ref (c t), .int 0, .int 0])), (b t, .inl (ki 0, 2, .inl (fun _ => 0))), (c t, .inl (ki 0, 2, .inl (fun _ => 0)))]) (fun t ht => by
    have hne : t ≠ k := by have := List.mem_range.mp ht; omega
    simp only [va_up_ne _ _ hne])]
  simp only [List.flatMap_cons, List.flatMap_nil, va_up_self, List.append_nil]
def oT (k : Nat) (a : Nat → Nat) : Nat → Option Nat := fun j => if j < k then some (a j) else none
theorem oT_zero (a : Nat → Nat) : oT 0 a = fun _ => none := by
  funext j
  simp [oT]
theorem oT_succ (k x : Nat) (a : Nat → Nat) : va_up (oT k a) k (some x) = oT (k + 1) (va_up a k x) := by
  funext j
  unfold va_up oT
  by_cases h : j = k
  · simp [h]
  · by_cases h2 : j < k
    · simp [h, h2, show j < k + 1 by omega]
    · simp [h, h2, show ¬ j < k + 1 by omega]
/-- the catalog's cells, with k tables and l mappings made -/
def ctl (ki : Nat → ClassId) (r q1 q2 q3 k l : Nat) (a b c a2 b2 c2 : Nat → Nat) : List (Nat × va_E) :=
  (r, .inr (1, [.ref q1, .ref q2, .ref q3, .int 0, .int 0])) :: (q1, .inl (ki 3, 4, .inr (.inr (.inr (.inr (oT k a)))))) :: (q2, .inl (ki 4, 12, .inr (.inr (.inr (.inr (oT l a2)))))) :: (q3, .inl (ki 2, 240, .inr (.inl (fun _ => 0)))) :: (tcl ki k a b c ++ mcl ki l a2 b2 c2)
theorem in_X1b {r q1 q2 q3 : Nat} {Q : ac_hp → Prop} {a b c : Nat → Nat} (kk : ∀ a2 b2 c2 f', nwl F (ctl ki r q1 q2 q3 4 12 a b c a2 b2 c2) f' → Q f') : ∀ (d l : Nat) (a2 b2 c2 : Nat → Nat) (f : ac_hp), d + l = 12 → nwl F (ctl ki r q1 q2 q3 4 l a b c a2 b2 c2) f → wp_X1_init_L68 ki r (fun kc30 ks31 f29 => (kc30 ≤ 51 ∧ ks31 ≤ 616) ∧ Q f29) (d + 1) (nI l) (15 + 3 * l) (520 + 8 * l) f := by
  intro d
  induction d with
  | zero =>
    intro l a2 b2 c2 f hl h
    have e : l = 12 := by omega
    subst e
    rw [wp_X1_init_L68]
    exact ⟨fun _ => ⟨⟨by decide, by decide⟩, kk a2 b2 c2 f h⟩, fun z => absurd (nI_le (a := 12) (b := 12) (by omega) (by omega)) z⟩
  | succ d ih =>
    intro l a2 b2 c2 f hl h
    rw [wp_X1_init_L68]
    refine ⟨fun z => absurd z (nI_ge (a := l) (b := 12) (by omega) (by omega)), fun _ => ⟨q2, st_rd h rfl, st_new (by omega) (by omega) (fun x f1 hx h1 => ⟨⟨by omega, by omega⟩, ?_⟩)⟩⟩
    refine in_X3 h1 (fun y z f2 h2 => ?_)
    have h3 := nwl_app h h2
    refine ⟨_, ⟨12, oT l a2, [.ref y, .ref z, .int 0, .int 0], nwl_get (k := 2) h3 rfl, nwl_get (k := 0) h2 rfl, vp_in_nI (by omega) (by omega), rfl⟩, fun v hv => ?_⟩
    have h4 := nwl_set (k := 2) h3 rfl (.inl (ki 4, 12, .inr (.inr (.inr (.inr (va_up (oT l a2) (nI l).toNatClampNeg (some x)))))))
    have e1 : 15 + 3 * l + 1 + 2 = 15 + 3 * (l + 1) := by omega
    have e2 : 520 + 8 * l + 4 + 4 = 520 + 8 * (l + 1) := by omega
    rw [hv, nI_1, e1, e2]
    refine ih (l + 1) (va_up a2 l x) (va_up b2 l y) (va_up c2 l z) _ (by omega) ?_
    rw [nI_clamp (by omega), oT_succ] at h4
    unfold ctl
    rw [nI_clamp (by omega), oT_succ, mcl_succ, ← List.append_assoc]
    exact h4
theorem in_X1a {r q1 q2 q3 : Nat} {Q : ac_hp → Prop} (kk : ∀ a b c a2 b2 c2 f', nwl F (ctl ki r q1 q2 q3 4 12 a b c a2 b2 c2) f' → Q f') : ∀ (d k : Nat) (a b c : Nat → Nat) (f : ac_hp), d + k = 4 → nwl F (ctl ki r q1 q2 q3 k 0 a b c a b c) f → wp_X1_init_L42 ki r (fun kc20 ks21 f19 => ∃ n28 : Nat, wp_X1_init_L68 ki r (fun kc30 ks31 f29 => (kc30 ≤ 51 ∧ ks31 ≤ 616) ∧ Q f29) n28 0 kc20 ks21 f19) (d + 1) (nI k) (3 + 3 * k) (256 + 66 * k) f := by
  intro d
  induction d with
  | zero =>
    intro k a b c f hk h
    have e : k = 4 := by omega
    subst e
    rw [wp_X1_init_L42]
    exact ⟨fun _ => ⟨13, in_X1b (kk a b c) 12 0 a b c f rfl h⟩, fun z => absurd (nI_le (a := 4) (b := 4) (by omega) (by omega)) z⟩
  | succ d ih =>
    intro k a b c f hk h
    rw [wp_X1_init_L42]
    refine ⟨fun z => absurd z (nI_ge (a := k) (b := 4) (by omega) (by omega)), fun _ => ⟨q1, st_rd h rfl, st_new (by omega) (by omega) (fun x f1 hx h1 => ⟨⟨by omega, by omega⟩, ?_⟩)⟩⟩
    refine in_X2 h1 (fun y z f2 h2 => ?_)
    have h3 := nwl_app h h2
    refine ⟨_, ⟨4, oT k a, [.ref y, .ref z, .int 0], nwl_get (k := 1) h3 rfl, nwl_get (k := 0) h2 rfl, vp_in_nI (by omega) (by omega), rfl⟩, fun v hv => ?_⟩
    have h4 := nwl_set (k := 1) h3 rfl (.inl (ki 3, 4, .inr (.inr (.inr (.inr (va_up (oT k a) (nI k).toNatClampNeg (some x)))))))
    have e1 : 3 + 3 * k + 1 + 2 = 3 + 3 * (k + 1) := by omega
    have e2 : 256 + 66 * k + 3 + 63 = 256 + 66 * (k + 1) := by omega
    rw [hv, nI_1, e1, e2]
    refine ih (k + 1) (va_up a k x) (va_up b k y) (va_up c k z) _ (by omega) ?_
    rw [nI_clamp (by omega), oT_succ] at h4
    unfold ctl
    rw [nI_clamp (by omega), oT_succ, tcl_succ]
    have h4 : nwl F ((r, .inr (1, [.ref q1, .ref q2, .ref q3, .int 0, .int 0])) :: (q1, .inl (ki 3, 4, .inr (.inr (.inr (.inr (oT (k + 1) (va_up a k x))))))) :: (q2, .inl (ki 4, 12, .inr (.inr (.inr (.inr (oT 0 a)))))) :: (q3, .inl (ki 2, 240, .inr (.inl (fun _ => 0)))) :: ((tcl ki k a b c ++ []) ++ [(x, .inr (2, [.ref y, .ref z, .int 0])), (y, .inl (ki 0, 60, .inl (fun _ => 0))), (z, .inl (ki 1, 3, .inl (fun _ => 0)))])) _ := h4
    rw [List.append_nil, oT_zero] at h4
    rw [oT_zero, show mcl ki 0 (va_up a k x) (va_up b k y) (va_up c k z) = [] from rfl, List.append_nil]
    exact h4
theorem in_X1 {r : Nat} {Q : ac_hp → Prop} (h : nwl F [(r, .inr (1, [.null, .null, .null, .int 0, .int 0]))] f) (kk : ∀ q1 q2 q3 a b c a2 b2 c2 f', nwl F (ctl ki r q1 q2 q3 4 12 a b c a2 b2 c2) f' → Q f') : wp_X1_init ki r f Q := by
  unfold wp_X1_init
  refine st_arr h (Nat.le_of_ble_eq_true rfl) (by decide) (by decide) (fun q1 f1 h => ?_)
  refine st_arr h (Nat.le_of_ble_eq_true rfl) (by decide) (by decide) (fun q2 f1 h => ?_)
  refine st_arr h (Nat.le_of_ble_eq_true rfl) (by decide) (by decide) (fun q3 f1 h => ?_)
  refine st_fld h (Nat.le_of_ble_eq_true rfl) (fun f3 h => ?_)
  refine st_fld h (Nat.le_of_ble_eq_true rfl) (fun f3 h => ⟨5, ?_⟩)
  refine in_X1a (kk q1 q2 q3) 4 0 (fun _ => 0) (fun _ => 0) (fun _ => 0) f3 rfl ?_
  unfold ctl
  rw [oT_zero]
  exact h
end CI
