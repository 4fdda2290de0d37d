/-! THE REFERENCE'S WORLD, BY CELL NUMBERS: 0 the object, 1 .. 23 its arrays, in the order of its fields -/
def mo (am : Nat → Nat) (w : Nat → Int32) : List Value := [.int (w 0), .ref (am 1), .ref (am 2), .ref (am 3), .int (w 4), .ref (am 4), .ref (am 5), .ref (am 6), .ref (am 7), .int (w 9), .ref (am 8), .ref (am 9), .int (w 12), .ref (am 10), .ref (am 11), .ref (am 12), .int (w 16), .ref (am 13), .ref (am 14), .ref (am 15), .ref (am 16), .ref (am 17), .ref (am 18), .int (w 23), .ref (am 19), .ref (am 20), .ref (am 21), .ref (am 22), .ref (am 23)]
def mr_lay (ki : Nat → ClassId) (am : Nat → Nat) (s : Nat → Nat → Int32) (i : Nat) : va_E :=
  match i with
  | 0 => .inr (9, mo am (s 0))
  | 1 => .inl (ki 0, 240, .inl (s 1))
  | 2 => .inl (ki 0, 4, .inl (s 2))
  | 3 => .inl (ki 1, 12, .inl (s 3))
  | 4 => .inl (ki 0, 12, .inl (s 4))
  | 5 => .inl (ki 0, 12, .inl (s 5))
  | 6 => .inl (ki 0, 24, .inl (s 6))
  | 7 => .inl (ki 0, 24, .inl (s 7))
  | 8 => .inl (ki 0, 4, .inl (s 8))
  | 9 => .inl (ki 0, 8, .inl (s 9))
  | 10 => .inl (ki 0, 4, .inl (s 10))
  | 11 => .inl (ki 0, 4, .inl (s 11))
  | 12 => .inl (ki 0, 4, .inl (s 12))
  | 13 => .inl (ki 0, 604, .inl (s 13))
  | 14 => .inl (ki 0, 604, .inl (s 14))
  | 15 => .inl (ki 0, 151, .inl (s 15))
  | 16 => .inl (ki 0, 4, .inl (s 16))
  | 17 => .inl (ki 0, 6, .inl (s 17))
  | 18 => .inl (ki 0, 6, .inl (s 18))
  | 19 => .inl (ki 1, 6, .inl (s 19))
  | 20 => .inl (ki 0, 1812, .inl (s 20))
  | n => .inl (ki 0, 302, .inl (s n))
def mr_R (F : ac_hp) (ki : Nat → ClassId) (am : Nat → Nat) (s : Nat → Nat → Int32) (f : ac_hp) : Prop :=
  (∀ i, i < 24 → f (am i) = some (mr_lay ki am s i)) ∧ (∀ i j, i < 24 → j < 24 → am i = am j → i = j) ∧ ∀ q, (∀ i, i < 24 → am i ≠ q) → f q = F q
section MR
variable {F : ac_hp} {ki : Nat → ClassId} {am : Nat → Nat} {s : Nat → Nat → Int32} {f : ac_hp}
theorem mlay_congr {s' : Nat → Nat → Int32} {i : Nat} (_hi : i < 24) (h : s' i = s i) : mr_lay ki am s' i = mr_lay ki am s i := by
  unfold mr_lay
  split <;> simp only [h]
theorem rm_f {k : Nat} {v : Value} (h : mr_R F ki am s f) (hk : (mo am (s 0))[k]? = some v) : hr_f f (am 0) 9 k v := ⟨_, h.1 0 (by omega), hk⟩
theorem rm_o (h : mr_R F ki am s f) : hr_o f (am 0) 9 := ⟨_, h.1 0 (by omega)⟩
theorem rm_i {i n j : Nat} {c : ClassId} {x : Int32} (h : mr_R F ki am s f) (hi : i < 24) (hl : mr_lay ki am s i = .inl (c, n, .inl (s i))) (hx : x = nI j) (hj : j < n) (hn : n < 2 ^ 31) : hr_i c f (am i) x (s i j) := by
  subst hx
  exact ⟨n, s i, by rw [h.1 i hi, hl], vp_in_nI hj hn, by rw [nI_clamp (by omega)]⟩
theorem mr_up {i : Nat} {w : Nat → Int32} {e : va_E} (h : mr_R F ki am s f) (hi : i < 24) (he : e = mr_lay ki am (va_up s i w) i) : mr_R F ki am (va_up s i w) (ac_up f (am i) e) := by
  refine ⟨fun j hj => ?_, h.2.1, fun q hq => by rw [ac_up_ne _ _ (fun z => hq i hi z.symm)]; exact h.2.2 q hq⟩
  by_cases hji : j = i
  · subst hji; rw [ac_up_self, he]
  · rw [ac_up_ne _ _ (fun q => hji (h.2.1 j i hj hi q)), h.1 j hj, mlay_congr hj (va_up_ne s w hji)]
theorem wm_i {i n j : Nat} {c : ClassId} {x v : Int32} {N : ac_hp → Prop} (h : mr_R F ki am s f) (hi : i < 24) (hl : ∀ s', mr_lay ki am s' i = .inl (c, n, .inl (s' i))) (hx : x = nI j) (hj : j < n) (hn : n < 2 ^ 31) (kk : ∀ f', mr_R F ki am (va_up s i (upd (s i) j v)) f' → N f') : ∃ f', hw_i c f (am i) x v f' ∧ N f' := by
  subst hx
  refine ⟨_, ⟨n, s i, by rw [h.1 i hi, hl], vp_in_nI hj hn, rfl⟩, ?_⟩
  rw [nI_clamp (by omega)]
  refine kk _ (mr_up h hi ?_)
  rw [hl, va_up_self]
theorem wm_n {k : Nat} {v : Int32} {N : ac_hp → Prop} (h : mr_R F ki am s f) (hk : k < (mo am (s 0)).length) (hs : mo am (upd (s 0) k v) = (mo am (s 0)).set k (.int v)) (kk : ∀ f', mr_R F ki am (va_up s 0 (upd (s 0) k v)) f' → N f') : ∃ f', hw_f f (am 0) 9 k (.int v) f' ∧ N f' := by
  refine ⟨_, ⟨_, h.1 0 (by omega), hk, rfl⟩, kk _ (mr_up h (by omega) ?_)⟩
  show _ = Sum.inr (9, mo am (va_up s 0 (upd (s 0) k v) 0))
  rw [va_up_self, hs]
theorem wm_0 {v : Int32} {N : ac_hp → Prop} (h : mr_R F ki am s f) (kk : ∀ f', mr_R F ki am (va_up s 0 (upd (s 0) 0 v)) f' → N f') : ∃ f', hw_f f (am 0) 9 0 (.int v) f' ∧ N f' := wm_n h (Nat.le_of_ble_eq_true rfl) (by simp [mo, upd]) kk
theorem wm_4 {v : Int32} {N : ac_hp → Prop} (h : mr_R F ki am s f) (kk : ∀ f', mr_R F ki am (va_up s 0 (upd (s 0) 4 v)) f' → N f') : ∃ f', hw_f f (am 0) 9 4 (.int v) f' ∧ N f' := wm_n h (Nat.le_of_ble_eq_true rfl) (by simp [mo, upd]) kk
theorem wm_9 {v : Int32} {N : ac_hp → Prop} (h : mr_R F ki am s f) (kk : ∀ f', mr_R F ki am (va_up s 0 (upd (s 0) 9 v)) f' → N f') : ∃ f', hw_f f (am 0) 9 9 (.int v) f' ∧ N f' := wm_n h (Nat.le_of_ble_eq_true rfl) (by simp [mo, upd]) kk
theorem wm_12 {v : Int32} {N : ac_hp → Prop} (h : mr_R F ki am s f) (kk : ∀ f', mr_R F ki am (va_up s 0 (upd (s 0) 12 v)) f' → N f') : ∃ f', hw_f f (am 0) 9 12 (.int v) f' ∧ N f' := wm_n h (Nat.le_of_ble_eq_true rfl) (by simp [mo, upd]) kk
theorem wm_16 {v : Int32} {N : ac_hp → Prop} (h : mr_R F ki am s f) (kk : ∀ f', mr_R F ki am (va_up s 0 (upd (s 0) 16 v)) f' → N f') : ∃ f', hw_f f (am 0) 9 16 (.int v) f' ∧ N f' := wm_n h (Nat.le_of_ble_eq_true rfl) (by simp [mo, upd]) kk
theorem wm_23 {v : Int32} {N : ac_hp → Prop} (h : mr_R F ki am s f) (kk : ∀ f', mr_R F ki am (va_up s 0 (upd (s 0) 23 v)) f' → N f') : ∃ f', hw_f f (am 0) 9 23 (.int v) f' ∧ N f' := wm_n h (Nat.le_of_ble_eq_true rfl) (by simp [mo, upd]) kk
theorem mr_eq {s' : Nat → Nat → Int32} (h : mr_R F ki am s f) (e : s = s') : mr_R F ki am s' f := e ▸ h
/-- v is one of 0 .. n - 1, or not -/
theorem pm_in {x hi : Int32} {Q : Int32 → ac_hp → Prop} (n : Nat) (hn : n < 2 ^ 31) (hh : hi.toInt = (n : Int) - 1) (h1 : ∀ j : Nat, j < n → x = nI j → Q 1 f) (h0 : (¬ ∃ j : Nat, j < n ∧ x = nI j) → Q 0 f) : wp_X9_in ki x 0 hi f Q := by
  unfold wp_X9_in
  have z0 : (0 : Int32).toInt = 0 := by decide
  refine ⟨fun h => h0 ?_, fun h => ⟨fun h2 => h0 ?_, fun h2 => ?_⟩⟩
  · rintro ⟨j, hj, rfl⟩
    exact nI_pos (by omega) h
  · rintro ⟨j, hj, rfl⟩
    rw [Int32.lt_iff_toInt_lt, nI_toInt (by omega), hh] at h2
    omega
  · rw [Int32.lt_iff_toInt_lt, z0] at h
    rw [Int32.lt_iff_toInt_lt, hh] at h2
    exact h1 x.toInt.toNat (by omega) (Int32.toInt_inj.mp (by rw [nI_toInt (by omega)]; omega))
theorem pm_place {a : Int32} {Q : Int32 → ac_hp → Prop} (h1 : ¬ a < (-6) ∧ a < 60000 → Q 1 f) (h0 : ¬ (¬ a < (-6) ∧ a < 60000) → Q 0 f) : wp_X9_isPlace ki a f Q := by
  unfold wp_X9_isPlace wp_X9_in
  have z1 : (59999 : Int32).toInt = 59999 := by decide
  have z2 : (60000 : Int32).toInt = 60000 := by decide
  refine ⟨fun h => ⟨rfl, h0 (fun q => q.1 h)⟩, fun h => ⟨fun g => ⟨rfl, h0 (fun q => ?_)⟩, fun g => ⟨rfl, h1 ⟨h, ?_⟩⟩⟩⟩
  · have g2 := q.2
    rw [Int32.lt_iff_toInt_lt, z1] at g
    rw [Int32.lt_iff_toInt_lt, z2] at g2
    omega
  · rw [Int32.lt_iff_toInt_lt, z1] at g
    rw [Int32.lt_iff_toInt_lt, z2]
    omega
end MR
def ms0 : Nat → Nat → Int32 := fun _ _ => 0
theorem mr_of_nwl {F f : ac_hp} {ki : Nat → ClassId} {L : List (Nat × va_E)} {am : Nat → Nat} {s : Nat → Nat → Int32} (h : nwl F L f) (hlen : L.length = 24) (hL : ∀ i, i < 24 → L[i]? = some (am i, mr_lay ki am s i)) : mr_R F ki am s f ∧ ∀ i, i < 24 → F (am i) = none := by
  have hm : ∀ i, i < 24 → (L.map Prod.fst)[i]? = some (am i) := fun i hi => by rw [List.getElem?_map, hL i hi]; rfl
  refine ⟨⟨fun i hi => nwl_get h (hL i hi), fun i j hi hj e => ?_, fun q hq => h.2.2 q (fun hz => ?_)⟩, fun i hi => (h.1 _ (List.mem_of_getElem? (hL i hi))).1⟩
  · refine (List.getElem?_inj (by rw [List.length_map, hlen]; exact hi) h.2.1).mp ?_
    rw [hm i hi, hm j hj, e]
  · obtain ⟨k, hk⟩ := List.mem_iff_getElem?.mp hz
    have hk2 : k < 24 := by have := (List.getElem?_eq_some_iff.mp hk).1; rw [List.length_map, hlen] at this; exact this
    have := hm k hk2
    rw [hk] at this
    exact hq k hk2 (Option.some.inj this).symm
section X9I
variable {F f : ac_hp} {ki : Nat → ClassId} {r q1 q2 q3 q4 q5 q6 q7 q8 q9 q10 q11 q12 q13 q14 q15 q16 q17 q18 q19 q20 q21 q22 q23 : Nat}
theorem x9_lay : ∀ i, i < 24 → ([(r, .inr (9, [.int 0, .ref q1, .ref q2, .ref q3, .int 0, .ref q4, .ref q5, .ref q6, .ref q7, .int 0, .ref q8, .ref q9, .int 0, .ref q10, .ref q11, .ref q12, .int 0, .ref q13, .ref q14, .ref q15, .ref q16, .ref q17, .ref q18, .int 0, .ref q19, .ref q20, .ref q21, .ref q22, .ref q23])), (q1, .inl (ki 0, 240, .inl (fun _ => 0))), (q2, .inl (ki 0, 4, .inl (fun _ => 0))), (q3, .inl (ki 1, 12, .inl (fun _ => 0))), (q4, .inl (ki 0, 12, .inl (fun _ => 0))), (q5, .inl (ki 0, 12, .inl (fun _ => 0))), (q6, .inl (ki 0, 24, .inl (fun _ => 0))), (q7, .inl (ki 0, 24, .inl (fun _ => 0))), (q8, .inl (ki 0, 4, .inl (fun _ => 0))), (q9, .inl (ki 0, 8, .inl (fun _ => 0))), (q10, .inl (ki 0, 4, .inl (fun _ => 0))), (q11, .inl (ki 0, 4, .inl (fun _ => 0))), (q12, .inl (ki 0, 4, .inl (fun _ => 0))), (q13, .inl (ki 0, 604, .inl (fun _ => 0))), (q14, .inl (ki 0, 604, .inl (fun _ => 0))), (q15, .inl (ki 0, 151, .inl (fun _ => 0))), (q16, .inl (ki 0, 4, .inl (fun _ => 0))), (q17, .inl (ki 0, 6, .inl (fun _ => 0))), (q18, .inl (ki 0, 6, .inl (fun _ => 0))), (q19, .inl (ki 1, 6, .inl (fun _ => 0))), (q20, .inl (ki 0, 1812, .inl (fun _ => 0))), (q21, .inl (ki 0, 302, .inl (fun _ => 0))), (q22, .inl (ki 0, 302, .inl (fun _ => 0))), (q23, .inl (ki 0, 302, .inl (fun _ => 0)))] : List (Nat × va_E))[i]? = some ((fun i => [r, q1, q2, q3, q4, q5, q6, q7, q8, q9, q10, q11, q12, q13, q14, q15, q16, q17, q18, q19, q20, q21, q22, q23].getD i 0) i, mr_lay ki (fun i => [r, q1, q2, q3, q4, q5, q6, q7, q8, q9, q10, q11, q12, q13, q14, q15, q16, q17, q18, q19, q20, q21, q22, q23].getD i 0) ms0 i) := by
  intro i hi
  match i, hi with
  | 0, _ => rfl
  | 1, _ => rfl
  | 2, _ => rfl
  | 3, _ => rfl
  | 4, _ => rfl
  | 5, _ => rfl
  | 6, _ => rfl
  | 7, _ => rfl
  | 8, _ => rfl
  | 9, _ => rfl
  | 10, _ => rfl
  | 11, _ => rfl
  | 12, _ => rfl
  | 13, _ => rfl
  | 14, _ => rfl
  | 15, _ => rfl
  | 16, _ => rfl
  | 17, _ => rfl
  | 18, _ => rfl
  | 19, _ => rfl
  | 20, _ => rfl
  | 21, _ => rfl
  | 22, _ => rfl
  | 23, _ => rfl
  | k + 24, hk => exact absurd hk (by omega)
theorem in_X9 {Q : ac_hp → Prop} (h : nwl F [(r, .inr (9, [.int 0, .null, .null, .null, .int 0, .null, .null, .null, .null, .int 0, .null, .null, .int 0, .null, .null, .null, .int 0, .null, .null, .null, .null, .null, .null, .int 0, .null, .null, .null, .null, .null]))] f) (kk : ∀ am f', am 0 = r → mr_R F ki am ms0 f' → (∀ i, i < 24 → F (am i) = none) → Q f') : wp_X9_init ki r f Q := by
  unfold wp_X9_init
  refine st_arr h (Nat.le_of_ble_eq_true rfl) (by decide) (by decide) (fun q1 f1 h => ?_)
  have h : nwl F [(r, .inr (9, [.int 0, .ref q1, .null, .null, .int 0, .null, .null, .null, .null, .int 0, .null, .null, .int 0, .null, .null, .null, .int 0, .null, .null, .null, .null, .null, .null, .int 0, .null, .null, .null, .null, .null])), (q1, .inl (ki 0, 240, .inl (fun _ => 0)))] f1 := h
  refine st_arr h (Nat.le_of_ble_eq_true rfl) (by decide) (by decide) (fun q2 f2 h => ?_)
  have h : nwl F [(r, .inr (9, [.int 0, .ref q1, .ref q2, .null, .int 0, .null, .null, .null, .null, .int 0, .null, .null, .int 0, .null, .null, .null, .int 0, .null, .null, .null, .null, .null, .null, .int 0, .null, .null, .null, .null, .null])), (q1, .inl (ki 0, 240, .inl (fun _ => 0))), (q2, .inl (ki 0, 4, .inl (fun _ => 0)))] f2 := h
  refine st_arr h (Nat.le_of_ble_eq_true rfl) (by decide) (by decide) (fun q3 f3 h => ?_)
  have h : nwl F [(r, .inr (9, [.int 0, .ref q1, .ref q2, .ref q3, .int 0, .null, .null, .null, .null, .int 0, .null, .null, .int 0, .null, .null, .null, .int 0, .null, .null, .null, .null, .null, .null, .int 0, .null, .null, .null, .null, .null])), (q1, .inl (ki 0, 240, .inl (fun _ => 0))), (q2, .inl (ki 0, 4, .inl (fun _ => 0))), (q3, .inl (ki 1, 12, .inl (fun _ => 0)))] f3 := h
  refine st_arr h (Nat.le_of_ble_eq_true rfl) (by decide) (by decide) (fun q4 f4 h => ?_)
  have h : nwl F [(r, .inr (9, [.int 0, .ref q1, .ref q2, .ref q3, .int 0, .ref q4, .null, .null, .null, .int 0, .null, .null, .int 0, .null, .null, .null, .int 0, .null, .null, .null, .null, .null, .null, .int 0, .null, .null, .null, .null, .null])), (q1, .inl (ki 0, 240, .inl (fun _ => 0))), (q2, .inl (ki 0, 4, .inl (fun _ => 0))), (q3, .inl (ki 1, 12, .inl (fun _ => 0))), (q4, .inl (ki 0, 12, .inl (fun _ => 0)))] f4 := h
  refine st_arr h (Nat.le_of_ble_eq_true rfl) (by decide) (by decide) (fun q5 f5 h => ?_)
  have h : nwl F [(r, .inr (9, [.int 0, .ref q1, .ref q2, .ref q3, .int 0, .ref q4, .ref q5, .null, .null, .int 0, .null, .null, .int 0, .null, .null, .null, .int 0, .null, .null, .null, .null, .null, .null, .int 0, .null, .null, .null, .null, .null])), (q1, .inl (ki 0, 240, .inl (fun _ => 0))), (q2, .inl (ki 0, 4, .inl (fun _ => 0))), (q3, .inl (ki 1, 12, .inl (fun _ => 0))), (q4, .inl (ki 0, 12, .inl (fun _ => 0))), (q5, .inl (ki 0, 12, .inl (fun _ => 0)))] f5 := h
  refine st_arr h (Nat.le_of_ble_eq_true rfl) (by decide) (by decide) (fun q6 f6 h => ?_)
  have h : nwl F [(r, .inr (9, [.int 0, .ref q1, .ref q2, .ref q3, .int 0, .ref q4, .ref q5, .ref q6, .null, .int 0, .null, .null, .int 0, .null, .null, .null, .int 0, .null, .null, .null, .null, .null, .null, .int 0, .null, .null, .null, .null, .null])), (q1, .inl (ki 0, 240, .inl (fun _ => 0))), (q2, .inl (ki 0, 4, .inl (fun _ => 0))), (q3, .inl (ki 1, 12, .inl (fun _ => 0))), (q4, .inl (ki 0, 12, .inl (fun _ => 0))), (q5, .inl (ki 0, 12, .inl (fun _ => 0))), (q6, .inl (ki 0, 24, .inl (fun _ => 0)))] f6 := h
  refine st_arr h (Nat.le_of_ble_eq_true rfl) (by decide) (by decide) (fun q7 f7 h => ?_)
  have h : nwl F [(r, .inr (9, [.int 0, .ref q1, .ref q2, .ref q3, .int 0, .ref q4, .ref q5, .ref q6, .ref q7, .int 0, .null, .null, .int 0, .null, .null, .null, .int 0, .null, .null, .null, .null, .null, .null, .int 0, .null, .null, .null, .null, .null])), (q1, .inl (ki 0, 240, .inl (fun _ => 0))), (q2, .inl (ki 0, 4, .inl (fun _ => 0))), (q3, .inl (ki 1, 12, .inl (fun _ => 0))), (q4, .inl (ki 0, 12, .inl (fun _ => 0))), (q5, .inl (ki 0, 12, .inl (fun _ => 0))), (q6, .inl (ki 0, 24, .inl (fun _ => 0))), (q7, .inl (ki 0, 24, .inl (fun _ => 0)))] f7 := h
  refine st_arr h (Nat.le_of_ble_eq_true rfl) (by decide) (by decide) (fun q8 f8 h => ?_)
  have h : nwl F [(r, .inr (9, [.int 0, .ref q1, .ref q2, .ref q3, .int 0, .ref q4, .ref q5, .ref q6, .ref q7, .int 0, .ref q8, .null, .int 0, .null, .null, .null, .int 0, .null, .null, .null, .null, .null, .null, .int 0, .null, .null, .null, .null, .null])), (q1, .inl (ki 0, 240, .inl (fun _ => 0))), (q2, .inl (ki 0, 4, .inl (fun _ => 0))), (q3, .inl (ki 1, 12, .inl (fun _ => 0))), (q4, .inl (ki 0, 12, .inl (fun _ => 0))), (q5, .inl (ki 0, 12, .inl (fun _ => 0))), (q6, .inl (ki 0, 24, .inl (fun _ => 0))), (q7, .inl (ki 0, 24, .inl (fun _ => 0))), (q8, .inl (ki 0, 4, .inl (fun _ => 0)))] f8 := h
  refine st_arr h (Nat.le_of_ble_eq_true rfl) (by decide) (by decide) (fun q9 f9 h => ?_)
  have h : nwl F [(r, .inr (9, [.int 0, .ref q1, .ref q2, .ref q3, .int 0, .ref q4, .ref q5, .ref q6, .ref q7, .int 0, .ref q8, .ref q9, .int 0, .null, .null, .null, .int 0, .null, .null, .null, .null, .null, .null, .int 0, .null, .null, .null, .null, .null])), (q1, .inl (ki 0, 240, .inl (fun _ => 0))), (q2, .inl (ki 0, 4, .inl (fun _ => 0))), (q3, .inl (ki 1, 12, .inl (fun _ => 0))), (q4, .inl (ki 0, 12, .inl (fun _ => 0))), (q5, .inl (ki 0, 12, .inl (fun _ => 0))), (q6, .inl (ki 0, 24, .inl (fun _ => 0))), (q7, .inl (ki 0, 24, .inl (fun _ => 0))), (q8, .inl (ki 0, 4, .inl (fun _ => 0))), (q9, .inl (ki 0, 8, .inl (fun _ => 0)))] f9 := h
  refine st_arr h (Nat.le_of_ble_eq_true rfl) (by decide) (by decide) (fun q10 f10 h => ?_)
  have h : nwl F [(r, .inr (9, [.int 0, .ref q1, .ref q2, .ref q3, .int 0, .ref q4, .ref q5, .ref q6, .ref q7, .int 0, .ref q8, .ref q9, .int 0, .ref q10, .null, .null, .int 0, .null, .null, .null, .null, .null, .null, .int 0, .null, .null, .null, .null, .null])), (q1, .inl (ki 0, 240, .inl (fun _ => 0))), (q2, .inl (ki 0, 4, .inl (fun _ => 0))), (q3, .inl (ki 1, 12, .inl (fun _ => 0))), (q4, .inl (ki 0, 12, .inl (fun _ => 0))), (q5, .inl (ki 0, 12, .inl (fun _ => 0))), (q6, .inl (ki 0, 24, .inl (fun _ => 0))), (q7, .inl (ki 0, 24, .inl (fun _ => 0))), (q8, .inl (ki 0, 4, .inl (fun _ => 0))), (q9, .inl (ki 0, 8, .inl (fun _ => 0))), (q10, .inl (ki 0, 4, .inl (fun _ => 0)))] f10 := h
  refine st_arr h (Nat.le_of_ble_eq_true rfl) (by decide) (by decide) (fun q11 f11 h => ?_)
  have h : nwl F [(r, .inr (9, [.int 0, .ref q1, .ref q2, .ref q3, .int 0, .ref q4, .ref q5, .ref q6, .ref q7, .int 0, .ref q8, .ref q9, .int 0, .ref q10, .ref q11, .null, .int 0, .null, .null, .null, .null, .null, .null, .int 0, .null, .null, .null, .null, .null])), (q1, .inl (ki 0, 240, .inl (fun _ => 0))), (q2, .inl (ki 0, 4, .inl (fun _ => 0))), (q3, .inl (ki 1, 12, .inl (fun _ => 0))), (q4, .inl (ki 0, 12, .inl (fun _ => 0))), (q5, .inl (ki 0, 12, .inl (fun _ => 0))), (q6, .inl (ki 0, 24, .inl (fun _ => 0))), (q7, .inl (ki 0, 24, .inl (fun _ => 0))), (q8, .inl (ki 0, 4, .inl (fun _ => 0))), (q9, .inl (ki 0, 8, .inl (fun _ => 0))), (q10, .inl (ki 0, 4, .inl (fun _ => 0))), (q11, .inl (ki 0, 4, .inl (fun _ => 0)))] f11 := h
  refine st_arr h (Nat.le_of_ble_eq_true rfl) (by decide) (by decide) (fun q12 f12 h => ?_)
  have h : nwl F [(r, .inr (9, [.int 0, .ref q1, .ref q2, .ref q3, .int 0, .ref q4, .ref q5, .ref q6, .ref q7, .int 0, .ref q8, .ref q9, .int 0, .ref q10, .ref q11, .ref q12, .int 0, .null, .null, .null, .null, .null, .null, .int 0, .null, .null, .null, .null, .null])), (q1, .inl (ki 0, 240, .inl (fun _ => 0))), (q2, .inl (ki 0, 4, .inl (fun _ => 0))), (q3, .inl (ki 1, 12, .inl (fun _ => 0))), (q4, .inl (ki 0, 12, .inl (fun _ => 0))), (q5, .inl (ki 0, 12, .inl (fun _ => 0))), (q6, .inl (ki 0, 24, .inl (fun _ => 0))), (q7, .inl (ki 0, 24, .inl (fun _ => 0))), (q8, .inl (ki 0, 4, .inl (fun _ => 0))), (q9, .inl (ki 0, 8, .inl (fun _ => 0))), (q10, .inl (ki 0, 4, .inl (fun _ => 0))), (q11, .inl (ki 0, 4, .inl (fun _ => 0))), (q12, .inl (ki 0, 4, .inl (fun _ => 0)))] f12 := h
  refine st_arr h (Nat.le_of_ble_eq_true rfl) (by decide) (by decide) (fun q13 f13 h => ?_)
  have h : nwl F [(r, .inr (9, [.int 0, .ref q1, .ref q2, .ref q3, .int 0, .ref q4, .ref q5, .ref q6, .ref q7, .int 0, .ref q8, .ref q9, .int 0, .ref q10, .ref q11, .ref q12, .int 0, .ref q13, .null, .null, .null, .null, .null, .int 0, .null, .null, .null, .null, .null])), (q1, .inl (ki 0, 240, .inl (fun _ => 0))), (q2, .inl (ki 0, 4, .inl (fun _ => 0))), (q3, .inl (ki 1, 12, .inl (fun _ => 0))), (q4, .inl (ki 0, 12, .inl (fun _ => 0))), (q5, .inl (ki 0, 12, .inl (fun _ => 0))), (q6, .inl (ki 0, 24, .inl (fun _ => 0))), (q7, .inl (ki 0, 24, .inl (fun _ => 0))), (q8, .inl (ki 0, 4, .inl (fun _ => 0))), (q9, .inl (ki 0, 8, .inl (fun _ => 0))), (q10, .inl (ki 0, 4, .inl (fun _ => 0))), (q11, .inl (ki 0, 4, .inl (fun _ => 0))), (q12, .inl (ki 0, 4, .inl (fun _ => 0))), (q13, .inl (ki 0, 604, .inl (fun _ => 0)))] f13 := h
  refine st_arr h (Nat.le_of_ble_eq_true rfl) (by decide) (by decide) (fun q14 f14 h => ?_)
  have h : nwl F [(r, .inr (9, [.int 0, .ref q1, .ref q2, .ref q3, .int 0, .ref q4, .ref q5, .ref q6, .ref q7, .int 0, .ref q8, .ref q9, .int 0, .ref q10, .ref q11, .ref q12, .int 0, .ref q13, .ref q14, .null, .null, .null, .null, .int 0, .null, .null, .null, .null, .null])), (q1, .inl (ki 0, 240, .inl (fun _ => 0))), (q2, .inl (ki 0, 4, .inl (fun _ => 0))), (q3, .inl (ki 1, 12, .inl (fun _ => 0))), (q4, .inl (ki 0, 12, .inl (fun _ => 0))), (q5, .inl (ki 0, 12, .inl (fun _ => 0))), (q6, .inl (ki 0, 24, .inl (fun _ => 0))), (q7, .inl (ki 0, 24, .inl (fun _ => 0))), (q8, .inl (ki 0, 4, .inl (fun _ => 0))), (q9, .inl (ki 0, 8, .inl (fun _ => 0))), (q10, .inl (ki 0, 4, .inl (fun _ => 0))), (q11, .inl (ki 0, 4, .inl (fun _ => 0))), (q12, .inl (ki 0, 4, .inl (fun _ => 0))), (q13, .inl (ki 0, 604, .inl (fun _ => 0))), (q14, .inl (ki 0, 604, .inl (fun _ => 0)))] f14 := h
  refine st_arr h (Nat.le_of_ble_eq_true rfl) (by decide) (by decide) (fun q15 f15 h => ?_)
  have h : nwl F [(r, .inr (9, [.int 0, .ref q1, .ref q2, .ref q3, .int 0, .ref q4, .ref q5, .ref q6, .ref q7, .int 0, .ref q8, .ref q9, .int 0, .ref q10, .ref q11, .ref q12, .int 0, .ref q13, .ref q14, .ref q15, .null, .null, .null, .int 0, .null, .null, .null, .null, .null])), (q1, .inl (ki 0, 240, .inl (fun _ => 0))), (q2, .inl (ki 0, 4, .inl (fun _ => 0))), (q3, .inl (ki 1, 12, .inl (fun _ => 0))), (q4, .inl (ki 0, 12, .inl (fun _ => 0))), (q5, .inl (ki 0, 12, .inl (fun _ => 0))), (q6, .inl (ki 0, 24, .inl (fun _ => 0))), (q7, .inl (ki 0, 24, .inl (fun _ => 0))), (q8, .inl (ki 0, 4, .inl (fun _ => 0))), (q9, .inl (ki 0, 8, .inl (fun _ => 0))), (q10, .inl (ki 0, 4, .inl (fun _ => 0))), (q11, .inl (ki 0, 4, .inl (fun _ => 0))), (q12, .inl (ki 0, 4, .inl (fun _ => 0))), (q13, .inl (ki 0, 604, .inl (fun _ => 0))), (q14, .inl (ki 0, 604, .inl (fun _ => 0))), (q15, .inl (ki 0, 151, .inl (fun _ => 0)))] f15 := h
  refine st_arr h (Nat.le_of_ble_eq_true rfl) (by decide) (by decide) (fun q16 f16 h => ?_)
  have h : nwl F [(r, .inr (9, [.int 0, .ref q1, .ref q2, .ref q3, .int 0, .ref q4, .ref q5, .ref q6, .ref q7, .int 0, .ref q8, .ref q9, .int 0, .ref q10, .ref q11, .ref q12, .int 0, .ref q13, .ref q14, .ref q15, .ref q16, .null, .null, .int 0, .null, .null, .null, .null, .null])), (q1, .inl (ki 0, 240, .inl (fun _ => 0))), (q2, .inl (ki 0, 4, .inl (fun _ => 0))), (q3, .inl (ki 1, 12, .inl (fun _ => 0))), (q4, .inl (ki 0, 12, .inl (fun _ => 0))), (q5, .inl (ki 0, 12, .inl (fun _ => 0))), (q6, .inl (ki 0, 24, .inl (fun _ => 0))), (q7, .inl (ki 0, 24, .inl (fun _ => 0))), (q8, .inl (ki 0, 4, .inl (fun _ => 0))), (q9, .inl (ki 0, 8, .inl (fun _ => 0))), (q10, .inl (ki 0, 4, .inl (fun _ => 0))), (q11, .inl (ki 0, 4, .inl (fun _ => 0))), (q12, .inl (ki 0, 4, .inl (fun _ => 0))), (q13, .inl (ki 0, 604, .inl (fun _ => 0))), (q14, .inl (ki 0, 604, .inl (fun _ => 0))), (q15, .inl (ki 0, 151, .inl (fun _ => 0))), (q16, .inl (ki 0, 4, .inl (fun _ => 0)))] f16 := h
  refine st_arr h (Nat.le_of_ble_eq_true rfl) (by decide) (by decide) (fun q17 f17 h => ?_)
  have h : nwl F [(r, .inr (9, [.int 0, .ref q1, .ref q2, .ref q3, .int 0, .ref q4, .ref q5, .ref q6, .ref q7, .int 0, .ref q8, .ref q9, .int 0, .ref q10, .ref q11, .ref q12, .int 0, .ref q13, .ref q14, .ref q15, .ref q16, .ref q17, .null, .int 0, .null, .null, .null, .null, .null])), (q1, .inl (ki 0, 240, .inl (fun _ => 0))), (q2, .inl (ki 0, 4, .inl (fun _ => 0))), (q3, .inl (ki 1, 12, .inl (fun _ => 0))), (q4, .inl (ki 0, 12, .inl (fun _ => 0))), (q5, .inl (ki 0, 12, .inl (fun _ => 0))), (q6, .inl (ki 0, 24, .inl (fun _ => 0))), (q7, .inl (ki 0, 24, .inl (fun _ => 0))), (q8, .inl (ki 0, 4, .inl (fun _ => 0))), (q9, .inl (ki 0, 8, .inl (fun _ => 0))), (q10, .inl (ki 0, 4, .inl (fun _ => 0))), (q11, .inl (ki 0, 4, .inl (fun _ => 0))), (q12, .inl (ki 0, 4, .inl (fun _ => 0))), (q13, .inl (ki 0, 604, .inl (fun _ => 0))), (q14, .inl (ki 0, 604, .inl (fun _ => 0))), (q15, .inl (ki 0, 151, .inl (fun _ => 0))), (q16, .inl (ki 0, 4, .inl (fun _ => 0))), (q17, .inl (ki 0, 6, .inl (fun _ => 0)))] f17 := h
  refine st_arr h (Nat.le_of_ble_eq_true rfl) (by decide) (by decide) (fun q18 f18 h => ?_)
  have h : nwl F [(r, .inr (9, [.int 0, .ref q1, .ref q2, .ref q3, .int 0, .ref q4, .ref q5, .ref q6, .ref q7, .int 0, .ref q8, .ref q9, .int 0, .ref q10, .ref q11, .ref q12, .int 0, .ref q13, .ref q14, .ref q15, .ref q16, .ref q17, .ref q18, .int 0, .null, .null, .null, .null, .null])), (q1, .inl (ki 0, 240, .inl (fun _ => 0))), (q2, .inl (ki 0, 4, .inl (fun _ => 0))), (q3, .inl (ki 1, 12, .inl (fun _ => 0))), (q4, .inl (ki 0, 12, .inl (fun _ => 0))), (q5, .inl (ki 0, 12, .inl (fun _ => 0))), (q6, .inl (ki 0, 24, .inl (fun _ => 0))), (q7, .inl (ki 0, 24, .inl (fun _ => 0))), (q8, .inl (ki 0, 4, .inl (fun _ => 0))), (q9, .inl (ki 0, 8, .inl (fun _ => 0))), (q10, .inl (ki 0, 4, .inl (fun _ => 0))), (q11, .inl (ki 0, 4, .inl (fun _ => 0))), (q12, .inl (ki 0, 4, .inl (fun _ => 0))), (q13, .inl (ki 0, 604, .inl (fun _ => 0))), (q14, .inl (ki 0, 604, .inl (fun _ => 0))), (q15, .inl (ki 0, 151, .inl (fun _ => 0))), (q16, .inl (ki 0, 4, .inl (fun _ => 0))), (q17, .inl (ki 0, 6, .inl (fun _ => 0))), (q18, .inl (ki 0, 6, .inl (fun _ => 0)))] f18 := h
  refine st_arr h (Nat.le_of_ble_eq_true rfl) (by decide) (by decide) (fun q19 f19 h => ?_)
  have h : nwl F [(r, .inr (9, [.int 0, .ref q1, .ref q2, .ref q3, .int 0, .ref q4, .ref q5, .ref q6, .ref q7, .int 0, .ref q8, .ref q9, .int 0, .ref q10, .ref q11, .ref q12, .int 0, .ref q13, .ref q14, .ref q15, .ref q16, .ref q17, .ref q18, .int 0, .ref q19, .null, .null, .null, .null])), (q1, .inl (ki 0, 240, .inl (fun _ => 0))), (q2, .inl (ki 0, 4, .inl (fun _ => 0))), (q3, .inl (ki 1, 12, .inl (fun _ => 0))), (q4, .inl (ki 0, 12, .inl (fun _ => 0))), (q5, .inl (ki 0, 12, .inl (fun _ => 0))), (q6, .inl (ki 0, 24, .inl (fun _ => 0))), (q7, .inl (ki 0, 24, .inl (fun _ => 0))), (q8, .inl (ki 0, 4, .inl (fun _ => 0))), (q9, .inl (ki 0, 8, .inl (fun _ => 0))), (q10, .inl (ki 0, 4, .inl (fun _ => 0))), (q11, .inl (ki 0, 4, .inl (fun _ => 0))), (q12, .inl (ki 0, 4, .inl (fun _ => 0))), (q13, .inl (ki 0, 604, .inl (fun _ => 0))), (q14, .inl (ki 0, 604, .inl (fun _ => 0))), (q15, .inl (ki 0, 151, .inl (fun _ => 0))), (q16, .inl (ki 0, 4, .inl (fun _ => 0))), (q17, .inl (ki 0, 6, .inl (fun _ => 0))), (q18, .inl (ki 0, 6, .inl (fun _ => 0))), (q19, .inl (ki 1, 6, .inl (fun _ => 0)))] f19 := h
  refine st_arr h (Nat.le_of_ble_eq_true rfl) (by decide) (by decide) (fun q20 f20 h => ?_)
  have h : nwl F [(r, .inr (9, [.int 0, .ref q1, .ref q2, .ref q3, .int 0, .ref q4, .ref q5, .ref q6, .ref q7, .int 0, .ref q8, .ref q9, .int 0, .ref q10, .ref q11, .ref q12, .int 0, .ref q13, .ref q14, .ref q15, .ref q16, .ref q17, .ref q18, .int 0, .ref q19, .ref q20, .null, .null, .null])), (q1, .inl (ki 0, 240, .inl (fun _ => 0))), (q2, .inl (ki 0, 4, .inl (fun _ => 0))), (q3, .inl (ki 1, 12, .inl (fun _ => 0))), (q4, .inl (ki 0, 12, .inl (fun _ => 0))), (q5, .inl (ki 0, 12, .inl (fun _ => 0))), (q6, .inl (ki 0, 24, .inl (fun _ => 0))), (q7, .inl (ki 0, 24, .inl (fun _ => 0))), (q8, .inl (ki 0, 4, .inl (fun _ => 0))), (q9, .inl (ki 0, 8, .inl (fun _ => 0))), (q10, .inl (ki 0, 4, .inl (fun _ => 0))), (q11, .inl (ki 0, 4, .inl (fun _ => 0))), (q12, .inl (ki 0, 4, .inl (fun _ => 0))), (q13, .inl (ki 0, 604, .inl (fun _ => 0))), (q14, .inl (ki 0, 604, .inl (fun _ => 0))), (q15, .inl (ki 0, 151, .inl (fun _ => 0))), (q16, .inl (ki 0, 4, .inl (fun _ => 0))), (q17, .inl (ki 0, 6, .inl (fun _ => 0))), (q18, .inl (ki 0, 6, .inl (fun _ => 0))), (q19, .inl (ki 1, 6, .inl (fun _ => 0))), (q20, .inl (ki 0, 1812, .inl (fun _ => 0)))] f20 := h
  refine st_arr h (Nat.le_of_ble_eq_true rfl) (by decide) (by decide) (fun q21 f21 h => ?_)
  have h : nwl F [(r, .inr (9, [.int 0, .ref q1, .ref q2, .ref q3, .int 0, .ref q4, .ref q5, .ref q6, .ref q7, .int 0, .ref q8, .ref q9, .int 0, .ref q10, .ref q11, .ref q12, .int 0, .ref q13, .ref q14, .ref q15, .ref q16, .ref q17, .ref q18, .int 0, .ref q19, .ref q20, .ref q21, .null, .null])), (q1, .inl (ki 0, 240, .inl (fun _ => 0))), (q2, .inl (ki 0, 4, .inl (fun _ => 0))), (q3, .inl (ki 1, 12, .inl (fun _ => 0))), (q4, .inl (ki 0, 12, .inl (fun _ => 0))), (q5, .inl (ki 0, 12, .inl (fun _ => 0))), (q6, .inl (ki 0, 24, .inl (fun _ => 0))), (q7, .inl (ki 0, 24, .inl (fun _ => 0))), (q8, .inl (ki 0, 4, .inl (fun _ => 0))), (q9, .inl (ki 0, 8, .inl (fun _ => 0))), (q10, .inl (ki 0, 4, .inl (fun _ => 0))), (q11, .inl (ki 0, 4, .inl (fun _ => 0))), (q12, .inl (ki 0, 4, .inl (fun _ => 0))), (q13, .inl (ki 0, 604, .inl (fun _ => 0))), (q14, .inl (ki 0, 604, .inl (fun _ => 0))), (q15, .inl (ki 0, 151, .inl (fun _ => 0))), (q16, .inl (ki 0, 4, .inl (fun _ => 0))), (q17, .inl (ki 0, 6, .inl (fun _ => 0))), (q18, .inl (ki 0, 6, .inl (fun _ => 0))), (q19, .inl (ki 1, 6, .inl (fun _ => 0))), (q20, .inl (ki 0, 1812, .inl (fun _ => 0))), (q21, .inl (ki 0, 302, .inl (fun _ => 0)))] f21 := h
  refine st_arr h (Nat.le_of_ble_eq_true rfl) (by decide) (by decide) (fun q22 f22 h => ?_)
  have h : nwl F [(r, .inr (9, [.int 0, .ref q1, .ref q2, .ref q3, .int 0, .ref q4, .ref q5, .ref q6, .ref q7, .int 0, .ref q8, .ref q9, .int 0, .ref q10, .ref q11, .ref q12, .int 0, .ref q13, .ref q14, .ref q15, .ref q16, .ref q17, .ref q18, .int 0, .ref q19, .ref q20, .ref q21, .ref q22, .null])), (q1, .inl (ki 0, 240, .inl (fun _ => 0))), (q2, .inl (ki 0, 4, .inl (fun _ => 0))), (q3, .inl (ki 1, 12, .inl (fun _ => 0))), (q4, .inl (ki 0, 12, .inl (fun _ => 0))), (q5, .inl (ki 0, 12, .inl (fun _ => 0))), (q6, .inl (ki 0, 24, .inl (fun _ => 0))), (q7, .inl (ki 0, 24, .inl (fun _ => 0))), (q8, .inl (ki 0, 4, .inl (fun _ => 0))), (q9, .inl (ki 0, 8, .inl (fun _ => 0))), (q10, .inl (ki 0, 4, .inl (fun _ => 0))), (q11, .inl (ki 0, 4, .inl (fun _ => 0))), (q12, .inl (ki 0, 4, .inl (fun _ => 0))), (q13, .inl (ki 0, 604, .inl (fun _ => 0))), (q14, .inl (ki 0, 604, .inl (fun _ => 0))), (q15, .inl (ki 0, 151, .inl (fun _ => 0))), (q16, .inl (ki 0, 4, .inl (fun _ => 0))), (q17, .inl (ki 0, 6, .inl (fun _ => 0))), (q18, .inl (ki 0, 6, .inl (fun _ => 0))), (q19, .inl (ki 1, 6, .inl (fun _ => 0))), (q20, .inl (ki 0, 1812, .inl (fun _ => 0))), (q21, .inl (ki 0, 302, .inl (fun _ => 0))), (q22, .inl (ki 0, 302, .inl (fun _ => 0)))] f22 := h
  refine st_arr h (Nat.le_of_ble_eq_true rfl) (by decide) (by decide) (fun q23 f23 h => ?_)
  have h : nwl F [(r, .inr (9, [.int 0, .ref q1, .ref q2, .ref q3, .int 0, .ref q4, .ref q5, .ref q6, .ref q7, .int 0, .ref q8, .ref q9, .int 0, .ref q10, .ref q11, .ref q12, .int 0, .ref q13, .ref q14, .ref q15, .ref q16, .ref q17, .ref q18, .int 0, .ref q19, .ref q20, .ref q21, .ref q22, .ref q23])), (q1, .inl (ki 0, 240, .inl (fun _ => 0))), (q2, .inl (ki 0, 4, .inl (fun _ => 0))), (q3, .inl (ki 1, 12, .inl (fun _ => 0))), (q4, .inl (ki 0, 12, .inl (fun _ => 0))), (q5, .inl (ki 0, 12, .inl (fun _ => 0))), (q6, .inl (ki 0, 24, .inl (fun _ => 0))), (q7, .inl (ki 0, 24, .inl (fun _ => 0))), (q8, .inl (ki 0, 4, .inl (fun _ => 0))), (q9, .inl (ki 0, 8, .inl (fun _ => 0))), (q10, .inl (ki 0, 4, .inl (fun _ => 0))), (q11, .inl (ki 0, 4, .inl (fun _ => 0))), (q12, .inl (ki 0, 4, .inl (fun _ => 0))), (q13, .inl (ki 0, 604, .inl (fun _ => 0))), (q14, .inl (ki 0, 604, .inl (fun _ => 0))), (q15, .inl (ki 0, 151, .inl (fun _ => 0))), (q16, .inl (ki 0, 4, .inl (fun _ => 0))), (q17, .inl (ki 0, 6, .inl (fun _ => 0))), (q18, .inl (ki 0, 6, .inl (fun _ => 0))), (q19, .inl (ki 1, 6, .inl (fun _ => 0))), (q20, .inl (ki 0, 1812, .inl (fun _ => 0))), (q21, .inl (ki 0, 302, .inl (fun _ => 0))), (q22, .inl (ki 0, 302, .inl (fun _ => 0))), (q23, .inl (ki 0, 302, .inl (fun _ => 0)))] f23 := h
  refine ⟨⟨by decide, by decide⟩, ?_⟩
  have h : nwl F [(r, .inr (9, [.int 0, .ref q1, .ref q2, .ref q3, .int 0, .ref q4, .ref q5, .ref q6, .ref q7, .int 0, .ref q8, .ref q9, .int 0, .ref q10, .ref q11, .ref q12, .int 0, .ref q13, .ref q14, .ref q15, .ref q16, .ref q17, .ref q18, .int 0, .ref q19, .ref q20, .ref q21, .ref q22, .ref q23])), (q1, .inl (ki 0, 240, .inl (fun _ => 0))), (q2, .inl (ki 0, 4, .inl (fun _ => 0))), (q3, .inl (ki 1, 12, .inl (fun _ => 0))), (q4, .inl (ki 0, 12, .inl (fun _ => 0))), (q5, .inl (ki 0, 12, .inl (fun _ => 0))), (q6, .inl (ki 0, 24, .inl (fun _ => 0))), (q7, .inl (ki 0, 24, .inl (fun _ => 0))), (q8, .inl (ki 0, 4, .inl (fun _ => 0))), (q9, .inl (ki 0, 8, .inl (fun _ => 0))), (q10, .inl (ki 0, 4, .inl (fun _ => 0))), (q11, .inl (ki 0, 4, .inl (fun _ => 0))), (q12, .inl (ki 0, 4, .inl (fun _ => 0))), (q13, .inl (ki 0, 604, .inl (fun _ => 0))), (q14, .inl (ki 0, 604, .inl (fun _ => 0))), (q15, .inl (ki 0, 151, .inl (fun _ => 0))), (q16, .inl (ki 0, 4, .inl (fun _ => 0))), (q17, .inl (ki 0, 6, .inl (fun _ => 0))), (q18, .inl (ki 0, 6, .inl (fun _ => 0))), (q19, .inl (ki 1, 6, .inl (fun _ => 0))), (q20, .inl (ki 0, 1812, .inl (fun _ => 0))), (q21, .inl (ki 0, 302, .inl (fun _ => 0))), (q22, .inl (ki 0, 302, .inl (fun _ => 0))), (q23, .inl (ki 0, 302, .inl (fun _ => 0)))] _ := h
  obtain ⟨g1, g2⟩ := mr_of_nwl h rfl x9_lay
  exact kk _ _ rfl g1 g2
end X9I
