/-! the class's unions are the reference's -/
def tup (mc : Nat) : Nat → List (List Nat)
  | 0 => [[]]
  | r + 1 => (List.range mc).flatMap fun i => (tup mc r).map fun ds => i :: ds
def fld (s : Nat → Nat → Int32) : Nat → (Nat × (Nat → Int32)) → List Nat → Option (Nat × (Nat → Int32))
  | _, q, [] => some q
  | a, q, i :: ds => if s (42 + 3 * i) 3 = s 6 a then (pst2 s a i q.1 q.2).bind fun q' => fld s (a + 1) q' ds else none
def dgs (mc n k : Nat) : List Nat := (List.range n).map (dg mc n k)
theorem fm_fm {α β γ : Type} (f : α → List β) (g : β → Option γ) : ∀ l : List α, (l.flatMap f).filterMap g = l.flatMap fun a => (f a).filterMap g
  | [] => rfl
  | a :: l => by rw [List.flatMap_cons, List.filterMap_append, fm_fm f g l, List.flatMap_cons]
theorem fm_none {α β : Type} {g : α → Option β} : ∀ l : List α, (∀ a, a ∈ l → g a = none) → l.filterMap g = []
  | [], _ => rfl
  | a :: l, h => by rw [List.filterMap_cons, h a (by simp), fm_none l (fun b hb => h b (by simp [hb]))]
theorem un_tup {s : Nat → Nat → Int32} {n mc : Nat} : ∀ (r d a k : Nat) (T : Nat → Int32) (pre : List Nat), r + a = n → r < d → un s n mc d a k T pre = (tup mc r).filterMap fun ds => if (fld s a (k, T) ds).isSome then some (pre ++ ds) else none := by
  intro r
  induction r with
  | zero =>
    intro d a k T pre hr hd
    obtain ⟨d', rfl⟩ : ∃ d', d = d' + 1 := ⟨d - 1, by omega⟩
    unfold un
    rw [if_pos (by omega)]
    simp [tup, fld]
  | succ r ih =>
    intro d a k T pre hr hd
    obtain ⟨d', rfl⟩ : ∃ d', d = d' + 1 := ⟨d - 1, by omega⟩
    unfold un
    rw [if_neg (by omega), tup, fm_fm]
    congr 1
    funext i
    rw [List.filterMap_map]
    by_cases hp : s (42 + 3 * i) 3 = s 6 a
    · rw [if_pos hp]
      cases hq : pst2 s a i k T with
      | none =>
        rw [fm_none]
        intro ds _
        simp [Function.comp, fld, hp, hq]
      | some q =>
        show un s n mc d' (a + 1) q.1 q.2 (pre ++ [i]) = _
        rw [ih d' (a + 1) q.1 q.2 (pre ++ [i]) (by omega) (by omega)]
        congr 1
        funext ds
        simp [Function.comp, fld, hp, hq]
    · rw [if_neg hp, fm_none]
      intro ds _
      simp [Function.comp, fld, hp]
theorem range_mul {a b : Nat} : List.range (a * b) = (List.range a).flatMap fun i => (List.range b).map fun j => i * b + j := by
  induction a with
  | zero => simp
  | succ a ih => rw [Nat.succ_mul, List.range_add, ih, List.range_succ, List.flatMap_append]; simp
theorem dgs_s {mc r i j : Nat} (hi : i < mc) (hj : j < mc ^ r) : dgs mc (r + 1) (i * mc ^ r + j) = i :: dgs mc r j := by
  have hp : 0 < mc := by omega
  unfold dgs
  rw [List.range_succ_eq_map, List.map_cons, List.map_map]
  congr 1
  · unfold dg
    rw [show r + 1 - 1 - 0 = r by omega, Nat.mul_comm, Nat.mul_add_div (Nat.pow_pos hp), Nat.div_eq_of_lt hj, Nat.add_zero, Nat.mod_eq_of_lt hi]
  · apply List.map_congr_left
    intro a ha
    have ha : a < r := List.mem_range.mp ha
    show dg mc (r + 1) (i * mc ^ r + j) (a + 1) = dg mc r j a
    unfold dg
    have e : i * mc ^ r = mc ^ (r - 1 - a) * (mc * (i * mc ^ a)) := by
      have : mc ^ r = mc ^ (r - 1 - a) * (mc * mc ^ a) := by
        rw [← Nat.pow_succ', ← Nat.pow_add]; congr 1; omega
      rw [this, Nat.mul_left_comm, Nat.mul_left_comm i mc]
    rw [show r + 1 - 1 - (a + 1) = r - 1 - a by omega, e, Nat.mul_add_div (Nat.pow_pos hp), Nat.mul_add_mod]
theorem tup_dgs {mc : Nat} : ∀ r, tup mc r = (List.range (mc ^ r)).map (dgs mc r)
  | 0 => by simp [tup, dgs]
  | r + 1 => by
    rw [tup, tup_dgs r, Nat.pow_succ', range_mul, List.map_flatMap]
    have : ∀ l : List Nat, (∀ i, i ∈ l → i < mc) → (l.flatMap fun i => ((List.range (mc ^ r)).map (dgs mc r)).map fun ds => i :: ds) = l.flatMap fun i => ((List.range (mc ^ r)).map fun j => i * mc ^ r + j).map (dgs mc (r + 1)) := by
      intro l
      induction l with
      | nil => intro _; rfl
      | cons i l ih =>
        intro h
        rw [List.flatMap_cons, List.flatMap_cons, ih (fun q hq => h q (by simp [hq]))]
        congr 1
        rw [List.map_map, List.map_map]
        apply List.map_congr_left
        intro j hj
        exact (dgs_s (h i (by simp)) (List.mem_range.mp hj)).symm
    exact this _ (fun i hi => List.mem_range.mp hi)
theorem fm_filter {α β : Type} {p : α → Bool} {g : α → β} : ∀ l : List α, (l.filter p).map g = l.filterMap fun a => if p a then some (g a) else none
  | [] => rfl
  | a :: l => by
    rw [List.filter_cons, List.filterMap_cons]
    cases p a with
    | true => simp [fm_filter l]
    | false => simp [fm_filter l]
theorem rst_fld {s t : Nat → Nat → Int32} {mc n sp : Nat} {c : Nat → Nat} (hl : ML s t mc n sp) (hc : ∀ a, a < n → c a < mc) : ∀ (r a : Nat), r + a = n → ((rst t c a).bind fun q => fld s a q ((List.range' a r).map c)) = rst t c n := by
  intro r
  induction r with
  | zero =>
    intro a ha
    rw [show a = n by omega]
    cases rst t c n <;> rfl
  | succ r ih =>
    intro a ha
    rw [← ih (a + 1) (by omega), List.range'_succ, List.map_cons, rst]
    obtain ⟨l1, l2⟩ := hl.1 (c a) (hc a (by omega))
    obtain ⟨m1, -, m3⟩ := hl.2.1 a (by omega)
    cases rst t c a with
    | none => rfl
    | some q =>
      unfold rp0 rpp
      simp only [Option.bind_some, fld]
      rw [l2.1, m1]
      by_cases hp : s (42 + 3 * c a) 3 = s 6 a
      · rw [if_pos hp, if_pos hp, Option.bind_some]
        unfold pst2
        rw [(l2.2.2 0 (by omega)).1, (l2.2.2 1 (by omega)).1, m3 0 (by omega), m3 1 (by omega)]
        rfl
      · rw [if_neg hp, if_neg hp]
        rfl
theorem un_eq {s t : Nat → Nat → Int32} {mc n sp : Nat} (hl : ML s t mc n sp) (hn : n ≤ 4) : unions s n mc = (mL t mc n (mc ^ n)).map (dgs mc n) := by
  unfold unions mL
  rw [un_tup n 5 0 0 _ [] (by omega) (by omega), tup_dgs, List.filterMap_map, fm_filter]
  have : ∀ l : List Nat, (∀ j, j ∈ l → j < mc ^ n) → l.filterMap ((fun ds => if (fld s 0 (0, fun _ => 0) ds).isSome then some ([] ++ ds) else none) ∘ dgs mc n) = l.filterMap fun a => if (rst t (dg mc n a) n).isSome then some (dgs mc n a) else none := by
    intro l
    induction l with
    | nil => intro _; rfl
    | cons j l ih =>
      intro h
      have hj := h j (by simp)
      rw [List.filterMap_cons, List.filterMap_cons, ih (fun q hq => h q (by simp [hq]))]
      have hmc : n ≠ 0 → 0 < mc := fun hn0 => by
        rcases Nat.eq_zero_or_pos mc with z | z
        · rw [z, Nat.zero_pow (by omega)] at hj; omega
        · exact z
      have e := rst_fld (c := dg mc n j) hl (fun a ha => dg_lt (hmc (by omega))) n 0 (by omega)
      have e2 : fld s 0 (0, fun _ => 0) (dgs mc n j) = rst t (dg mc n j) n := by
        rw [← e]
        unfold dgs
        rw [List.range_eq_range']
        rfl
      simp only [Function.comp, e2, List.nil_append]
  exact this _ (fun j hj => List.mem_range.mp hj)
