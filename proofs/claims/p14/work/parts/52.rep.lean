/-! the unions: what each of them is -/
theorem pst_sp {k : Nat} {T : Nat → Int32} {x t : Int32} {k' : Nat} {T' : Nat → Int32} (h : pst (k, T) x t = some (k', T')) :
    (∀ v, k.testBit v = true → k'.testBit v = true ∧ T' v = T v) ∧ (0 ≤ x → x / 10000 = t) ∧ ∀ v, pl_v x v → k'.testBit v = true ∧ T' v = t := by
  have hcl : ∀ v, pl_v x v → ((-1) - x).toNatClampNeg = v ∧ ¬ 0 ≤ x := fun v hv => by
    have ev : (-1 : Int32) - x = nI v := by rw [hv.2]; exact (var_of v hv.1).1
    exact ⟨by rw [ev, nI_clamp (by have := hv.1; omega)], by rw [hv.2]; exact (var_of v hv.1).2⟩
  unfold pst at h
  split at h
  · rename_i h0
    split at h
    · rename_i he
      cases h
      exact ⟨fun v hv => ⟨hv, rfl⟩, fun _ => he, fun v hv => absurd h0 (hcl v hv).2⟩
    · cases h
  · rename_i h0
    split at h
    · rename_i hb
      split at h
      · rename_i he
        cases h
        refine ⟨fun v hv => ⟨hv, rfl⟩, fun z => absurd z h0, fun v hv => ?_⟩
        rw [(hcl v hv).1] at hb he
        exact ⟨hb, he⟩
      · cases h
    · rename_i hb
      cases h
      refine ⟨fun v hv => ⟨?_, ?_⟩, fun z => absurd z h0, fun v hv => ?_⟩
      · show (k ||| 2 ^ _).testBit v = true
        rw [Nat.testBit_or, hv]; rfl
      · show upd T _ t v = T v
        unfold upd
        rw [if_neg]
        intro e
        rw [e] at hv
        exact hb hv
      · have e := (hcl v hv).1
        refine ⟨?_, ?_⟩
        · show (k ||| 2 ^ _).testBit v = true
          rw [e, Nat.testBit_or, Nat.testBit_two_pow_self]; simp
        · show upd T _ t v = t
          rw [e]; simp [upd]
theorem pst2_sp {s : Nat → Nat → Int32} {a m k : Nat} {T : Nat → Int32} {k' : Nat} {T' : Nat → Int32} (h : pst2 s a m k T = some (k', T')) :
    (∀ v, k.testBit v = true → k'.testBit v = true ∧ T' v = T v) ∧ ∀ p, p < 2 → (0 ≤ s 7 (a * 2 + p) → s 7 (a * 2 + p) / 10000 = s (43 + 3 * m) p) ∧ ∀ v, pl_v (s 7 (a * 2 + p)) v → k'.testBit v = true ∧ T' v = s (43 + 3 * m) p := by
  unfold pst2 at h
  cases h1 : pst (k, T) (s 7 (a * 2)) (s (43 + 3 * m) 0) with
  | none => rw [h1] at h; cases h
  | some q =>
    rw [h1] at h
    have h2 : pst (q.1, q.2) (s 7 (a * 2 + 1)) (s (43 + 3 * m) 1) = some (k', T') := h
    obtain ⟨a1, a2, a3⟩ := pst_sp (k' := q.1) (T' := q.2) h1
    obtain ⟨b1, b2, b3⟩ := pst_sp h2
    refine ⟨fun v hv => ⟨(b1 v (a1 v hv).1).1, by rw [(b1 v (a1 v hv).1).2, (a1 v hv).2]⟩, fun p hp => ?_⟩
    have hp01 : p = 0 ∨ p = 1 := by omega
    rcases hp01 with e | e
    · subst e
      exact ⟨a2, fun v hv => ⟨(b1 v (a3 v hv).1).1, by rw [(b1 v (a3 v hv).1).2, (a3 v hv).2]⟩⟩
    · subst e
      exact ⟨b2, b3⟩
theorem un_sp {s : Nat → Nat → Int32} {n mc : Nat} : ∀ (d a k : Nat) (T : Nat → Int32) (pre M : List Nat), M ∈ un s n mc d a k T pre → a ≤ n → ∃ M', M = pre ++ M' ∧ M'.length = n - a ∧ (∀ j, j < n - a → M'.getD j 0 < mc ∧ s (42 + 3 * M'.getD j 0) 3 = s 6 (a + j)) ∧
    ∃ T' : Nat → Int32, (∀ v, k.testBit v = true → T' v = T v) ∧ ∀ j, j < n - a → ∀ p, p < 2 → (0 ≤ s 7 ((a + j) * 2 + p) → s 7 ((a + j) * 2 + p) / 10000 = s (43 + 3 * M'.getD j 0) p) ∧ ∀ v, pl_v (s 7 ((a + j) * 2 + p)) v → T' v = s (43 + 3 * M'.getD j 0) p := by
  intro d
  induction d with
  | zero => intro a k T pre M h; cases h
  | succ d ih =>
    intro a k T pre M h ha
    unfold un at h
    by_cases hn : n ≤ a
    · rw [if_pos hn, List.mem_singleton] at h
      have : n - a = 0 := by omega
      rw [this]
      exact ⟨[], by rw [h]; simp, rfl, fun j hj => absurd hj (by omega), T, fun _ _ => rfl, fun j hj => absurd hj (by omega)⟩
    · rw [if_neg hn, List.mem_flatMap] at h
      obtain ⟨i, hi, h⟩ := h
      have hi := List.mem_range.mp hi
      by_cases hp : s (42 + 3 * i) 3 = s 6 a
      · rw [if_pos hp] at h
        cases hq : pst2 s a i k T with
        | none => rw [hq] at h; cases h
        | some q =>
          rw [hq] at h
          obtain ⟨M', e1, e2, e3, T', t1, t2⟩ := ih (a + 1) q.1 q.2 (pre ++ [i]) M h (by omega)
          obtain ⟨p1, p2⟩ := pst2_sp (k' := q.1) (T' := q.2) hq
          refine ⟨i :: M', by rw [e1]; simp, by rw [List.length_cons, e2]; omega, fun j hj => ?_, T', fun v hv => by rw [t1 v (p1 v hv).1, (p1 v hv).2], fun j hj p hp2 => ?_⟩
          · cases j with
            | zero => exact ⟨hi, hp⟩
            | succ j =>
              have := e3 j (by omega)
              rw [show a + 1 + j = a + (j + 1) by omega] at this
              exact this
          · cases j with
            | zero =>
              exact ⟨(p2 p hp2).1, fun v hv => by
                obtain ⟨z1, z2⟩ := (p2 p hp2).2 v hv
                rw [t1 v z1, z2]; rfl⟩
            | succ j =>
              have := t2 j (by omega) p hp2
              rw [show a + 1 + j = a + (j + 1) by omega] at this
              exact this
      · rw [if_neg hp] at h; cases h
/-- the mappings of the catalog: table, columns, templates -/
def mps (s : Nat → Nat → Int32) (mc : Nat) (mt : Nat → Nat) (ml mtm : Nat → Nat → Nat) : Prop := ∀ i, i < mc → vm_ok s i (mt i) (ml i) ∧ ∀ p, p < 2 → mtm i p < 6 ∧ s (43 + 3 * i) p = nI (mtm i p)
def unm (s : Nat → Nat → Int32) (n mc u a : Nat) : Nat := ((unions s n mc).getD u []).getD a 0
theorem ud_of {s : Nat → Nat → Int32} {n mc u : Nat} {mt : Nat → Nat} {ml mtm : Nat → Nat → Nat} (hm : mps s mc mt ml mtm) (hk : known s n mc) (hlen : (unions s n mc).length ≤ 150) (hu : u < (unions s n mc).length) :
    ud s n u (unm s n mc u) (fun a => mt (unm s n mc u a)) (fun a => ml (unm s n mc u a)) (fun a => mtm (unm s n mc u a)) := by
  have hmem : (unions s n mc).getD u [] ∈ unions s n mc := by
    rw [List.getD_eq_getElem?_getD, List.getElem?_eq_getElem hu]; exact List.getElem_mem hu
  obtain ⟨M', e1, e2, e3, T', -, t2⟩ := un_sp 5 0 0 (fun _ => 0) [] _ hmem (by omega)
  rw [List.nil_append] at e1
  simp only [Nat.sub_zero, Nat.zero_add] at e2 e3 t2
  have eM : ∀ a, unm s n mc u a = M'.getD a 0 := fun a => by unfold unm; rw [e1]
  obtain ⟨c, hc, hc150, hx⟩ := hk
  refine ⟨⟨by omega, fun a ha => ⟨?_, ?_⟩⟩, fun a ha p hp => ?_, fun a b p q v ha hb hp hq h1 h2 => ?_⟩
  · rcases hx with ⟨z1, z2, z3, z4⟩ | ⟨z1, z2⟩
    · have := z4.2 u hu a ha
      rw [show 4 * (0 + u) + a = u * 4 + a by omega] at this
      exact this
    · omega
  · simp only [eM a]; exact (hm _ (e3 a ha).1).1
  · simp only [eM a]; exact (hm _ (e3 a ha).1).2 p hp
  · have x1 := (t2 a ha p hp).2 v h1
    have x2 := (t2 b hb q hq).2 v h2
    obtain ⟨y1, y2⟩ := (hm _ (e3 a ha).1).2 p hp
    obtain ⟨y3, y4⟩ := (hm _ (e3 b hb).1).2 q hq
    rw [x1, y2, y4] at x2
    simp only [eM a, eM b]
    exact (nI_eq (by omega) (by omega)).mp x2
