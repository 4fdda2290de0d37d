/-! CELLS NEWLY MADE: L lists them, address and content; elsewhere the world is F -/
def nwl (F : ac_hp) (L : List (Nat × va_E)) (f : ac_hp) : Prop := (∀ p ∈ L, F p.1 = none ∧ f p.1 = some p.2) ∧ (L.map Prod.fst).Nodup ∧ ∀ q, q ∉ L.map Prod.fst → f q = F q
section NW
variable {F f f1 f2 : ac_hp} {L L1 L2 : List (Nat × va_E)} {N : ac_hp → Prop} {ki : Nat → ClassId}
theorem nwl_nil (F : ac_hp) : nwl F [] F := ⟨fun p h => absurd h List.not_mem_nil, List.nodup_nil, fun _ _ => rfl⟩
theorem nwl_app (h1 : nwl F L1 f1) (h2 : nwl f1 L2 f2) : nwl F (L1 ++ L2) f2 := by
  have hdis : ∀ p ∈ L1, ∀ p' ∈ L2, p.1 ≠ p'.1 := fun p hp p' hp' e => by
    have a := (h1.1 p hp).2
    have b := (h2.1 p' hp').1
    rw [e, b] at a
    cases a
  refine ⟨fun p hp => ?_, ?_, fun q hq => ?_⟩
  · rcases List.mem_append.mp hp with h | h
    · refine ⟨(h1.1 p h).1, ?_⟩
      rw [h2.2.2 p.1 (fun z => by
        obtain ⟨p', hp', e⟩ := List.mem_map.mp z
        exact hdis p h p' hp' e.symm)]
      exact (h1.1 p h).2
    · refine ⟨?_, (h2.1 p h).2⟩
      rw [← h1.2.2 p.1 (fun z => by
        obtain ⟨p', hp', e⟩ := List.mem_map.mp z
        exact hdis p' hp' p h e)]
      exact (h2.1 p h).1
  · rw [List.map_append]
    refine List.nodup_append.mpr ⟨h1.2.1, h2.2.1, fun a ha b hb e => ?_⟩
    obtain ⟨p, hp, rfl⟩ := List.mem_map.mp ha
    obtain ⟨p', hp', rfl⟩ := List.mem_map.mp hb
    exact hdis p hp p' hp' e
  · rw [List.map_append] at hq
    rw [h2.2.2 q (fun z => hq (List.mem_append_right _ z)), h1.2.2 q (fun z => hq (List.mem_append_left _ z))]
theorem nwl_one {q : Nat} (hq : f q = none) (e : va_E) : nwl f [(q, e)] (ac_up f q e) := by
  refine ⟨fun p hp => ?_, by simp, fun r hr => ac_up_ne _ _ (fun z => hr (by simp [z]))⟩
  rw [List.mem_singleton] at hp
  subst hp
  exact ⟨hq, ac_up_self _ _ _⟩
theorem nwl_get {k a : Nat} {e : va_E} (h : nwl F L f) (hk : L[k]? = some (a, e)) : f a = some e := (h.1 (a, e) (List.mem_of_getElem? hk)).2
theorem nwl_set {k a : Nat} {e : va_E} (h : nwl F L f) (hk : L[k]? = some (a, e)) (e' : va_E) : nwl F (L.set k (a, e')) (ac_up f a e') := by
  have hmap : (L.set k (a, e')).map Prod.fst = L.map Prod.fst := by
    rw [List.map_set]
    refine List.ext_getElem? (fun j => ?_)
    by_cases hj : k = j
    · subst hj
      rw [List.getElem?_set_self (by rw [List.length_map]; exact (List.getElem?_eq_some_iff.mp hk).1), List.getElem?_map, hk]
      rfl
    · rw [List.getElem?_set_ne hj]
  have hlt : k < L.length := (List.getElem?_eq_some_iff.mp hk).1
  refine ⟨fun p hp => ?_, by rw [hmap]; exact h.2.1, fun q hq => ?_⟩
  · obtain ⟨j, hj⟩ := List.mem_iff_getElem?.mp hp
    by_cases hjk : k = j
    · subst hjk
      rw [List.getElem?_set_self hlt] at hj
      cases hj
      exact ⟨(h.1 (a, e) (List.mem_of_getElem? hk)).1, ac_up_self _ _ _⟩
    · rw [List.getElem?_set_ne hjk] at hj
      have hm := List.mem_of_getElem? hj
      refine ⟨(h.1 p hm).1, ?_⟩
      rw [ac_up_ne _ _ (fun z => hjk ?_)]
      · exact (h.1 p hm).2
      · have h1 : (L.map Prod.fst)[k]? = some a := by rw [List.getElem?_map, hk]; rfl
        have h2 : (L.map Prod.fst)[j]? = some a := by rw [List.getElem?_map, hj, ← z]; rfl
        exact (List.getElem?_inj (by rw [List.length_map]; exact hlt) h.2.1).mp (h1.trans h2.symm)
  · rw [hmap] at hq
    rw [ac_up_ne _ _ (fun z => hq (by rw [z]; exact List.mem_map.mpr ⟨(a, e), List.mem_of_getElem? hk, rfl⟩))]
    exact h.2.2 q hq
/-- an object's field gets a new array -/
theorem st_arr {r ci k : Nat} {fs : List Value} {e : va_E} {A B : Prop} (h : nwl F ((r, .inr (ci, fs)) :: L) f) (hk : k < fs.length) (hA : A) (hB : B) (kk : ∀ q f', nwl F ((r, .inr (ci, fs.set k (.ref q))) :: (L ++ [(q, e)])) f' → N f') : (A ∧ B) ∧ ∀ q : Nat, f q = none → ∀ f1 : ac_hp, f1 = ac_up f q e → ∃ f2 : ac_hp, hw_f f1 r ci k (.ref q) f2 ∧ N f2 := by
  refine ⟨⟨hA, hB⟩, fun q hq f1 e1 => ?_⟩
  subst e1
  have h1 := nwl_app h (nwl_one hq e)
  exact ⟨_, ⟨fs, nwl_get (k := 0) h1 rfl, hk, rfl⟩, kk q _ (nwl_set (k := 0) h1 rfl _)⟩
theorem st_fld {r ci k : Nat} {fs : List Value} {v : Value} (h : nwl F ((r, .inr (ci, fs)) :: L) f) (hk : k < fs.length) (kk : ∀ f', nwl F ((r, .inr (ci, fs.set k v)) :: L) f' → N f') : ∃ f2 : ac_hp, hw_f f r ci k v f2 ∧ N f2 :=
  ⟨_, ⟨fs, nwl_get (k := 0) h rfl, hk, rfl⟩, kk _ (nwl_set (k := 0) h rfl _)⟩
/-- an object is made: its own part of the world begins -/
theorem st_new {A B : Prop} {N : Nat → ac_hp → Prop} {e : va_E} (hA : A) (hB : B) (kk : ∀ q f', f q = none → nwl f [(q, e)] f' → N q f') : (A ∧ B) ∧ ∀ q : Nat, f q = none → ∀ f1 : ac_hp, f1 = ac_up f q e → N q f1 := by
  refine ⟨⟨hA, hB⟩, fun q hq f1 e1 => ?_⟩
  subst e1
  exact kk q _ hq (nwl_one hq e)
theorem st_rd {r ci k : Nat} {fs : List Value} {v : Value} (h : nwl F ((r, .inr (ci, fs)) :: L) f) (hk : fs[k]? = some v) : hr_f f r ci k v := ⟨fs, nwl_get (k := 0) h rfl, hk⟩
theorem in_X2 {r : Nat} {Q : ac_hp → Prop} (h : nwl F [(r, .inr (2, [.null, .null, .int 0]))] f) (kk : ∀ q1 q2 f', nwl F [(r, .inr (2, [.ref q1, .ref q2, .int 0])), (q1, .inl (ki 0, 60, .inl (fun _ => 0))), (q2, .inl (ki 1, 3, .inl (fun _ => 0)))] f' → Q f') : wp_X2_init ki r f Q := by
  unfold wp_X2_init
  refine st_arr h (Nat.le_of_ble_eq_true rfl) (by decide) (by decide) (fun q1 f1 h => ?_)
  refine st_arr h (Nat.le_of_ble_eq_true rfl) (by decide) (by decide) (fun q2 f2 h => ?_)
  refine st_fld h (Nat.le_of_ble_eq_true rfl) (fun f3 h => ?_)
  exact ⟨⟨by decide, by decide⟩, kk q1 q2 f3 h⟩
theorem in_X3 {r : Nat} {Q : ac_hp → Prop} (h : nwl F [(r, .inr (3, [.null, .null, .int 0, .int 0]))] f) (kk : ∀ q1 q2 f', nwl F [(r, .inr (3, [.ref q1, .ref q2, .int 0, .int 0])), (q1, .inl (ki 0, 2, .inl (fun _ => 0))), (q2, .inl (ki 0, 2, .inl (fun _ => 0)))] f' → Q f') : wp_X3_init ki r f Q := by
  unfold wp_X3_init
  refine st_arr h (Nat.le_of_ble_eq_true rfl) (by decide) (by decide) (fun q1 f1 h => ?_)
  refine st_arr h (Nat.le_of_ble_eq_true rfl) (by decide) (by decide) (fun q2 f2 h => ?_)
  refine st_fld h (Nat.le_of_ble_eq_true rfl) (fun f3 h => ?_)
  refine st_fld h (Nat.le_of_ble_eq_true rfl) (fun f3 h => ?_)
  exact ⟨⟨by decide, by decide⟩, kk q1 q2 f3 h⟩
theorem in_X5 {r r1 r2 : Nat} {Q : ac_hp → Prop} (h : nwl F [(r, .inr (5, [.null, .null, .null, .null, .null, .int 0, .int 0, .int 0]))] f) (kk : ∀ q1 q2 q3 f', nwl F [(r, .inr (5, [.ref r1, .ref r2, .ref q1, .ref q2, .ref q3, .int 0, .int 0, .int 0])), (q1, .inl (ki 0, 600, .inl (fun _ => 0))), (q2, .inl (ki 0, 4, .inl (fun _ => 0))), (q3, .inl (ki 0, 6, .inl (fun _ => 0)))] f' → Q f') : wp_X5_init ki r r1 r2 f Q := by
  unfold wp_X5_init
  refine st_arr h (Nat.le_of_ble_eq_true rfl) (by decide) (by decide) (fun q1 f1 h => ?_)
  refine st_arr h (Nat.le_of_ble_eq_true rfl) (by decide) (by decide) (fun q2 f2 h => ?_)
  refine st_arr h (Nat.le_of_ble_eq_true rfl) (by decide) (by decide) (fun q3 f3 h => ?_)
  refine st_fld h (Nat.le_of_ble_eq_true rfl) (fun f3 h => ?_)
  refine st_fld h (Nat.le_of_ble_eq_true rfl) (fun f3 h => ?_)
  refine st_fld h (Nat.le_of_ble_eq_true rfl) (fun f3 h => ?_)
  refine st_fld h (Nat.le_of_ble_eq_true rfl) (fun f3 h => ?_)
  refine st_fld h (Nat.le_of_ble_eq_true rfl) (fun f3 h => ?_)
  exact ⟨⟨by decide, by decide⟩, kk q1 q2 q3 f3 h⟩
theorem in_X6 {r r1 r2 r3 : Nat} {Q : ac_hp → Prop} (h : nwl F [(r, .inr (6, [.null, .null, .null, .null, .int 0]))] f) (kk : ∀ q1 f', nwl F [(r, .inr (6, [.ref r1, .ref r2, .ref r3, .ref q1, .int 0])), (q1, .inl (ki 0, 4, .inl (fun _ => 0)))] f' → Q f') : wp_X6_init ki r r1 r2 r3 f Q := by
  unfold wp_X6_init
  refine st_arr h (Nat.le_of_ble_eq_true rfl) (by decide) (by decide) (fun q1 f1 h => ?_)
  refine st_fld h (Nat.le_of_ble_eq_true rfl) (fun f3 h => ?_)
  refine st_fld h (Nat.le_of_ble_eq_true rfl) (fun f3 h => ?_)
  refine st_fld h (Nat.le_of_ble_eq_true rfl) (fun f3 h => ?_)
  refine st_fld h (Nat.le_of_ble_eq_true rfl) (fun f3 h => ?_)
  exact ⟨⟨by decide, by decide⟩, kk q1 f3 h⟩
theorem in_X7 {r : Nat} {Q : ac_hp → Prop} (h : nwl F [(r, .inr (7, [.null, .null, .null, .null, .int 0, .int 0, .int 0]))] f) (kk : ∀ q1 q2 q3 q4 f', nwl F [(r, .inr (7, [.ref q1, .ref q2, .ref q3, .ref q4, .int 0, .int 0, .int 0])), (q1, .inl (ki 0, 1800, .inl (fun _ => 0))), (q2, .inl (ki 0, 300, .inl (fun _ => 0))), (q3, .inl (ki 0, 300, .inl (fun _ => 0))), (q4, .inl (ki 0, 300, .inl (fun _ => 0)))] f' → Q f') : wp_X7_init ki r f Q := by
  unfold wp_X7_init
  refine st_arr h (Nat.le_of_ble_eq_true rfl) (by decide) (by decide) (fun q1 f1 h => ?_)
  refine st_arr h (Nat.le_of_ble_eq_true rfl) (by decide) (by decide) (fun q2 f1 h => ?_)
  refine st_arr h (Nat.le_of_ble_eq_true rfl) (by decide) (by decide) (fun q3 f1 h => ?_)
  refine st_arr h (Nat.le_of_ble_eq_true rfl) (by decide) (by decide) (fun q4 f1 h => ?_)
  refine st_fld h (Nat.le_of_ble_eq_true rfl) (fun f3 h => ?_)
  refine st_fld h (Nat.le_of_ble_eq_true rfl) (fun f3 h => ?_)
  refine st_fld h (Nat.le_of_ble_eq_true rfl) (fun f3 h => ?_)
  exact ⟨⟨by decide, by decide⟩, kk q1 q2 q3 q4 f3 h⟩
theorem in_X8 {r r1 r2 r3 r4 : Nat} {Q : ac_hp → Prop} (h : nwl F [(r, .inr (8, [.null, .null, .null, .null, .null, .null, .null, .null, .null, .null, .null, .null, .int 0]))] f)
    (kk : ∀ q1 q2 q3 q4 q5 q6 q7 q8 f', nwl F [(r, .inr (8, [.ref r1, .ref r2, .ref r3, .ref r4, .ref q1, .ref q2, .ref q3, .ref q4, .ref q5, .ref q6, .ref q7, .ref q8, .int 0])), (q1, .inl (ki 0, 4, .inl (fun _ => 0))), (q2, .inl (ki 0, 4, .inl (fun _ => 0))), (q3, .inl (ki 0, 24, .inl (fun _ => 0))), (q4, .inl (ki 0, 80, .inl (fun _ => 0))), (q5, .inl (ki 0, 4, .inl (fun _ => 0))), (q6, .inl (ki 0, 4, .inl (fun _ => 0))), (q7, .inl (ki 0, 6, .inl (fun _ => 0))), (q8, .inl (ki 0, 6, .inl (fun _ => 0)))] f' → Q f') : wp_X8_init ki r r1 r2 r3 r4 f Q := by
  unfold wp_X8_init
  refine st_arr h (Nat.le_of_ble_eq_true rfl) (by decide) (by decide) (fun q1 f1 h => ?_)
  refine st_arr h (Nat.le_of_ble_eq_true rfl) (by decide) (by decide) (fun q2 f1 h => ?_)
  refine st_arr h (Nat.le_of_ble_eq_true rfl) (by decide) (by decide) (fun q3 f1 h => ?_)
  refine st_arr h (Nat.le_of_ble_eq_true rfl) (by decide) (by decide) (fun q4 f1 h => ?_)
  refine st_arr h (Nat.le_of_ble_eq_true rfl) (by decide) (by decide) (fun q5 f1 h => ?_)
  refine st_arr h (Nat.le_of_ble_eq_true rfl) (by decide) (by decide) (fun q6 f1 h => ?_)
  refine st_arr h (Nat.le_of_ble_eq_true rfl) (by decide) (by decide) (fun q7 f1 h => ?_)
  refine st_arr h (Nat.le_of_ble_eq_true rfl) (by decide) (by decide) (fun q8 f1 h => ?_)
  refine st_fld h (Nat.le_of_ble_eq_true rfl) (fun f3 h => ?_)
  refine st_fld h (Nat.le_of_ble_eq_true rfl) (fun f3 h => ?_)
  refine st_fld h (Nat.le_of_ble_eq_true rfl) (fun f3 h => ?_)
  refine st_fld h (Nat.le_of_ble_eq_true rfl) (fun f3 h => ?_)
  refine st_fld h (Nat.le_of_ble_eq_true rfl) (fun f3 h => ?_)
  exact ⟨⟨by decide, by decide⟩, kk q1 q2 q3 q4 q5 q6 q7 q8 f3 h⟩
/-- the first k of an array told -/
def fl9 (k : Nat) : Nat → Int32 := fun j => if j < k then 9999 else 0
theorem fl9_succ (k : Nat) : upd (fl9 k) k 9999 = fl9 (k + 1) := by
  funext j
  unfold upd fl9
  by_cases h : j = k
  · simp [h]
  · by_cases h2 : j < k
    · simp [h, h2, show j < k + 1 by omega]
    · simp [h, h2, show ¬ j < k + 1 by omega]
theorem in_X4 {r : Nat} {Q : ac_hp → Prop} (h : nwl F [(r, .inr (4, [.null, .null, .null, .null, .int 0, .int 0]))] f) (kk : ∀ q1 q2 q3 q4 f', nwl F [(r, .inr (4, [.ref q1, .ref q2, .ref q3, .ref q4, .int 0, .int 0])), (q1, .inl (ki 0, 4, .inl (fun _ => 0))), (q2, .inl (ki 0, 8, .inl (fun _ => 0))), (q3, .inl (ki 0, 6, .inl (fun _ => 0))), (q4, .inl (ki 0, 6, .inl (fl9 6)))] f' → Q f') : wp_X4_init ki r f Q := by
  unfold wp_X4_init
  refine st_arr h (Nat.le_of_ble_eq_true rfl) (by decide) (by decide) (fun q1 f1 h => ?_)
  refine st_arr h (Nat.le_of_ble_eq_true rfl) (by decide) (by decide) (fun q2 f1 h => ?_)
  refine st_arr h (Nat.le_of_ble_eq_true rfl) (by decide) (by decide) (fun q3 f1 h => ?_)
  refine st_arr h (Nat.le_of_ble_eq_true rfl) (by decide) (by decide) (fun q4 f1 h => ?_)
  refine st_fld h (Nat.le_of_ble_eq_true rfl) (fun f3 h => ?_)
  refine st_fld h (Nat.le_of_ble_eq_true rfl) (fun f3 h => ⟨7, ?_⟩)
  have key : ∀ (d k : Nat) (f : ac_hp), d + k = 6 → nwl F [(r, .inr (4, [.ref q1, .ref q2, .ref q3, .ref q4, .int 0, .int 0])), (q1, .inl (ki 0, 4, .inl (fun _ => 0))), (q2, .inl (ki 0, 8, .inl (fun _ => 0))), (q3, .inl (ki 0, 6, .inl (fun _ => 0))), (q4, .inl (ki 0, 6, .inl (fl9 k)))] f → wp_X4_init_L47 ki r (fun kc20 ks21 f19 => (kc20 ≤ 4 ∧ ks21 ≤ 24) ∧ Q f19) (d + 1) (nI k) 4 24 f := by
    intro d
    induction d with
    | zero =>
      intro k f hk h
      rw [wp_X4_init_L47]
      have e : k = 6 := by omega
      subst e
      exact ⟨fun _ => ⟨⟨by decide, by decide⟩, kk q1 q2 q3 q4 f h⟩, fun z => absurd (nI_le (a := 6) (b := 6) (by omega) (by omega)) z⟩
    | succ d ih =>
      intro k f hk h
      rw [wp_X4_init_L47]
      refine ⟨fun z => absurd z (nI_ge (a := k) (b := 6) (by omega) (by omega)), fun _ => ⟨q4, st_rd h rfl, _, ⟨6, fl9 k, nwl_get (k := 4) h rfl, vp_in_nI (by omega) (by omega), rfl⟩, fun v hv => ?_⟩⟩
      rw [hv, nI_1, nI_clamp (by omega), fl9_succ]
      exact ih (k + 1) _ (by omega) (nwl_set (k := 4) h rfl _)
  exact key 6 0 f3 rfl h
end NW
