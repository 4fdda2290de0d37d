/-! what a union tells: one set for both sides -/
def CU (s : Nat → Nat → Int32) (n : Nat) (t : Nat → Nat) (c tm : Nat → Nat → Nat) (nn : Nat → Nat → Nat → Nat) (sz : Nat → Nat) (w : Nat → Nat) : Prop := ∃ g ct, SL (one_ s t c) n g ct ∧ uans s n g t c tm nn sz w
theorem uans_cg {s : Nat → Nat → Int32} {n : Nat} {g t g' t' : Nat → Nat} {c tm c' tm' : Nat → Nat → Nat} {nn : Nat → Nat → Nat → Nat} {sz : Nat → Nat} {w : Nat → Nat} (h : uans s n g t c tm nn sz w) (e : ∀ a, a < n → g' a = g a ∧ t' a = t a ∧ c' a = c a ∧ tm' a = tm a) : uans s n g' t' c' tm' nn sz w := by
  obtain ⟨R, h1, h2⟩ := h
  refine ⟨R, fun a ha => ?_, h2⟩
  obtain ⟨e1, e2, e3, e4⟩ := e a ha
  rw [e1, e2, e3, e4]
  exact h1 a ha
theorem CU_i {s : Nat → Nat → Int32} {n : Nat} {t : Nat → Nat} {c tm : Nat → Nat → Nat} {nn : Nat → Nat → Nat → Nat} {sz : Nat → Nat} {w w' : Nat → Nat} (h : CU s n t c tm nn sz w) (h' : CU s n t c tm nn sz w') (e : vec6 w w') : w = w' := by
  obtain ⟨g, ct, -, R, -, h2⟩ := h
  obtain ⟨g', ct', -, R', -, h2'⟩ := h'
  funext v
  by_cases hv : v < 6
  · exact e v hv
  · rw [h2 v (fun a _ p _ z => hv z.1), h2' v (fun a _ p _ z => hv z.1)]
theorem CU_g {s : Nat → Nat → Int32} {n ct : Nat} {g t : Nat → Nat} {c tm : Nat → Nat → Nat} {nn : Nat → Nat → Nat → Nat} {sz : Nat → Nat} {w : Nat → Nat} (hg : SL (one_ s t c) n g ct) : CU s n t c tm nn sz w ↔ uans s n g t c tm nn sz w := by
  refine ⟨fun ⟨g', ct', h1, h2⟩ => ?_, fun h => ⟨g, ct, hg, h⟩⟩
  obtain ⟨-, e⟩ := SL_det hg h1
  exact uans_cg h2 (fun a ha => ⟨e a ha, rfl, rfl, rfl⟩)
theorem one_cg {s : Nat → Nat → Int32} {n : Nat} {t t' : Nat → Nat} {c c' : Nat → Nat → Nat} (e : ∀ a, a < n → t' a = t a ∧ c' a = c a) : ∀ a b, a < n → b < n → (one_ s t c a b ↔ one_ s t' c' a b) := fun a b ha hb => by
  unfold one_
  rw [(e a ha).1, (e a ha).2, (e b hb).1, (e b hb).2]
theorem CU_cg {s : Nat → Nat → Int32} {n : Nat} {t t' : Nat → Nat} {c tm c' tm' : Nat → Nat → Nat} {nn : Nat → Nat → Nat → Nat} {sz : Nat → Nat} {w : Nat → Nat} (e : ∀ a, a < n → t' a = t a ∧ c' a = c a ∧ tm' a = tm a) (h : CU s n t c tm nn sz w) : CU s n t' c' tm' nn sz w := by
  obtain ⟨g, ct, h1, h2⟩ := h
  exact ⟨g, ct, SL_cg h1 (one_cg (fun a ha => ⟨(e a ha).1, (e a ha).2.1⟩)), uans_cg h2 (fun a ha => ⟨rfl, e a ha⟩)⟩
/-- union u's set: k is the number whose digits are its choice -/
def RT (s : Nat → Nat → Int32) (n mc : Nat) (mt : Nat → Nat) (ml mtm : Nat → Nat → Nat) (nn : Nat → Nat → Nat → Nat) (sz : Nat → Nat) (K : List Nat) (u : Nat) (w : Nat → Nat) : Prop := CU s n (fun a => mt (dg mc n (K.getD u 0) a)) (fun a => ml (dg mc n (K.getD u 0) a)) (fun a => mtm (dg mc n (K.getD u 0) a)) nn sz w
section FI11
variable {s s2 t : Nat → Nat → Int32} {sz : Nat → Nat} {nn : Nat → Nat → Nat → Nat} {kk : Nat → Nat → Int32} {mc n sp : Nat} {mt pr : Nat → Nat} {ml mtm : Nat → Nat → Nat}
theorem unm_dg {u a : Nat} (hl : ML s t mc n sp) (hn : n ≤ 4) (hu : u < (mL t mc n (mc ^ n)).length) (ha : a < n) : unm s n mc u a = dg mc n ((mL t mc n (mc ^ n)).getD u 0) a := by
  unfold unm
  rw [un_eq hl hn]
  generalize mL t mc n (mc ^ n) = K at hu ⊢
  rw [List.getD_eq_getElem?_getD, List.getD_eq_getElem?_getD, List.getD_eq_getElem?_getD, List.getElem?_map, List.getElem?_eq_getElem hu]
  unfold dgs
  simp [ha]
theorem isL_RT {u : Nat} {L : List (Nat → Nat)} (hl : ML s t mc n sp) (hn : n ≤ 4) (hu : u < (mL t mc n (mc ^ n)).length) (e7 : s2 7 = s 7) (e8 : s2 8 = s 8) (e9 : s2 9 = s 9) (e32 : ∀ i, 30 ≤ i → s2 i = s i)
    (h : isL s2 n (fun u a => mt (unm s n mc u a)) (fun u a => ml (unm s n mc u a)) (fun u a => mtm (unm s n mc u a)) nn sz u L) : L.Nodup ∧ ∀ w, w ∈ L ↔ RT s n mc mt ml mtm nn sz (mL t mc n (mc ^ n)) u w := by
  obtain ⟨g, ct, h1, h2, h3⟩ := h
  refine ⟨h2, fun w => ?_⟩
  have h1' : SL (one_ s (fun a => mt (unm s n mc u a)) (fun a => ml (unm s n mc u a))) n g ct := SL_congr h1 (fun _ _ => rfl) (fun a b => by
    unfold one_ oneR pr1; rw [e7, e32 _ (by omega)])
  have ed : ∀ a, a < n → unm s n mc u a = dg mc n ((mL t mc n (mc ^ n)).getD u 0) a := fun a ha => unm_dg hl hn hu ha
  have q : w ∈ L ↔ CU s n (fun a => mt (unm s n mc u a)) (fun a => ml (unm s n mc u a)) (fun a => mtm (unm s n mc u a)) nn sz w := by
    rw [CU_g h1', ← uans_eq (s' := s2) e7 e8 e9]
    exact h3 w
  unfold RT
  exact q.trans ⟨CU_cg (fun a ha => by simp only [ed a ha, and_self]), CU_cg (fun a ha => by simp only [ed a ha, and_self])⟩
theorem mL_m {u : Nat} (hu : u < (mL t mc n (mc ^ n)).length) : (mL t mc n (mc ^ n)).getD u 0 < mc ^ n ∧ ∃ q, rst t (dg mc n ((mL t mc n (mc ^ n)).getD u 0)) n = some q := by
  have hm : (mL t mc n (mc ^ n)).getD u 0 ∈ mL t mc n (mc ^ n) := by
    rw [List.getD_eq_getElem?_getD, List.getElem?_eq_getElem hu]; exact List.getElem_mem hu
  generalize (mL t mc n (mc ^ n)).getD u 0 = k at hm ⊢
  unfold mL at hm
  obtain ⟨h1, h2⟩ := List.mem_filter.mp hm
  refine ⟨List.mem_range.mp h1, ?_⟩
  exact Option.isSome_iff_exists.mp h2
theorem one_M {c : Nat → Nat} (hl : ML s t mc n sp) (hr : RM t mc mt pr ml mtm) (hk : ∀ t c, t < 4 → c < 3 → s (32 + 3 * t) c = kk t c) (hc : ∀ a, a < n → c a < mc) : ∀ a b, a < n → b < n → (oneM t kk mt ml c a b ↔ one_ s (fun a => mt (c a)) (fun a => ml (c a)) a b) := fun a b ha hb => by
  unfold oneM one_ oneR pkR pr1
  have e : ∀ i, i < 2 → s (32 + 3 * mt (c a)) (ml (c a) i) = kk (mt (c a)) (ml (c a) i) := fun i hi => by
    obtain ⟨a1, -, -, -, a5⟩ := hr (c a) (hc a ha)
    exact hk _ _ a1 (a5 i hi).2.2.1
  have e9 : ∀ x, x < n → ∀ i, i < 2 → t 9 (2 * x + i) = s 7 (x * 2 + i) := fun x hx i hi => (hl.2.1 x hx).2.2 i hi
  constructor
  · rintro ⟨z, i, hi, j, hj, y1, y2, y3⟩
    exact ⟨z, i, hi, j, hj, y1, by rw [e i hi]; exact y2, by rw [← e9 a ha i hi, ← e9 b hb j hj]; exact y3⟩
  · rintro ⟨z, i, hi, j, hj, y1, y2, y3⟩
    exact ⟨z, i, hi, j, hj, y1, by rw [← e i hi]; exact y2, by rw [e9 a ha i hi, e9 b hb j hj]; exact y3⟩
end FI11
