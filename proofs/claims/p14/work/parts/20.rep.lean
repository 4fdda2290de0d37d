/-! THE CLASS'S WORLD, BY CELL NUMBERS: ad gives a cell's address, s its ints (s i k: int k of cell i), tl the longs of the triples. -/
def vr_lay (ki : Nat → ClassId) (ad : Nat → Nat) (s : Nat → Nat → Int32) (tl : Nat → Int64) (i : Nat) : va_E :=
  match i with
  | 0 => .inr (0, [.ref (ad 1), .ref (ad 5), .ref (ad 10), .ref (ad 14), .ref (ad 16), .ref (ad 21)])
  | 1 => .inr (1, [.ref (ad 2), .ref (ad 3), .ref (ad 4), .int (s 1 3), .int (s 1 4)])
  | 2 => .inl (ki 3, 4, .inr (.inr (.inr (.inr (fun j => if j < 4 then some (ad (30 + 3 * j)) else none)))))
  | 3 => .inl (ki 4, 12, .inr (.inr (.inr (.inr (fun j => if j < 12 then some (ad (42 + 3 * j)) else none)))))
  | 4 => .inl (ki 2, 240, .inr (.inl tl))
  | 5 => .inr (4, [.ref (ad 6), .ref (ad 7), .ref (ad 8), .ref (ad 9), .int (s 5 4), .int (s 5 5)])
  | 6 => .inl (ki 0, 4, .inl (s 6))
  | 7 => .inl (ki 0, 8, .inl (s 7))
  | 8 => .inl (ki 0, 6, .inl (s 8))
  | 9 => .inl (ki 0, 6, .inl (s 9))
  | 10 => .inr (5, [.ref (ad 1), .ref (ad 5), .ref (ad 11), .ref (ad 12), .ref (ad 13), .int (s 10 5), .int (s 10 6), .int (s 10 7)])
  | 11 => .inl (ki 0, 600, .inl (s 11))
  | 12 => .inl (ki 0, 4, .inl (s 12))
  | 13 => .inl (ki 0, 6, .inl (s 13))
  | 14 => .inr (6, [.ref (ad 1), .ref (ad 5), .ref (ad 10), .ref (ad 15), .int (s 14 4)])
  | 15 => .inl (ki 0, 4, .inl (s 15))
  | 16 => .inr (7, [.ref (ad 17), .ref (ad 18), .ref (ad 19), .ref (ad 20), .int (s 16 4), .int (s 16 5), .int (s 16 6)])
  | 17 => .inl (ki 0, 1800, .inl (s 17))
  | 18 => .inl (ki 0, 300, .inl (s 18))
  | 19 => .inl (ki 0, 300, .inl (s 19))
  | 20 => .inl (ki 0, 300, .inl (s 20))
  | 21 => .inr (8, [.ref (ad 5), .ref (ad 10), .ref (ad 14), .ref (ad 16), .ref (ad 22), .ref (ad 23), .ref (ad 24), .ref (ad 25), .ref (ad 26), .ref (ad 27), .ref (ad 28), .ref (ad 29), .int (s 21 12)])
  | 22 => .inl (ki 0, 4, .inl (s 22))
  | 23 => .inl (ki 0, 4, .inl (s 23))
  | 24 => .inl (ki 0, 24, .inl (s 24))
  | 25 => .inl (ki 0, 80, .inl (s 25))
  | 26 => .inl (ki 0, 4, .inl (s 26))
  | 27 => .inl (ki 0, 4, .inl (s 27))
  | 28 => .inl (ki 0, 6, .inl (s 28))
  | 29 => .inl (ki 0, 6, .inl (s 29))
  | n => if n < 42 then (match (n - 30) % 3 with
        | 0 => .inr (2, [.ref (ad (n + 1)), .ref (ad (n + 2)), .int (s n 2)])
        | 1 => .inl (ki 0, 60, .inl (s n))
        | _ => .inl (ki 1, 3, .inl (s n)))
      else (match (n - 42) % 3 with
        | 0 => .inr (3, [.ref (ad (n + 1)), .ref (ad (n + 2)), .int (s n 2), .int (s n 3)])
        | _ => .inl (ki 0, 2, .inl (s n)))
/-- the world holds the class's cells; elsewhere it is F -/
def vr_R (F : ac_hp) (ki : Nat → ClassId) (ad : Nat → Nat) (s : Nat → Nat → Int32) (tl : Nat → Int64) (f : ac_hp) : Prop :=
  (∀ i, i < 78 → f (ad i) = some (vr_lay ki ad s tl i)) ∧ (∀ i j, i < 78 → j < 78 → ad i = ad j → i = j) ∧ ∀ q, (∀ i, i < 78 → ad i ≠ q) → f q = F q
section VR
variable {F : ac_hp} {ki : Nat → ClassId} {ad : Nat → Nat} {s : Nat → Nat → Int32} {tl : Nat → Int64} {f : ac_hp}
theorem lay_T {t : Nat} (ht : t < 4) : vr_lay ki ad s tl (30 + 3 * t) = .inr (2, [.ref (ad (31 + 3 * t)), .ref (ad (32 + 3 * t)), .int (s (30 + 3 * t) 2)]) := by
  rcases (show t = 0 ∨ t = 1 ∨ t = 2 ∨ t = 3 by omega) with rfl | rfl | rfl | rfl <;> rfl
theorem lay_Tc {t : Nat} (ht : t < 4) : vr_lay ki ad s tl (31 + 3 * t) = .inl (ki 0, 60, .inl (s (31 + 3 * t))) := by
  rcases (show t = 0 ∨ t = 1 ∨ t = 2 ∨ t = 3 by omega) with rfl | rfl | rfl | rfl <;> rfl
theorem lay_Tk {t : Nat} (ht : t < 4) : vr_lay ki ad s tl (32 + 3 * t) = .inl (ki 1, 3, .inl (s (32 + 3 * t))) := by
  rcases (show t = 0 ∨ t = 1 ∨ t = 2 ∨ t = 3 by omega) with rfl | rfl | rfl | rfl <;> rfl
theorem lay_M {m : Nat} (hm : m < 12) : vr_lay ki ad s tl (42 + 3 * m) = .inr (3, [.ref (ad (43 + 3 * m)), .ref (ad (44 + 3 * m)), .int (s (42 + 3 * m) 2), .int (s (42 + 3 * m) 3)]) := by
  rcases (show m = 0 ∨ m = 1 ∨ m = 2 ∨ m = 3 ∨ m = 4 ∨ m = 5 ∨ m = 6 ∨ m = 7 ∨ m = 8 ∨ m = 9 ∨ m = 10 ∨ m = 11 by omega) with rfl | rfl | rfl | rfl | rfl | rfl | rfl | rfl | rfl | rfl | rfl | rfl <;> rfl
theorem lay_Mt {m : Nat} (hm : m < 12) : vr_lay ki ad s tl (43 + 3 * m) = .inl (ki 0, 2, .inl (s (43 + 3 * m))) := by
  rcases (show m = 0 ∨ m = 1 ∨ m = 2 ∨ m = 3 ∨ m = 4 ∨ m = 5 ∨ m = 6 ∨ m = 7 ∨ m = 8 ∨ m = 9 ∨ m = 10 ∨ m = 11 by omega) with rfl | rfl | rfl | rfl | rfl | rfl | rfl | rfl | rfl | rfl | rfl | rfl <;> rfl
theorem lay_Mc {m : Nat} (hm : m < 12) : vr_lay ki ad s tl (44 + 3 * m) = .inl (ki 0, 2, .inl (s (44 + 3 * m))) := by
  rcases (show m = 0 ∨ m = 1 ∨ m = 2 ∨ m = 3 ∨ m = 4 ∨ m = 5 ∨ m = 6 ∨ m = 7 ∨ m = 8 ∨ m = 9 ∨ m = 10 ∨ m = 11 by omega) with rfl | rfl | rfl | rfl | rfl | rfl | rfl | rfl | rfl | rfl | rfl | rfl <;> rfl
theorem lay_congr {s' : Nat → Nat → Int32} {tl' : Nat → Int64} {i : Nat} (h : s' i = s i) (ht : i = 4 → tl' = tl) : vr_lay ki ad s' tl' i = vr_lay ki ad s tl i := by
  unfold vr_lay
  split <;> first | rfl | (simp only [h]; done) | (rw [ht rfl]; done) | (split <;> split <;> simp only [h])
theorem rd_f {i ci k : Nat} {fs : List Value} {v : Value} (h : vr_R F ki ad s tl f) (hi : i < 78) (hl : vr_lay ki ad s tl i = .inr (ci, fs)) (hk : fs[k]? = some v) : hr_f f (ad i) ci k v := ⟨fs, by rw [h.1 i hi, hl], hk⟩
theorem rd_o {i ci : Nat} {fs : List Value} (h : vr_R F ki ad s tl f) (hi : i < 78) (hl : vr_lay ki ad s tl i = .inr (ci, fs)) : hr_o f (ad i) ci := ⟨fs, by rw [h.1 i hi, hl]⟩
theorem rd_i {i n j : Nat} {c : ClassId} {x : Int32} (h : vr_R F ki ad s tl f) (hi : i < 78) (hl : vr_lay ki ad s tl i = .inl (c, n, .inl (s i))) (hx : x = nI j) (hj : j < n) (hn : n < 2 ^ 31) : hr_i c f (ad i) x (s i j) := by
  subst hx
  exact ⟨n, s i, by rw [h.1 i hi, hl], vp_in_nI hj hn, by rw [nI_clamp (by omega)]⟩
theorem rd_q {i n j r : Nat} {c : ClassId} {g : Nat → Option Nat} {x : Int32} (h : vr_R F ki ad s tl f) (hi : i < 78) (hl : vr_lay ki ad s tl i = .inl (c, n, .inr (.inr (.inr (.inr g))))) (hx : x = nI j) (hj : j < n) (hn : n < 2 ^ 31) (hg : g j = some r) : hr_q c f (ad i) x r := by
  subst hx
  exact ⟨n, g, by rw [h.1 i hi, hl], vp_in_nI hj hn, by rw [nI_clamp (by omega)]; exact hg⟩
/-- a cell's ints change -/
theorem vr_up {i : Nat} {w : Nat → Int32} {e : va_E} (h : vr_R F ki ad s tl f) (hi : i < 78) (he : e = vr_lay ki ad (va_up s i w) tl i) : vr_R F ki ad (va_up s i w) tl (ac_up f (ad i) e) := by
  refine ⟨fun j hj => ?_, h.2.1, fun q hq => by rw [ac_up_ne _ _ (fun z => hq i hi z.symm)]; exact h.2.2 q hq⟩
  by_cases hji : j = i
  · subst hji; rw [ac_up_self, he]
  · rw [ac_up_ne _ _ (fun q => hji (h.2.1 j i hj hi q)), h.1 j hj, lay_congr (va_up_ne s w hji) (fun _ => rfl)]
theorem wr_f {i ci k : Nat} {fs : List Value} {v : Int32} {N : ac_hp → Prop} (h : vr_R F ki ad s tl f) (hi : i < 78) (hl : vr_lay ki ad s tl i = .inr (ci, fs)) (hk : k < fs.length) (hs : vr_lay ki ad (va_up s i (upd (s i) k v)) tl i = .inr (ci, fs.set k (.int v))) (kk : ∀ f', vr_R F ki ad (va_up s i (upd (s i) k v)) tl f' → N f') : ∃ f', hw_f f (ad i) ci k (.int v) f' ∧ N f' :=
  ⟨_, ⟨fs, by rw [h.1 i hi, hl], hk, rfl⟩, kk _ (vr_up h hi hs.symm)⟩
theorem wr_i {i n j : Nat} {c : ClassId} {x v : Int32} {N : ac_hp → Prop} (h : vr_R F ki ad s tl f) (hi : i < 78) (hl : ∀ s', vr_lay ki ad s' tl i = .inl (c, n, .inl (s' i))) (hx : x = nI j) (hj : j < n) (hn : n < 2 ^ 31) (kk : ∀ f', vr_R F ki ad (va_up s i (upd (s i) j v)) tl f' → N f') : ∃ f', hw_i c f (ad i) x v f' ∧ N f' := by
  subst hx
  refine ⟨_, ⟨n, s i, by rw [h.1 i hi, hl], vp_in_nI hj hn, rfl⟩, ?_⟩
  rw [nI_clamp (by omega)]
  refine kk _ (vr_up h hi ?_)
  rw [hl, va_up_self]
theorem sp_cell {t r c : Nat} {Q : Int32 → ac_hp → Prop} (h : vr_R F ki ad s tl f) (ht : t < 4) (hb : r * 3 + c < 60) (hq : Q (s (31 + 3 * t) (r * 3 + c)) f) : wp_X2_cell ki (ad (30 + 3 * t)) (nI r) (nI c) f Q := by
  unfold wp_X2_cell
  refine ⟨_, rd_f h (by omega) (lay_T ht) rfl, _, rd_i h (by omega) (lay_Tc ht) ?_ hb (by omega), hq⟩
  rw [show (3 : Int32) = nI 3 from rfl, pk_mul, nI_add]
/-- does a column hold a number in its first n rows -/
def vt_has (cells : Nat → Int32) (c : Nat) (v : Int32) (n : Nat) : Prop := ∃ r, r < n ∧ cells (r * 3 + c) = v
theorem sp_holds_L {t c n : Nat} {v : Int32} {Q : Int32 → ac_hp → Prop} {E : ac_hp → Prop} (h : vr_R F ki ad s tl f) (ht : t < 4) (hn : n ≤ 20) (hc : c < 3)
    (hy : vt_has (s (31 + 3 * t)) c v n → Q 1 f) (hno : ¬ vt_has (s (31 + 3 * t)) c v n → E f) : ∀ (d r : Nat), d + r = n → (∀ q, q < r → s (31 + 3 * t) (q * 3 + c) ≠ v) → wp_X2_holds_L3 ki (ad (30 + 3 * t)) (nI c) v (nI n) Q E (d + 1) (nI r) f := by
  intro d
  induction d with
  | zero =>
    intro r hr hq
    rw [wp_X2_holds_L3]
    refine ⟨fun _ => hno ?_, fun hc => absurd (nI_le (by omega) (by omega)) hc⟩
    rintro ⟨q, hq1, hq2⟩
    exact hq q (by omega) hq2
  | succ d ih =>
    intro r hr hq
    rw [wp_X2_holds_L3]
    refine ⟨fun hle => absurd hle (nI_ge (by omega) (by omega)), fun _ => ⟨rd_o h (by omega) (lay_T ht), sp_cell h ht (by omega) ⟨fun hne => ?_, fun he => hy ⟨r, by omega, he⟩⟩⟩⟩
    intro w hw
    rw [hw, nI_1]
    exact ih (r + 1) (by omega) (fun q hq1 => by
      rcases Nat.lt_succ_iff_lt_or_eq.mp hq1 with z | z
      · exact hq q z
      · rw [z]; exact hne)
theorem sp_holds {t c n : Nat} {v : Int32} {Q : Int32 → ac_hp → Prop} (h : vr_R F ki ad s tl f) (ht : t < 4) (hn : n ≤ 20) (hc : c < 3)
    (hy : vt_has (s (31 + 3 * t)) c v n → Q 1 f) (hno : ¬ vt_has (s (31 + 3 * t)) c v n → Q 0 f) : wp_X2_holds ki (ad (30 + 3 * t)) (nI c) v (nI n) f Q := by
  unfold wp_X2_holds
  exact ⟨n + 1, sp_holds_L h ht hn hc hy hno n 0 (by omega) (fun q hq => absurd hq (by omega))⟩
end VR
