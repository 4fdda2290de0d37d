/-! THE CLASS'S CONSTRUCTOR -/
def pX (i : Nat) : Nat := if i < 5 then i else if i < 30 then i + 48 else i - 25
theorem pX_lt : ∀ i, i < 78 → pX i < 78 := by decide +kernel
theorem pX_inj : ∀ i, i < 78 → ∀ j, j < 78 → pX i = pX j → i = j := by decide +kernel
theorem pX_sur : ∀ k, k < 78 → ∃ i, i < 78 ∧ pX i = k := by
  intro k hk
  refine ⟨if k < 5 then k else if k < 53 then k + 25 else k - 48, ?_, ?_⟩
  · split
    · omega
    · split <;> omega
  · unfold pX
    split
    · rename_i h; simp [h]
    · split
      · rename_i h1 h2; rw [if_neg (by omega), if_neg (by omega)]; omega
      · rename_i h1 h2; rw [if_neg (by omega), if_pos (by omega)]; omega
theorem vr_of_nwl {F f : ac_hp} {ki : Nat → ClassId} {L : List (Nat × va_E)} {ad : Nat → Nat} {s : Nat → Nat → Int32} {tl : Nat → Int64} (h : nwl F L f) (hlen : L.length = 78) (hL : ∀ i, i < 78 → L[pX i]? = some (ad i, vr_lay ki ad s tl i)) : vr_R F ki ad s tl f ∧ ∀ i, i < 78 → F (ad i) = none := by
  have hm : ∀ i, i < 78 → (L.map Prod.fst)[pX i]? = some (ad i) := fun i hi => by rw [List.getElem?_map, hL i hi]; rfl
  refine ⟨⟨fun i hi => nwl_get h (hL i hi), fun i j hi hj e => ?_, fun q hq => h.2.2 q (fun hz => ?_)⟩, fun i hi => (h.1 _ (List.mem_of_getElem? (hL i hi))).1⟩
  · refine pX_inj i hi j hj ((List.getElem?_inj (by rw [List.length_map, hlen]; exact pX_lt i hi) h.2.1).mp ?_)
    rw [hm i hi, hm j hj, e]
  · obtain ⟨k, hk⟩ := List.mem_iff_getElem?.mp hz
    have hk2 : k < 78 := by have := (List.getElem?_eq_some_iff.mp hk).1; rw [List.length_map, hlen] at this; exact this
    obtain ⟨i, hi, rfl⟩ := pX_sur k hk2
    have := hm i hi
    rw [hk] at this
    exact hq i hi (Option.some.inj this).symm
def vs0 : Nat → Nat → Int32 := fun i => if i = 9 then fl9 6 else fun _ => 0
section X0I
variable {F f : ac_hp} {ki : Nat → ClassId} {r p1 u1 u2 u3 p5 v1 v2 v3 v4 p10 w1 w2 w3 p14 x1 p16 y1 y2 y3 y4 p21 z1 z2 z3 z4 z5 z6 z7 z8 : Nat} {a b c a2 b2 c2 : Nat → Nat}
def x0l (ki : Nat → ClassId) (r p1 u1 u2 u3 p5 v1 v2 v3 v4 p10 w1 w2 w3 p14 x1 p16 y1 y2 y3 y4 p21 z1 z2 z3 z4 z5 z6 z7 z8 : Nat) (a b c a2 b2 c2 : Nat → Nat) : List (Nat × va_E) := (r, .inr (0, [.ref p1, .ref p5, .ref p10, .ref p14, .ref p16, .ref p21])) :: (((((ctl ki p1 u1 u2 u3 4 12 a b c a2 b2 c2 ++ [(p5, .inr (4, [.ref v1, .ref v2, .ref v3, .ref v4, .int 0, .int 0])), (v1, .inl (ki 0, 4, .inl (fun _ => 0))), (v2, .inl (ki 0, 8, .inl (fun _ => 0))), (v3, .inl (ki 0, 6, .inl (fun _ => 0))), (v4, .inl (ki 0, 6, .inl (fl9 6)))]) ++ [(p10, .inr (5, [.ref p1, .ref p5, .ref w1, .ref w2, .ref w3, .int 0, .int 0, .int 0])), (w1, .inl (ki 0, 600, .inl (fun _ => 0))), (w2, .inl (ki 0, 4, .inl (fun _ => 0))), (w3, .inl (ki 0, 6, .inl (fun _ => 0)))]) ++ [(p14, .inr (6, [.ref p1, .ref p5, .ref p10, .ref x1, .int 0])), (x1, .inl (ki 0, 4, .inl (fun _ => 0)))]) ++ [(p16, .inr (7, [.ref y1, .ref y2, .ref y3, .ref y4, .int 0, .int 0, .int 0])), (y1, .inl (ki 0, 1800, .inl (fun _ => 0))), (y2, .inl (ki 0, 300, .inl (fun _ => 0))), (y3, .inl (ki 0, 300, .inl (fun _ => 0))), (y4, .inl (ki 0, 300, .inl (fun _ => 0)))]) ++ [(p21, .inr (8, [.ref p5, .ref p10, .ref p14, .ref p16, .ref z1, .ref z2, .ref z3, .ref z4, .ref z5, .ref z6, .ref z7, .ref z8, .int 0])), (z1, .inl (ki 0, 4, .inl (fun _ => 0))), (z2, .inl (ki 0, 4, .inl (fun _ => 0))), (z3, .inl (ki 0, 24, .inl (fun _ => 0))), (z4, .inl (ki 0, 80, .inl (fun _ => 0))), (z5, .inl (ki 0, 4, .inl (fun _ => 0))), (z6, .inl (ki 0, 4, .inl (fun _ => 0))), (z7, .inl (ki 0, 6, .inl (fun _ => 0))), (z8, .inl (ki 0, 6, .inl (fun _ => 0)))])
def x0a (r p1 u1 u2 u3 p5 v1 v2 v3 v4 p10 w1 w2 w3 p14 x1 p16 y1 y2 y3 y4 p21 z1 z2 z3 z4 z5 z6 z7 z8 : Nat) (a b c a2 b2 c2 : Nat → Nat) : Nat → Nat := fun i => [r, p1, u1, u2, u3, p5, v1, v2, v3, v4, p10, w1, w2, w3, p14, x1, p16, y1, y2, y3, y4, p21, z1, z2, z3, z4, z5, z6, z7, z8, a 0, b 0, c 0, a 1, b 1, c 1, a 2, b 2, c 2, a 3, b 3, c 3, a2 0, b2 0, c2 0, a2 1, b2 1, c2 1, a2 2, b2 2, c2 2, a2 3, b2 3, c2 3, a2 4, b2 4, c2 4, a2 5, b2 5, c2 5, a2 6, b2 6, c2 6, a2 7, b2 7, c2 7, a2 8, b2 8, c2 8, a2 9, b2 9, c2 9, a2 10, b2 10, c2 10, a2 11, b2 11, c2 11].getD i 0
theorem x0_2 : (fun j => if j < 4 then some (x0a r p1 u1 u2 u3 p5 v1 v2 v3 v4 p10 w1 w2 w3 p14 x1 p16 y1 y2 y3 y4 p21 z1 z2 z3 z4 z5 z6 z7 z8 a b c a2 b2 c2 (30 + 3 * j)) else none) = oT 4 a := by
  funext j
  unfold oT
  by_cases h : j < 4
  · rw [if_pos h, if_pos h]
    rcases (show j = 0 ∨ j = 1 ∨ j = 2 ∨ j = 3 by omega) with rfl | rfl | rfl | rfl <;> rfl
  · rw [if_neg h, if_neg h]
theorem x0_3 : (fun j => if j < 12 then some (x0a r p1 u1 u2 u3 p5 v1 v2 v3 v4 p10 w1 w2 w3 p14 x1 p16 y1 y2 y3 y4 p21 z1 z2 z3 z4 z5 z6 z7 z8 a b c a2 b2 c2 (42 + 3 * j)) else none) = oT 12 a2 := by
  funext j
  unfold oT
  by_cases h : j < 12
  · rw [if_pos h, if_pos h]
    rcases (show j = 0 ∨ j = 1 ∨ j = 2 ∨ j = 3 ∨ j = 4 ∨ j = 5 ∨ j = 6 ∨ j = 7 ∨ j = 8 ∨ j = 9 ∨ j = 10 ∨ j = 11 by omega) with rfl | rfl | rfl | rfl | rfl | rfl | rfl | rfl | rfl | rfl | rfl | rfl <;> rfl
  · rw [if_neg h, if_neg h]
theorem x0_len : (x0l ki r p1 u1 u2 u3 p5 v1 v2 v3 v4 p10 w1 w2 w3 p14 x1 p16 y1 y2 y3 y4 p21 z1 z2 z3 z4 z5 z6 z7 z8 a b c a2 b2 c2).length = 78 := rfl
set_option maxHeartbeats 4000000 in
set_option maxRecDepth 20000 in
theorem x0_lay : ∀ i, i < 78 → (x0l ki r p1 u1 u2 u3 p5 v1 v2 v3 v4 p10 w1 w2 w3 p14 x1 p16 y1 y2 y3 y4 p21 z1 z2 z3 z4 z5 z6 z7 z8 a b c a2 b2 c2)[pX i]? = some (x0a r p1 u1 u2 u3 p5 v1 v2 v3 v4 p10 w1 w2 w3 p14 x1 p16 y1 y2 y3 y4 p21 z1 z2 z3 z4 z5 z6 z7 z8 a b c a2 b2 c2 i, vr_lay ki (x0a r p1 u1 u2 u3 p5 v1 v2 v3 v4 p10 w1 w2 w3 p14 x1 p16 y1 y2 y3 y4 p21 z1 z2 z3 z4 z5 z6 z7 z8 a b c a2 b2 c2) vs0 (fun _ => 0) i) := by
  intro i hi
  match i, hi with
  | 0, _ => rfl
  | 1, _ => rfl
  | 2, _ =>
    rw [show vr_lay ki (x0a r p1 u1 u2 u3 p5 v1 v2 v3 v4 p10 w1 w2 w3 p14 x1 p16 y1 y2 y3 y4 p21 z1 z2 z3 z4 z5 z6 z7 z8 a b c a2 b2 c2) vs0 (fun _ => 0) 2 = .inl (ki 3, 4, .inr (.inr (.inr (.inr (fun j => if j < 4 then some (x0a r p1 u1 u2 u3 p5 v1 v2 v3 v4 p10 w1 w2 w3 p14 x1 p16 y1 y2 y3 y4 p21 z1 z2 z3 z4 z5 z6 z7 z8 a b c a2 b2 c2 (30 + 3 * j)) else none))))) from rfl, x0_2]
    rfl
  | 3, _ =>
    rw [show vr_lay ki (x0a r p1 u1 u2 u3 p5 v1 v2 v3 v4 p10 w1 w2 w3 p14 x1 p16 y1 y2 y3 y4 p21 z1 z2 z3 z4 z5 z6 z7 z8 a b c a2 b2 c2) vs0 (fun _ => 0) 3 = .inl (ki 4, 12, .inr (.inr (.inr (.inr (fun j => if j < 12 then some (x0a r p1 u1 u2 u3 p5 v1 v2 v3 v4 p10 w1 w2 w3 p14 x1 p16 y1 y2 y3 y4 p21 z1 z2 z3 z4 z5 z6 z7 z8 a b c a2 b2 c2 (42 + 3 * j)) else none))))) from rfl, x0_3]
    rfl
  | 4, _ => rfl
  | 5, _ => rfl
  | 6, _ => rfl
  | 7, _ => rfl
  | 8, _ => rfl
  | 9, _ => rfl
  | 10, _ => rfl
  | 11, _ => rfl
  | 12, _ => rfl
  | 13, _ => rfl
  | 14, _ => rfl
  | 15, _ => rfl
  | 16, _ => rfl
  | 17, _ => rfl
  | 18, _ => rfl
  | 19, _ => rfl
  | 20, _ => rfl
  | 21, _ => rfl
  | 22, _ => rfl
  | 23, _ => rfl
  | 24, _ => rfl
  | 25, _ => rfl
  | 26, _ => rfl
  | 27, _ => rfl
  | 28, _ => rfl
  | 29, _ => rfl
  | 30, _ => rfl
  | 31, _ => rfl
  | 32, _ => rfl
  | 33, _ => rfl
  | 34, _ => rfl
  | 35, _ => rfl
  | 36, _ => rfl
  | 37, _ => rfl
  | 38, _ => rfl
  | 39, _ => rfl
  | 40, _ => rfl
  | 41, _ => rfl
  | 42, _ => rfl
  | 43, _ => rfl
  | 44, _ => rfl
  | 45, _ => rfl
  | 46, _ => rfl
  | 47, _ => rfl
  | 48, _ => rfl
  | 49, _ => rfl
  | 50, _ => rfl
  | 51, _ => rfl
  | 52, _ => rfl
  | 53, _ => rfl
  | 54, _ => rfl
  | 55, _ => rfl
  | 56, _ => rfl
  | 57, _ => rfl
  | 58, _ => rfl
  | 59, _ => rfl
  | 60, _ => rfl
  | 61, _ => rfl
  | 62, _ => rfl
  | 63, _ => rfl
  | 64, _ => rfl
  | 65, _ => rfl
  | 66, _ => rfl
  | 67, _ => rfl
  | 68, _ => rfl
  | 69, _ => rfl
  | 70, _ => rfl
  | 71, _ => rfl
  | 72, _ => rfl
  | 73, _ => rfl
  | 74, _ => rfl
  | 75, _ => rfl
  | 76, _ => rfl
  | 77, _ => rfl
  | k + 78, hk => exact absurd hk (by omega)
theorem in_X0 {Q : ac_hp → Prop} (h : nwl F [(r, .inr (0, [.null, .null, .null, .null, .null, .null]))] f) (kk : ∀ ad f', ad 0 = r → vr_R F ki ad vs0 (fun _ => 0) f' → (∀ i, i < 78 → F (ad i) = none) → Q f') : wp_X0_init ki r f Q := by
  unfold wp_X0_init
  refine st_new (by decide) (by decide) (fun p1 f1 e1 h1 => ⟨⟨by decide, by decide⟩, in_X1 h1 (fun u1 u2 u3 a b c a2 b2 c2 f2 h2 => ?_)⟩)
  refine st_fld (nwl_app h h2) (Nat.le_of_ble_eq_true rfl) (fun f3 h => ?_)
  refine st_new (by decide) (by decide) (fun p5 f4 e5 h5 => ⟨⟨by decide, by decide⟩, in_X4 h5 (fun v1 v2 v3 v4 f5 h6 => ?_)⟩)
  refine st_fld (nwl_app h h6) (Nat.le_of_ble_eq_true rfl) (fun f6 h => ?_)
  refine st_new (by decide) (by decide) (fun p10 f7 e7 h7 => ⟨p1, st_rd (nwl_app h h7) rfl, p5, st_rd (nwl_app h h7) rfl, ⟨by decide, by decide⟩, in_X5 h7 (fun w1 w2 w3 f8 h8 => ?_)⟩)
  refine st_fld (nwl_app h h8) (Nat.le_of_ble_eq_true rfl) (fun f9 h => ?_)
  refine st_new (by decide) (by decide) (fun p14 f10 e10 h10 => ⟨p1, st_rd (nwl_app h h10) rfl, p5, st_rd (nwl_app h h10) rfl, p10, st_rd (nwl_app h h10) rfl, ⟨by decide, by decide⟩, in_X6 h10 (fun x1 f11 h11 => ?_)⟩)
  refine st_fld (nwl_app h h11) (Nat.le_of_ble_eq_true rfl) (fun f12 h => ?_)
  refine st_new (by decide) (by decide) (fun p16 f13 e13 h13 => ⟨⟨by decide, by decide⟩, in_X7 h13 (fun y1 y2 y3 y4 f14 h14 => ?_)⟩)
  refine st_fld (nwl_app h h14) (Nat.le_of_ble_eq_true rfl) (fun f15 h => ?_)
  refine st_new (by decide) (by decide) (fun p21 f16 e16 h16 => ⟨p5, st_rd (nwl_app h h16) rfl, p10, st_rd (nwl_app h h16) rfl, p14, st_rd (nwl_app h h16) rfl, p16, st_rd (nwl_app h h16) rfl, ⟨by decide, by decide⟩, in_X8 h16 (fun z1 z2 z3 z4 z5 z6 z7 z8 f17 h17 => ?_)⟩)
  refine st_fld (nwl_app h h17) (Nat.le_of_ble_eq_true rfl) (fun f18 h => ⟨⟨by decide, by decide⟩, ?_⟩)
  have h : nwl F (x0l ki r p1 u1 u2 u3 p5 v1 v2 v3 v4 p10 w1 w2 w3 p14 x1 p16 y1 y2 y3 y4 p21 z1 z2 z3 z4 z5 z6 z7 z8 a b c a2 b2 c2) f18 := h
  obtain ⟨g1, g2⟩ := vr_of_nwl h x0_len x0_lay
  exact kk _ f18 rfl g1 g2
end X0I
