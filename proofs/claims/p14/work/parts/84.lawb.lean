theorem cdw_XL_value : ac_cdw y_XL_value method_3_code 5 (some .int) [(0, 10, 13, 13)] 4 := ⟨mem_T0 655 (by decide +kernel) (by decide +kernel), mem_T0 35 (by decide +kernel) (by decide +kernel), by decide, by decide, by decide +kernel⟩
theorem st_XL_value : Cond.static y_XL_value ∈ T0_ := mem_T0 654 (by decide +kernel) (by decide +kernel)
theorem ml_XL_7 : Cond.methodLink "VirtualRewriteLaw" 7 y_X0_value ∈ T0_ := mem_T0 657 (by decide +kernel) (by decide +kernel)
theorem cn_XL_8 : ac_cn "VirtualRewriteLaw" 8 0 6 [.null, .null, .null, .null, .null, .null] := ⟨_, _, t_X0, rfl, uw_X0, ty_X0, mem_T0 53 (by decide +kernel) (by decide +kernel), mem_T0 54 (by decide +kernel) (by decide +kernel), mem_T0 36 (by decide +kernel) (by decide +kernel), by decide +kernel⟩
theorem ml_XL_15 : Cond.methodLink "VirtualRewriteLaw" 15 y_X0_init ∈ T0_ := mem_T0 55 (by decide +kernel) (by decide +kernel)
theorem cn_XL_16 : ac_cn "VirtualRewriteLaw" 16 9 29 [.int 0, .null, .null, .null, .int 0, .null, .null, .null, .null, .int 0, .null, .null, .int 0, .null, .null, .null, .int 0, .null, .null, .null, .null, .null, .null, .int 0, .null, .null, .null, .null, .null] := ⟨_, _, t_X9, rfl, uw_X9, ty_X9, mem_T0 729 (by decide +kernel) (by decide +kernel), mem_T0 730 (by decide +kernel) (by decide +kernel), mem_T0 45 (by decide +kernel) (by decide +kernel), by decide +kernel⟩
theorem ml_XL_18 : Cond.methodLink "VirtualRewriteLaw" 18 y_X9_init ∈ T0_ := mem_T0 731 (by decide +kernel) (by decide +kernel)
theorem ml_XL_19 : Cond.methodLink "VirtualRewriteLaw" 19 y_X0_key ∈ T0_ := mem_T0 333 (by decide +kernel) (by decide +kernel)
theorem ml_XL_23 : Cond.methodLink "VirtualRewriteLaw" 23 y_X9_key ∈ T0_ := mem_T0 827 (by decide +kernel) (by decide +kernel)
theorem ml_XL_24 : Cond.methodLink "VirtualRewriteLaw" 24 y_X0_row ∈ T0_ := mem_T0 352 (by decide +kernel) (by decide +kernel)
theorem ml_XL_28 : Cond.methodLink "VirtualRewriteLaw" 28 y_X9_row ∈ T0_ := mem_T0 838 (by decide +kernel) (by decide +kernel)
theorem ml_XL_29 : Cond.methodLink "VirtualRewriteLaw" 29 y_X0_drop ∈ T0_ := mem_T0 364 (by decide +kernel) (by decide +kernel)
theorem ml_XL_32 : Cond.methodLink "VirtualRewriteLaw" 32 y_X9_drop ∈ T0_ := mem_T0 842 (by decide +kernel) (by decide +kernel)
theorem ml_XL_33 : Cond.methodLink "VirtualRewriteLaw" 33 y_X0_mapping ∈ T0_ := mem_T0 375 (by decide +kernel) (by decide +kernel)
theorem ml_XL_37 : Cond.methodLink "VirtualRewriteLaw" 37 y_X9_mapping ∈ T0_ := mem_T0 846 (by decide +kernel) (by decide +kernel)
theorem ml_XL_38 : Cond.methodLink "VirtualRewriteLaw" 38 y_X0_triples ∈ T0_ := mem_T0 387 (by decide +kernel) (by decide +kernel)
theorem ml_XL_42 : Cond.methodLink "VirtualRewriteLaw" 42 y_X9_triples ∈ T0_ := mem_T0 850 (by decide +kernel) (by decide +kernel)
theorem ml_XL_43 : Cond.methodLink "VirtualRewriteLaw" 43 y_X0_atom ∈ T0_ := mem_T0 410 (by decide +kernel) (by decide +kernel)
theorem ml_XL_47 : Cond.methodLink "VirtualRewriteLaw" 47 y_X9_atom ∈ T0_ := mem_T0 858 (by decide +kernel) (by decide +kernel)
theorem ml_XL_48 : Cond.methodLink "VirtualRewriteLaw" 48 y_X0_span ∈ T0_ := mem_T0 422 (by decide +kernel) (by decide +kernel)
theorem ml_XL_51 : Cond.methodLink "VirtualRewriteLaw" 51 y_X9_span ∈ T0_ := mem_T0 866 (by decide +kernel) (by decide +kernel)
theorem ml_XL_52 : Cond.methodLink "VirtualRewriteLaw" 52 y_X0_clear ∈ T0_ := mem_T0 436 (by decide +kernel) (by decide +kernel)
theorem ml_XL_55 : Cond.methodLink "VirtualRewriteLaw" 55 y_X9_clear ∈ T0_ := mem_T0 870 (by decide +kernel) (by decide +kernel)
theorem ml_XL_56 : Cond.methodLink "VirtualRewriteLaw" 56 y_X0_unions ∈ T0_ := mem_T0 444 (by decide +kernel) (by decide +kernel)
theorem ml_XL_59 : Cond.methodLink "VirtualRewriteLaw" 59 y_X9_unions ∈ T0_ := mem_T0 874 (by decide +kernel) (by decide +kernel)
theorem ml_XL_60 : Cond.methodLink "VirtualRewriteLaw" 60 y_X0_union ∈ T0_ := mem_T0 481 (by decide +kernel) (by decide +kernel)
theorem ml_XL_63 : Cond.methodLink "VirtualRewriteLaw" 63 y_X9_union ∈ T0_ := mem_T0 894 (by decide +kernel) (by decide +kernel)
theorem ml_XL_64 : Cond.methodLink "VirtualRewriteLaw" 64 y_X0_estimate ∈ T0_ := mem_T0 516 (by decide +kernel) (by decide +kernel)
theorem ml_XL_68 : Cond.methodLink "VirtualRewriteLaw" 68 y_X9_estimate ∈ T0_ := mem_T0 898 (by decide +kernel) (by decide +kernel)
theorem ml_XL_69 : Cond.methodLink "VirtualRewriteLaw" 69 y_X0_run ∈ T0_ := mem_T0 530 (by decide +kernel) (by decide +kernel)
theorem ml_XL_72 : Cond.methodLink "VirtualRewriteLaw" 72 y_X9_run ∈ T0_ := mem_T0 906 (by decide +kernel) (by decide +kernel)
theorem ml_XL_73 : Cond.methodLink "VirtualRewriteLaw" 73 y_XL_value ∈ T0_ := mem_T0 653 (by decide +kernel) (by decide +kernel)
theorem ml_XL_78 : Cond.methodLink "VirtualRewriteLaw" 78 y_X9_value ∈ T0_ := mem_T0 926 (by decide +kernel) (by decide +kernel)
theorem ml_XL_79 : Cond.methodLink "VirtualRewriteLaw" 79 y_X9_thrown ∈ T0_ := mem_T0 823 (by decide +kernel) (by decide +kernel)
theorem ml_XL_82 : Cond.methodLink "VirtualRewriteLaw" 82 y_X0_found ∈ T0_ := mem_T0 641 (by decide +kernel) (by decide +kernel)
theorem ml_XL_85 : Cond.methodLink "VirtualRewriteLaw" 85 y_X9_found ∈ T0_ := mem_T0 930 (by decide +kernel) (by decide +kernel)
theorem nm_in : ∀ q ∈ NM_, Cond.methodLinkNest q.1 q.2.1 q.2.2.1 q.2.2.2 ∈ lw_tbl := by decide +kernel
theorem ao_in : ∀ C ∈ AO_, Cond.arrayOver (.object C) ∈ lw_tbl := by decide +kernel
theorem lk_K {s : State} {args : Array Value} (hts : ∀ w ∈ lw_tbl, w.before args s = true) : ∃ (D : va_G) (ki : Nat → ClassId), va_K D cl_ (tys_ ki) s := by
  have h0 : ∀ w ∈ T0_, w.before args s = true := fun w hw => hts w (T0_in w hw)
  obtain ⟨c0, i0, k0⟩ := u_known (C := "VirtualRewrite") (T := T_X0) (N := 6) (n := 6) h0 uw_X0 (h0 _ (mem_T0 54 (by decide +kernel) (by decide +kernel)))
  obtain ⟨c1, i1, k1⟩ := u_known (C := "VirtualRewrite$Catalog") (T := T_X1) (N := 5) (n := 5) h0 uw_X1 (h0 _ (mem_T0 62 (by decide +kernel) (by decide +kernel)))
  obtain ⟨c2, i2, k2⟩ := u_known (C := "VirtualRewrite$Table") (T := T_X2) (N := 3) (n := 3) h0 uw_X2 (h0 _ (mem_T0 71 (by decide +kernel) (by decide +kernel)))
  obtain ⟨c3, i3, k3⟩ := u_known (C := "VirtualRewrite$Mapping") (T := T_X3) (N := 4) (n := 4) h0 uw_X3 (h0 _ (mem_T0 95 (by decide +kernel) (by decide +kernel)))
  obtain ⟨c4, i4, k4⟩ := u_known (C := "VirtualRewrite$Question") (T := T_X4) (N := 6) (n := 6) h0 uw_X4 (h0 _ (mem_T0 147 (by decide +kernel) (by decide +kernel)))
  obtain ⟨c5, i5, k5⟩ := u_known (C := "VirtualRewrite$Rewriting") (T := T_X5) (N := 8) (n := 8) h0 uw_X5 (h0 _ (mem_T0 178 (by decide +kernel) (by decide +kernel)))
  obtain ⟨c6, i6, k6⟩ := u_known (C := "VirtualRewrite$Slots") (T := T_X6) (N := 5) (n := 5) h0 uw_X6 (h0 _ (mem_T0 211 (by decide +kernel) (by decide +kernel)))
  obtain ⟨c7, i7, k7⟩ := u_known (C := "VirtualRewrite$Answers") (T := T_X7) (N := 7) (n := 7) h0 uw_X7 (h0 _ (mem_T0 237 (by decide +kernel) (by decide +kernel)))
  obtain ⟨c8, i8, k8⟩ := u_known (C := "VirtualRewrite$Finder") (T := T_X8) (N := 13) (n := 13) h0 uw_X8 (h0 _ (mem_T0 269 (by decide +kernel) (by decide +kernel)))
  obtain ⟨c9, i9, k9⟩ := u_known (C := "VirtualRewriteModel") (T := T_X9) (N := 29) (n := 29) h0 uw_X9 (h0 _ (mem_T0 730 (by decide +kernel) (by decide +kernel)))
  obtain ⟨a0, p0, q0⟩ := lk_arr (h0 _ ka_I)
  obtain ⟨a1, p1, q1⟩ := lk_arr (h0 _ ka_Z)
  obtain ⟨a2, p2, q2⟩ := lk_arr (h0 _ ka_J)
  obtain ⟨a3, p3, q3⟩ := lk_ref (hts _ (ao_in "VirtualRewrite$Table" (by decide)))
  obtain ⟨a4, p4, q4⟩ := lk_ref (hts _ (ao_in "VirtualRewrite$Mapping" (by decide)))
  refine ⟨(fun k => match k with | 0 => c0 | 1 => c1 | 2 => c2 | 3 => c3 | 4 => c4 | 5 => c5 | 6 => c6 | 7 => c7 | 8 => c8 | _ => c9, fun k => match k with | 0 => i0 | 1 => i1 | 2 => i2 | 3 => i3 | 4 => i4 | 5 => i5 | 6 => i6 | 7 => i7 | 8 => i8 | _ => i9), (fun k => match k with | 0 => a0 | 1 => a1 | 2 => a2 | 3 => a3 | _ => a4), ?_, ?_⟩
  · intro k q hq
    match k, hq with
    | 0, hq => cases hq; exact k0
    | 1, hq => cases hq; exact k1
    | 2, hq => cases hq; exact k2
    | 3, hq => cases hq; exact k3
    | 4, hq => cases hq; exact k4
    | 5, hq => cases hq; exact k5
    | 6, hq => cases hq; exact k6
    | 7, hq => cases hq; exact k7
    | 8, hq => cases hq; exact k8
    | 9, hq => cases hq; exact k9
    | k + 10, hq => simp [cl_] at hq
  · intro k q hq
    match k, hq with
    | 0, hq => cases hq; exact ⟨p0, q0⟩
    | 1, hq => cases hq; exact ⟨p1, q1⟩
    | 2, hq => cases hq; exact ⟨p2, q2⟩
    | 3, hq => cases hq; exact ⟨p3, q3⟩
    | 4, hq => cases hq; exact ⟨p4, q4⟩
    | k + 5, hq => simp [tys_] at hq
