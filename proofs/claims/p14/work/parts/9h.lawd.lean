def wp_law_L23 (ki : Nat → ClassId) (L : Nat) (xs : Nat → Int32) (r1 : Nat) (r2 : Nat) (r3 : Nat) (E685 : Nat → Nat → ac_hp → Prop) : Nat → Int32 → Nat → Nat → ac_hp → Prop
  | 0, _, _, _, _ => False
  | n + 1, x4, kc, ks, f => ((((Int32.ofNat L) - 7) < x4 → E685 kc ks f) ∧ (¬ ((Int32.ofNat L) - 7) < x4 → vp_in x4 L ∧ ∀ v9 : Int32, v9 = xs x4.toNatClampNeg → ∀ v10 : Int32, v10 = v9 &&& 15 → (((v10 = nI 0 → vp_in (x4 + 1) L ∧ ∀ v11 : Int32, v11 = xs (x4 + 1).toNatClampNeg → vp_in (x4 + 2) L ∧ ∀ v12 : Int32, v12 = xs (x4 + 2).toNatClampNeg → vp_in (x4 + 3) L ∧ ∀ v13 : Int32, v13 = xs (x4 + 3).toNatClampNeg → ((v13 = 0 → (kc + 0 ≤ 601024 ∧ ks + 0 ≤ 7293034) ∧ hr_o f r1 0 ∧ wp_X0_key ki r1 v11 v12 0 f (fun v15 f14 => vp_in (x4 + 1) L ∧ ∀ v16 : Int32, v16 = xs (x4 + 1).toNatClampNeg → vp_in (x4 + 2) L ∧ ∀ v17 : Int32, v17 = xs (x4 + 2).toNatClampNeg → vp_in (x4 + 3) L ∧ ∀ v18 : Int32, v18 = xs (x4 + 3).toNatClampNeg → ((v18 = 0 → (kc + 0 ≤ 601024 ∧ ks + 0 ≤ 7293034) ∧ hr_o f14 r2 9 ∧ wp_X9_key ki r2 v16 v17 0 f14 (fun v20 f19 => ∀ v21 : Int32, v21 = x4 + 7 → wp_law_L23 ki L xs r1 r2 r3 E685 n v21 kc ks f19)) ∧ (¬ v18 = 0 → (kc + 0 ≤ 601024 ∧ ks + 0 ≤ 7293034) ∧ hr_o f14 r2 9 ∧ wp_X9_key ki r2 v16 v17 1 f14 (fun v23 f22 => ∀ v24 : Int32, v24 = x4 + 7 → wp_law_L23 ki L xs r1 r2 r3 E685 n v24 kc ks f22))))) ∧ (¬ v13 = 0 → (kc + 0 ≤ 601024 ∧ ks + 0 ≤ 7293034) ∧ hr_o f r1 0 ∧ wp_X0_key ki r1 v11 v12 1 f (fun v26 f25 => vp_in (x4 + 1) L ∧ ∀ v27 : Int32, v27 = xs (x4 + 1).toNatClampNeg → vp_in (x4 + 2) L ∧ ∀ v28 : Int32, v28 = xs (x4 + 2).toNatClampNeg → vp_in (x4 + 3) L ∧ ∀ v29 : Int32, v29 = xs (x4 + 3).toNatClampNeg → ((v29 = 0 → (kc + 0 ≤ 601024 ∧ ks + 0 ≤ 7293034) ∧ hr_o f25 r2 9 ∧ wp_X9_key ki r2 v27 v28 0 f25 (fun v31 f30 => ∀ v32 : Int32, v32 = x4 + 7 → wp_law_L23 ki L xs r1 r2 r3 E685 n v32 kc ks f30)) ∧ (¬ v29 = 0 → (kc + 0 ≤ 601024 ∧ ks + 0 ≤ 7293034) ∧ hr_o f25 r2 9 ∧ wp_X9_key ki r2 v27 v28 1 f25 (fun v34 f33 => ∀ v35 : Int32, v35 = x4 + 7 → wp_law_L23 ki L xs r1 r2 r3 E685 n v35 kc ks f33))))))) ∧ (v10 = nI 1 → vp_in (x4 + 1) L ∧ ∀ v36 : Int32, v36 = xs (x4 + 1).toNatClampNeg → vp_in (x4 + 2) L ∧ ∀ v37 : Int32, v37 = xs (x4 + 2).toNatClampNeg → vp_in (x4 + 3) L ∧ ∀ v38 : Int32, v38 = xs (x4 + 3).toNatClampNeg → vp_in (x4 + 4) L ∧ ∀ v39 : Int32, v39 = xs (x4 + 4).toNatClampNeg → (kc + 0 ≤ 601024 ∧ ks + 0 ≤ 7293034) ∧ hr_o f r1 0 ∧ wp_X0_row ki r1 v36 v37 v38 v39 f (fun v41 f40 => vp_in (x4 + 1) L ∧ ∀ v42 : Int32, v42 = xs (x4 + 1).toNatClampNeg → vp_in (x4 + 2) L ∧ ∀ v43 : Int32, v43 = xs (x4 + 2).toNatClampNeg → vp_in (x4 + 3) L ∧ ∀ v44 : Int32, v44 = xs (x4 + 3).toNatClampNeg → vp_in (x4 + 4) L ∧ ∀ v45 : Int32, v45 = xs (x4 + 4).toNatClampNeg → (kc + 0 ≤ 601024 ∧ ks + 0 ≤ 7293034) ∧ hr_o f40 r2 9 ∧ wp_X9_row ki r2 v42 v43 v44 v45 f40 (fun v47 f46 => ∀ v48 : Int32, v48 = x4 + 7 → wp_law_L23 ki L xs r1 r2 r3 E685 n v48 kc ks f46))) ∧ (v10 = nI 2 → vp_in (x4 + 1) L ∧ ∀ v49 : Int32, v49 = xs (x4 + 1).toNatClampNeg → vp_in (x4 + 2) L ∧ ∀ v50 : Int32, v50 = xs (x4 + 2).toNatClampNeg → (kc + 0 ≤ 601024 ∧ ks + 0 ≤ 7293034) ∧ hr_o f r1 0 ∧ wp_X0_drop ki r1 v49 v50 f (fun v52 f51 => vp_in (x4 + 1) L ∧ ∀ v53 : Int32, v53 = xs (x4 + 1).toNatClampNeg → vp_in (x4 + 2) L ∧ ∀ v54 : Int32, v54 = xs (x4 + 2).toNatClampNeg → (kc + 0 ≤ 601024 ∧ ks + 0 ≤ 7293034) ∧ hr_o f51 r2 9 ∧ wp_X9_drop ki r2 v53 v54 f51 (fun v56 f55 => ∀ v57 : Int32, v57 = x4 + 7 → wp_law_L23 ki L xs r1 r2 r3 E685 n v57 kc ks f55))) ∧ (v10 = nI 3 → vp_in (x4 + 1) L ∧ ∀ v58 : Int32, v58 = xs (x4 + 1).toNatClampNeg → vp_in (x4 + 2) L ∧ ∀ v59 : Int32, v59 = xs (x4 + 2).toNatClampNeg → vp_in (x4 + 3) L ∧ ∀ v60 : Int32, v60 = xs (x4 + 3).toNatClampNeg → vp_in (x4 + 4) L ∧ ∀ v61 : Int32, v61 = xs (x4 + 4).toNatClampNeg → vp_in (x4 + 5) L ∧ ∀ v62 : Int32, v62 = xs (x4 + 5).toNatClampNeg → vp_in (x4 + 6) L ∧ ∀ v63 : Int32, v63 = xs (x4 + 6).toNatClampNeg → (kc + 0 ≤ 601024 ∧ ks + 0 ≤ 7293034) ∧ hr_o f r1 0 ∧ wp_X0_mapping ki r1 v58 v59 v60 v61 v62 v63 f (fun v65 f64 => vp_in (x4 + 1) L ∧ ∀ v66 : Int32, v66 = xs (x4 + 1).toNatClampNeg → vp_in (x4 + 2) L ∧ ∀ v67 : Int32, v67 = xs (x4 + 2).toNatClampNeg → vp_in (x4 + 3) L ∧ ∀ v68 : Int32, v68 = xs (x4 + 3).toNatClampNeg → vp_in (x4 + 4) L ∧ ∀ v69 : Int32, v69 = xs (x4 + 4).toNatClampNeg → vp_in (x4 + 5) L ∧ ∀ v70 : Int32, v70 = xs (x4 + 5).toNatClampNeg → vp_in (x4 + 6) L ∧ ∀ v71 : Int32, v71 = xs (x4 + 6).toNatClampNeg → (kc + 0 ≤ 601024 ∧ ks + 0 ≤ 7293034) ∧ hr_o f64 r2 9 ∧ wp_X9_mapping ki r2 v66 v67 v68 v69 v70 v71 f64 (fun v73 f72 => ∀ v74 : Int32, v74 = x4 + 7 → wp_law_L23 ki L xs r1 r2 r3 E685 n v74 kc ks f72))) ∧ (v10 = nI 4 → (kc + 0 ≤ 601024 ∧ ks + 0 ≤ 7293034) ∧ hr_o f r1 0 ∧ wp_X0_triples ki r1 f (fun v76 f75 => (kc + 0 ≤ 601024 ∧ ks + 0 ≤ 7293034) ∧ hr_o f75 r2 9 ∧ wp_X9_triples ki r2 f75 (fun v78 f77 => ∀ v79 : Int32, v79 = x4 + 7 → wp_law_L23 ki L xs r1 r2 r3 E685 n v79 kc ks f77))) ∧ (v10 = nI 5 → vp_in (x4 + 1) L ∧ ∀ v80 : Int32, v80 = xs (x4 + 1).toNatClampNeg → vp_in (x4 + 2) L ∧ ∀ v81 : Int32, v81 = xs (x4 + 2).toNatClampNeg → vp_in (x4 + 3) L ∧ ∀ v82 : Int32, v82 = xs (x4 + 3).toNatClampNeg → (kc + 0 ≤ 601024 ∧ ks + 0 ≤ 7293034) ∧ hr_o f r1 0 ∧ wp_X0_atom ki r1 v80 v81 v82 f (fun v84 f83 => vp_in (x4 + 1) L ∧ ∀ v85 : Int32, v85 = xs (x4 + 1).toNatClampNeg → vp_in (x4 + 2) L ∧ ∀ v86 : Int32, v86 = xs (x4 + 2).toNatClampNeg → vp_in (x4 + 3) L ∧ ∀ v87 : Int32, v87 = xs (x4 + 3).toNatClampNeg → (kc + 0 ≤ 601024 ∧ ks + 0 ≤ 7293034) ∧ hr_o f83 r2 9 ∧ wp_X9_atom ki r2 v85 v86 v87 f83 (fun v89 f88 => ∀ v90 : Int32, v90 = x4 + 7 → wp_law_L23 ki L xs r1 r2 r3 E685 n v90 kc ks f88))) ∧ (v10 = nI 6 → vp_in (x4 + 1) L ∧ ∀ v91 : Int32, v91 = xs (x4 + 1).toNatClampNeg → vp_in (x4 + 2) L ∧ ∀ v92 : Int32, v92 = xs (x4 + 2).toNatClampNeg → vp_in (x4 + 3) L ∧ ∀ v93 : Int32, v93 = xs (x4 + 3).toNatClampNeg → (kc + 0 ≤ 601024 ∧ ks + 0 ≤ 7293034) ∧ hr_o f r1 0 ∧ wp_X0_span ki r1 v91 v92 v93 f (fun v95 f94 => vp_in (x4 + 1) L ∧ ∀ v96 : Int32, v96 = xs (x4 + 1).toNatClampNeg → vp_in (x4 + 2) L ∧ ∀ v97 : Int32, v97 = xs (x4 + 2).toNatClampNeg → vp_in (x4 + 3) L ∧ ∀ v98 : Int32, v98 = xs (x4 + 3).toNatClampNeg → (kc + 0 ≤ 601024 ∧ ks + 0 ≤ 7293034) ∧ hr_o f94 r2 9 ∧ wp_X9_span ki r2 v96 v97 v98 f94 (fun v100 f99 => ∀ v101 : Int32, v101 = x4 + 7 → wp_law_L23 ki L xs r1 r2 r3 E685 n v101 kc ks f99))) ∧ (v10 = nI 7 → (kc + 0 ≤ 601024 ∧ ks + 0 ≤ 7293034) ∧ hr_o f r1 0 ∧ wp_X0_clear ki r1 f (fun v103 f102 => (kc + 0 ≤ 601024 ∧ ks + 0 ≤ 7293034) ∧ hr_o f102 r2 9 ∧ wp_X9_clear ki r2 f102 (fun v105 f104 => ∀ v106 : Int32, v106 = x4 + 7 → wp_law_L23 ki L xs r1 r2 r3 E685 n v106 kc ks f104))) ∧ (v10 = nI 8 → (kc + 0 ≤ 601024 ∧ ks + 0 ≤ 7293034) ∧ hr_o f r1 0 ∧ wp_X0_unions ki r1 f (fun v108 f107 => (kc + 0 ≤ 601024 ∧ ks + 0 ≤ 7293034) ∧ hr_o f107 r2 9 ∧ wp_X9_unions ki r2 f107 (fun v110 f109 => ∀ v111 : Int32, v111 = x4 + 7 → wp_law_L23 ki L xs r1 r2 r3 E685 n v111 kc ks f109))) ∧ (v10 = nI 9 → vp_in (x4 + 1) L ∧ ∀ v112 : Int32, v112 = xs (x4 + 1).toNatClampNeg → vp_in (x4 + 2) L ∧ ∀ v113 : Int32, v113 = xs (x4 + 2).toNatClampNeg → (kc + 0 ≤ 601024 ∧ ks + 0 ≤ 7293034) ∧ hr_o f r1 0 ∧ wp_X0_union ki r1 v112 v113 f (fun v115 f114 => vp_in (x4 + 1) L ∧ ∀ v116 : Int32, v116 = xs (x4 + 1).toNatClampNeg → vp_in (x4 + 2) L ∧ ∀ v117 : Int32, v117 = xs (x4 + 2).toNatClampNeg → (kc + 0 ≤ 601024 ∧ ks + 0 ≤ 7293034) ∧ hr_o f114 r2 9 ∧ wp_X9_union ki r2 v116 v117 f114 (fun v119 f118 => ∀ v120 : Int32, v120 = x4 + 7 → wp_law_L23 ki L xs r1 r2 r3 E685 n v120 kc ks f118))) ∧ (v10 = nI 10 → vp_in (x4 + 1) L ∧ ∀ v121 : Int32, v121 = xs (x4 + 1).toNatClampNeg → (kc + 0 ≤ 601024 ∧ ks + 0 ≤ 7293034) ∧ hr_o f r1 0 ∧ wp_X0_estimate ki r1 v121 f (fun v123 f122 => vp_in (x4 + 1) L ∧ ∀ v124 : Int32, v124 = xs (x4 + 1).toNatClampNeg → (kc + 0 ≤ 601024 ∧ ks + 0 ≤ 7293034) ∧ hr_o f122 r2 9 ∧ wp_X9_estimate ki r2 v124 f122 (fun v126 f125 => ∀ v127 : Int32, v127 = x4 + 7 → wp_law_L23 ki L xs r1 r2 r3 E685 n v127 kc ks f125))) ∧ (v10 = nI 11 → (kc + 0 ≤ 601024 ∧ ks + 0 ≤ 7293034) ∧ hr_o f r1 0 ∧ wp_X0_run ki r1 f (fun v129 f128 => (kc + 0 ≤ 601024 ∧ ks + 0 ≤ 7293034) ∧ hr_o f128 r2 9 ∧ wp_X9_run ki r2 f128 (fun v131 f130 => ∀ v132 : Int32, v132 = x4 + 7 → wp_law_L23 ki L xs r1 r2 r3 E685 n v132 kc ks f130))) ∧ (v10 = nI 12 → vp_in (x4 + 1) L ∧ ∀ v133 : Int32, v133 = xs (x4 + 1).toNatClampNeg → vp_in (x4 + 2) L ∧ ∀ v134 : Int32, v134 = xs (x4 + 2).toNatClampNeg → (kc + 1 ≤ 601024 ∧ ks + 6 ≤ 7293034) ∧ wq_XL_value ki r1 v133 v134 r3 f (fun v136 f135 => vp_in (x4 + 1) L ∧ ∀ v137 : Int32, v137 = xs (x4 + 1).toNatClampNeg → vp_in (x4 + 2) L ∧ ∀ v138 : Int32, v138 = xs (x4 + 2).toNatClampNeg → (kc + 1 + 0 ≤ 601024 ∧ ks + 6 + 0 ≤ 7293034) ∧ hr_o f135 r2 9 ∧ wp_X9_value ki r2 v137 v138 f135 (fun v140 f139 => (kc + 1 + 0 ≤ 601024 ∧ ks + 6 + 0 ≤ 7293034) ∧ hr_o f139 r2 9 ∧ wp_X9_thrown ki r2 f139 (fun v142 f141 => ((v142 = v136 → ((¬ v136 = 0 → ∀ v143 : Int32, v143 = x4 + 7 → wp_law_L23 ki L xs r1 r2 r3 E685 n v143 (kc + 1) (ks + 6) f141) ∧ (v136 = 0 → ∃ v144 : Int64, hr_l (ki 2) f141 r3 0 v144 ∧ (((lg_cmp v144 (v140.toInt64)) = 0 → ∀ v145 : Int32, v145 = x4 + 7 → wp_law_L23 ki L xs r1 r2 r3 E685 n v145 (kc + 1) (ks + 6) f141) ∧ (¬ (lg_cmp v144 (v140.toInt64)) = 0 → False))))) ∧ (¬ v142 = v136 → False)))))) ∧ (v10 = nI 13 → vp_in (x4 + 1) L ∧ ∀ v146 : Int32, v146 = xs (x4 + 1).toNatClampNeg → vp_in (x4 + 2) L ∧ ∀ v147 : Int32, v147 = xs (x4 + 2).toNatClampNeg → (kc + 0 ≤ 601024 ∧ ks + 0 ≤ 7293034) ∧ hr_o f r1 0 ∧ wp_X0_found ki r1 v146 v147 f (fun v149 f148 => vp_in (x4 + 1) L ∧ ∀ v150 : Int32, v150 = xs (x4 + 1).toNatClampNeg → vp_in (x4 + 2) L ∧ ∀ v151 : Int32, v151 = xs (x4 + 2).toNatClampNeg → (kc + 0 ≤ 601024 ∧ ks + 0 ≤ 7293034) ∧ hr_o f148 r2 9 ∧ wp_X9_found ki r2 v150 v151 f148 (fun v153 f152 => ∀ v154 : Int32, v154 = x4 + 7 → wp_law_L23 ki L xs r1 r2 r3 E685 n v154 kc ks f152)))) ∧ ((∀ j, j < 14 → v10 ≠ nI j) → ∀ v155 : Int32, v155 = x4 + 7 → wp_law_L23 ki L xs r1 r2 r3 E685 n v155 kc ks f))))

def wp_law (ki : Nat → ClassId) (L : Nat) (xs : Nat → Int32) (f : ac_hp) : Prop := ((0 : Nat) + 1 ≤ 601024 ∧ (0 : Nat) + 6 ≤ 7293034) ∧ ∀ q1 : Nat, f q1 = none → ∀ f2 : ac_hp, f2 = ac_up f q1 (.inr (0, [.null, .null, .null, .null, .null, .null])) → ((1 : Nat) + 77 ≤ 601024 ∧ (6 : Nat) + 4130 ≤ 7293034) ∧ wp_X0_init ki q1 f2 (fun f3 => ((78 : Nat) + 1 ≤ 601024 ∧ (4136 : Nat) + 29 ≤ 7293034) ∧ ∀ q4 : Nat, f3 q4 = none → ∀ f5 : ac_hp, f5 = ac_up f3 q4 (.inr (9, [.int 0, .null, .null, .null, .int 0, .null, .null, .null, .null, .int 0, .null, .null, .int 0, .null, .null, .null, .int 0, .null, .null, .null, .null, .null, .null, .int 0, .null, .null, .null, .null, .null])) → ((79 : Nat) + 23 ≤ 601024 ∧ (4165 : Nat) + 4451 ≤ 7293034) ∧ wp_X9_init ki q4 f5 (fun f6 => ((102 : Nat) + 1 ≤ 601024 ∧ (8616 : Nat) + 1 ≤ 7293034) ∧ ∀ q7 : Nat, f6 q7 = none → ∀ f8 : ac_hp, f8 = ac_up f6 q7 (.inl (ki 2, 1, .inr (.inl (fun _ => 0)))) → ∃ n156 : Nat, wp_law_L23 ki L xs q1 q4 q7 (fun kc158 ks159 f157 => (kc158 ≤ 601024 ∧ ks159 ≤ 7293034)) n156 0 103 8617 f8))
set_option maxRecDepth 20000 in
set_option maxHeartbeats 4000000 in
theorem ok_law_L23 {x : ac_X} (hro : ac_R x = room_1) {b L : Nat} {xs : Nat → Int32} (hX : va_X b L xs (ac_s x) (ac_s x).heap) (hbl : b < (ac_s x).heap.size) (hbA : ¬ ac_AA x b) (hfl : (ac_l x).flags = pinnedFlags ++ [noTraceFlag]) (hZ : zs (ac_s x)) (hAq : ∀ q, ac_AA x q → (ac_s x).heap.size ≤ q) (r1 : Nat) (r2 : Nat) (r3 : Nat) (E685 : Nat → Nat → ac_hp → Prop) (hE685 : ∀ (kc ks : Nat) (f : ac_hp), E685 kc ks f → ac_At (code, 7, "VirtualRewriteLaw") x kc ks 685 [] [] f) : ∀ (n : Nat) (x4 : Int32) (kc ks : Nat) (f : ac_hp), wp_law_L23 (ac_ki x) L xs r1 r2 r3 E685 n x4 kc ks f → ac_At (code, 7, "VirtualRewriteLaw") x kc ks 23 [(0, .ref b), (1, .ref r1), (2, .ref r2), (3, .ref r3), (4, .int x4)] [] f := by
  intro n
  induction n with
  | zero => intro _ _ _ _ h; exact h.elim
  | succ n ih =>
    intro x4 kc ks f h
    rw [wp_law_L23] at h
    refine ac_iload 4 d_law_23 rfl ?_
    refine ac_aload_n 0 d_law_25 rfl rfl ?_
    refine ac_slen hX hbl hbA d_law_26 ?_
    refine ac_bipush (v := 7) d_law_27 rfl ?_
    refine ac_isub d_law_29 ?_
    refine ac_icmp_gt (tgt := 685) d_law_30 (by decide) (fun hc => ?_) (fun hc => ?_)
    · have h := h.1 hc
      refine ac_weak [] rfl ?_
      exact hE685 kc ks f h
    · have h := h.2 hc
      refine ac_aload_n 0 d_law_33 rfl rfl ?_
      refine ac_iload 4 d_law_34 rfl ?_
      have hz := h.1
      have h := h.2
      refine ac_sld hX hbl hbA hz d_law_36 ?_
      refine ak_topi (fun v9 ev9 => ?_)
      have h := h v9 ev9
      refine ac_bipush (v := 15) d_law_37 rfl ?_
      refine ac_iand d_law_39 ?_
      refine ak_topi (fun v10 ev10 => ?_)
      have h := h v10 ev10
      refine ac_tsw (tgd := 679) d_law_40 14 (fun j => [112, 177, 238, 275, 362, 375, 424, 473, 486, 499, 536, 561, 574, 642].getD j 0) (by decide) (by decide) (by decide) (by decide) (fun j hj hv => ?_) (fun hv => ?_)
      · have h := h.1
        rcases (show j = 0 ∨ j = 1 ∨ j = 2 ∨ j = 3 ∨ j = 4 ∨ j = 5 ∨ j = 6 ∨ j = 7 ∨ j = 8 ∨ j = 9 ∨ j = 10 ∨ j = 11 ∨ j = 12 ∨ j = 13 by omega) with rfl | rfl | rfl | rfl | rfl | rfl | rfl | rfl | rfl | rfl | rfl | rfl | rfl | rfl
        · have h := h.1 hv
          refine ac_aload_n 1 d_law_112 rfl rfl ?_
          refine ac_aload_n 0 d_law_113 rfl rfl ?_
          refine ac_iload 4 d_law_114 rfl ?_
          refine ac_iconst (v := 1) d_law_116 rfl ?_
          refine ac_iadd d_law_117 ?_
          have hz := h.1
          have h := h.2
          refine ac_sld hX hbl hbA hz d_law_118 ?_
          refine ak_topi (fun v11 ev11 => ?_)
          have h := h v11 ev11
          refine ac_aload_n 0 d_law_119 rfl rfl ?_
          refine ac_iload 4 d_law_120 rfl ?_
          refine ac_iconst (v := 2) d_law_122 rfl ?_
          refine ac_iadd d_law_123 ?_
          have hz := h.1
          have h := h.2
          refine ac_sld hX hbl hbA hz d_law_124 ?_
          refine ak_topi (fun v12 ev12 => ?_)
          have h := h v12 ev12
          refine ac_aload_n 0 d_law_125 rfl rfl ?_
          refine ac_iload 4 d_law_126 rfl ?_
          refine ac_iconst (v := 3) d_law_128 rfl ?_
          refine ac_iadd d_law_129 ?_
          have hz := h.1
          have h := h.2
          refine ac_sld hX hbl hbA hz d_law_130 ?_
          refine ak_topi (fun v13 ev13 => ?_)
          have h := h v13 ev13
          refine ac_if_eq (tgt := 138) d_law_131 (by decide) (fun hc => ?_) (fun hc => ?_)
          · have h := h.1 hc
            refine ac_iconst (v := 0) d_law_138 rfl ?_
            have hk := h.1
            have h := h.2
            obtain ⟨⟨fs, hb⟩, h⟩ := h
            refine ac_callV0 cd_X0_key ml_XL_19 in_X0_key se_X0_key rfl hb (c_X0_key _ _ _ r1 v11 v12 0 f _ h) rfl rfl (by rw [hro]; decide) rfl (rest := []) rfl (Nat.le_of_ble_eq_true rfl) (by rw [hro]; exact hk) d_law_139 (ac_I (fun v15 f14 h => ?_))
            refine ac_pop d_law_142 rfl ?_
            refine ac_aload_n 2 d_law_143 rfl rfl ?_
            refine ac_aload_n 0 d_law_144 rfl rfl ?_
            refine ac_iload 4 d_law_145 rfl ?_
            refine ac_iconst (v := 1) d_law_147 rfl ?_
            refine ac_iadd d_law_148 ?_
            have hz := h.1
            have h := h.2
            refine ac_sld hX hbl hbA hz d_law_149 ?_
            refine ak_topi (fun v16 ev16 => ?_)
            have h := h v16 ev16
            refine ac_aload_n 0 d_law_150 rfl rfl ?_
            refine ac_iload 4 d_law_151 rfl ?_
            refine ac_iconst (v := 2) d_law_153 rfl ?_
            refine ac_iadd d_law_154 ?_
            have hz := h.1
            have h := h.2
            refine ac_sld hX hbl hbA hz d_law_155 ?_
            refine ak_topi (fun v17 ev17 => ?_)
            have h := h v17 ev17
            refine ac_aload_n 0 d_law_156 rfl rfl ?_
            refine ac_iload 4 d_law_157 rfl ?_
            refine ac_iconst (v := 3) d_law_159 rfl ?_
            refine ac_iadd d_law_160 ?_
            have hz := h.1
            have h := h.2
            refine ac_sld hX hbl hbA hz d_law_161 ?_
            refine ak_topi (fun v18 ev18 => ?_)
            have h := h v18 ev18
            refine ac_if_eq (tgt := 169) d_law_162 (by decide) (fun hc => ?_) (fun hc => ?_)
            · have h := h.1 hc
              refine ac_iconst (v := 0) d_law_169 rfl ?_
              have hk := h.1
              have h := h.2
              obtain ⟨⟨fs, hb⟩, h⟩ := h
              refine ac_callV0 cd_X9_key ml_XL_23 in_X9_key se_X9_key rfl hb (c_X9_key _ _ _ r2 v16 v17 0 f14 _ h) rfl rfl (by rw [hro]; decide) rfl (rest := []) rfl (Nat.le_of_ble_eq_true rfl) (by rw [hro]; exact hk) d_law_170 (ac_I (fun v20 f19 h => ?_))
              refine ac_pop d_law_173 rfl ?_
              refine ac_goto (tgt := 679) d_law_174 (by decide) ?_
              obtain ⟨v21, ev21⟩ : ∃ y : Int32, y = x4 + 7 := ⟨_, rfl⟩
              have h := h v21 ev21
              refine ac_iinc (j := 4) (lv' := [(4, .int v21), (0, .ref b), (1, .ref r1), (2, .ref r2), (3, .ref r3)]) d_law_679 rfl (by rw [ev21]; rfl) (by decide) rfl ?_
              refine ac_goto (tgt := 23) d_law_682 (by decide) ?_
              refine ac_weak [1, 2, 3, 4, 0] rfl ?_
              exact ih v21 kc ks f19 h
            · have h := h.2 hc
              refine ac_iconst (v := 1) d_law_165 rfl ?_
              refine ac_goto (tgt := 170) d_law_166 (by decide) ?_
              have hk := h.1
              have h := h.2
              obtain ⟨⟨fs, hb⟩, h⟩ := h
              refine ac_callV0 cd_X9_key ml_XL_23 in_X9_key se_X9_key rfl hb (c_X9_key _ _ _ r2 v16 v17 1 f14 _ h) rfl rfl (by rw [hro]; decide) rfl (rest := []) rfl (Nat.le_of_ble_eq_true rfl) (by rw [hro]; exact hk) d_law_170 (ac_I (fun v23 f22 h => ?_))
              refine ac_pop d_law_173 rfl ?_
              refine ac_goto (tgt := 679) d_law_174 (by decide) ?_
              obtain ⟨v24, ev24⟩ : ∃ y : Int32, y = x4 + 7 := ⟨_, rfl⟩
              have h := h v24 ev24
              refine ac_iinc (j := 4) (lv' := [(4, .int v24), (0, .ref b), (1, .ref r1), (2, .ref r2), (3, .ref r3)]) d_law_679 rfl (by rw [ev24]; rfl) (by decide) rfl ?_
              refine ac_goto (tgt := 23) d_law_682 (by decide) ?_
              refine ac_weak [1, 2, 3, 4, 0] rfl ?_
              exact ih v24 kc ks f22 h
          · have h := h.2 hc
            refine ac_iconst (v := 1) d_law_134 rfl ?_
            refine ac_goto (tgt := 139) d_law_135 (by decide) ?_
            have hk := h.1
            have h := h.2
            obtain ⟨⟨fs, hb⟩, h⟩ := h
            refine ac_callV0 cd_X0_key ml_XL_19 in_X0_key se_X0_key rfl hb (c_X0_key _ _ _ r1 v11 v12 1 f _ h) rfl rfl (by rw [hro]; decide) rfl (rest := []) rfl (Nat.le_of_ble_eq_true rfl) (by rw [hro]; exact hk) d_law_139 (ac_I (fun v26 f25 h => ?_))
            refine ac_pop d_law_142 rfl ?_
            refine ac_aload_n 2 d_law_143 rfl rfl ?_
            refine ac_aload_n 0 d_law_144 rfl rfl ?_
            refine ac_iload 4 d_law_145 rfl ?_
            refine ac_iconst (v := 1) d_law_147 rfl ?_
            refine ac_iadd d_law_148 ?_
            have hz := h.1
            have h := h.2
            refine ac_sld hX hbl hbA hz d_law_149 ?_
            refine ak_topi (fun v27 ev27 => ?_)
            have h := h v27 ev27
            refine ac_aload_n 0 d_law_150 rfl rfl ?_
            refine ac_iload 4 d_law_151 rfl ?_
            refine ac_iconst (v := 2) d_law_153 rfl ?_
            refine ac_iadd d_law_154 ?_
            have hz := h.1
            have h := h.2
            refine ac_sld hX hbl hbA hz d_law_155 ?_
            refine ak_topi (fun v28 ev28 => ?_)
            have h := h v28 ev28
            refine ac_aload_n 0 d_law_156 rfl rfl ?_
            refine ac_iload 4 d_law_157 rfl ?_
            refine ac_iconst (v := 3) d_law_159 rfl ?_
            refine ac_iadd d_law_160 ?_
            have hz := h.1
            have h := h.2
            refine ac_sld hX hbl hbA hz d_law_161 ?_
            refine ak_topi (fun v29 ev29 => ?_)
            have h := h v29 ev29
            refine ac_if_eq (tgt := 169) d_law_162 (by decide) (fun hc => ?_) (fun hc => ?_)
            · have h := h.1 hc
              refine ac_iconst (v := 0) d_law_169 rfl ?_
              have hk := h.1
              have h := h.2
              obtain ⟨⟨fs, hb⟩, h⟩ := h
              refine ac_callV0 cd_X9_key ml_XL_23 in_X9_key se_X9_key rfl hb (c_X9_key _ _ _ r2 v27 v28 0 f25 _ h) rfl rfl (by rw [hro]; decide) rfl (rest := []) rfl (Nat.le_of_ble_eq_true rfl) (by rw [hro]; exact hk) d_law_170 (ac_I (fun v31 f30 h => ?_))
              refine ac_pop d_law_173 rfl ?_
              refine ac_goto (tgt := 679) d_law_174 (by decide) ?_
              obtain ⟨v32, ev32⟩ : ∃ y : Int32, y = x4 + 7 := ⟨_, rfl⟩
              have h := h v32 ev32
              refine ac_iinc (j := 4) (lv' := [(4, .int v32), (0, .ref b), (1, .ref r1), (2, .ref r2), (3, .ref r3)]) d_law_679 rfl (by rw [ev32]; rfl) (by decide) rfl ?_
              refine ac_goto (tgt := 23) d_law_682 (by decide) ?_
              refine ac_weak [1, 2, 3, 4, 0] rfl ?_
              exact ih v32 kc ks f30 h
            · have h := h.2 hc
              refine ac_iconst (v := 1) d_law_165 rfl ?_
              refine ac_goto (tgt := 170) d_law_166 (by decide) ?_
              have hk := h.1
              have h := h.2
              obtain ⟨⟨fs, hb⟩, h⟩ := h
              refine ac_callV0 cd_X9_key ml_XL_23 in_X9_key se_X9_key rfl hb (c_X9_key _ _ _ r2 v27 v28 1 f25 _ h) rfl rfl (by rw [hro]; decide) rfl (rest := []) rfl (Nat.le_of_ble_eq_true rfl) (by rw [hro]; exact hk) d_law_170 (ac_I (fun v34 f33 h => ?_))
              refine ac_pop d_law_173 rfl ?_
              refine ac_goto (tgt := 679) d_law_174 (by decide) ?_
              obtain ⟨v35, ev35⟩ : ∃ y : Int32, y = x4 + 7 := ⟨_, rfl⟩
              have h := h v35 ev35
              refine ac_iinc (j := 4) (lv' := [(4, .int v35), (0, .ref b), (1, .ref r1), (2, .ref r2), (3, .ref r3)]) d_law_679 rfl (by rw [ev35]; rfl) (by decide) rfl ?_
              refine ac_goto (tgt := 23) d_law_682 (by decide) ?_
              refine ac_weak [1, 2, 3, 4, 0] rfl ?_
              exact ih v35 kc ks f33 h
        · have h := h.2.1 hv
          refine ac_aload_n 1 d_law_177 rfl rfl ?_
          refine ac_aload_n 0 d_law_178 rfl rfl ?_
          refine ac_iload 4 d_law_179 rfl ?_
          refine ac_iconst (v := 1) d_law_181 rfl ?_
          refine ac_iadd d_law_182 ?_
          have hz := h.1
          have h := h.2
          refine ac_sld hX hbl hbA hz d_law_183 ?_
          refine ak_topi (fun v36 ev36 => ?_)
          have h := h v36 ev36
          refine ac_aload_n 0 d_law_184 rfl rfl ?_
          refine ac_iload 4 d_law_185 rfl ?_
          refine ac_iconst (v := 2) d_law_187 rfl ?_
          refine ac_iadd d_law_188 ?_
          have hz := h.1
          have h := h.2
          refine ac_sld hX hbl hbA hz d_law_189 ?_
          refine ak_topi (fun v37 ev37 => ?_)
          have h := h v37 ev37
          refine ac_aload_n 0 d_law_190 rfl rfl ?_
          refine ac_iload 4 d_law_191 rfl ?_
          refine ac_iconst (v := 3) d_law_193 rfl ?_
          refine ac_iadd d_law_194 ?_
          have hz := h.1
          have h := h.2
          refine ac_sld hX hbl hbA hz d_law_195 ?_
          refine ak_topi (fun v38 ev38 => ?_)
          have h := h v38 ev38
          refine ac_aload_n 0 d_law_196 rfl rfl ?_
          refine ac_iload 4 d_law_197 rfl ?_
          refine ac_iconst (v := 4) d_law_199 rfl ?_
          refine ac_iadd d_law_200 ?_
          have hz := h.1
          have h := h.2
          refine ac_sld hX hbl hbA hz d_law_201 ?_
          refine ak_topi (fun v39 ev39 => ?_)
          have h := h v39 ev39
          have hk := h.1
          have h := h.2
          obtain ⟨⟨fs, hb⟩, h⟩ := h
          refine ac_callV0 cd_X0_row ml_XL_24 in_X0_row se_X0_row rfl hb (c_X0_row _ _ _ r1 v36 v37 v38 v39 f _ h) rfl rfl (by rw [hro]; decide) rfl (rest := []) rfl (Nat.le_of_ble_eq_true rfl) (by rw [hro]; exact hk) d_law_202 (ac_I (fun v41 f40 h => ?_))
          refine ac_pop d_law_205 rfl ?_
          refine ac_aload_n 2 d_law_206 rfl rfl ?_
          refine ac_aload_n 0 d_law_207 rfl rfl ?_
          refine ac_iload 4 d_law_208 rfl ?_
          refine ac_iconst (v := 1) d_law_210 rfl ?_
          refine ac_iadd d_law_211 ?_
          have hz := h.1
          have h := h.2
          refine ac_sld hX hbl hbA hz d_law_212 ?_
          refine ak_topi (fun v42 ev42 => ?_)
          have h := h v42 ev42
          refine ac_aload_n 0 d_law_213 rfl rfl ?_
          refine ac_iload 4 d_law_214 rfl ?_
          refine ac_iconst (v := 2) d_law_216 rfl ?_
          refine ac_iadd d_law_217 ?_
          have hz := h.1
          have h := h.2
          refine ac_sld hX hbl hbA hz d_law_218 ?_
          refine ak_topi (fun v43 ev43 => ?_)
          have h := h v43 ev43
          refine ac_aload_n 0 d_law_219 rfl rfl ?_
          refine ac_iload 4 d_law_220 rfl ?_
          refine ac_iconst (v := 3) d_law_222 rfl ?_
          refine ac_iadd d_law_223 ?_
          have hz := h.1
          have h := h.2
          refine ac_sld hX hbl hbA hz d_law_224 ?_
          refine ak_topi (fun v44 ev44 => ?_)
          have h := h v44 ev44
          refine ac_aload_n 0 d_law_225 rfl rfl ?_
          refine ac_iload 4 d_law_226 rfl ?_
          refine ac_iconst (v := 4) d_law_228 rfl ?_
          refine ac_iadd d_law_229 ?_
          have hz := h.1
          have h := h.2
          refine ac_sld hX hbl hbA hz d_law_230 ?_
          refine ak_topi (fun v45 ev45 => ?_)
          have h := h v45 ev45
          have hk := h.1
          have h := h.2
          obtain ⟨⟨fs, hb⟩, h⟩ := h
          refine ac_callV0 cd_X9_row ml_XL_28 in_X9_row se_X9_row rfl hb (c_X9_row _ _ _ r2 v42 v43 v44 v45 f40 _ h) rfl rfl (by rw [hro]; decide) rfl (rest := []) rfl (Nat.le_of_ble_eq_true rfl) (by rw [hro]; exact hk) d_law_231 (ac_I (fun v47 f46 h => ?_))
          refine ac_pop d_law_234 rfl ?_
          refine ac_goto (tgt := 679) d_law_235 (by decide) ?_
          obtain ⟨v48, ev48⟩ : ∃ y : Int32, y = x4 + 7 := ⟨_, rfl⟩
          have h := h v48 ev48
          refine ac_iinc (j := 4) (lv' := [(4, .int v48), (0, .ref b), (1, .ref r1), (2, .ref r2), (3, .ref r3)]) d_law_679 rfl (by rw [ev48]; rfl) (by decide) rfl ?_
          refine ac_goto (tgt := 23) d_law_682 (by decide) ?_
          refine ac_weak [1, 2, 3, 4, 0] rfl ?_
          exact ih v48 kc ks f46 h
        · have h := h.2.2.1 hv
          refine ac_aload_n 1 d_law_238 rfl rfl ?_
          refine ac_aload_n 0 d_law_239 rfl rfl ?_
          refine ac_iload 4 d_law_240 rfl ?_
          refine ac_iconst (v := 1) d_law_242 rfl ?_
          refine ac_iadd d_law_243 ?_
          have hz := h.1
          have h := h.2
          refine ac_sld hX hbl hbA hz d_law_244 ?_
          refine ak_topi (fun v49 ev49 => ?_)
          have h := h v49 ev49
          refine ac_aload_n 0 d_law_245 rfl rfl ?_
          refine ac_iload 4 d_law_246 rfl ?_
          refine ac_iconst (v := 2) d_law_248 rfl ?_
          refine ac_iadd d_law_249 ?_
          have hz := h.1
          have h := h.2
          refine ac_sld hX hbl hbA hz d_law_250 ?_
          refine ak_topi (fun v50 ev50 => ?_)
          have h := h v50 ev50
          have hk := h.1
          have h := h.2
          obtain ⟨⟨fs, hb⟩, h⟩ := h
          refine ac_callV0 cd_X0_drop ml_XL_29 in_X0_drop se_X0_drop rfl hb (c_X0_drop _ _ _ r1 v49 v50 f _ h) rfl rfl (by rw [hro]; decide) rfl (rest := []) rfl (Nat.le_of_ble_eq_true rfl) (by rw [hro]; exact hk) d_law_251 (ac_I (fun v52 f51 h => ?_))
          refine ac_pop d_law_254 rfl ?_
          refine ac_aload_n 2 d_law_255 rfl rfl ?_
          refine ac_aload_n 0 d_law_256 rfl rfl ?_
          refine ac_iload 4 d_law_257 rfl ?_
          refine ac_iconst (v := 1) d_law_259 rfl ?_
          refine ac_iadd d_law_260 ?_
          have hz := h.1
          have h := h.2
          refine ac_sld hX hbl hbA hz d_law_261 ?_
          refine ak_topi (fun v53 ev53 => ?_)
          have h := h v53 ev53
          refine ac_aload_n 0 d_law_262 rfl rfl ?_
          refine ac_iload 4 d_law_263 rfl ?_
          refine ac_iconst (v := 2) d_law_265 rfl ?_
          refine ac_iadd d_law_266 ?_
          have hz := h.1
          have h := h.2
          refine ac_sld hX hbl hbA hz d_law_267 ?_
          refine ak_topi (fun v54 ev54 => ?_)
          have h := h v54 ev54
          have hk := h.1
          have h := h.2
          obtain ⟨⟨fs, hb⟩, h⟩ := h
          refine ac_callV0 cd_X9_drop ml_XL_32 in_X9_drop se_X9_drop rfl hb (c_X9_drop _ _ _ r2 v53 v54 f51 _ h) rfl rfl (by rw [hro]; decide) rfl (rest := []) rfl (Nat.le_of_ble_eq_true rfl) (by rw [hro]; exact hk) d_law_268 (ac_I (fun v56 f55 h => ?_))
          refine ac_pop d_law_271 rfl ?_
          refine ac_goto (tgt := 679) d_law_272 (by decide) ?_
          obtain ⟨v57, ev57⟩ : ∃ y : Int32, y = x4 + 7 := ⟨_, rfl⟩
          have h := h v57 ev57
          refine ac_iinc (j := 4) (lv' := [(4, .int v57), (0, .ref b), (1, .ref r1), (2, .ref r2), (3, .ref r3)]) d_law_679 rfl (by rw [ev57]; rfl) (by decide) rfl ?_
          refine ac_goto (tgt := 23) d_law_682 (by decide) ?_
          refine ac_weak [1, 2, 3, 4, 0] rfl ?_
          exact ih v57 kc ks f55 h
        · have h := h.2.2.2.1 hv
          refine ac_aload_n 1 d_law_275 rfl rfl ?_
          refine ac_aload_n 0 d_law_276 rfl rfl ?_
          refine ac_iload 4 d_law_277 rfl ?_
          refine ac_iconst (v := 1) d_law_279 rfl ?_
          refine ac_iadd d_law_280 ?_
          have hz := h.1
          have h := h.2
          refine ac_sld hX hbl hbA hz d_law_281 ?_
          refine ak_topi (fun v58 ev58 => ?_)
          have h := h v58 ev58
          refine ac_aload_n 0 d_law_282 rfl rfl ?_
          refine ac_iload 4 d_law_283 rfl ?_
          refine ac_iconst (v := 2) d_law_285 rfl ?_
          refine ac_iadd d_law_286 ?_
          have hz := h.1
          have h := h.2
          refine ac_sld hX hbl hbA hz d_law_287 ?_
          refine ak_topi (fun v59 ev59 => ?_)
          have h := h v59 ev59
          refine ac_aload_n 0 d_law_288 rfl rfl ?_
          refine ac_iload 4 d_law_289 rfl ?_
          refine ac_iconst (v := 3) d_law_291 rfl ?_
          refine ac_iadd d_law_292 ?_
          have hz := h.1
          have h := h.2
          refine ac_sld hX hbl hbA hz d_law_293 ?_
          refine ak_topi (fun v60 ev60 => ?_)
          have h := h v60 ev60
          refine ac_aload_n 0 d_law_294 rfl rfl ?_
          refine ac_iload 4 d_law_295 rfl ?_
          refine ac_iconst (v := 4) d_law_297 rfl ?_
          refine ac_iadd d_law_298 ?_
          have hz := h.1
          have h := h.2
          refine ac_sld hX hbl hbA hz d_law_299 ?_
          refine ak_topi (fun v61 ev61 => ?_)
          have h := h v61 ev61
          refine ac_aload_n 0 d_law_300 rfl rfl ?_
          refine ac_iload 4 d_law_301 rfl ?_
          refine ac_iconst (v := 5) d_law_303 rfl ?_
          refine ac_iadd d_law_304 ?_
          have hz := h.1
          have h := h.2
          refine ac_sld hX hbl hbA hz d_law_305 ?_
          refine ak_topi (fun v62 ev62 => ?_)
          have h := h v62 ev62
          refine ac_aload_n 0 d_law_306 rfl rfl ?_
          refine ac_iload 4 d_law_307 rfl ?_
          refine ac_bipush (v := 6) d_law_309 rfl ?_
          refine ac_iadd d_law_311 ?_
          have hz := h.1
          have h := h.2
          refine ac_sld hX hbl hbA hz d_law_312 ?_
          refine ak_topi (fun v63 ev63 => ?_)
          have h := h v63 ev63
          have hk := h.1
          have h := h.2
          obtain ⟨⟨fs, hb⟩, h⟩ := h
          refine ac_callV0 cd_X0_mapping ml_XL_33 in_X0_mapping se_X0_mapping rfl hb (c_X0_mapping _ _ _ r1 v58 v59 v60 v61 v62 v63 f _ h) rfl rfl (by rw [hro]; decide) rfl (rest := []) rfl (Nat.le_of_ble_eq_true rfl) (by rw [hro]; exact hk) d_law_313 (ac_I (fun v65 f64 h => ?_))
          refine ac_pop d_law_316 rfl ?_
          refine ac_aload_n 2 d_law_317 rfl rfl ?_
          refine ac_aload_n 0 d_law_318 rfl rfl ?_
          refine ac_iload 4 d_law_319 rfl ?_
          refine ac_iconst (v := 1) d_law_321 rfl ?_
          refine ac_iadd d_law_322 ?_
          have hz := h.1
          have h := h.2
          refine ac_sld hX hbl hbA hz d_law_323 ?_
          refine ak_topi (fun v66 ev66 => ?_)
          have h := h v66 ev66
          refine ac_aload_n 0 d_law_324 rfl rfl ?_
          refine ac_iload 4 d_law_325 rfl ?_
          refine ac_iconst (v := 2) d_law_327 rfl ?_
          refine ac_iadd d_law_328 ?_
          have hz := h.1
          have h := h.2
          refine ac_sld hX hbl hbA hz d_law_329 ?_
          refine ak_topi (fun v67 ev67 => ?_)
          have h := h v67 ev67
          refine ac_aload_n 0 d_law_330 rfl rfl ?_
          refine ac_iload 4 d_law_331 rfl ?_
          refine ac_iconst (v := 3) d_law_333 rfl ?_
          refine ac_iadd d_law_334 ?_
          have hz := h.1
          have h := h.2
          refine ac_sld hX hbl hbA hz d_law_335 ?_
          refine ak_topi (fun v68 ev68 => ?_)
          have h := h v68 ev68
          refine ac_aload_n 0 d_law_336 rfl rfl ?_
          refine ac_iload 4 d_law_337 rfl ?_
          refine ac_iconst (v := 4) d_law_339 rfl ?_
          refine ac_iadd d_law_340 ?_
          have hz := h.1
          have h := h.2
          refine ac_sld hX hbl hbA hz d_law_341 ?_
          refine ak_topi (fun v69 ev69 => ?_)
          have h := h v69 ev69
          refine ac_aload_n 0 d_law_342 rfl rfl ?_
          refine ac_iload 4 d_law_343 rfl ?_
          refine ac_iconst (v := 5) d_law_345 rfl ?_
          refine ac_iadd d_law_346 ?_
          have hz := h.1
          have h := h.2
          refine ac_sld hX hbl hbA hz d_law_347 ?_
          refine ak_topi (fun v70 ev70 => ?_)
          have h := h v70 ev70
          refine ac_aload_n 0 d_law_348 rfl rfl ?_
          refine ac_iload 4 d_law_349 rfl ?_
          refine ac_bipush (v := 6) d_law_351 rfl ?_
          refine ac_iadd d_law_353 ?_
          have hz := h.1
          have h := h.2
          refine ac_sld hX hbl hbA hz d_law_354 ?_
          refine ak_topi (fun v71 ev71 => ?_)
          have h := h v71 ev71
          have hk := h.1
          have h := h.2
          obtain ⟨⟨fs, hb⟩, h⟩ := h
          refine ac_callV0 cd_X9_mapping ml_XL_37 in_X9_mapping se_X9_mapping rfl hb (c_X9_mapping _ _ _ r2 v66 v67 v68 v69 v70 v71 f64 _ h) rfl rfl (by rw [hro]; decide) rfl (rest := []) rfl (Nat.le_of_ble_eq_true rfl) (by rw [hro]; exact hk) d_law_355 (ac_I (fun v73 f72 h => ?_))
          refine ac_pop d_law_358 rfl ?_
          refine ac_goto (tgt := 679) d_law_359 (by decide) ?_
          obtain ⟨v74, ev74⟩ : ∃ y : Int32, y = x4 + 7 := ⟨_, rfl⟩
          have h := h v74 ev74
          refine ac_iinc (j := 4) (lv' := [(4, .int v74), (0, .ref b), (1, .ref r1), (2, .ref r2), (3, .ref r3)]) d_law_679 rfl (by rw [ev74]; rfl) (by decide) rfl ?_
          refine ac_goto (tgt := 23) d_law_682 (by decide) ?_
          refine ac_weak [1, 2, 3, 4, 0] rfl ?_
          exact ih v74 kc ks f72 h
        · have h := h.2.2.2.2.1 hv
          refine ac_aload_n 1 d_law_362 rfl rfl ?_
          have hk := h.1
          have h := h.2
          obtain ⟨⟨fs, hb⟩, h⟩ := h
          refine ac_callV0 cd_X0_triples ml_XL_38 in_X0_triples se_X0_triples rfl hb (c_X0_triples _ _ _ r1 f _ h) rfl rfl (by rw [hro]; decide) rfl (rest := []) rfl (Nat.le_of_ble_eq_true rfl) (by rw [hro]; exact hk) d_law_363 (ac_I (fun v76 f75 h => ?_))
          refine ac_pop d_law_366 rfl ?_
          refine ac_aload_n 2 d_law_367 rfl rfl ?_
          have hk := h.1
          have h := h.2
          obtain ⟨⟨fs, hb⟩, h⟩ := h
          refine ac_callV0 cd_X9_triples ml_XL_42 in_X9_triples se_X9_triples rfl hb (c_X9_triples _ _ _ r2 f75 _ h) rfl rfl (by rw [hro]; decide) rfl (rest := []) rfl (Nat.le_of_ble_eq_true rfl) (by rw [hro]; exact hk) d_law_368 (ac_I (fun v78 f77 h => ?_))
          refine ac_pop d_law_371 rfl ?_
          refine ac_goto (tgt := 679) d_law_372 (by decide) ?_
          obtain ⟨v79, ev79⟩ : ∃ y : Int32, y = x4 + 7 := ⟨_, rfl⟩
          have h := h v79 ev79
          refine ac_iinc (j := 4) (lv' := [(4, .int v79), (0, .ref b), (1, .ref r1), (2, .ref r2), (3, .ref r3)]) d_law_679 rfl (by rw [ev79]; rfl) (by decide) rfl ?_
          refine ac_goto (tgt := 23) d_law_682 (by decide) ?_
          refine ac_weak [1, 2, 3, 4, 0] rfl ?_
          exact ih v79 kc ks f77 h
        · have h := h.2.2.2.2.2.1 hv
          refine ac_aload_n 1 d_law_375 rfl rfl ?_
          refine ac_aload_n 0 d_law_376 rfl rfl ?_
          refine ac_iload 4 d_law_377 rfl ?_
          refine ac_iconst (v := 1) d_law_379 rfl ?_
          refine ac_iadd d_law_380 ?_
          have hz := h.1
          have h := h.2
          refine ac_sld hX hbl hbA hz d_law_381 ?_
          refine ak_topi (fun v80 ev80 => ?_)
          have h := h v80 ev80
          refine ac_aload_n 0 d_law_382 rfl rfl ?_
          refine ac_iload 4 d_law_383 rfl ?_
          refine ac_iconst (v := 2) d_law_385 rfl ?_
          refine ac_iadd d_law_386 ?_
          have hz := h.1
          have h := h.2
          refine ac_sld hX hbl hbA hz d_law_387 ?_
          refine ak_topi (fun v81 ev81 => ?_)
          have h := h v81 ev81
          refine ac_aload_n 0 d_law_388 rfl rfl ?_
          refine ac_iload 4 d_law_389 rfl ?_
          refine ac_iconst (v := 3) d_law_391 rfl ?_
          refine ac_iadd d_law_392 ?_
          have hz := h.1
          have h := h.2
          refine ac_sld hX hbl hbA hz d_law_393 ?_
          refine ak_topi (fun v82 ev82 => ?_)
          have h := h v82 ev82
          have hk := h.1
          have h := h.2
          obtain ⟨⟨fs, hb⟩, h⟩ := h
          refine ac_callV0 cd_X0_atom ml_XL_43 in_X0_atom se_X0_atom rfl hb (c_X0_atom _ _ _ r1 v80 v81 v82 f _ h) rfl rfl (by rw [hro]; decide) rfl (rest := []) rfl (Nat.le_of_ble_eq_true rfl) (by rw [hro]; exact hk) d_law_394 (ac_I (fun v84 f83 h => ?_))
          refine ac_pop d_law_397 rfl ?_
          refine ac_aload_n 2 d_law_398 rfl rfl ?_
          refine ac_aload_n 0 d_law_399 rfl rfl ?_
          refine ac_iload 4 d_law_400 rfl ?_
          refine ac_iconst (v := 1) d_law_402 rfl ?_
          refine ac_iadd d_law_403 ?_
          have hz := h.1
          have h := h.2
          refine ac_sld hX hbl hbA hz d_law_404 ?_
          refine ak_topi (fun v85 ev85 => ?_)
          have h := h v85 ev85
          refine ac_aload_n 0 d_law_405 rfl rfl ?_
          refine ac_iload 4 d_law_406 rfl ?_
          refine ac_iconst (v := 2) d_law_408 rfl ?_
          refine ac_iadd d_law_409 ?_
          have hz := h.1
          have h := h.2
          refine ac_sld hX hbl hbA hz d_law_410 ?_
          refine ak_topi (fun v86 ev86 => ?_)
          have h := h v86 ev86
          refine ac_aload_n 0 d_law_411 rfl rfl ?_
          refine ac_iload 4 d_law_412 rfl ?_
          refine ac_iconst (v := 3) d_law_414 rfl ?_
          refine ac_iadd d_law_415 ?_
          have hz := h.1
          have h := h.2
          refine ac_sld hX hbl hbA hz d_law_416 ?_
          refine ak_topi (fun v87 ev87 => ?_)
          have h := h v87 ev87
          have hk := h.1
          have h := h.2
          obtain ⟨⟨fs, hb⟩, h⟩ := h
          refine ac_callV0 cd_X9_atom ml_XL_47 in_X9_atom se_X9_atom rfl hb (c_X9_atom _ _ _ r2 v85 v86 v87 f83 _ h) rfl rfl (by rw [hro]; decide) rfl (rest := []) rfl (Nat.le_of_ble_eq_true rfl) (by rw [hro]; exact hk) d_law_417 (ac_I (fun v89 f88 h => ?_))
          refine ac_pop d_law_420 rfl ?_
          refine ac_goto (tgt := 679) d_law_421 (by decide) ?_
          obtain ⟨v90, ev90⟩ : ∃ y : Int32, y = x4 + 7 := ⟨_, rfl⟩
          have h := h v90 ev90
          refine ac_iinc (j := 4) (lv' := [(4, .int v90), (0, .ref b), (1, .ref r1), (2, .ref r2), (3, .ref r3)]) d_law_679 rfl (by rw [ev90]; rfl) (by decide) rfl ?_
          refine ac_goto (tgt := 23) d_law_682 (by decide) ?_
          refine ac_weak [1, 2, 3, 4, 0] rfl ?_
          exact ih v90 kc ks f88 h
        · have h := h.2.2.2.2.2.2.1 hv
          refine ac_aload_n 1 d_law_424 rfl rfl ?_
          refine ac_aload_n 0 d_law_425 rfl rfl ?_
          refine ac_iload 4 d_law_426 rfl ?_
          refine ac_iconst (v := 1) d_law_428 rfl ?_
          refine ac_iadd d_law_429 ?_
          have hz := h.1
          have h := h.2
          refine ac_sld hX hbl hbA hz d_law_430 ?_
          refine ak_topi (fun v91 ev91 => ?_)
          have h := h v91 ev91
          refine ac_aload_n 0 d_law_431 rfl rfl ?_
          refine ac_iload 4 d_law_432 rfl ?_
          refine ac_iconst (v := 2) d_law_434 rfl ?_
          refine ac_iadd d_law_435 ?_
          have hz := h.1
          have h := h.2
          refine ac_sld hX hbl hbA hz d_law_436 ?_
          refine ak_topi (fun v92 ev92 => ?_)
          have h := h v92 ev92
          refine ac_aload_n 0 d_law_437 rfl rfl ?_
          refine ac_iload 4 d_law_438 rfl ?_
          refine ac_iconst (v := 3) d_law_440 rfl ?_
          refine ac_iadd d_law_441 ?_
          have hz := h.1
          have h := h.2
          refine ac_sld hX hbl hbA hz d_law_442 ?_
          refine ak_topi (fun v93 ev93 => ?_)
          have h := h v93 ev93
          have hk := h.1
          have h := h.2
          obtain ⟨⟨fs, hb⟩, h⟩ := h
          refine ac_callV0 cd_X0_span ml_XL_48 in_X0_span se_X0_span rfl hb (c_X0_span _ _ _ r1 v91 v92 v93 f _ h) rfl rfl (by rw [hro]; decide) rfl (rest := []) rfl (Nat.le_of_ble_eq_true rfl) (by rw [hro]; exact hk) d_law_443 (ac_I (fun v95 f94 h => ?_))
          refine ac_pop d_law_446 rfl ?_
          refine ac_aload_n 2 d_law_447 rfl rfl ?_
          refine ac_aload_n 0 d_law_448 rfl rfl ?_
          refine ac_iload 4 d_law_449 rfl ?_
          refine ac_iconst (v := 1) d_law_451 rfl ?_
          refine ac_iadd d_law_452 ?_
          have hz := h.1
          have h := h.2
          refine ac_sld hX hbl hbA hz d_law_453 ?_
          refine ak_topi (fun v96 ev96 => ?_)
          have h := h v96 ev96
          refine ac_aload_n 0 d_law_454 rfl rfl ?_
          refine ac_iload 4 d_law_455 rfl ?_
          refine ac_iconst (v := 2) d_law_457 rfl ?_
          refine ac_iadd d_law_458 ?_
          have hz := h.1
          have h := h.2
          refine ac_sld hX hbl hbA hz d_law_459 ?_
          refine ak_topi (fun v97 ev97 => ?_)
          have h := h v97 ev97
          refine ac_aload_n 0 d_law_460 rfl rfl ?_
          refine ac_iload 4 d_law_461 rfl ?_
          refine ac_iconst (v := 3) d_law_463 rfl ?_
          refine ac_iadd d_law_464 ?_
          have hz := h.1
          have h := h.2
          refine ac_sld hX hbl hbA hz d_law_465 ?_
          refine ak_topi (fun v98 ev98 => ?_)
          have h := h v98 ev98
          have hk := h.1
          have h := h.2
          obtain ⟨⟨fs, hb⟩, h⟩ := h
          refine ac_callV0 cd_X9_span ml_XL_51 in_X9_span se_X9_span rfl hb (c_X9_span _ _ _ r2 v96 v97 v98 f94 _ h) rfl rfl (by rw [hro]; decide) rfl (rest := []) rfl (Nat.le_of_ble_eq_true rfl) (by rw [hro]; exact hk) d_law_466 (ac_I (fun v100 f99 h => ?_))
          refine ac_pop d_law_469 rfl ?_
          refine ac_goto (tgt := 679) d_law_470 (by decide) ?_
          obtain ⟨v101, ev101⟩ : ∃ y : Int32, y = x4 + 7 := ⟨_, rfl⟩
          have h := h v101 ev101
          refine ac_iinc (j := 4) (lv' := [(4, .int v101), (0, .ref b), (1, .ref r1), (2, .ref r2), (3, .ref r3)]) d_law_679 rfl (by rw [ev101]; rfl) (by decide) rfl ?_
          refine ac_goto (tgt := 23) d_law_682 (by decide) ?_
          refine ac_weak [1, 2, 3, 4, 0] rfl ?_
          exact ih v101 kc ks f99 h
        · have h := h.2.2.2.2.2.2.2.1 hv
          refine ac_aload_n 1 d_law_473 rfl rfl ?_
          have hk := h.1
          have h := h.2
          obtain ⟨⟨fs, hb⟩, h⟩ := h
          refine ac_callV0 cd_X0_clear ml_XL_52 in_X0_clear se_X0_clear rfl hb (c_X0_clear _ _ _ r1 f _ h) rfl rfl (by rw [hro]; decide) rfl (rest := []) rfl (Nat.le_of_ble_eq_true rfl) (by rw [hro]; exact hk) d_law_474 (ac_I (fun v103 f102 h => ?_))
          refine ac_pop d_law_477 rfl ?_
          refine ac_aload_n 2 d_law_478 rfl rfl ?_
          have hk := h.1
          have h := h.2
          obtain ⟨⟨fs, hb⟩, h⟩ := h
          refine ac_callV0 cd_X9_clear ml_XL_55 in_X9_clear se_X9_clear rfl hb (c_X9_clear _ _ _ r2 f102 _ h) rfl rfl (by rw [hro]; decide) rfl (rest := []) rfl (Nat.le_of_ble_eq_true rfl) (by rw [hro]; exact hk) d_law_479 (ac_I (fun v105 f104 h => ?_))
          refine ac_pop d_law_482 rfl ?_
          refine ac_goto (tgt := 679) d_law_483 (by decide) ?_
          obtain ⟨v106, ev106⟩ : ∃ y : Int32, y = x4 + 7 := ⟨_, rfl⟩
          have h := h v106 ev106
          refine ac_iinc (j := 4) (lv' := [(4, .int v106), (0, .ref b), (1, .ref r1), (2, .ref r2), (3, .ref r3)]) d_law_679 rfl (by rw [ev106]; rfl) (by decide) rfl ?_
          refine ac_goto (tgt := 23) d_law_682 (by decide) ?_
          refine ac_weak [1, 2, 3, 4, 0] rfl ?_
          exact ih v106 kc ks f104 h
        · have h := h.2.2.2.2.2.2.2.2.1 hv
          refine ac_aload_n 1 d_law_486 rfl rfl ?_
          have hk := h.1
          have h := h.2
          obtain ⟨⟨fs, hb⟩, h⟩ := h
          refine ac_callV0 cd_X0_unions ml_XL_56 in_X0_unions se_X0_unions rfl hb (c_X0_unions _ _ _ r1 f _ h) rfl rfl (by rw [hro]; decide) rfl (rest := []) rfl (Nat.le_of_ble_eq_true rfl) (by rw [hro]; exact hk) d_law_487 (ac_I (fun v108 f107 h => ?_))
          refine ac_pop d_law_490 rfl ?_
          refine ac_aload_n 2 d_law_491 rfl rfl ?_
          have hk := h.1
          have h := h.2
          obtain ⟨⟨fs, hb⟩, h⟩ := h
          refine ac_callV0 cd_X9_unions ml_XL_59 in_X9_unions se_X9_unions rfl hb (c_X9_unions _ _ _ r2 f107 _ h) rfl rfl (by rw [hro]; decide) rfl (rest := []) rfl (Nat.le_of_ble_eq_true rfl) (by rw [hro]; exact hk) d_law_492 (ac_I (fun v110 f109 h => ?_))
          refine ac_pop d_law_495 rfl ?_
          refine ac_goto (tgt := 679) d_law_496 (by decide) ?_
          obtain ⟨v111, ev111⟩ : ∃ y : Int32, y = x4 + 7 := ⟨_, rfl⟩
          have h := h v111 ev111
          refine ac_iinc (j := 4) (lv' := [(4, .int v111), (0, .ref b), (1, .ref r1), (2, .ref r2), (3, .ref r3)]) d_law_679 rfl (by rw [ev111]; rfl) (by decide) rfl ?_
          refine ac_goto (tgt := 23) d_law_682 (by decide) ?_
          refine ac_weak [1, 2, 3, 4, 0] rfl ?_
          exact ih v111 kc ks f109 h
        · have h := h.2.2.2.2.2.2.2.2.2.1 hv
          refine ac_aload_n 1 d_law_499 rfl rfl ?_
          refine ac_aload_n 0 d_law_500 rfl rfl ?_
          refine ac_iload 4 d_law_501 rfl ?_
          refine ac_iconst (v := 1) d_law_503 rfl ?_
          refine ac_iadd d_law_504 ?_
          have hz := h.1
          have h := h.2
          refine ac_sld hX hbl hbA hz d_law_505 ?_
          refine ak_topi (fun v112 ev112 => ?_)
          have h := h v112 ev112
          refine ac_aload_n 0 d_law_506 rfl rfl ?_
          refine ac_iload 4 d_law_507 rfl ?_
          refine ac_iconst (v := 2) d_law_509 rfl ?_
          refine ac_iadd d_law_510 ?_
          have hz := h.1
          have h := h.2
          refine ac_sld hX hbl hbA hz d_law_511 ?_
          refine ak_topi (fun v113 ev113 => ?_)
          have h := h v113 ev113
          have hk := h.1
          have h := h.2
          obtain ⟨⟨fs, hb⟩, h⟩ := h
          refine ac_callV0 cd_X0_union ml_XL_60 in_X0_union se_X0_union rfl hb (c_X0_union _ _ _ r1 v112 v113 f _ h) rfl rfl (by rw [hro]; decide) rfl (rest := []) rfl (Nat.le_of_ble_eq_true rfl) (by rw [hro]; exact hk) d_law_512 (ac_I (fun v115 f114 h => ?_))
          refine ac_pop d_law_515 rfl ?_
          refine ac_aload_n 2 d_law_516 rfl rfl ?_
          refine ac_aload_n 0 d_law_517 rfl rfl ?_
          refine ac_iload 4 d_law_518 rfl ?_
          refine ac_iconst (v := 1) d_law_520 rfl ?_
          refine ac_iadd d_law_521 ?_
          have hz := h.1
          have h := h.2
          refine ac_sld hX hbl hbA hz d_law_522 ?_
          refine ak_topi (fun v116 ev116 => ?_)
          have h := h v116 ev116
          refine ac_aload_n 0 d_law_523 rfl rfl ?_
          refine ac_iload 4 d_law_524 rfl ?_
          refine ac_iconst (v := 2) d_law_526 rfl ?_
          refine ac_iadd d_law_527 ?_
          have hz := h.1
          have h := h.2
          refine ac_sld hX hbl hbA hz d_law_528 ?_
          refine ak_topi (fun v117 ev117 => ?_)
          have h := h v117 ev117
          have hk := h.1
          have h := h.2
          obtain ⟨⟨fs, hb⟩, h⟩ := h
          refine ac_callV0 cd_X9_union ml_XL_63 in_X9_union se_X9_union rfl hb (c_X9_union _ _ _ r2 v116 v117 f114 _ h) rfl rfl (by rw [hro]; decide) rfl (rest := []) rfl (Nat.le_of_ble_eq_true rfl) (by rw [hro]; exact hk) d_law_529 (ac_I (fun v119 f118 h => ?_))
          refine ac_pop d_law_532 rfl ?_
          refine ac_goto (tgt := 679) d_law_533 (by decide) ?_
          obtain ⟨v120, ev120⟩ : ∃ y : Int32, y = x4 + 7 := ⟨_, rfl⟩
          have h := h v120 ev120
          refine ac_iinc (j := 4) (lv' := [(4, .int v120), (0, .ref b), (1, .ref r1), (2, .ref r2), (3, .ref r3)]) d_law_679 rfl (by rw [ev120]; rfl) (by decide) rfl ?_
          refine ac_goto (tgt := 23) d_law_682 (by decide) ?_
          refine ac_weak [1, 2, 3, 4, 0] rfl ?_
          exact ih v120 kc ks f118 h
        · have h := h.2.2.2.2.2.2.2.2.2.2.1 hv
          refine ac_aload_n 1 d_law_536 rfl rfl ?_
          refine ac_aload_n 0 d_law_537 rfl rfl ?_
          refine ac_iload 4 d_law_538 rfl ?_
          refine ac_iconst (v := 1) d_law_540 rfl ?_
          refine ac_iadd d_law_541 ?_
          have hz := h.1
          have h := h.2
          refine ac_sld hX hbl hbA hz d_law_542 ?_
          refine ak_topi (fun v121 ev121 => ?_)
          have h := h v121 ev121
          have hk := h.1
          have h := h.2
          obtain ⟨⟨fs, hb⟩, h⟩ := h
          refine ac_callV0 cd_X0_estimate ml_XL_64 in_X0_estimate se_X0_estimate rfl hb (c_X0_estimate _ _ _ r1 v121 f _ h) rfl rfl (by rw [hro]; decide) rfl (rest := []) rfl (Nat.le_of_ble_eq_true rfl) (by rw [hro]; exact hk) d_law_543 (ac_I (fun v123 f122 h => ?_))
          refine ac_pop d_law_546 rfl ?_
          refine ac_aload_n 2 d_law_547 rfl rfl ?_
          refine ac_aload_n 0 d_law_548 rfl rfl ?_
          refine ac_iload 4 d_law_549 rfl ?_
          refine ac_iconst (v := 1) d_law_551 rfl ?_
          refine ac_iadd d_law_552 ?_
          have hz := h.1
          have h := h.2
          refine ac_sld hX hbl hbA hz d_law_553 ?_
          refine ak_topi (fun v124 ev124 => ?_)
          have h := h v124 ev124
          have hk := h.1
          have h := h.2
          obtain ⟨⟨fs, hb⟩, h⟩ := h
          refine ac_callV0 cd_X9_estimate ml_XL_68 in_X9_estimate se_X9_estimate rfl hb (c_X9_estimate _ _ _ r2 v124 f122 _ h) rfl rfl (by rw [hro]; decide) rfl (rest := []) rfl (Nat.le_of_ble_eq_true rfl) (by rw [hro]; exact hk) d_law_554 (ac_I (fun v126 f125 h => ?_))
          refine ac_pop d_law_557 rfl ?_
          refine ac_goto (tgt := 679) d_law_558 (by decide) ?_
          obtain ⟨v127, ev127⟩ : ∃ y : Int32, y = x4 + 7 := ⟨_, rfl⟩
          have h := h v127 ev127
          refine ac_iinc (j := 4) (lv' := [(4, .int v127), (0, .ref b), (1, .ref r1), (2, .ref r2), (3, .ref r3)]) d_law_679 rfl (by rw [ev127]; rfl) (by decide) rfl ?_
          refine ac_goto (tgt := 23) d_law_682 (by decide) ?_
          refine ac_weak [1, 2, 3, 4, 0] rfl ?_
          exact ih v127 kc ks f125 h
        · have h := h.2.2.2.2.2.2.2.2.2.2.2.1 hv
          refine ac_aload_n 1 d_law_561 rfl rfl ?_
          have hk := h.1
          have h := h.2
          obtain ⟨⟨fs, hb⟩, h⟩ := h
          refine ac_callV0 cd_X0_run ml_XL_69 in_X0_run se_X0_run rfl hb (c_X0_run _ _ _ r1 f _ h) rfl rfl (by rw [hro]; decide) rfl (rest := []) rfl (Nat.le_of_ble_eq_true rfl) (by rw [hro]; exact hk) d_law_562 (ac_I (fun v129 f128 h => ?_))
          refine ac_pop d_law_565 rfl ?_
          refine ac_aload_n 2 d_law_566 rfl rfl ?_
          have hk := h.1
          have h := h.2
          obtain ⟨⟨fs, hb⟩, h⟩ := h
          refine ac_callV0 cd_X9_run ml_XL_72 in_X9_run se_X9_run rfl hb (c_X9_run _ _ _ r2 f128 _ h) rfl rfl (by rw [hro]; decide) rfl (rest := []) rfl (Nat.le_of_ble_eq_true rfl) (by rw [hro]; exact hk) d_law_567 (ac_I (fun v131 f130 h => ?_))
          refine ac_pop d_law_570 rfl ?_
          refine ac_goto (tgt := 679) d_law_571 (by decide) ?_
          obtain ⟨v132, ev132⟩ : ∃ y : Int32, y = x4 + 7 := ⟨_, rfl⟩
          have h := h v132 ev132
          refine ac_iinc (j := 4) (lv' := [(4, .int v132), (0, .ref b), (1, .ref r1), (2, .ref r2), (3, .ref r3)]) d_law_679 rfl (by rw [ev132]; rfl) (by decide) rfl ?_
          refine ac_goto (tgt := 23) d_law_682 (by decide) ?_
          refine ac_weak [1, 2, 3, 4, 0] rfl ?_
          exact ih v132 kc ks f130 h
        · have h := h.2.2.2.2.2.2.2.2.2.2.2.2.1 hv
          refine ac_aload_n 1 d_law_574 rfl rfl ?_
          refine ac_aload_n 0 d_law_575 rfl rfl ?_
          refine ac_iload 4 d_law_576 rfl ?_
          refine ac_iconst (v := 1) d_law_578 rfl ?_
          refine ac_iadd d_law_579 ?_
          have hz := h.1
          have h := h.2
          refine ac_sld hX hbl hbA hz d_law_580 ?_
          refine ak_topi (fun v133 ev133 => ?_)
          have h := h v133 ev133
          refine ac_aload_n 0 d_law_581 rfl rfl ?_
          refine ac_iload 4 d_law_582 rfl ?_
          refine ac_iconst (v := 2) d_law_584 rfl ?_
          refine ac_iadd d_law_585 ?_
          have hz := h.1
          have h := h.2
          refine ac_sld hX hbl hbA hz d_law_586 ?_
          refine ak_topi (fun v134 ev134 => ?_)
          have h := h v134 ev134
          refine ac_aload_n 3 d_law_587 rfl rfl ?_
          have hk := h.1
          have h := h.2
          refine ac_callSZ hZ hAq cdw_XL_value ml_XL_73 st_XL_value (cz_XL_value _ hfl _ _ r1 v133 v134 r3 f _ h) rfl rfl (by rw [hro]; decide) rfl (rest := []) rfl (Nat.le_of_ble_eq_true rfl) (by rw [hro]; exact hk) d_law_588 (ac_I (fun v136 f135 h => ?_))
          refine ac_istore (lv' := [(5, .int v136), (0, .ref b), (1, .ref r1), (2, .ref r2), (3, .ref r3), (4, .int x4)]) d_law_591 (by decide) rfl ?_
          refine ac_aload_n 3 d_law_593 rfl rfl ?_
          refine ac_aload_n 1 d_law_594 rfl rfl ?_
          refine ac_iload 5 d_law_595 rfl ?_
          refine ac_iconst (v := 1) d_law_597 rfl ?_
          refine ac_iadd d_law_598 ?_
          have hz := h.1
          have h := h.2
          refine ac_sld hX hbl hbA hz d_law_599 ?_
          refine ak_topi (fun v137 ev137 => ?_)
          have h := h v137 ev137
          refine ac_aload_n 1 d_law_600 rfl rfl ?_
          refine ac_iload 5 d_law_601 rfl ?_
          refine ac_iconst (v := 2) d_law_603 rfl ?_
          refine ac_iadd d_law_604 ?_
          have hz := h.1
          have h := h.2
          refine ac_sld hX hbl hbA hz d_law_605 ?_
          refine ak_topi (fun v138 ev138 => ?_)
          have h := h v138 ev138
          have hk := h.1
          have h := h.2
          obtain ⟨⟨fs, hb⟩, h⟩ := h
          refine ac_callV0 cd_X9_value ml_XL_78 in_X9_value se_X9_value rfl hb (c_X9_value _ _ _ r2 v137 v138 f135 _ h) rfl rfl (by rw [hro]; decide) rfl (rest := []) rfl (Nat.le_of_ble_eq_true rfl) (by rw [hro]; exact hk) d_law_606 (ac_I (fun v140 f139 h => ?_))
          refine ac_istore (lv' := [(6, .int v140), (5, .int v136), (0, .ref b), (1, .ref r1), (2, .ref r2), (3, .ref r3), (4, .int x4)]) d_law_609 (by decide) rfl ?_
          refine ac_aload_n 4 d_law_611 rfl rfl ?_
          have hk := h.1
          have h := h.2
          obtain ⟨⟨fs, hb⟩, h⟩ := h
          refine ac_callV0 cd_X9_thrown ml_XL_79 in_X9_thrown se_X9_thrown rfl hb (c_X9_thrown _ _ _ r2 f139 _ h) rfl rfl (by rw [hro]; decide) rfl (rest := []) rfl (Nat.le_of_ble_eq_true rfl) (by rw [hro]; exact hk) d_law_612 (ac_I (fun v142 f141 h => ?_))
          refine ac_iload 1 d_law_615 rfl ?_
          refine ac_icmp_eq (tgt := 622) d_law_617 (by decide) (fun hc => ?_) (fun hc => ?_)
          · have h := h.1 hc
            refine ac_iload 1 d_law_622 rfl ?_
            refine ac_if_ne (tgt := 639) d_law_624 (by decide) (fun hc => ?_) (fun hc => ?_)
            · have h := h.1 hc
              refine ac_goto (tgt := 679) d_law_639 (by decide) ?_
              obtain ⟨v143, ev143⟩ : ∃ y : Int32, y = x4 + 7 := ⟨_, rfl⟩
              have h := h v143 ev143
              refine ac_iinc (j := 6) (lv' := [(4, .int v143), (6, .int v140), (5, .int v136), (0, .ref b), (1, .ref r1), (2, .ref r2), (3, .ref r3)]) d_law_679 rfl (by rw [ev143]; rfl) (by decide) rfl ?_
              refine ac_goto (tgt := 23) d_law_682 (by decide) ?_
              refine ac_weak [3, 4, 5, 6, 0] rfl ?_
              exact ih v143 (kc + 1) (ks + 6) f141 h
            · have h := h.2 hc
              refine ac_aload_n 5 d_law_627 rfl rfl ?_
              refine ac_iconst (v := 0) d_law_628 rfl ?_
              obtain ⟨v144, hr, h⟩ := h
              refine ak_lald 2 hr rfl d_law_629 ?_
              refine ac_iload 0 d_law_630 rfl ?_
              refine ac_i2l d_law_632 ?_
              refine ac_lcmp d_law_633 ?_
              refine ac_if_eq (tgt := 639) d_law_634 (by decide) (fun hc => ?_) (fun hc => ?_)
              · have h := h.1 hc
                refine ac_goto (tgt := 679) d_law_639 (by decide) ?_
                obtain ⟨v145, ev145⟩ : ∃ y : Int32, y = x4 + 7 := ⟨_, rfl⟩
                have h := h v145 ev145
                refine ac_iinc (j := 6) (lv' := [(4, .int v145), (6, .int v140), (5, .int v136), (0, .ref b), (1, .ref r1), (2, .ref r2), (3, .ref r3)]) d_law_679 rfl (by rw [ev145]; rfl) (by decide) rfl ?_
                refine ac_goto (tgt := 23) d_law_682 (by decide) ?_
                refine ac_weak [3, 4, 5, 6, 0] rfl ?_
                exact ih v145 (kc + 1) (ks + 6) f141 h
              · have h := h.2 hc
                refine ac_iconst (v := 0) d_law_637 rfl ?_
                exact h.elim
          · have h := h.2 hc
            refine ac_iconst (v := 0) d_law_620 rfl ?_
            exact h.elim
        · have h := h.2.2.2.2.2.2.2.2.2.2.2.2.2 hv
          refine ac_aload_n 1 d_law_642 rfl rfl ?_
          refine ac_aload_n 0 d_law_643 rfl rfl ?_
          refine ac_iload 4 d_law_644 rfl ?_
          refine ac_iconst (v := 1) d_law_646 rfl ?_
          refine ac_iadd d_law_647 ?_
          have hz := h.1
          have h := h.2
          refine ac_sld hX hbl hbA hz d_law_648 ?_
          refine ak_topi (fun v146 ev146 => ?_)
          have h := h v146 ev146
          refine ac_aload_n 0 d_law_649 rfl rfl ?_
          refine ac_iload 4 d_law_650 rfl ?_
          refine ac_iconst (v := 2) d_law_652 rfl ?_
          refine ac_iadd d_law_653 ?_
          have hz := h.1
          have h := h.2
          refine ac_sld hX hbl hbA hz d_law_654 ?_
          refine ak_topi (fun v147 ev147 => ?_)
          have h := h v147 ev147
          have hk := h.1
          have h := h.2
          obtain ⟨⟨fs, hb⟩, h⟩ := h
          refine ac_callV0 cd_X0_found ml_XL_82 in_X0_found se_X0_found rfl hb (c_X0_found _ _ _ r1 v146 v147 f _ h) rfl rfl (by rw [hro]; decide) rfl (rest := []) rfl (Nat.le_of_ble_eq_true rfl) (by rw [hro]; exact hk) d_law_655 (ac_I (fun v149 f148 h => ?_))
          refine ac_pop d_law_658 rfl ?_
          refine ac_aload_n 2 d_law_659 rfl rfl ?_
          refine ac_aload_n 0 d_law_660 rfl rfl ?_
          refine ac_iload 4 d_law_661 rfl ?_
          refine ac_iconst (v := 1) d_law_663 rfl ?_
          refine ac_iadd d_law_664 ?_
          have hz := h.1
          have h := h.2
          refine ac_sld hX hbl hbA hz d_law_665 ?_
          refine ak_topi (fun v150 ev150 => ?_)
          have h := h v150 ev150
          refine ac_aload_n 0 d_law_666 rfl rfl ?_
          refine ac_iload 4 d_law_667 rfl ?_
          refine ac_iconst (v := 2) d_law_669 rfl ?_
          refine ac_iadd d_law_670 ?_
          have hz := h.1
          have h := h.2
          refine ac_sld hX hbl hbA hz d_law_671 ?_
          refine ak_topi (fun v151 ev151 => ?_)
          have h := h v151 ev151
          have hk := h.1
          have h := h.2
          obtain ⟨⟨fs, hb⟩, h⟩ := h
          refine ac_callV0 cd_X9_found ml_XL_85 in_X9_found se_X9_found rfl hb (c_X9_found _ _ _ r2 v150 v151 f148 _ h) rfl rfl (by rw [hro]; decide) rfl (rest := []) rfl (Nat.le_of_ble_eq_true rfl) (by rw [hro]; exact hk) d_law_672 (ac_I (fun v153 f152 h => ?_))
          refine ac_pop d_law_675 rfl ?_
          refine ac_goto (tgt := 679) d_law_676 (by decide) ?_
          obtain ⟨v154, ev154⟩ : ∃ y : Int32, y = x4 + 7 := ⟨_, rfl⟩
          have h := h v154 ev154
          refine ac_iinc (j := 4) (lv' := [(4, .int v154), (0, .ref b), (1, .ref r1), (2, .ref r2), (3, .ref r3)]) d_law_679 rfl (by rw [ev154]; rfl) (by decide) rfl ?_
          refine ac_goto (tgt := 23) d_law_682 (by decide) ?_
          refine ac_weak [1, 2, 3, 4, 0] rfl ?_
          exact ih v154 kc ks f152 h
      · have h := h.2 hv
        obtain ⟨v155, ev155⟩ : ∃ y : Int32, y = x4 + 7 := ⟨_, rfl⟩
        have h := h v155 ev155
        refine ac_iinc (j := 4) (lv' := [(4, .int v155), (0, .ref b), (1, .ref r1), (2, .ref r2), (3, .ref r3)]) d_law_679 rfl (by rw [ev155]; rfl) (by decide) rfl ?_
        refine ac_goto (tgt := 23) d_law_682 (by decide) ?_
        refine ac_weak [1, 2, 3, 4, 0] rfl ?_
        exact ih v155 kc ks f h

set_option maxRecDepth 20000 in
set_option maxHeartbeats 4000000 in
theorem c_law {x : ac_X} {f : ac_hp} (hro : ac_R x = room_1) {b L : Nat} {xs : Nat → Int32} (hX : va_X b L xs (ac_s x) (ac_s x).heap) (hbl : b < (ac_s x).heap.size) (hbA : ¬ ac_AA x b) (hfl : (ac_l x).flags = pinnedFlags ++ [noTraceFlag]) (hZ : zs (ac_s x)) (hAq : ∀ q, ac_AA x q → (ac_s x).heap.size ≤ q) (hR : ∀ (kc ks pc : Nat) (lv : List (Nat × Value)) (f : ac_hp), decode code pc = .ok (.ireturn, 1) → kc ≤ 601024 → ks ≤ 7293034 → ac_At (code, 7, "VirtualRewriteLaw") x kc ks pc lv [.int 1] f) (h : wp_law (ac_ki x) L xs f) : ac_At (code, 7, "VirtualRewriteLaw") x 0 0 0 [(0, .ref b)] [] f := by
  unfold wp_law at h
  have hk := h.1
  have h := h.2
  refine ac_newo cn_XL_8 (by rw [hro]; exact hk.1) (by rw [hro]; exact hk.2) d_law_0 (fun q1 hq => ?_)
  have h := h q1 hq
  obtain ⟨f2, ef2⟩ : ∃ z, z = ac_up f q1 (.inr (0, [.null, .null, .null, .null, .null, .null])) := ⟨_, rfl⟩
  have h := h f2 ef2
  rw [← ef2]
  refine ac_dup d_law_3 rfl ?_
  have hk := h.1
  have h := h.2
  refine ac_callI cd_X0_init ml_XL_15 in_X0_init rfl (c_X0_init _ _ _ q1 f2 _ h) rfl rfl (by rw [hro]; decide) rfl (rest := [.ref q1]) rfl (Nat.le_of_ble_eq_true rfl) (by rw [hro]; exact hk) d_law_4 (ac_V (fun f3 h => ?_))
  refine ac_astore_n (lv' := [(1, .ref q1), (0, .ref b)]) d_law_7 rfl (by decide) rfl ?_
  have hk := h.1
  have h := h.2
  refine ac_newo cn_XL_16 (by rw [hro]; exact hk.1) (by rw [hro]; exact hk.2) d_law_8 (fun q4 hq => ?_)
  have h := h q4 hq
  obtain ⟨f5, ef5⟩ : ∃ z, z = ac_up f3 q4 (.inr (9, [.int 0, .null, .null, .null, .int 0, .null, .null, .null, .null, .int 0, .null, .null, .int 0, .null, .null, .null, .int 0, .null, .null, .null, .null, .null, .null, .int 0, .null, .null, .null, .null, .null])) := ⟨_, rfl⟩
  have h := h f5 ef5
  rw [← ef5]
  refine ac_dup d_law_11 rfl ?_
  have hk := h.1
  have h := h.2
  refine ac_callI cd_X9_init ml_XL_18 in_X9_init rfl (c_X9_init _ _ _ q4 f5 _ h) rfl rfl (by rw [hro]; decide) rfl (rest := [.ref q4]) rfl (Nat.le_of_ble_eq_true rfl) (by rw [hro]; exact hk) d_law_12 (ac_V (fun f6 h => ?_))
  refine ac_astore_n (lv' := [(2, .ref q4), (1, .ref q1), (0, .ref b)]) d_law_15 rfl (by decide) rfl ?_
  refine ac_iconst (v := 1) d_law_16 rfl ?_
  have hk := h.1
  have h := h.2
  refine ac_newa (a0 := (1, .inr (.inl (fun _ => 0)))) (t0 := 2) ka_J rfl rfl (fun _ => rfl) (by decide) (by decide) (by decide) (by rw [hro]; exact hk.1) (by rw [hro]; exact hk.2) d_law_17 (fun q7 hq => ?_)
  have h := h q7 hq
  obtain ⟨f8, ef8⟩ : ∃ z, z = ac_up f6 q7 (.inl (ac_ki x 2, 1, .inr (.inl (fun _ => 0)))) := ⟨_, rfl⟩
  have h := h f8 ef8
  rw [← ef8]
  refine ac_astore_n (lv' := [(3, .ref q7), (2, .ref q4), (1, .ref q1), (0, .ref b)]) d_law_19 rfl (by decide) rfl ?_
  refine ac_iconst (v := 0) d_law_20 rfl ?_
  refine ac_istore (lv' := [(4, .int 0), (3, .ref q7), (2, .ref q4), (1, .ref q1), (0, .ref b)]) d_law_21 (by decide) rfl ?_
  obtain ⟨n156, h⟩ := h
  refine ac_weak [4, 3, 2, 1, 0] rfl ?_
  refine ok_law_L23 hro hX hbl hbA hfl hZ hAq q1 q4 q7 _ (fun kc158 ks159 f157 h => ?_) n156 0 103 8617 f8 h
  · skip
    refine ac_iconst (v := 1) d_law_685 rfl ?_
    exact hR _ _ _ _ _ d_law_686 h.1 h.2
