set_option maxRecDepth 100000 in
theorem cd_X0_init : ac_cd y_X0_init prog_1_method_1_code 1 none 0 := ⟨mem_T0 57 rfl (by decide +kernel), mem_T0 36 (by decide +kernel) (by decide +kernel), by decide +kernel, by decide +kernel, by decide +kernel⟩
theorem in_X0_init : Cond.instanceMethod y_X0_init ∈ T0_ := mem_T0 56 (by decide +kernel) (by decide +kernel)
set_option maxRecDepth 100000 in
theorem cd_X1_init : ac_cd y_X1_init prog_3_method_1_code 2 none 0 := ⟨mem_T0 65 rfl (by decide +kernel), mem_T0 37 (by decide +kernel) (by decide +kernel), by decide +kernel, by decide +kernel, by decide +kernel⟩
theorem in_X1_init : Cond.instanceMethod y_X1_init ∈ T0_ := mem_T0 64 (by decide +kernel) (by decide +kernel)
set_option maxRecDepth 100000 in
theorem cd_X2_init : ac_cd y_X2_init prog_9_method_1_code 1 none 0 := ⟨mem_T0 74 rfl (by decide +kernel), mem_T0 38 (by decide +kernel) (by decide +kernel), by decide +kernel, by decide +kernel, by decide +kernel⟩
theorem in_X2_init : Cond.instanceMethod y_X2_init ∈ T0_ := mem_T0 73 (by decide +kernel) (by decide +kernel)
set_option maxRecDepth 100000 in
theorem cd_X3_init : ac_cd y_X3_init prog_5_method_1_code 1 none 0 := ⟨mem_T0 98 rfl (by decide +kernel), mem_T0 39 (by decide +kernel) (by decide +kernel), by decide +kernel, by decide +kernel, by decide +kernel⟩
theorem in_X3_init : Cond.instanceMethod y_X3_init ∈ T0_ := mem_T0 97 (by decide +kernel) (by decide +kernel)
set_option maxRecDepth 100000 in
theorem cd_X4_init : ac_cd y_X4_init prog_6_method_1_code 2 none 0 := ⟨mem_T0 150 rfl (by decide +kernel), mem_T0 40 (by decide +kernel) (by decide +kernel), by decide +kernel, by decide +kernel, by decide +kernel⟩
theorem in_X4_init : Cond.instanceMethod y_X4_init ∈ T0_ := mem_T0 149 (by decide +kernel) (by decide +kernel)
set_option maxRecDepth 100000 in
theorem cd_X5_init : ac_cd y_X5_init prog_7_method_1_code 3 none 2 := ⟨mem_T0 181 rfl (by decide +kernel), mem_T0 41 (by decide +kernel) (by decide +kernel), by decide +kernel, by decide +kernel, by decide +kernel⟩
theorem in_X5_init : Cond.instanceMethod y_X5_init ∈ T0_ := mem_T0 180 (by decide +kernel) (by decide +kernel)
set_option maxRecDepth 100000 in
theorem cd_X6_init : ac_cd y_X6_init prog_8_method_1_code 4 none 3 := ⟨mem_T0 214 rfl (by decide +kernel), mem_T0 42 (by decide +kernel) (by decide +kernel), by decide +kernel, by decide +kernel, by decide +kernel⟩
theorem in_X6_init : Cond.instanceMethod y_X6_init ∈ T0_ := mem_T0 213 (by decide +kernel) (by decide +kernel)
set_option maxRecDepth 100000 in
theorem cd_X7_init : ac_cd y_X7_init prog_2_method_1_code 1 none 0 := ⟨mem_T0 240 rfl (by decide +kernel), mem_T0 43 (by decide +kernel) (by decide +kernel), by decide +kernel, by decide +kernel, by decide +kernel⟩
theorem in_X7_init : Cond.instanceMethod y_X7_init ∈ T0_ := mem_T0 239 (by decide +kernel) (by decide +kernel)
set_option maxRecDepth 100000 in
theorem cd_X8_init : ac_cd y_X8_init prog_4_method_1_code 5 none 4 := ⟨mem_T0 272 rfl (by decide +kernel), mem_T0 44 (by decide +kernel) (by decide +kernel), by decide +kernel, by decide +kernel, by decide +kernel⟩
theorem in_X8_init : Cond.instanceMethod y_X8_init ∈ T0_ := mem_T0 271 (by decide +kernel) (by decide +kernel)
set_option maxRecDepth 100000 in
theorem cd_X0_key : ac_cd y_X0_key prog_1_method_2_code 5 (some .int) 3 := ⟨mem_T0 336 rfl (by decide +kernel), mem_T0 36 (by decide +kernel) (by decide +kernel), by decide +kernel, by decide +kernel, by decide +kernel⟩
theorem in_X0_key : Cond.instanceMethod y_X0_key ∈ T0_ := mem_T0 334 (by decide +kernel) (by decide +kernel)
theorem se_X0_key : Cond.selects "VirtualRewrite" y_X0_key y_X0_key ∈ T0_ := mem_T0 335 (by decide +kernel) (by decide +kernel)
set_option maxRecDepth 100000 in
theorem cd_X0_isBelow : ac_cd y_X0_isBelow prog_1_method_18_code 2 (some .boolean) 2 := ⟨mem_T0 339 rfl (by decide +kernel), mem_T0 36 (by decide +kernel) (by decide +kernel), by decide +kernel, by decide +kernel, by decide +kernel⟩
theorem st_X0_isBelow : Cond.static y_X0_isBelow ∈ T0_ := mem_T0 338 (by decide +kernel) (by decide +kernel)
set_option maxRecDepth 100000 in
theorem cd_X2_repeats : ac_cd y_X2_repeats prog_9_method_4_code 3 (some .boolean) 1 := ⟨mem_T0 343 rfl (by decide +kernel), mem_T0 38 (by decide +kernel) (by decide +kernel), by decide +kernel, by decide +kernel, by decide +kernel⟩
theorem in_X2_repeats : Cond.instanceMethod y_X2_repeats ∈ T0_ := mem_T0 341 (by decide +kernel) (by decide +kernel)
theorem se_X2_repeats : Cond.selects "VirtualRewrite$Table" y_X2_repeats y_X2_repeats ∈ T0_ := mem_T0 342 (by decide +kernel) (by decide +kernel)
set_option maxRecDepth 100000 in
theorem cd_X2_cell : ac_cd y_X2_cell prog_9_method_2_code 3 (some .int) 2 := ⟨mem_T0 347 rfl (by decide +kernel), mem_T0 38 (by decide +kernel) (by decide +kernel), by decide +kernel, by decide +kernel, by decide +kernel⟩
theorem in_X2_cell : Cond.instanceMethod y_X2_cell ∈ T0_ := mem_T0 345 (by decide +kernel) (by decide +kernel)
theorem se_X2_cell : Cond.selects "VirtualRewrite$Table" y_X2_cell y_X2_cell ∈ T0_ := mem_T0 346 (by decide +kernel) (by decide +kernel)
set_option maxRecDepth 100000 in
theorem cd_X2_holds : ac_cd y_X2_holds prog_9_method_3_code 5 (some .boolean) 3 := ⟨mem_T0 351 rfl (by decide +kernel), mem_T0 38 (by decide +kernel) (by decide +kernel), by decide +kernel, by decide +kernel, by decide +kernel⟩
theorem in_X2_holds : Cond.instanceMethod y_X2_holds ∈ T0_ := mem_T0 349 (by decide +kernel) (by decide +kernel)
theorem se_X2_holds : Cond.selects "VirtualRewrite$Table" y_X2_holds y_X2_holds ∈ T0_ := mem_T0 350 (by decide +kernel) (by decide +kernel)
set_option maxRecDepth 100000 in
theorem cd_X0_row : ac_cd y_X0_row prog_1_method_3_code 6 (some .int) 4 := ⟨mem_T0 355 rfl (by decide +kernel), mem_T0 36 (by decide +kernel) (by decide +kernel), by decide +kernel, by decide +kernel, by decide +kernel⟩
theorem in_X0_row : Cond.instanceMethod y_X0_row ∈ T0_ := mem_T0 353 (by decide +kernel) (by decide +kernel)
theorem se_X0_row : Cond.selects "VirtualRewrite" y_X0_row y_X0_row ∈ T0_ := mem_T0 354 (by decide +kernel) (by decide +kernel)
set_option maxRecDepth 100000 in
theorem cd_X2_refuses : ac_cd y_X2_refuses prog_9_method_5_code 3 (some .boolean) 2 := ⟨mem_T0 359 rfl (by decide +kernel), mem_T0 38 (by decide +kernel) (by decide +kernel), by decide +kernel, by decide +kernel, by decide +kernel⟩
theorem in_X2_refuses : Cond.instanceMethod y_X2_refuses ∈ T0_ := mem_T0 357 (by decide +kernel) (by decide +kernel)
theorem se_X2_refuses : Cond.selects "VirtualRewrite$Table" y_X2_refuses y_X2_refuses ∈ T0_ := mem_T0 358 (by decide +kernel) (by decide +kernel)
set_option maxRecDepth 100000 in
theorem cd_X2_append : ac_cd y_X2_append prog_9_method_6_code 5 none 3 := ⟨mem_T0 363 rfl (by decide +kernel), mem_T0 38 (by decide +kernel) (by decide +kernel), by decide +kernel, by decide +kernel, by decide +kernel⟩
theorem in_X2_append : Cond.instanceMethod y_X2_append ∈ T0_ := mem_T0 361 (by decide +kernel) (by decide +kernel)
theorem se_X2_append : Cond.selects "VirtualRewrite$Table" y_X2_append y_X2_append ∈ T0_ := mem_T0 362 (by decide +kernel) (by decide +kernel)
set_option maxRecDepth 100000 in
theorem cd_X0_drop : ac_cd y_X0_drop prog_1_method_4_code 3 (some .int) 2 := ⟨mem_T0 367 rfl (by decide +kernel), mem_T0 36 (by decide +kernel) (by decide +kernel), by decide +kernel, by decide +kernel, by decide +kernel⟩
theorem in_X0_drop : Cond.instanceMethod y_X0_drop ∈ T0_ := mem_T0 365 (by decide +kernel) (by decide +kernel)
theorem se_X0_drop : Cond.selects "VirtualRewrite" y_X0_drop y_X0_drop ∈ T0_ := mem_T0 366 (by decide +kernel) (by decide +kernel)
set_option maxRecDepth 100000 in
theorem cd_X2_remove : ac_cd y_X2_remove prog_9_method_7_code 3 none 1 := ⟨mem_T0 371 rfl (by decide +kernel), mem_T0 38 (by decide +kernel) (by decide +kernel), by decide +kernel, by decide +kernel, by decide +kernel⟩
theorem in_X2_remove : Cond.instanceMethod y_X2_remove ∈ T0_ := mem_T0 369 (by decide +kernel) (by decide +kernel)
theorem se_X2_remove : Cond.selects "VirtualRewrite$Table" y_X2_remove y_X2_remove ∈ T0_ := mem_T0 370 (by decide +kernel) (by decide +kernel)
set_option maxRecDepth 100000 in
theorem cd_X0_mapping : ac_cd y_X0_mapping prog_1_method_5_code 8 (some .int) 6 := ⟨mem_T0 378 rfl (by decide +kernel), mem_T0 36 (by decide +kernel) (by decide +kernel), by decide +kernel, by decide +kernel, by decide +kernel⟩
theorem in_X0_mapping : Cond.instanceMethod y_X0_mapping ∈ T0_ := mem_T0 376 (by decide +kernel) (by decide +kernel)
theorem se_X0_mapping : Cond.selects "VirtualRewrite" y_X0_mapping y_X0_mapping ∈ T0_ := mem_T0 377 (by decide +kernel) (by decide +kernel)
set_option maxRecDepth 100000 in
theorem cd_X3_describe : ac_cd y_X3_describe prog_5_method_2_code 4 none 3 := ⟨mem_T0 382 rfl (by decide +kernel), mem_T0 39 (by decide +kernel) (by decide +kernel), by decide +kernel, by decide +kernel, by decide +kernel⟩
theorem in_X3_describe : Cond.instanceMethod y_X3_describe ∈ T0_ := mem_T0 380 (by decide +kernel) (by decide +kernel)
theorem se_X3_describe : Cond.selects "VirtualRewrite$Mapping" y_X3_describe y_X3_describe ∈ T0_ := mem_T0 381 (by decide +kernel) (by decide +kernel)
set_option maxRecDepth 100000 in
theorem cd_X5_forget : ac_cd y_X5_forget prog_7_method_5_code 1 none 0 := ⟨mem_T0 386 rfl (by decide +kernel), mem_T0 41 (by decide +kernel) (by decide +kernel), by decide +kernel, by decide +kernel, by decide +kernel⟩
theorem in_X5_forget : Cond.instanceMethod y_X5_forget ∈ T0_ := mem_T0 384 (by decide +kernel) (by decide +kernel)
theorem se_X5_forget : Cond.selects "VirtualRewrite$Rewriting" y_X5_forget y_X5_forget ∈ T0_ := mem_T0 385 (by decide +kernel) (by decide +kernel)
set_option maxRecDepth 100000 in
theorem cd_X0_triples : ac_cd y_X0_triples prog_1_method_6_code 1 (some .int) 0 := ⟨mem_T0 390 rfl (by decide +kernel), mem_T0 36 (by decide +kernel) (by decide +kernel), by decide +kernel, by decide +kernel, by decide +kernel⟩
theorem in_X0_triples : Cond.instanceMethod y_X0_triples ∈ T0_ := mem_T0 388 (by decide +kernel) (by decide +kernel)
theorem se_X0_triples : Cond.selects "VirtualRewrite" y_X0_triples y_X0_triples ∈ T0_ := mem_T0 389 (by decide +kernel) (by decide +kernel)
set_option maxRecDepth 100000 in
theorem cd_X1_countTriples : ac_cd y_X1_countTriples prog_3_method_3_code 4 (some .int) 0 := ⟨mem_T0 394 rfl (by decide +kernel), mem_T0 37 (by decide +kernel) (by decide +kernel), by decide +kernel, by decide +kernel, by decide +kernel⟩
theorem in_X1_countTriples : Cond.instanceMethod y_X1_countTriples ∈ T0_ := mem_T0 392 (by decide +kernel) (by decide +kernel)
theorem se_X1_countTriples : Cond.selects "VirtualRewrite$Catalog" y_X1_countTriples y_X1_countTriples ∈ T0_ := mem_T0 393 (by decide +kernel) (by decide +kernel)
set_option maxRecDepth 100000 in
theorem cd_X1_tableOf : ac_cd y_X1_tableOf prog_3_method_2_code 2 (some (.object "VirtualRewrite$Table")) 1 := ⟨mem_T0 398 rfl (by decide +kernel), mem_T0 37 (by decide +kernel) (by decide +kernel), by decide +kernel, by decide +kernel, by decide +kernel⟩
theorem in_X1_tableOf : Cond.instanceMethod y_X1_tableOf ∈ T0_ := mem_T0 396 (by decide +kernel) (by decide +kernel)
theorem se_X1_tableOf : Cond.selects "VirtualRewrite$Catalog" y_X1_tableOf y_X1_tableOf ∈ T0_ := mem_T0 397 (by decide +kernel) (by decide +kernel)
set_option maxRecDepth 100000 in
theorem cd_X1_packedTriple : ac_cd y_X1_packedTriple prog_3_method_4_code 7 (some .long) 2 := ⟨mem_T0 402 rfl (by decide +kernel), mem_T0 37 (by decide +kernel) (by decide +kernel), by decide +kernel, by decide +kernel, by decide +kernel⟩
theorem in_X1_packedTriple : Cond.instanceMethod y_X1_packedTriple ∈ T0_ := mem_T0 400 (by decide +kernel) (by decide +kernel)
theorem se_X1_packedTriple : Cond.selects "VirtualRewrite$Catalog" y_X1_packedTriple y_X1_packedTriple ∈ T0_ := mem_T0 401 (by decide +kernel) (by decide +kernel)
set_option maxRecDepth 100000 in
theorem cd_X1_keepTriple : ac_cd y_X1_keepTriple prog_3_method_5_code 6 none 1 := ⟨mem_T0 408 rfl (by decide +kernel), mem_T0 37 (by decide +kernel) (by decide +kernel), by decide +kernel, by decide +kernel, by decide +kernel⟩
theorem in_X1_keepTriple : Cond.instanceMethod y_X1_keepTriple ∈ T0_ := mem_T0 406 (by decide +kernel) (by decide +kernel)
theorem se_X1_keepTriple : Cond.selects "VirtualRewrite$Catalog" y_X1_keepTriple y_X1_keepTriple ∈ T0_ := mem_T0 407 (by decide +kernel) (by decide +kernel)
set_option maxRecDepth 100000 in
theorem cd_X0_atom : ac_cd y_X0_atom prog_1_method_7_code 4 (some .int) 3 := ⟨mem_T0 413 rfl (by decide +kernel), mem_T0 36 (by decide +kernel) (by decide +kernel), by decide +kernel, by decide +kernel, by decide +kernel⟩
theorem in_X0_atom : Cond.instanceMethod y_X0_atom ∈ T0_ := mem_T0 411 (by decide +kernel) (by decide +kernel)
theorem se_X0_atom : Cond.selects "VirtualRewrite" y_X0_atom y_X0_atom ∈ T0_ := mem_T0 412 (by decide +kernel) (by decide +kernel)
set_option maxRecDepth 100000 in
theorem cd_X0_isPlace : ac_cd y_X0_isPlace prog_1_method_19_code 1 (some .boolean) 1 := ⟨mem_T0 416 rfl (by decide +kernel), mem_T0 36 (by decide +kernel) (by decide +kernel), by decide +kernel, by decide +kernel, by decide +kernel⟩
theorem st_X0_isPlace : Cond.static y_X0_isPlace ∈ T0_ := mem_T0 415 (by decide +kernel) (by decide +kernel)
set_option maxRecDepth 100000 in
theorem cd_X4_append : ac_cd y_X4_append prog_6_method_2_code 4 none 3 := ⟨mem_T0 421 rfl (by decide +kernel), mem_T0 40 (by decide +kernel) (by decide +kernel), by decide +kernel, by decide +kernel, by decide +kernel⟩
theorem in_X4_append : Cond.instanceMethod y_X4_append ∈ T0_ := mem_T0 419 (by decide +kernel) (by decide +kernel)
theorem se_X4_append : Cond.selects "VirtualRewrite$Question" y_X4_append y_X4_append ∈ T0_ := mem_T0 420 (by decide +kernel) (by decide +kernel)
set_option maxRecDepth 100000 in
theorem cd_X0_span : ac_cd y_X0_span prog_1_method_8_code 4 (some .int) 3 := ⟨mem_T0 425 rfl (by decide +kernel), mem_T0 36 (by decide +kernel) (by decide +kernel), by decide +kernel, by decide +kernel, by decide +kernel⟩
theorem in_X0_span : Cond.instanceMethod y_X0_span ∈ T0_ := mem_T0 423 (by decide +kernel) (by decide +kernel)
theorem se_X0_span : Cond.selects "VirtualRewrite" y_X0_span y_X0_span ∈ T0_ := mem_T0 424 (by decide +kernel) (by decide +kernel)
set_option maxRecDepth 100000 in
theorem cd_X4_narrow : ac_cd y_X4_narrow prog_6_method_3_code 4 none 3 := ⟨mem_T0 429 rfl (by decide +kernel), mem_T0 40 (by decide +kernel) (by decide +kernel), by decide +kernel, by decide +kernel, by decide +kernel⟩
theorem in_X4_narrow : Cond.instanceMethod y_X4_narrow ∈ T0_ := mem_T0 427 (by decide +kernel) (by decide +kernel)
theorem se_X4_narrow : Cond.selects "VirtualRewrite$Question" y_X4_narrow y_X4_narrow ∈ T0_ := mem_T0 428 (by decide +kernel) (by decide +kernel)
set_option maxRecDepth 100000 in
theorem cd_JMath_max : ac_cd y_JMath_max prog_15_method_65_code 2 (some .int) 2 := ⟨mem_T0 432 rfl (by decide +kernel), mem_T0 47 (by decide +kernel) (by decide +kernel), by decide +kernel, by decide +kernel, by decide +kernel⟩
theorem st_JMath_max : Cond.static y_JMath_max ∈ T0_ := mem_T0 431 (by decide +kernel) (by decide +kernel)
set_option maxRecDepth 100000 in
theorem cd_JMath_min : ac_cd y_JMath_min prog_15_method_69_code 2 (some .int) 2 := ⟨mem_T0 435 rfl (by decide +kernel), mem_T0 47 (by decide +kernel) (by decide +kernel), by decide +kernel, by decide +kernel, by decide +kernel⟩
theorem st_JMath_min : Cond.static y_JMath_min ∈ T0_ := mem_T0 434 (by decide +kernel) (by decide +kernel)
set_option maxRecDepth 100000 in
theorem cd_X0_clear : ac_cd y_X0_clear prog_1_method_9_code 2 (some .int) 0 := ⟨mem_T0 439 rfl (by decide +kernel), mem_T0 36 (by decide +kernel) (by decide +kernel), by decide +kernel, by decide +kernel, by decide +kernel⟩
theorem in_X0_clear : Cond.instanceMethod y_X0_clear ∈ T0_ := mem_T0 437 (by decide +kernel) (by decide +kernel)
theorem se_X0_clear : Cond.selects "VirtualRewrite" y_X0_clear y_X0_clear ∈ T0_ := mem_T0 438 (by decide +kernel) (by decide +kernel)
set_option maxRecDepth 100000 in
theorem cd_X4_reset : ac_cd y_X4_reset prog_6_method_4_code 2 none 0 := ⟨mem_T0 443 rfl (by decide +kernel), mem_T0 40 (by decide +kernel) (by decide +kernel), by decide +kernel, by decide +kernel, by decide +kernel⟩
theorem in_X4_reset : Cond.instanceMethod y_X4_reset ∈ T0_ := mem_T0 441 (by decide +kernel) (by decide +kernel)
theorem se_X4_reset : Cond.selects "VirtualRewrite$Question" y_X4_reset y_X4_reset ∈ T0_ := mem_T0 442 (by decide +kernel) (by decide +kernel)
set_option maxRecDepth 100000 in
theorem cd_X0_unions : ac_cd y_X0_unions prog_1_method_10_code 1 (some .int) 0 := ⟨mem_T0 447 rfl (by decide +kernel), mem_T0 36 (by decide +kernel) (by decide +kernel), by decide +kernel, by decide +kernel, by decide +kernel⟩
theorem in_X0_unions : Cond.instanceMethod y_X0_unions ∈ T0_ := mem_T0 445 (by decide +kernel) (by decide +kernel)
theorem se_X0_unions : Cond.selects "VirtualRewrite" y_X0_unions y_X0_unions ∈ T0_ := mem_T0 446 (by decide +kernel) (by decide +kernel)
set_option maxRecDepth 100000 in
theorem cd_X5_refresh : ac_cd y_X5_refresh prog_7_method_6_code 1 none 0 := ⟨mem_T0 451 rfl (by decide +kernel), mem_T0 41 (by decide +kernel) (by decide +kernel), by decide +kernel, by decide +kernel, by decide +kernel⟩
theorem in_X5_refresh : Cond.instanceMethod y_X5_refresh ∈ T0_ := mem_T0 449 (by decide +kernel) (by decide +kernel)
theorem se_X5_refresh : Cond.selects "VirtualRewrite$Rewriting" y_X5_refresh y_X5_refresh ∈ T0_ := mem_T0 450 (by decide +kernel) (by decide +kernel)
set_option maxRecDepth 100000 in
theorem cd_X5_extend : ac_cd y_X5_extend prog_7_method_7_code 5 none 2 := ⟨mem_T0 455 rfl (by decide +kernel), mem_T0 41 (by decide +kernel) (by decide +kernel), by decide +kernel, by decide +kernel, by decide +kernel⟩
theorem in_X5_extend : Cond.instanceMethod y_X5_extend ∈ T0_ := mem_T0 454 (by decide +kernel) (by decide +kernel)
theorem se_X5_extend : Cond.selects "VirtualRewrite$Rewriting" y_X5_extend y_X5_extend ∈ T0_ := mem_T0 0 (by decide +kernel) (by decide +kernel)
set_option maxRecDepth 100000 in
theorem cd_X5_keep : ac_cd y_X5_keep prog_7_method_8_code 1 none 0 := ⟨mem_T0 459 rfl (by decide +kernel), mem_T0 41 (by decide +kernel) (by decide +kernel), by decide +kernel, by decide +kernel, by decide +kernel⟩
theorem in_X5_keep : Cond.instanceMethod y_X5_keep ∈ T0_ := mem_T0 458 (by decide +kernel) (by decide +kernel)
theorem se_X5_keep : Cond.selects "VirtualRewrite$Rewriting" y_X5_keep y_X5_keep ∈ T0_ := mem_T0 1 (by decide +kernel) (by decide +kernel)
set_option maxRecDepth 100000 in
theorem cd_X5_settle : ac_cd y_X5_settle prog_7_method_9_code 8 (some .int) 3 := ⟨mem_T0 464 rfl (by decide +kernel), mem_T0 41 (by decide +kernel) (by decide +kernel), by decide +kernel, by decide +kernel, by decide +kernel⟩
theorem in_X5_settle : Cond.instanceMethod y_X5_settle ∈ T0_ := mem_T0 463 (by decide +kernel) (by decide +kernel)
theorem se_X5_settle : Cond.selects "VirtualRewrite$Rewriting" y_X5_settle y_X5_settle ∈ T0_ := mem_T0 2 (by decide +kernel) (by decide +kernel)
set_option maxRecDepth 100000 in
theorem cd_X4_told : ac_cd y_X4_told prog_6_method_5_code 3 (some .int) 2 := ⟨mem_T0 468 rfl (by decide +kernel), mem_T0 40 (by decide +kernel) (by decide +kernel), by decide +kernel, by decide +kernel, by decide +kernel⟩
theorem in_X4_told : Cond.instanceMethod y_X4_told ∈ T0_ := mem_T0 466 (by decide +kernel) (by decide +kernel)
theorem se_X4_told : Cond.selects "VirtualRewrite$Question" y_X4_told y_X4_told ∈ T0_ := mem_T0 467 (by decide +kernel) (by decide +kernel)
set_option maxRecDepth 100000 in
theorem cd_X0_isVariable : ac_cd y_X0_isVariable prog_1_method_20_code 1 (some .boolean) 1 := ⟨mem_T0 471 rfl (by decide +kernel), mem_T0 36 (by decide +kernel) (by decide +kernel), by decide +kernel, by decide +kernel, by decide +kernel⟩
theorem st_X0_isVariable : Cond.static y_X0_isVariable ∈ T0_ := mem_T0 470 (by decide +kernel) (by decide +kernel)
set_option maxRecDepth 100000 in
theorem cd_X0_variableOf : ac_cd y_X0_variableOf prog_1_method_21_code 1 (some .int) 1 := ⟨mem_T0 474 rfl (by decide +kernel), mem_T0 36 (by decide +kernel) (by decide +kernel), by decide +kernel, by decide +kernel, by decide +kernel⟩
theorem st_X0_variableOf : Cond.static y_X0_variableOf ∈ T0_ := mem_T0 473 (by decide +kernel) (by decide +kernel)
set_option maxRecDepth 100000 in
theorem cd_X0_has : ac_cd y_X0_has prog_1_method_22_code 2 (some .boolean) 2 := ⟨mem_T0 477 rfl (by decide +kernel), mem_T0 36 (by decide +kernel) (by decide +kernel), by decide +kernel, by decide +kernel, by decide +kernel⟩
theorem st_X0_has : Cond.static y_X0_has ∈ T0_ := mem_T0 476 (by decide +kernel) (by decide +kernel)
set_option maxRecDepth 100000 in
theorem cd_X0_with : ac_cd y_X0_with prog_1_method_23_code 2 (some .int) 2 := ⟨mem_T0 480 rfl (by decide +kernel), mem_T0 36 (by decide +kernel) (by decide +kernel), by decide +kernel, by decide +kernel, by decide +kernel⟩
theorem st_X0_with : Cond.static y_X0_with ∈ T0_ := mem_T0 479 (by decide +kernel) (by decide +kernel)
set_option maxRecDepth 100000 in
theorem cd_X0_union : ac_cd y_X0_union prog_1_method_11_code 4 (some .int) 2 := ⟨mem_T0 484 rfl (by decide +kernel), mem_T0 36 (by decide +kernel) (by decide +kernel), by decide +kernel, by decide +kernel, by decide +kernel⟩
theorem in_X0_union : Cond.instanceMethod y_X0_union ∈ T0_ := mem_T0 482 (by decide +kernel) (by decide +kernel)
theorem se_X0_union : Cond.selects "VirtualRewrite" y_X0_union y_X0_union ∈ T0_ := mem_T0 483 (by decide +kernel) (by decide +kernel)
set_option maxRecDepth 100000 in
theorem cd_X0_isAsked : ac_cd y_X0_isAsked prog_1_method_16_code 2 (some .boolean) 1 := ⟨mem_T0 488 rfl (by decide +kernel), mem_T0 36 (by decide +kernel) (by decide +kernel), by decide +kernel, by decide +kernel, by decide +kernel⟩
theorem in_X0_isAsked : Cond.instanceMethod y_X0_isAsked ∈ T0_ := mem_T0 487 (by decide +kernel) (by decide +kernel)
theorem se_X0_isAsked : Cond.selects "VirtualRewrite" y_X0_isAsked y_X0_isAsked ∈ T0_ := mem_T0 3 (by decide +kernel) (by decide +kernel)
set_option maxRecDepth 100000 in
theorem cd_X0_troubleWith : ac_cd y_X0_troubleWith prog_1_method_17_code 2 (some .int) 1 := ⟨mem_T0 492 rfl (by decide +kernel), mem_T0 36 (by decide +kernel) (by decide +kernel), by decide +kernel, by decide +kernel, by decide +kernel⟩
theorem in_X0_troubleWith : Cond.instanceMethod y_X0_troubleWith ∈ T0_ := mem_T0 491 (by decide +kernel) (by decide +kernel)
theorem se_X0_troubleWith : Cond.selects "VirtualRewrite" y_X0_troubleWith y_X0_troubleWith ∈ T0_ := mem_T0 4 (by decide +kernel) (by decide +kernel)
set_option maxRecDepth 100000 in
theorem cd_X5_chosen : ac_cd y_X5_chosen prog_7_method_2_code 3 (some .int) 2 := ⟨mem_T0 496 rfl (by decide +kernel), mem_T0 41 (by decide +kernel) (by decide +kernel), by decide +kernel, by decide +kernel, by decide +kernel⟩
theorem in_X5_chosen : Cond.instanceMethod y_X5_chosen ∈ T0_ := mem_T0 494 (by decide +kernel) (by decide +kernel)
theorem se_X5_chosen : Cond.selects "VirtualRewrite$Rewriting" y_X5_chosen y_X5_chosen ∈ T0_ := mem_T0 495 (by decide +kernel) (by decide +kernel)
set_option maxRecDepth 100000 in
theorem cd_X6_assign : ac_cd y_X6_assign prog_8_method_2_code 4 none 1 := ⟨mem_T0 500 rfl (by decide +kernel), mem_T0 42 (by decide +kernel) (by decide +kernel), by decide +kernel, by decide +kernel, by decide +kernel⟩
theorem in_X6_assign : Cond.instanceMethod y_X6_assign ∈ T0_ := mem_T0 498 (by decide +kernel) (by decide +kernel)
theorem se_X6_assign : Cond.selects "VirtualRewrite$Slots" y_X6_assign y_X6_assign ∈ T0_ := mem_T0 499 (by decide +kernel) (by decide +kernel)
set_option maxRecDepth 100000 in
theorem cd_X6_leastOfOneRow : ac_cd y_X6_leastOfOneRow prog_8_method_3_code 4 (some .int) 2 := ⟨mem_T0 504 rfl (by decide +kernel), mem_T0 42 (by decide +kernel) (by decide +kernel), by decide +kernel, by decide +kernel, by decide +kernel⟩
theorem in_X6_leastOfOneRow : Cond.instanceMethod y_X6_leastOfOneRow ∈ T0_ := mem_T0 503 (by decide +kernel) (by decide +kernel)
theorem se_X6_leastOfOneRow : Cond.selects "VirtualRewrite$Slots" y_X6_leastOfOneRow y_X6_leastOfOneRow ∈ T0_ := mem_T0 5 (by decide +kernel) (by decide +kernel)
set_option maxRecDepth 100000 in
theorem cd_X6_areOfOneRow : ac_cd y_X6_areOfOneRow prog_8_method_4_code 10 (some .boolean) 3 := ⟨mem_T0 508 rfl (by decide +kernel), mem_T0 42 (by decide +kernel) (by decide +kernel), by decide +kernel, by decide +kernel, by decide +kernel⟩
theorem in_X6_areOfOneRow : Cond.instanceMethod y_X6_areOfOneRow ∈ T0_ := mem_T0 507 (by decide +kernel) (by decide +kernel)
theorem se_X6_areOfOneRow : Cond.selects "VirtualRewrite$Slots" y_X6_areOfOneRow y_X6_areOfOneRow ∈ T0_ := mem_T0 6 (by decide +kernel) (by decide +kernel)
set_option maxRecDepth 100000 in
theorem cd_X5_mappingOf : ac_cd y_X5_mappingOf prog_7_method_3_code 3 (some (.object "VirtualRewrite$Mapping")) 2 := ⟨mem_T0 512 rfl (by decide +kernel), mem_T0 41 (by decide +kernel) (by decide +kernel), by decide +kernel, by decide +kernel, by decide +kernel⟩
theorem in_X5_mappingOf : Cond.instanceMethod y_X5_mappingOf ∈ T0_ := mem_T0 510 (by decide +kernel) (by decide +kernel)
theorem se_X5_mappingOf : Cond.selects "VirtualRewrite$Rewriting" y_X5_mappingOf y_X5_mappingOf ∈ T0_ := mem_T0 511 (by decide +kernel) (by decide +kernel)
set_option maxRecDepth 100000 in
theorem cd_X0_estimate : ac_cd y_X0_estimate prog_1_method_12_code 3 (some .int) 1 := ⟨mem_T0 519 rfl (by decide +kernel), mem_T0 36 (by decide +kernel) (by decide +kernel), by decide +kernel, by decide +kernel, by decide +kernel⟩
theorem in_X0_estimate : Cond.instanceMethod y_X0_estimate ∈ T0_ := mem_T0 517 (by decide +kernel) (by decide +kernel)
theorem se_X0_estimate : Cond.selects "VirtualRewrite" y_X0_estimate y_X0_estimate ∈ T0_ := mem_T0 518 (by decide +kernel) (by decide +kernel)
set_option maxRecDepth 100000 in
theorem cd_X6_productOfRows : ac_cd y_X6_productOfRows prog_8_method_5_code 5 (some .int) 1 := ⟨mem_T0 523 rfl (by decide +kernel), mem_T0 42 (by decide +kernel) (by decide +kernel), by decide +kernel, by decide +kernel, by decide +kernel⟩
theorem in_X6_productOfRows : Cond.instanceMethod y_X6_productOfRows ∈ T0_ := mem_T0 521 (by decide +kernel) (by decide +kernel)
theorem se_X6_productOfRows : Cond.selects "VirtualRewrite$Slots" y_X6_productOfRows y_X6_productOfRows ∈ T0_ := mem_T0 522 (by decide +kernel) (by decide +kernel)
set_option maxRecDepth 100000 in
theorem cd_X5_tableOf : ac_cd y_X5_tableOf prog_7_method_4_code 3 (some (.object "VirtualRewrite$Table")) 2 := ⟨mem_T0 527 rfl (by decide +kernel), mem_T0 41 (by decide +kernel) (by decide +kernel), by decide +kernel, by decide +kernel, by decide +kernel⟩
theorem in_X5_tableOf : Cond.instanceMethod y_X5_tableOf ∈ T0_ := mem_T0 525 (by decide +kernel) (by decide +kernel)
theorem se_X5_tableOf : Cond.selects "VirtualRewrite$Rewriting" y_X5_tableOf y_X5_tableOf ∈ T0_ := mem_T0 526 (by decide +kernel) (by decide +kernel)
set_option maxRecDepth 100000 in
theorem cd_X0_run : ac_cd y_X0_run prog_1_method_13_code 2 (some .int) 0 := ⟨mem_T0 533 rfl (by decide +kernel), mem_T0 36 (by decide +kernel) (by decide +kernel), by decide +kernel, by decide +kernel, by decide +kernel⟩
theorem in_X0_run : Cond.instanceMethod y_X0_run ∈ T0_ := mem_T0 531 (by decide +kernel) (by decide +kernel)
theorem se_X0_run : Cond.selects "VirtualRewrite" y_X0_run y_X0_run ∈ T0_ := mem_T0 532 (by decide +kernel) (by decide +kernel)
set_option maxRecDepth 100000 in
theorem cd_X4_variables : ac_cd y_X4_variables prog_6_method_7_code 3 (some .int) 0 := ⟨mem_T0 537 rfl (by decide +kernel), mem_T0 40 (by decide +kernel) (by decide +kernel), by decide +kernel, by decide +kernel, by decide +kernel⟩
theorem in_X4_variables : Cond.instanceMethod y_X4_variables ∈ T0_ := mem_T0 535 (by decide +kernel) (by decide +kernel)
theorem se_X4_variables : Cond.selects "VirtualRewrite$Question" y_X4_variables y_X4_variables ∈ T0_ := mem_T0 536 (by decide +kernel) (by decide +kernel)
set_option maxRecDepth 100000 in
theorem cd_X7_begin : ac_cd y_X7_begin prog_2_method_2_code 2 none 1 := ⟨mem_T0 544 rfl (by decide +kernel), mem_T0 43 (by decide +kernel) (by decide +kernel), by decide +kernel, by decide +kernel, by decide +kernel⟩
theorem in_X7_begin : Cond.instanceMethod y_X7_begin ∈ T0_ := mem_T0 542 (by decide +kernel) (by decide +kernel)
theorem se_X7_begin : Cond.selects "VirtualRewrite$Answers" y_X7_begin y_X7_begin ∈ T0_ := mem_T0 543 (by decide +kernel) (by decide +kernel)
set_option maxRecDepth 100000 in
theorem cd_X8_find : ac_cd y_X8_find prog_4_method_2_code 4 none 1 := ⟨mem_T0 548 rfl (by decide +kernel), mem_T0 44 (by decide +kernel) (by decide +kernel), by decide +kernel, by decide +kernel, by decide +kernel⟩
theorem in_X8_find : Cond.instanceMethod y_X8_find ∈ T0_ := mem_T0 546 (by decide +kernel) (by decide +kernel)
theorem se_X8_find : Cond.selects "VirtualRewrite$Finder" y_X8_find y_X8_find ∈ T0_ := mem_T0 547 (by decide +kernel) (by decide +kernel)
set_option maxRecDepth 100000 in
theorem cd_X8_layOut : ac_cd y_X8_layOut prog_4_method_3_code 3 none 0 := ⟨mem_T0 553 rfl (by decide +kernel), mem_T0 44 (by decide +kernel) (by decide +kernel), by decide +kernel, by decide +kernel, by decide +kernel⟩
theorem in_X8_layOut : Cond.instanceMethod y_X8_layOut ∈ T0_ := mem_T0 552 (by decide +kernel) (by decide +kernel)
theorem se_X8_layOut : Cond.selects "VirtualRewrite$Finder" y_X8_layOut y_X8_layOut ∈ T0_ := mem_T0 7 (by decide +kernel) (by decide +kernel)
set_option maxRecDepth 100000 in
theorem cd_X8_layOutVariable : ac_cd y_X8_layOutVariable prog_4_method_4_code 6 none 2 := ⟨mem_T0 559 rfl (by decide +kernel), mem_T0 44 (by decide +kernel) (by decide +kernel), by decide +kernel, by decide +kernel, by decide +kernel⟩
theorem in_X8_layOutVariable : Cond.instanceMethod y_X8_layOutVariable ∈ T0_ := mem_T0 558 (by decide +kernel) (by decide +kernel)
theorem se_X8_layOutVariable : Cond.selects "VirtualRewrite$Finder" y_X8_layOutVariable y_X8_layOutVariable ∈ T0_ := mem_T0 8 (by decide +kernel) (by decide +kernel)
set_option maxRecDepth 100000 in
theorem cd_X8_gatherRows : ac_cd y_X8_gatherRows prog_4_method_6_code 5 none 1 := ⟨mem_T0 566 rfl (by decide +kernel), mem_T0 44 (by decide +kernel) (by decide +kernel), by decide +kernel, by decide +kernel, by decide +kernel⟩
theorem in_X8_gatherRows : Cond.instanceMethod y_X8_gatherRows ∈ T0_ := mem_T0 565 (by decide +kernel) (by decide +kernel)
theorem se_X8_gatherRows : Cond.selects "VirtualRewrite$Finder" y_X8_gatherRows y_X8_gatherRows ∈ T0_ := mem_T0 9 (by decide +kernel) (by decide +kernel)
set_option maxRecDepth 100000 in
theorem cd_X8_tableOf : ac_cd y_X8_tableOf prog_4_method_5_code 2 (some (.object "VirtualRewrite$Table")) 1 := ⟨mem_T0 570 rfl (by decide +kernel), mem_T0 44 (by decide +kernel) (by decide +kernel), by decide +kernel, by decide +kernel, by decide +kernel⟩
theorem in_X8_tableOf : Cond.instanceMethod y_X8_tableOf ∈ T0_ := mem_T0 569 (by decide +kernel) (by decide +kernel)
theorem se_X8_tableOf : Cond.selects "VirtualRewrite$Finder" y_X8_tableOf y_X8_tableOf ∈ T0_ := mem_T0 10 (by decide +kernel) (by decide +kernel)
set_option maxRecDepth 100000 in
theorem cd_X8_suits : ac_cd y_X8_suits prog_4_method_7_code 5 (some .boolean) 3 := ⟨mem_T0 575 rfl (by decide +kernel), mem_T0 44 (by decide +kernel) (by decide +kernel), by decide +kernel, by decide +kernel, by decide +kernel⟩
theorem in_X8_suits : Cond.instanceMethod y_X8_suits ∈ T0_ := mem_T0 574 (by decide +kernel) (by decide +kernel)
theorem se_X8_suits : Cond.selects "VirtualRewrite$Finder" y_X8_suits y_X8_suits ∈ T0_ := mem_T0 11 (by decide +kernel) (by decide +kernel)
set_option maxRecDepth 100000 in
theorem cd_X8_suitsAtom : ac_cd y_X8_suitsAtom prog_4_method_8_code 10 (some .boolean) 3 := ⟨mem_T0 579 rfl (by decide +kernel), mem_T0 44 (by decide +kernel) (by decide +kernel), by decide +kernel, by decide +kernel, by decide +kernel⟩
theorem in_X8_suitsAtom : Cond.instanceMethod y_X8_suitsAtom ∈ T0_ := mem_T0 578 (by decide +kernel) (by decide +kernel)
theorem se_X8_suitsAtom : Cond.selects "VirtualRewrite$Finder" y_X8_suitsAtom y_X8_suitsAtom ∈ T0_ := mem_T0 12 (by decide +kernel) (by decide +kernel)
set_option maxRecDepth 100000 in
theorem cd_X4_allows : ac_cd y_X4_allows prog_6_method_6_code 3 (some .boolean) 2 := ⟨mem_T0 584 rfl (by decide +kernel), mem_T0 40 (by decide +kernel) (by decide +kernel), by decide +kernel, by decide +kernel, by decide +kernel⟩
theorem in_X4_allows : Cond.instanceMethod y_X4_allows ∈ T0_ := mem_T0 582 (by decide +kernel) (by decide +kernel)
theorem se_X4_allows : Cond.selects "VirtualRewrite$Question" y_X4_allows y_X4_allows ∈ T0_ := mem_T0 583 (by decide +kernel) (by decide +kernel)
set_option maxRecDepth 100000 in
theorem cd_X8_isTold : ac_cd y_X8_isTold prog_4_method_9_code 6 (some .boolean) 4 := ⟨mem_T0 588 rfl (by decide +kernel), mem_T0 44 (by decide +kernel) (by decide +kernel), by decide +kernel, by decide +kernel, by decide +kernel⟩
theorem in_X8_isTold : Cond.instanceMethod y_X8_isTold ∈ T0_ := mem_T0 587 (by decide +kernel) (by decide +kernel)
theorem se_X8_isTold : Cond.selects "VirtualRewrite$Finder" y_X8_isTold y_X8_isTold ∈ T0_ := mem_T0 13 (by decide +kernel) (by decide +kernel)
set_option maxRecDepth 100000 in
theorem cd_X8_areAlike : ac_cd y_X8_areAlike prog_4_method_10_code 7 (some .boolean) 4 := ⟨mem_T0 592 rfl (by decide +kernel), mem_T0 44 (by decide +kernel) (by decide +kernel), by decide +kernel, by decide +kernel, by decide +kernel⟩
theorem in_X8_areAlike : Cond.instanceMethod y_X8_areAlike ∈ T0_ := mem_T0 591 (by decide +kernel) (by decide +kernel)
theorem se_X8_areAlike : Cond.selects "VirtualRewrite$Finder" y_X8_areAlike y_X8_areAlike ∈ T0_ := mem_T0 14 (by decide +kernel) (by decide +kernel)
set_option maxRecDepth 100000 in
theorem cd_X8_orderSlots : ac_cd y_X8_orderSlots prog_4_method_11_code 5 none 0 := ⟨mem_T0 596 rfl (by decide +kernel), mem_T0 44 (by decide +kernel) (by decide +kernel), by decide +kernel, by decide +kernel, by decide +kernel⟩
theorem in_X8_orderSlots : Cond.instanceMethod y_X8_orderSlots ∈ T0_ := mem_T0 595 (by decide +kernel) (by decide +kernel)
theorem se_X8_orderSlots : Cond.selects "VirtualRewrite$Finder" y_X8_orderSlots y_X8_orderSlots ∈ T0_ := mem_T0 15 (by decide +kernel) (by decide +kernel)
set_option maxRecDepth 100000 in
theorem cd_X8_isBetter : ac_cd y_X8_isBetter prog_4_method_12_code 6 (some .boolean) 3 := ⟨mem_T0 600 rfl (by decide +kernel), mem_T0 44 (by decide +kernel) (by decide +kernel), by decide +kernel, by decide +kernel, by decide +kernel⟩
theorem in_X8_isBetter : Cond.instanceMethod y_X8_isBetter ∈ T0_ := mem_T0 599 (by decide +kernel) (by decide +kernel)
theorem se_X8_isBetter : Cond.selects "VirtualRewrite$Finder" y_X8_isBetter y_X8_isBetter ∈ T0_ := mem_T0 16 (by decide +kernel) (by decide +kernel)
set_option maxRecDepth 100000 in
theorem cd_JInteger_bitCount : ac_cd y_JInteger_bitCount prog_14_method_49_code 1 (some .int) 1 := ⟨mem_T0 603 rfl (by decide +kernel), mem_T0 48 (by decide +kernel) (by decide +kernel), by decide +kernel, by decide +kernel, by decide +kernel⟩
theorem st_JInteger_bitCount : Cond.static y_JInteger_bitCount ∈ T0_ := mem_T0 602 (by decide +kernel) (by decide +kernel)
set_option maxRecDepth 100000 in
theorem cd_X8_search : ac_cd y_X8_search prog_4_method_13_code 11 (some .int) 2 := ⟨mem_T0 610 rfl (by decide +kernel), mem_T0 44 (by decide +kernel) (by decide +kernel), by decide +kernel, by decide +kernel, by decide +kernel⟩
theorem in_X8_search : Cond.instanceMethod y_X8_search ∈ T0_ := mem_T0 609 (by decide +kernel) (by decide +kernel)
theorem se_X8_search : Cond.selects "VirtualRewrite$Finder" y_X8_search y_X8_search ∈ T0_ := mem_T0 17 (by decide +kernel) (by decide +kernel)
set_option maxRecDepth 100000 in
theorem cd_X7_take : ac_cd y_X7_take prog_2_method_6_code 4 none 2 := ⟨mem_T0 614 rfl (by decide +kernel), mem_T0 43 (by decide +kernel) (by decide +kernel), by decide +kernel, by decide +kernel, by decide +kernel⟩
theorem in_X7_take : Cond.instanceMethod y_X7_take ∈ T0_ := mem_T0 612 (by decide +kernel) (by decide +kernel)
theorem se_X7_take : Cond.selects "VirtualRewrite$Answers" y_X7_take y_X7_take ∈ T0_ := mem_T0 613 (by decide +kernel) (by decide +kernel)
set_option maxRecDepth 100000 in
theorem cd_X7_firstNotBefore : ac_cd y_X7_firstNotBefore prog_2_method_8_code 5 (some .int) 1 := ⟨mem_T0 618 rfl (by decide +kernel), mem_T0 43 (by decide +kernel) (by decide +kernel), by decide +kernel, by decide +kernel, by decide +kernel⟩
theorem in_X7_firstNotBefore : Cond.instanceMethod y_X7_firstNotBefore ∈ T0_ := mem_T0 617 (by decide +kernel) (by decide +kernel)
theorem se_X7_firstNotBefore : Cond.selects "VirtualRewrite$Answers" y_X7_firstNotBefore y_X7_firstNotBefore ∈ T0_ := mem_T0 18 (by decide +kernel) (by decide +kernel)
set_option maxRecDepth 100000 in
theorem cd_X7_compare : ac_cd y_X7_compare prog_2_method_9_code 5 (some .int) 2 := ⟨mem_T0 622 rfl (by decide +kernel), mem_T0 43 (by decide +kernel) (by decide +kernel), by decide +kernel, by decide +kernel, by decide +kernel⟩
theorem in_X7_compare : Cond.instanceMethod y_X7_compare ∈ T0_ := mem_T0 621 (by decide +kernel) (by decide +kernel)
theorem se_X7_compare : Cond.selects "VirtualRewrite$Answers" y_X7_compare y_X7_compare ∈ T0_ := mem_T0 19 (by decide +kernel) (by decide +kernel)
set_option maxRecDepth 100000 in
theorem cd_X7_code : ac_cd y_X7_code prog_2_method_3_code 3 (some .int) 2 := ⟨mem_T0 626 rfl (by decide +kernel), mem_T0 43 (by decide +kernel) (by decide +kernel), by decide +kernel, by decide +kernel, by decide +kernel⟩
theorem in_X7_code : Cond.instanceMethod y_X7_code ∈ T0_ := mem_T0 624 (by decide +kernel) (by decide +kernel)
theorem se_X7_code : Cond.selects "VirtualRewrite$Answers" y_X7_code y_X7_code ∈ T0_ := mem_T0 625 (by decide +kernel) (by decide +kernel)
set_option maxRecDepth 100000 in
theorem cd_X7_insert : ac_cd y_X7_insert prog_2_method_7_code 4 none 3 := ⟨mem_T0 630 rfl (by decide +kernel), mem_T0 43 (by decide +kernel) (by decide +kernel), by decide +kernel, by decide +kernel, by decide +kernel⟩
theorem in_X7_insert : Cond.instanceMethod y_X7_insert ∈ T0_ := mem_T0 629 (by decide +kernel) (by decide +kernel)
theorem se_X7_insert : Cond.selects "VirtualRewrite$Answers" y_X7_insert y_X7_insert ∈ T0_ := mem_T0 20 (by decide +kernel) (by decide +kernel)
set_option maxRecDepth 100000 in
theorem cd_X8_agrees : ac_cd y_X8_agrees prog_4_method_14_code 7 (some .boolean) 4 := ⟨mem_T0 635 rfl (by decide +kernel), mem_T0 44 (by decide +kernel) (by decide +kernel), by decide +kernel, by decide +kernel, by decide +kernel⟩
theorem in_X8_agrees : Cond.instanceMethod y_X8_agrees ∈ T0_ := mem_T0 634 (by decide +kernel) (by decide +kernel)
theorem se_X8_agrees : Cond.selects "VirtualRewrite$Finder" y_X8_agrees y_X8_agrees ∈ T0_ := mem_T0 21 (by decide +kernel) (by decide +kernel)
set_option maxRecDepth 100000 in
theorem cd_X8_settleVariables : ac_cd y_X8_settleVariables prog_4_method_15_code 6 none 3 := ⟨mem_T0 640 rfl (by decide +kernel), mem_T0 44 (by decide +kernel) (by decide +kernel), by decide +kernel, by decide +kernel, by decide +kernel⟩
theorem in_X8_settleVariables : Cond.instanceMethod y_X8_settleVariables ∈ T0_ := mem_T0 639 (by decide +kernel) (by decide +kernel)
theorem se_X8_settleVariables : Cond.selects "VirtualRewrite$Finder" y_X8_settleVariables y_X8_settleVariables ∈ T0_ := mem_T0 22 (by decide +kernel) (by decide +kernel)
set_option maxRecDepth 100000 in
theorem cd_X0_found : ac_cd y_X0_found prog_1_method_15_code 3 (some .int) 2 := ⟨mem_T0 644 rfl (by decide +kernel), mem_T0 36 (by decide +kernel) (by decide +kernel), by decide +kernel, by decide +kernel, by decide +kernel⟩
theorem in_X0_found : Cond.instanceMethod y_X0_found ∈ T0_ := mem_T0 642 (by decide +kernel) (by decide +kernel)
theorem se_X0_found : Cond.selects "VirtualRewrite" y_X0_found y_X0_found ∈ T0_ := mem_T0 643 (by decide +kernel) (by decide +kernel)
set_option maxRecDepth 100000 in
theorem cd_X7_finders : ac_cd y_X7_finders prog_2_method_4_code 2 (some .int) 1 := ⟨mem_T0 648 rfl (by decide +kernel), mem_T0 43 (by decide +kernel) (by decide +kernel), by decide +kernel, by decide +kernel, by decide +kernel⟩
theorem in_X7_finders : Cond.instanceMethod y_X7_finders ∈ T0_ := mem_T0 646 (by decide +kernel) (by decide +kernel)
theorem se_X7_finders : Cond.selects "VirtualRewrite$Answers" y_X7_finders y_X7_finders ∈ T0_ := mem_T0 647 (by decide +kernel) (by decide +kernel)
set_option maxRecDepth 100000 in
theorem cd_X7_firstFinder : ac_cd y_X7_firstFinder prog_2_method_5_code 2 (some .int) 1 := ⟨mem_T0 652 rfl (by decide +kernel), mem_T0 43 (by decide +kernel) (by decide +kernel), by decide +kernel, by decide +kernel, by decide +kernel⟩
theorem in_X7_firstFinder : Cond.instanceMethod y_X7_firstFinder ∈ T0_ := mem_T0 650 (by decide +kernel) (by decide +kernel)
theorem se_X7_firstFinder : Cond.selects "VirtualRewrite$Answers" y_X7_firstFinder y_X7_firstFinder ∈ T0_ := mem_T0 651 (by decide +kernel) (by decide +kernel)
set_option maxRecDepth 100000 in
theorem cd_X0_value : ac_cd y_X0_value prog_1_method_14_code 3 (some .int) 2 := ⟨mem_T0 660 rfl (by decide +kernel), mem_T0 36 (by decide +kernel) (by decide +kernel), by decide +kernel, by decide +kernel, by decide +kernel⟩
theorem in_X0_value : Cond.instanceMethod y_X0_value ∈ T0_ := mem_T0 658 (by decide +kernel) (by decide +kernel)
theorem se_X0_value : Cond.selects "VirtualRewrite" y_X0_value y_X0_value ∈ T0_ := mem_T0 659 (by decide +kernel) (by decide +kernel)
set_option maxRecDepth 100000 in
theorem cd_X9_init : ac_cd y_X9_init prog_11_method_1_code 1 none 0 := ⟨mem_T0 733 rfl (by decide +kernel), mem_T0 45 (by decide +kernel) (by decide +kernel), by decide +kernel, by decide +kernel, by decide +kernel⟩
theorem in_X9_init : Cond.instanceMethod y_X9_init ∈ T0_ := mem_T0 732 (by decide +kernel) (by decide +kernel)
set_option maxRecDepth 100000 in
theorem cd_X9_thrown : ac_cd y_X9_thrown prog_11_method_2_code 1 (some .int) 0 := ⟨mem_T0 826 rfl (by decide +kernel), mem_T0 45 (by decide +kernel) (by decide +kernel), by decide +kernel, by decide +kernel, by decide +kernel⟩
theorem in_X9_thrown : Cond.instanceMethod y_X9_thrown ∈ T0_ := mem_T0 824 (by decide +kernel) (by decide +kernel)
theorem se_X9_thrown : Cond.selects "VirtualRewriteModel" y_X9_thrown y_X9_thrown ∈ T0_ := mem_T0 825 (by decide +kernel) (by decide +kernel)
set_option maxRecDepth 100000 in
theorem cd_X9_key : ac_cd y_X9_key prog_11_method_5_code 6 (some .int) 3 := ⟨mem_T0 830 rfl (by decide +kernel), mem_T0 45 (by decide +kernel) (by decide +kernel), by decide +kernel, by decide +kernel, by decide +kernel⟩
theorem in_X9_key : Cond.instanceMethod y_X9_key ∈ T0_ := mem_T0 828 (by decide +kernel) (by decide +kernel)
theorem se_X9_key : Cond.selects "VirtualRewriteModel" y_X9_key y_X9_key ∈ T0_ := mem_T0 829 (by decide +kernel) (by decide +kernel)
set_option maxRecDepth 100000 in
theorem cd_X9_in : ac_cd y_X9_in prog_11_method_3_code 3 (some .boolean) 3 := ⟨mem_T0 833 rfl (by decide +kernel), mem_T0 45 (by decide +kernel) (by decide +kernel), by decide +kernel, by decide +kernel, by decide +kernel⟩
theorem st_X9_in : Cond.static y_X9_in ∈ T0_ := mem_T0 832 (by decide +kernel) (by decide +kernel)
set_option maxRecDepth 100000 in
theorem cd_X9_count : ac_cd y_X9_count prog_11_method_4_code 6 (some .int) 3 := ⟨mem_T0 837 rfl (by decide +kernel), mem_T0 45 (by decide +kernel) (by decide +kernel), by decide +kernel, by decide +kernel, by decide +kernel⟩
theorem in_X9_count : Cond.instanceMethod y_X9_count ∈ T0_ := mem_T0 836 (by decide +kernel) (by decide +kernel)
theorem se_X9_count : Cond.selects "VirtualRewriteModel" y_X9_count y_X9_count ∈ T0_ := mem_T0 24 (by decide +kernel) (by decide +kernel)
set_option maxRecDepth 100000 in
theorem cd_X9_row : ac_cd y_X9_row prog_11_method_6_code 6 (some .int) 4 := ⟨mem_T0 841 rfl (by decide +kernel), mem_T0 45 (by decide +kernel) (by decide +kernel), by decide +kernel, by decide +kernel, by decide +kernel⟩
theorem in_X9_row : Cond.instanceMethod y_X9_row ∈ T0_ := mem_T0 839 (by decide +kernel) (by decide +kernel)
theorem se_X9_row : Cond.selects "VirtualRewriteModel" y_X9_row y_X9_row ∈ T0_ := mem_T0 840 (by decide +kernel) (by decide +kernel)
set_option maxRecDepth 100000 in
theorem cd_X9_drop : ac_cd y_X9_drop prog_11_method_7_code 4 (some .int) 2 := ⟨mem_T0 845 rfl (by decide +kernel), mem_T0 45 (by decide +kernel) (by decide +kernel), by decide +kernel, by decide +kernel, by decide +kernel⟩
theorem in_X9_drop : Cond.instanceMethod y_X9_drop ∈ T0_ := mem_T0 843 (by decide +kernel) (by decide +kernel)
theorem se_X9_drop : Cond.selects "VirtualRewriteModel" y_X9_drop y_X9_drop ∈ T0_ := mem_T0 844 (by decide +kernel) (by decide +kernel)
set_option maxRecDepth 100000 in
theorem cd_X9_mapping : ac_cd y_X9_mapping prog_11_method_8_code 8 (some .int) 6 := ⟨mem_T0 849 rfl (by decide +kernel), mem_T0 45 (by decide +kernel) (by decide +kernel), by decide +kernel, by decide +kernel, by decide +kernel⟩
theorem in_X9_mapping : Cond.instanceMethod y_X9_mapping ∈ T0_ := mem_T0 847 (by decide +kernel) (by decide +kernel)
theorem se_X9_mapping : Cond.selects "VirtualRewriteModel" y_X9_mapping y_X9_mapping ∈ T0_ := mem_T0 848 (by decide +kernel) (by decide +kernel)
set_option maxRecDepth 100000 in
theorem cd_X9_triples : ac_cd y_X9_triples prog_11_method_10_code 7 (some .int) 0 := ⟨mem_T0 853 rfl (by decide +kernel), mem_T0 45 (by decide +kernel) (by decide +kernel), by decide +kernel, by decide +kernel, by decide +kernel⟩
theorem in_X9_triples : Cond.instanceMethod y_X9_triples ∈ T0_ := mem_T0 851 (by decide +kernel) (by decide +kernel)
theorem se_X9_triples : Cond.selects "VirtualRewriteModel" y_X9_triples y_X9_triples ∈ T0_ := mem_T0 852 (by decide +kernel) (by decide +kernel)
set_option maxRecDepth 100000 in
theorem cd_X9_code : ac_cd y_X9_code prog_11_method_9_code 4 (some .int) 3 := ⟨mem_T0 857 rfl (by decide +kernel), mem_T0 45 (by decide +kernel) (by decide +kernel), by decide +kernel, by decide +kernel, by decide +kernel⟩
theorem in_X9_code : Cond.instanceMethod y_X9_code ∈ T0_ := mem_T0 856 (by decide +kernel) (by decide +kernel)
theorem se_X9_code : Cond.selects "VirtualRewriteModel" y_X9_code y_X9_code ∈ T0_ := mem_T0 25 (by decide +kernel) (by decide +kernel)
set_option maxRecDepth 100000 in
theorem cd_X9_atom : ac_cd y_X9_atom prog_11_method_12_code 4 (some .int) 3 := ⟨mem_T0 861 rfl (by decide +kernel), mem_T0 45 (by decide +kernel) (by decide +kernel), by decide +kernel, by decide +kernel, by decide +kernel⟩
theorem in_X9_atom : Cond.instanceMethod y_X9_atom ∈ T0_ := mem_T0 859 (by decide +kernel) (by decide +kernel)
theorem se_X9_atom : Cond.selects "VirtualRewriteModel" y_X9_atom y_X9_atom ∈ T0_ := mem_T0 860 (by decide +kernel) (by decide +kernel)
set_option maxRecDepth 100000 in
theorem cd_X9_isPlace : ac_cd y_X9_isPlace prog_11_method_11_code 1 (some .boolean) 1 := ⟨mem_T0 864 rfl (by decide +kernel), mem_T0 45 (by decide +kernel) (by decide +kernel), by decide +kernel, by decide +kernel, by decide +kernel⟩
theorem st_X9_isPlace : Cond.static y_X9_isPlace ∈ T0_ := mem_T0 863 (by decide +kernel) (by decide +kernel)
set_option maxRecDepth 100000 in
theorem cd_X9_span : ac_cd y_X9_span prog_11_method_13_code 4 (some .int) 3 := ⟨mem_T0 869 rfl (by decide +kernel), mem_T0 45 (by decide +kernel) (by decide +kernel), by decide +kernel, by decide +kernel, by decide +kernel⟩
theorem in_X9_span : Cond.instanceMethod y_X9_span ∈ T0_ := mem_T0 867 (by decide +kernel) (by decide +kernel)
theorem se_X9_span : Cond.selects "VirtualRewriteModel" y_X9_span y_X9_span ∈ T0_ := mem_T0 868 (by decide +kernel) (by decide +kernel)
set_option maxRecDepth 100000 in
theorem cd_X9_clear : ac_cd y_X9_clear prog_11_method_14_code 2 (some .int) 0 := ⟨mem_T0 873 rfl (by decide +kernel), mem_T0 45 (by decide +kernel) (by decide +kernel), by decide +kernel, by decide +kernel, by decide +kernel⟩
theorem in_X9_clear : Cond.instanceMethod y_X9_clear ∈ T0_ := mem_T0 871 (by decide +kernel) (by decide +kernel)
theorem se_X9_clear : Cond.selects "VirtualRewriteModel" y_X9_clear y_X9_clear ∈ T0_ := mem_T0 872 (by decide +kernel) (by decide +kernel)
set_option maxRecDepth 100000 in
theorem cd_X9_unions : ac_cd y_X9_unions prog_11_method_19_code 1 (some .int) 0 := ⟨mem_T0 877 rfl (by decide +kernel), mem_T0 45 (by decide +kernel) (by decide +kernel), by decide +kernel, by decide +kernel, by decide +kernel⟩
theorem in_X9_unions : Cond.instanceMethod y_X9_unions ∈ T0_ := mem_T0 875 (by decide +kernel) (by decide +kernel)
theorem se_X9_unions : Cond.selects "VirtualRewriteModel" y_X9_unions y_X9_unions ∈ T0_ := mem_T0 876 (by decide +kernel) (by decide +kernel)
set_option maxRecDepth 100000 in
theorem cd_X9_makeUnions : ac_cd y_X9_makeUnions prog_11_method_18_code 5 (some .boolean) 0 := ⟨mem_T0 881 rfl (by decide +kernel), mem_T0 45 (by decide +kernel) (by decide +kernel), by decide +kernel, by decide +kernel, by decide +kernel⟩
theorem in_X9_makeUnions : Cond.instanceMethod y_X9_makeUnions ∈ T0_ := mem_T0 880 (by decide +kernel) (by decide +kernel)
theorem se_X9_makeUnions : Cond.selects "VirtualRewriteModel" y_X9_makeUnions y_X9_makeUnions ∈ T0_ := mem_T0 26 (by decide +kernel) (by decide +kernel)
set_option maxRecDepth 100000 in
theorem cd_X9_canMeet : ac_cd y_X9_canMeet prog_11_method_15_code 8 (some .boolean) 1 := ⟨mem_T0 885 rfl (by decide +kernel), mem_T0 45 (by decide +kernel) (by decide +kernel), by decide +kernel, by decide +kernel, by decide +kernel⟩
theorem in_X9_canMeet : Cond.instanceMethod y_X9_canMeet ∈ T0_ := mem_T0 884 (by decide +kernel) (by decide +kernel)
theorem se_X9_canMeet : Cond.selects "VirtualRewriteModel" y_X9_canMeet y_X9_canMeet ∈ T0_ := mem_T0 27 (by decide +kernel) (by decide +kernel)
set_option maxRecDepth 100000 in
theorem cd_X9_giveSlots : ac_cd y_X9_giveSlots prog_11_method_17_code 6 none 1 := ⟨mem_T0 889 rfl (by decide +kernel), mem_T0 45 (by decide +kernel) (by decide +kernel), by decide +kernel, by decide +kernel, by decide +kernel⟩
theorem in_X9_giveSlots : Cond.instanceMethod y_X9_giveSlots ∈ T0_ := mem_T0 888 (by decide +kernel) (by decide +kernel)
theorem se_X9_giveSlots : Cond.selects "VirtualRewriteModel" y_X9_giveSlots y_X9_giveSlots ∈ T0_ := mem_T0 28 (by decide +kernel) (by decide +kernel)
set_option maxRecDepth 100000 in
theorem cd_X9_isOneRow : ac_cd y_X9_isOneRow prog_11_method_16_code 10 (some .boolean) 3 := ⟨mem_T0 893 rfl (by decide +kernel), mem_T0 45 (by decide +kernel) (by decide +kernel), by decide +kernel, by decide +kernel, by decide +kernel⟩
theorem in_X9_isOneRow : Cond.instanceMethod y_X9_isOneRow ∈ T0_ := mem_T0 892 (by decide +kernel) (by decide +kernel)
theorem se_X9_isOneRow : Cond.selects "VirtualRewriteModel" y_X9_isOneRow y_X9_isOneRow ∈ T0_ := mem_T0 29 (by decide +kernel) (by decide +kernel)
set_option maxRecDepth 100000 in
theorem cd_X9_union : ac_cd y_X9_union prog_11_method_20_code 3 (some .int) 2 := ⟨mem_T0 897 rfl (by decide +kernel), mem_T0 45 (by decide +kernel) (by decide +kernel), by decide +kernel, by decide +kernel, by decide +kernel⟩
theorem in_X9_union : Cond.instanceMethod y_X9_union ∈ T0_ := mem_T0 895 (by decide +kernel) (by decide +kernel)
theorem se_X9_union : Cond.selects "VirtualRewriteModel" y_X9_union y_X9_union ∈ T0_ := mem_T0 896 (by decide +kernel) (by decide +kernel)
set_option maxRecDepth 100000 in
theorem cd_X9_estimate : ac_cd y_X9_estimate prog_11_method_22_code 4 (some .int) 1 := ⟨mem_T0 901 rfl (by decide +kernel), mem_T0 45 (by decide +kernel) (by decide +kernel), by decide +kernel, by decide +kernel, by decide +kernel⟩
theorem in_X9_estimate : Cond.instanceMethod y_X9_estimate ∈ T0_ := mem_T0 899 (by decide +kernel) (by decide +kernel)
theorem se_X9_estimate : Cond.selects "VirtualRewriteModel" y_X9_estimate y_X9_estimate ∈ T0_ := mem_T0 900 (by decide +kernel) (by decide +kernel)
set_option maxRecDepth 100000 in
theorem cd_X9_tableOf : ac_cd y_X9_tableOf prog_11_method_21_code 4 (some .int) 2 := ⟨mem_T0 905 rfl (by decide +kernel), mem_T0 45 (by decide +kernel) (by decide +kernel), by decide +kernel, by decide +kernel, by decide +kernel⟩
theorem in_X9_tableOf : Cond.instanceMethod y_X9_tableOf ∈ T0_ := mem_T0 904 (by decide +kernel) (by decide +kernel)
theorem se_X9_tableOf : Cond.selects "VirtualRewriteModel" y_X9_tableOf y_X9_tableOf ∈ T0_ := mem_T0 30 (by decide +kernel) (by decide +kernel)
set_option maxRecDepth 100000 in
theorem cd_X9_run : ac_cd y_X9_run prog_11_method_27_code 2 (some .int) 0 := ⟨mem_T0 909 rfl (by decide +kernel), mem_T0 45 (by decide +kernel) (by decide +kernel), by decide +kernel, by decide +kernel, by decide +kernel⟩
theorem in_X9_run : Cond.instanceMethod y_X9_run ∈ T0_ := mem_T0 907 (by decide +kernel) (by decide +kernel)
theorem se_X9_run : Cond.selects "VirtualRewriteModel" y_X9_run y_X9_run ∈ T0_ := mem_T0 908 (by decide +kernel) (by decide +kernel)
set_option maxRecDepth 100000 in
theorem cd_X9_find : ac_cd y_X9_find prog_11_method_26_code 4 none 1 := ⟨mem_T0 913 rfl (by decide +kernel), mem_T0 45 (by decide +kernel) (by decide +kernel), by decide +kernel, by decide +kernel, by decide +kernel⟩
theorem in_X9_find : Cond.instanceMethod y_X9_find ∈ T0_ := mem_T0 912 (by decide +kernel) (by decide +kernel)
theorem se_X9_find : Cond.selects "VirtualRewriteModel" y_X9_find y_X9_find ∈ T0_ := mem_T0 31 (by decide +kernel) (by decide +kernel)
set_option maxRecDepth 100000 in
theorem cd_X9_agree : ac_cd y_X9_agree prog_11_method_23_code 11 (some .boolean) 2 := ⟨mem_T0 917 rfl (by decide +kernel), mem_T0 45 (by decide +kernel) (by decide +kernel), by decide +kernel, by decide +kernel, by decide +kernel⟩
theorem in_X9_agree : Cond.instanceMethod y_X9_agree ∈ T0_ := mem_T0 916 (by decide +kernel) (by decide +kernel)
theorem se_X9_agree : Cond.selects "VirtualRewriteModel" y_X9_agree y_X9_agree ∈ T0_ := mem_T0 32 (by decide +kernel) (by decide +kernel)
set_option maxRecDepth 100000 in
theorem cd_X9_keep : ac_cd y_X9_keep prog_11_method_25_code 5 none 1 := ⟨mem_T0 921 rfl (by decide +kernel), mem_T0 45 (by decide +kernel) (by decide +kernel), by decide +kernel, by decide +kernel, by decide +kernel⟩
theorem in_X9_keep : Cond.instanceMethod y_X9_keep ∈ T0_ := mem_T0 920 (by decide +kernel) (by decide +kernel)
theorem se_X9_keep : Cond.selects "VirtualRewriteModel" y_X9_keep y_X9_keep ∈ T0_ := mem_T0 33 (by decide +kernel) (by decide +kernel)
set_option maxRecDepth 100000 in
theorem cd_X9_compare : ac_cd y_X9_compare prog_11_method_24_code 4 (some .int) 1 := ⟨mem_T0 925 rfl (by decide +kernel), mem_T0 45 (by decide +kernel) (by decide +kernel), by decide +kernel, by decide +kernel, by decide +kernel⟩
theorem in_X9_compare : Cond.instanceMethod y_X9_compare ∈ T0_ := mem_T0 924 (by decide +kernel) (by decide +kernel)
theorem se_X9_compare : Cond.selects "VirtualRewriteModel" y_X9_compare y_X9_compare ∈ T0_ := mem_T0 34 (by decide +kernel) (by decide +kernel)
set_option maxRecDepth 100000 in
theorem cd_X9_value : ac_cd y_X9_value prog_11_method_28_code 3 (some .int) 2 := ⟨mem_T0 929 rfl (by decide +kernel), mem_T0 45 (by decide +kernel) (by decide +kernel), by decide +kernel, by decide +kernel, by decide +kernel⟩
theorem in_X9_value : Cond.instanceMethod y_X9_value ∈ T0_ := mem_T0 927 (by decide +kernel) (by decide +kernel)
theorem se_X9_value : Cond.selects "VirtualRewriteModel" y_X9_value y_X9_value ∈ T0_ := mem_T0 928 (by decide +kernel) (by decide +kernel)
set_option maxRecDepth 100000 in
theorem cd_X9_found : ac_cd y_X9_found prog_11_method_29_code 3 (some .int) 2 := ⟨mem_T0 933 rfl (by decide +kernel), mem_T0 45 (by decide +kernel) (by decide +kernel), by decide +kernel, by decide +kernel, by decide +kernel⟩
theorem in_X9_found : Cond.instanceMethod y_X9_found ∈ T0_ := mem_T0 931 (by decide +kernel) (by decide +kernel)
theorem se_X9_found : Cond.selects "VirtualRewriteModel" y_X9_found y_X9_found ∈ T0_ := mem_T0 932 (by decide +kernel) (by decide +kernel)
theorem oi_code : Cond.code objectInit ⟨#[0xb1]⟩ 1 none ∈ T0_ := mem_T0 60 (by decide +kernel) (by decide +kernel)
theorem oi_inst : Cond.instanceMethod objectInit ∈ T0_ := mem_T0 59 (by decide +kernel) (by decide +kernel)
theorem sc_nat : Cond.native arraycopyName ∈ T0_ := mem_T0 374 (by decide +kernel) (by decide +kernel)
theorem sc_stat : Cond.static arraycopyName ∈ T0_ := mem_T0 373 (by decide +kernel) (by decide +kernel)
theorem sc_ini : Cond.initialized "java/lang/System" ∈ T0_ := mem_T0 46 (by decide +kernel) (by decide +kernel)
theorem ka_I : Cond.arrayClass .int ∈ T0_ := mem_T0 93 (by decide +kernel) (by decide +kernel)
theorem ka_Z : Cond.arrayClass .boolean ∈ T0_ := mem_T0 94 (by decide +kernel) (by decide +kernel)
theorem ka_J : Cond.arrayClass .long ∈ T0_ := mem_T0 92 (by decide +kernel) (by decide +kernel)
theorem oi_X2_3 : Cond.methodLink "VirtualRewrite$Table" 3 objectInit ∈ T0_ := mem_T0 75 (by decide +kernel) (by decide +kernel)
theorem fp_X2_9 : ac_fp "VirtualRewrite$Table" 9 2 0 (.array .int) true := ⟨_, _, _, t_X2, rfl, uw_X2, by decide, mem_T0 76 (by decide +kernel) (by decide +kernel), ty_X2, nm_X2, rfl, by decide +kernel, fun _ => rfl⟩
theorem fp_X2_15 : ac_fp "VirtualRewrite$Table" 15 2 1 (.array .boolean) true := ⟨_, _, _, t_X2, rfl, uw_X2, by decide, mem_T0 77 (by decide +kernel) (by decide +kernel), ty_X2, nm_X2, rfl, by decide +kernel, fun _ => rfl⟩
theorem fp_X2_19 : ac_fp "VirtualRewrite$Table" 19 2 2 .int false := ⟨_, _, _, t_X2, rfl, uw_X2, by decide, mem_T0 80 (by decide +kernel) (by decide +kernel), ty_X2, nm_X2, rfl, by decide +kernel, fun h => by cases h⟩
theorem oi_X3_3 : Cond.methodLink "VirtualRewrite$Mapping" 3 objectInit ∈ T0_ := mem_T0 99 (by decide +kernel) (by decide +kernel)
theorem fp_X3_9 : ac_fp "VirtualRewrite$Mapping" 9 3 0 (.array .int) true := ⟨_, _, _, t_X3, rfl, uw_X3, by decide, mem_T0 100 (by decide +kernel) (by decide +kernel), ty_X3, nm_X3, rfl, by decide +kernel, fun _ => rfl⟩
theorem fp_X3_15 : ac_fp "VirtualRewrite$Mapping" 15 3 1 (.array .int) true := ⟨_, _, _, t_X3, rfl, uw_X3, by decide, mem_T0 104 (by decide +kernel) (by decide +kernel), ty_X3, nm_X3, rfl, by decide +kernel, fun _ => rfl⟩
theorem fp_X3_18 : ac_fp "VirtualRewrite$Mapping" 18 3 2 .int false := ⟨_, _, _, t_X3, rfl, uw_X3, by decide, mem_T0 108 (by decide +kernel) (by decide +kernel), ty_X3, nm_X3, rfl, by decide +kernel, fun h => by cases h⟩
theorem fp_X3_22 : ac_fp "VirtualRewrite$Mapping" 22 3 3 .int false := ⟨_, _, _, t_X3, rfl, uw_X3, by decide, mem_T0 112 (by decide +kernel) (by decide +kernel), ty_X3, nm_X3, rfl, by decide +kernel, fun h => by cases h⟩
theorem oi_X4_3 : Cond.methodLink "VirtualRewrite$Question" 3 objectInit ∈ T0_ := mem_T0 151 (by decide +kernel) (by decide +kernel)
theorem fp_X4_9 : ac_fp "VirtualRewrite$Question" 9 4 0 (.array .int) true := ⟨_, _, _, t_X4, rfl, uw_X4, by decide, mem_T0 152 (by decide +kernel) (by decide +kernel), ty_X4, nm_X4, rfl, by decide +kernel, fun _ => rfl⟩
theorem fp_X4_15 : ac_fp "VirtualRewrite$Question" 15 4 1 (.array .int) true := ⟨_, _, _, t_X4, rfl, uw_X4, by decide, mem_T0 154 (by decide +kernel) (by decide +kernel), ty_X4, nm_X4, rfl, by decide +kernel, fun _ => rfl⟩
theorem fp_X4_18 : ac_fp "VirtualRewrite$Question" 18 4 2 (.array .int) true := ⟨_, _, _, t_X4, rfl, uw_X4, by decide, mem_T0 155 (by decide +kernel) (by decide +kernel), ty_X4, nm_X4, rfl, by decide +kernel, fun _ => rfl⟩
theorem fp_X4_21 : ac_fp "VirtualRewrite$Question" 21 4 3 (.array .int) true := ⟨_, _, _, t_X4, rfl, uw_X4, by decide, mem_T0 156 (by decide +kernel) (by decide +kernel), ty_X4, nm_X4, rfl, by decide +kernel, fun _ => rfl⟩
theorem fp_X4_24 : ac_fp "VirtualRewrite$Question" 24 4 4 .int false := ⟨_, _, _, t_X4, rfl, uw_X4, by decide, mem_T0 157 (by decide +kernel) (by decide +kernel), ty_X4, nm_X4, rfl, by decide +kernel, fun h => by cases h⟩
theorem fp_X4_28 : ac_fp "VirtualRewrite$Question" 28 4 5 .int false := ⟨_, _, _, t_X4, rfl, uw_X4, by decide, mem_T0 162 (by decide +kernel) (by decide +kernel), ty_X4, nm_X4, rfl, by decide +kernel, fun h => by cases h⟩
theorem fl_X4_21 : ac_fl "VirtualRewrite$Question" 21 4 3 := ⟨_, _, _, rfl, uw_X4, by decide, mem_T0 156 (by decide +kernel) (by decide +kernel)⟩
theorem oi_X5_3 : Cond.methodLink "VirtualRewrite$Rewriting" 3 objectInit ∈ T0_ := mem_T0 182 (by decide +kernel) (by decide +kernel)
theorem fp_X5_9 : ac_fp "VirtualRewrite$Rewriting" 9 5 2 (.array .int) true := ⟨_, _, _, t_X5, rfl, uw_X5, by decide, mem_T0 185 (by decide +kernel) (by decide +kernel), ty_X5, nm_X5, rfl, by decide +kernel, fun _ => rfl⟩
theorem fp_X5_15 : ac_fp "VirtualRewrite$Rewriting" 15 5 3 (.array .int) true := ⟨_, _, _, t_X5, rfl, uw_X5, by decide, mem_T0 186 (by decide +kernel) (by decide +kernel), ty_X5, nm_X5, rfl, by decide +kernel, fun _ => rfl⟩
theorem fp_X5_18 : ac_fp "VirtualRewrite$Rewriting" 18 5 4 (.array .int) true := ⟨_, _, _, t_X5, rfl, uw_X5, by decide, mem_T0 187 (by decide +kernel) (by decide +kernel), ty_X5, nm_X5, rfl, by decide +kernel, fun _ => rfl⟩
theorem fp_X5_21 : ac_fp "VirtualRewrite$Rewriting" 21 5 5 .int false := ⟨_, _, _, t_X5, rfl, uw_X5, by decide, mem_T0 188 (by decide +kernel) (by decide +kernel), ty_X5, nm_X5, rfl, by decide +kernel, fun h => by cases h⟩
theorem fp_X5_25 : ac_fp "VirtualRewrite$Rewriting" 25 5 6 .boolean false := ⟨_, _, _, t_X5, rfl, uw_X5, by decide, mem_T0 190 (by decide +kernel) (by decide +kernel), ty_X5, nm_X5, rfl, by decide +kernel, fun h => by cases h⟩
theorem fp_X5_29 : ac_fp "VirtualRewrite$Rewriting" 29 5 7 .boolean false := ⟨_, _, _, t_X5, rfl, uw_X5, by decide, mem_T0 192 (by decide +kernel) (by decide +kernel), ty_X5, nm_X5, rfl, by decide +kernel, fun h => by cases h⟩
theorem fp_X5_32 : ac_fp "VirtualRewrite$Rewriting" 32 5 0 (.object "VirtualRewrite$Catalog") true := ⟨_, _, _, t_X5, rfl, uw_X5, by decide, mem_T0 183 (by decide +kernel) (by decide +kernel), ty_X5, nm_X5, rfl, by decide +kernel, fun _ => rfl⟩
theorem fp_X5_36 : ac_fp "VirtualRewrite$Rewriting" 36 5 1 (.object "VirtualRewrite$Question") true := ⟨_, _, _, t_X5, rfl, uw_X5, by decide, mem_T0 184 (by decide +kernel) (by decide +kernel), ty_X5, nm_X5, rfl, by decide +kernel, fun _ => rfl⟩
theorem oi_X6_3 : Cond.methodLink "VirtualRewrite$Slots" 3 objectInit ∈ T0_ := mem_T0 215 (by decide +kernel) (by decide +kernel)
theorem fp_X6_9 : ac_fp "VirtualRewrite$Slots" 9 6 3 (.array .int) true := ⟨_, _, _, t_X6, rfl, uw_X6, by decide, mem_T0 219 (by decide +kernel) (by decide +kernel), ty_X6, nm_X6, rfl, by decide +kernel, fun _ => rfl⟩
theorem fp_X6_15 : ac_fp "VirtualRewrite$Slots" 15 6 4 .int false := ⟨_, _, _, t_X6, rfl, uw_X6, by decide, mem_T0 222 (by decide +kernel) (by decide +kernel), ty_X6, nm_X6, rfl, by decide +kernel, fun h => by cases h⟩
theorem fp_X6_19 : ac_fp "VirtualRewrite$Slots" 19 6 0 (.object "VirtualRewrite$Catalog") true := ⟨_, _, _, t_X6, rfl, uw_X6, by decide, mem_T0 216 (by decide +kernel) (by decide +kernel), ty_X6, nm_X6, rfl, by decide +kernel, fun _ => rfl⟩
theorem fp_X6_23 : ac_fp "VirtualRewrite$Slots" 23 6 1 (.object "VirtualRewrite$Question") true := ⟨_, _, _, t_X6, rfl, uw_X6, by decide, mem_T0 217 (by decide +kernel) (by decide +kernel), ty_X6, nm_X6, rfl, by decide +kernel, fun _ => rfl⟩
theorem fp_X6_27 : ac_fp "VirtualRewrite$Slots" 27 6 2 (.object "VirtualRewrite$Rewriting") true := ⟨_, _, _, t_X6, rfl, uw_X6, by decide, mem_T0 218 (by decide +kernel) (by decide +kernel), ty_X6, nm_X6, rfl, by decide +kernel, fun _ => rfl⟩
theorem oi_X7_3 : Cond.methodLink "VirtualRewrite$Answers" 3 objectInit ∈ T0_ := mem_T0 241 (by decide +kernel) (by decide +kernel)
theorem fp_X7_9 : ac_fp "VirtualRewrite$Answers" 9 7 0 (.array .int) true := ⟨_, _, _, t_X7, rfl, uw_X7, by decide, mem_T0 242 (by decide +kernel) (by decide +kernel), ty_X7, nm_X7, rfl, by decide +kernel, fun _ => rfl⟩
theorem fp_X7_15 : ac_fp "VirtualRewrite$Answers" 15 7 1 (.array .int) true := ⟨_, _, _, t_X7, rfl, uw_X7, by decide, mem_T0 243 (by decide +kernel) (by decide +kernel), ty_X7, nm_X7, rfl, by decide +kernel, fun _ => rfl⟩
theorem fp_X7_18 : ac_fp "VirtualRewrite$Answers" 18 7 2 (.array .int) true := ⟨_, _, _, t_X7, rfl, uw_X7, by decide, mem_T0 244 (by decide +kernel) (by decide +kernel), ty_X7, nm_X7, rfl, by decide +kernel, fun _ => rfl⟩
theorem fp_X7_21 : ac_fp "VirtualRewrite$Answers" 21 7 3 (.array .int) true := ⟨_, _, _, t_X7, rfl, uw_X7, by decide, mem_T0 245 (by decide +kernel) (by decide +kernel), ty_X7, nm_X7, rfl, by decide +kernel, fun _ => rfl⟩
theorem fp_X7_24 : ac_fp "VirtualRewrite$Answers" 24 7 4 .int false := ⟨_, _, _, t_X7, rfl, uw_X7, by decide, mem_T0 246 (by decide +kernel) (by decide +kernel), ty_X7, nm_X7, rfl, by decide +kernel, fun h => by cases h⟩
theorem fp_X7_28 : ac_fp "VirtualRewrite$Answers" 28 7 5 .int false := ⟨_, _, _, t_X7, rfl, uw_X7, by decide, mem_T0 248 (by decide +kernel) (by decide +kernel), ty_X7, nm_X7, rfl, by decide +kernel, fun h => by cases h⟩
theorem fp_X7_31 : ac_fp "VirtualRewrite$Answers" 31 7 6 .boolean false := ⟨_, _, _, t_X7, rfl, uw_X7, by decide, mem_T0 250 (by decide +kernel) (by decide +kernel), ty_X7, nm_X7, rfl, by decide +kernel, fun h => by cases h⟩
theorem oi_X8_3 : Cond.methodLink "VirtualRewrite$Finder" 3 objectInit ∈ T0_ := mem_T0 273 (by decide +kernel) (by decide +kernel)
theorem fp_X8_9 : ac_fp "VirtualRewrite$Finder" 9 8 4 (.array .int) true := ⟨_, _, _, t_X8, rfl, uw_X8, by decide, mem_T0 278 (by decide +kernel) (by decide +kernel), ty_X8, nm_X8, rfl, by decide +kernel, fun _ => rfl⟩
theorem fp_X8_15 : ac_fp "VirtualRewrite$Finder" 15 8 5 (.array .int) true := ⟨_, _, _, t_X8, rfl, uw_X8, by decide, mem_T0 279 (by decide +kernel) (by decide +kernel), ty_X8, nm_X8, rfl, by decide +kernel, fun _ => rfl⟩
theorem fp_X8_18 : ac_fp "VirtualRewrite$Finder" 18 8 6 (.array .int) true := ⟨_, _, _, t_X8, rfl, uw_X8, by decide, mem_T0 280 (by decide +kernel) (by decide +kernel), ty_X8, nm_X8, rfl, by decide +kernel, fun _ => rfl⟩
theorem fp_X8_21 : ac_fp "VirtualRewrite$Finder" 21 8 7 (.array .int) true := ⟨_, _, _, t_X8, rfl, uw_X8, by decide, mem_T0 281 (by decide +kernel) (by decide +kernel), ty_X8, nm_X8, rfl, by decide +kernel, fun _ => rfl⟩
theorem fp_X8_24 : ac_fp "VirtualRewrite$Finder" 24 8 8 (.array .int) true := ⟨_, _, _, t_X8, rfl, uw_X8, by decide, mem_T0 282 (by decide +kernel) (by decide +kernel), ty_X8, nm_X8, rfl, by decide +kernel, fun _ => rfl⟩
theorem fp_X8_27 : ac_fp "VirtualRewrite$Finder" 27 8 9 (.array .int) true := ⟨_, _, _, t_X8, rfl, uw_X8, by decide, mem_T0 283 (by decide +kernel) (by decide +kernel), ty_X8, nm_X8, rfl, by decide +kernel, fun _ => rfl⟩
theorem fp_X8_30 : ac_fp "VirtualRewrite$Finder" 30 8 10 (.array .int) true := ⟨_, _, _, t_X8, rfl, uw_X8, by decide, mem_T0 284 (by decide +kernel) (by decide +kernel), ty_X8, nm_X8, rfl, by decide +kernel, fun _ => rfl⟩
theorem fp_X8_33 : ac_fp "VirtualRewrite$Finder" 33 8 11 (.array .int) true := ⟨_, _, _, t_X8, rfl, uw_X8, by decide, mem_T0 285 (by decide +kernel) (by decide +kernel), ty_X8, nm_X8, rfl, by decide +kernel, fun _ => rfl⟩
theorem fp_X8_36 : ac_fp "VirtualRewrite$Finder" 36 8 12 .int false := ⟨_, _, _, t_X8, rfl, uw_X8, by decide, mem_T0 286 (by decide +kernel) (by decide +kernel), ty_X8, nm_X8, rfl, by decide +kernel, fun h => by cases h⟩
theorem fp_X8_40 : ac_fp "VirtualRewrite$Finder" 40 8 0 (.object "VirtualRewrite$Question") true := ⟨_, _, _, t_X8, rfl, uw_X8, by decide, mem_T0 274 (by decide +kernel) (by decide +kernel), ty_X8, nm_X8, rfl, by decide +kernel, fun _ => rfl⟩
theorem fp_X8_44 : ac_fp "VirtualRewrite$Finder" 44 8 1 (.object "VirtualRewrite$Rewriting") true := ⟨_, _, _, t_X8, rfl, uw_X8, by decide, mem_T0 275 (by decide +kernel) (by decide +kernel), ty_X8, nm_X8, rfl, by decide +kernel, fun _ => rfl⟩
theorem fp_X8_48 : ac_fp "VirtualRewrite$Finder" 48 8 2 (.object "VirtualRewrite$Slots") true := ⟨_, _, _, t_X8, rfl, uw_X8, by decide, mem_T0 276 (by decide +kernel) (by decide +kernel), ty_X8, nm_X8, rfl, by decide +kernel, fun _ => rfl⟩
theorem fp_X8_52 : ac_fp "VirtualRewrite$Finder" 52 8 3 (.object "VirtualRewrite$Answers") true := ⟨_, _, _, t_X8, rfl, uw_X8, by decide, mem_T0 277 (by decide +kernel) (by decide +kernel), ty_X8, nm_X8, rfl, by decide +kernel, fun _ => rfl⟩
theorem fl_X2_9 : ac_fl "VirtualRewrite$Table" 9 2 0 := ⟨_, _, _, rfl, uw_X2, by decide, mem_T0 76 (by decide +kernel) (by decide +kernel)⟩
theorem fl_X2_19 : ac_fl "VirtualRewrite$Table" 19 2 2 := ⟨_, _, _, rfl, uw_X2, by decide, mem_T0 80 (by decide +kernel) (by decide +kernel)⟩
theorem sc_X2_31 : Cond.methodLink "VirtualRewrite$Table" 31 arraycopyName ∈ T0_ := mem_T0 372 (by decide +kernel) (by decide +kernel)
theorem fl_X3_9 : ac_fl "VirtualRewrite$Mapping" 9 3 0 := ⟨_, _, _, rfl, uw_X3, by decide, mem_T0 100 (by decide +kernel) (by decide +kernel)⟩
theorem fl_X3_15 : ac_fl "VirtualRewrite$Mapping" 15 3 1 := ⟨_, _, _, rfl, uw_X3, by decide, mem_T0 104 (by decide +kernel) (by decide +kernel)⟩
theorem fl_X1_11 : ac_fl "VirtualRewrite$Catalog" 11 1 0 := ⟨_, _, _, rfl, uw_X1, by decide, mem_T0 125 (by decide +kernel) (by decide +kernel)⟩
theorem fl_X1_36 : ac_fl "VirtualRewrite$Catalog" 36 3 2 := ⟨_, _, _, rfl, uw_X3, by decide, mem_T0 109 (by decide +kernel) (by decide +kernel)⟩
theorem fl_X1_31 : ac_fl "VirtualRewrite$Catalog" 31 1 4 := ⟨_, _, _, rfl, uw_X1, by decide, mem_T0 134 (by decide +kernel) (by decide +kernel)⟩
theorem fl_X1_23 : ac_fl "VirtualRewrite$Catalog" 23 1 2 := ⟨_, _, _, rfl, uw_X1, by decide, mem_T0 130 (by decide +kernel) (by decide +kernel)⟩
theorem sc_X1_68 : Cond.methodLink "VirtualRewrite$Catalog" 68 arraycopyName ∈ T0_ := mem_T0 409 (by decide +kernel) (by decide +kernel)
theorem fp_X1_31 : ac_fp "VirtualRewrite$Catalog" 31 1 4 .int false := ⟨_, _, _, t_X1, rfl, uw_X1, by decide, mem_T0 134 (by decide +kernel) (by decide +kernel), ty_X1, nm_X1, rfl, by decide +kernel, fun h => by cases h⟩
theorem kc_X0_193 : Jvm.Cond.constant "VirtualRewrite" 193 (60000) ∈ T0_ := mem_T0 417 (by decide +kernel) (by decide +kernel)
theorem fl_X4_9 : ac_fl "VirtualRewrite$Question" 9 4 0 := ⟨_, _, _, rfl, uw_X4, by decide, mem_T0 152 (by decide +kernel) (by decide +kernel)⟩
theorem fl_X4_24 : ac_fl "VirtualRewrite$Question" 24 4 4 := ⟨_, _, _, rfl, uw_X4, by decide, mem_T0 157 (by decide +kernel) (by decide +kernel)⟩
theorem fl_X4_15 : ac_fl "VirtualRewrite$Question" 15 4 1 := ⟨_, _, _, rfl, uw_X4, by decide, mem_T0 154 (by decide +kernel) (by decide +kernel)⟩
theorem fl_X4_18 : ac_fl "VirtualRewrite$Question" 18 4 2 := ⟨_, _, _, rfl, uw_X4, by decide, mem_T0 155 (by decide +kernel) (by decide +kernel)⟩
theorem fl_X5_21 : ac_fl "VirtualRewrite$Rewriting" 21 5 5 := ⟨_, _, _, rfl, uw_X5, by decide, mem_T0 188 (by decide +kernel) (by decide +kernel)⟩
theorem fl_X5_15 : ac_fl "VirtualRewrite$Rewriting" 15 5 3 := ⟨_, _, _, rfl, uw_X5, by decide, mem_T0 186 (by decide +kernel) (by decide +kernel)⟩
theorem fl_X5_9 : ac_fl "VirtualRewrite$Rewriting" 9 5 2 := ⟨_, _, _, rfl, uw_X5, by decide, mem_T0 185 (by decide +kernel) (by decide +kernel)⟩
theorem sc_X5_83 : Cond.methodLink "VirtualRewrite$Rewriting" 83 arraycopyName ∈ T0_ := mem_T0 460 (by decide +kernel) (by decide +kernel)
theorem kc_JInteger_265 : Jvm.Cond.constant "java/lang/Integer" 265 (1431655765) ∈ T0_ := mem_T0 604 (by decide +kernel) (by decide +kernel)
theorem kc_JInteger_266 : Jvm.Cond.constant "java/lang/Integer" 266 (858993459) ∈ T0_ := mem_T0 605 (by decide +kernel) (by decide +kernel)
theorem kc_JInteger_267 : Jvm.Cond.constant "java/lang/Integer" 267 (252645135) ∈ T0_ := mem_T0 606 (by decide +kernel) (by decide +kernel)
theorem fl_X7_9 : ac_fl "VirtualRewrite$Answers" 9 7 0 := ⟨_, _, _, rfl, uw_X7, by decide, mem_T0 242 (by decide +kernel) (by decide +kernel)⟩
theorem fl_X7_15 : ac_fl "VirtualRewrite$Answers" 15 7 1 := ⟨_, _, _, rfl, uw_X7, by decide, mem_T0 243 (by decide +kernel) (by decide +kernel)⟩
theorem fl_X7_24 : ac_fl "VirtualRewrite$Answers" 24 7 4 := ⟨_, _, _, rfl, uw_X7, by decide, mem_T0 246 (by decide +kernel) (by decide +kernel)⟩
theorem sc_X7_47 : Cond.methodLink "VirtualRewrite$Answers" 47 arraycopyName ∈ T0_ := mem_T0 631 (by decide +kernel) (by decide +kernel)
theorem fl_X7_18 : ac_fl "VirtualRewrite$Answers" 18 7 2 := ⟨_, _, _, rfl, uw_X7, by decide, mem_T0 244 (by decide +kernel) (by decide +kernel)⟩
theorem fl_X7_21 : ac_fl "VirtualRewrite$Answers" 21 7 3 := ⟨_, _, _, rfl, uw_X7, by decide, mem_T0 245 (by decide +kernel) (by decide +kernel)⟩
theorem oi_X9_1 : Cond.methodLink "VirtualRewriteModel" 1 objectInit ∈ T0_ := mem_T0 734 (by decide +kernel) (by decide +kernel)
theorem fp_X9_7 : ac_fp "VirtualRewriteModel" 7 9 1 (.array .int) true := ⟨_, _, _, t_X9, rfl, uw_X9, by decide, mem_T0 736 (by decide +kernel) (by decide +kernel), ty_X9, nm_X9, rfl, by decide +kernel, fun _ => rfl⟩
theorem fp_X9_13 : ac_fp "VirtualRewriteModel" 13 9 2 (.array .int) true := ⟨_, _, _, t_X9, rfl, uw_X9, by decide, mem_T0 737 (by decide +kernel) (by decide +kernel), ty_X9, nm_X9, rfl, by decide +kernel, fun _ => rfl⟩
theorem fp_X9_16 : ac_fp "VirtualRewriteModel" 16 9 3 (.array .boolean) true := ⟨_, _, _, t_X9, rfl, uw_X9, by decide, mem_T0 738 (by decide +kernel) (by decide +kernel), ty_X9, nm_X9, rfl, by decide +kernel, fun _ => rfl⟩
theorem fp_X9_20 : ac_fp "VirtualRewriteModel" 20 9 5 (.array .int) true := ⟨_, _, _, t_X9, rfl, uw_X9, by decide, mem_T0 740 (by decide +kernel) (by decide +kernel), ty_X9, nm_X9, rfl, by decide +kernel, fun _ => rfl⟩
theorem fp_X9_23 : ac_fp "VirtualRewriteModel" 23 9 6 (.array .int) true := ⟨_, _, _, t_X9, rfl, uw_X9, by decide, mem_T0 741 (by decide +kernel) (by decide +kernel), ty_X9, nm_X9, rfl, by decide +kernel, fun _ => rfl⟩
theorem fp_X9_26 : ac_fp "VirtualRewriteModel" 26 9 7 (.array .int) true := ⟨_, _, _, t_X9, rfl, uw_X9, by decide, mem_T0 742 (by decide +kernel) (by decide +kernel), ty_X9, nm_X9, rfl, by decide +kernel, fun _ => rfl⟩
theorem fp_X9_29 : ac_fp "VirtualRewriteModel" 29 9 8 (.array .int) true := ⟨_, _, _, t_X9, rfl, uw_X9, by decide, mem_T0 743 (by decide +kernel) (by decide +kernel), ty_X9, nm_X9, rfl, by decide +kernel, fun _ => rfl⟩
theorem fp_X9_32 : ac_fp "VirtualRewriteModel" 32 9 10 (.array .int) true := ⟨_, _, _, t_X9, rfl, uw_X9, by decide, mem_T0 745 (by decide +kernel) (by decide +kernel), ty_X9, nm_X9, rfl, by decide +kernel, fun _ => rfl⟩
theorem fp_X9_35 : ac_fp "VirtualRewriteModel" 35 9 11 (.array .int) true := ⟨_, _, _, t_X9, rfl, uw_X9, by decide, mem_T0 746 (by decide +kernel) (by decide +kernel), ty_X9, nm_X9, rfl, by decide +kernel, fun _ => rfl⟩
theorem fp_X9_38 : ac_fp "VirtualRewriteModel" 38 9 13 (.array .int) true := ⟨_, _, _, t_X9, rfl, uw_X9, by decide, mem_T0 748 (by decide +kernel) (by decide +kernel), ty_X9, nm_X9, rfl, by decide +kernel, fun _ => rfl⟩
theorem fp_X9_41 : ac_fp "VirtualRewriteModel" 41 9 14 (.array .int) true := ⟨_, _, _, t_X9, rfl, uw_X9, by decide, mem_T0 749 (by decide +kernel) (by decide +kernel), ty_X9, nm_X9, rfl, by decide +kernel, fun _ => rfl⟩
theorem fp_X9_44 : ac_fp "VirtualRewriteModel" 44 9 15 (.array .int) true := ⟨_, _, _, t_X9, rfl, uw_X9, by decide, mem_T0 750 (by decide +kernel) (by decide +kernel), ty_X9, nm_X9, rfl, by decide +kernel, fun _ => rfl⟩
theorem fp_X9_47 : ac_fp "VirtualRewriteModel" 47 9 17 (.array .int) true := ⟨_, _, _, t_X9, rfl, uw_X9, by decide, mem_T0 752 (by decide +kernel) (by decide +kernel), ty_X9, nm_X9, rfl, by decide +kernel, fun _ => rfl⟩
theorem fp_X9_50 : ac_fp "VirtualRewriteModel" 50 9 18 (.array .int) true := ⟨_, _, _, t_X9, rfl, uw_X9, by decide, mem_T0 753 (by decide +kernel) (by decide +kernel), ty_X9, nm_X9, rfl, by decide +kernel, fun _ => rfl⟩
theorem fp_X9_53 : ac_fp "VirtualRewriteModel" 53 9 19 (.array .int) true := ⟨_, _, _, t_X9, rfl, uw_X9, by decide, mem_T0 754 (by decide +kernel) (by decide +kernel), ty_X9, nm_X9, rfl, by decide +kernel, fun _ => rfl⟩
theorem fp_X9_56 : ac_fp "VirtualRewriteModel" 56 9 20 (.array .int) true := ⟨_, _, _, t_X9, rfl, uw_X9, by decide, mem_T0 755 (by decide +kernel) (by decide +kernel), ty_X9, nm_X9, rfl, by decide +kernel, fun _ => rfl⟩
theorem fp_X9_59 : ac_fp "VirtualRewriteModel" 59 9 21 (.array .int) true := ⟨_, _, _, t_X9, rfl, uw_X9, by decide, mem_T0 756 (by decide +kernel) (by decide +kernel), ty_X9, nm_X9, rfl, by decide +kernel, fun _ => rfl⟩
theorem fp_X9_62 : ac_fp "VirtualRewriteModel" 62 9 22 (.array .int) true := ⟨_, _, _, t_X9, rfl, uw_X9, by decide, mem_T0 757 (by decide +kernel) (by decide +kernel), ty_X9, nm_X9, rfl, by decide +kernel, fun _ => rfl⟩
theorem fp_X9_65 : ac_fp "VirtualRewriteModel" 65 9 24 (.array .boolean) true := ⟨_, _, _, t_X9, rfl, uw_X9, by decide, mem_T0 759 (by decide +kernel) (by decide +kernel), ty_X9, nm_X9, rfl, by decide +kernel, fun _ => rfl⟩
theorem fp_X9_68 : ac_fp "VirtualRewriteModel" 68 9 25 (.array .int) true := ⟨_, _, _, t_X9, rfl, uw_X9, by decide, mem_T0 760 (by decide +kernel) (by decide +kernel), ty_X9, nm_X9, rfl, by decide +kernel, fun _ => rfl⟩
theorem fp_X9_71 : ac_fp "VirtualRewriteModel" 71 9 26 (.array .int) true := ⟨_, _, _, t_X9, rfl, uw_X9, by decide, mem_T0 761 (by decide +kernel) (by decide +kernel), ty_X9, nm_X9, rfl, by decide +kernel, fun _ => rfl⟩
theorem fp_X9_74 : ac_fp "VirtualRewriteModel" 74 9 27 (.array .int) true := ⟨_, _, _, t_X9, rfl, uw_X9, by decide, mem_T0 762 (by decide +kernel) (by decide +kernel), ty_X9, nm_X9, rfl, by decide +kernel, fun _ => rfl⟩
theorem fp_X9_77 : ac_fp "VirtualRewriteModel" 77 9 28 (.array .int) true := ⟨_, _, _, t_X9, rfl, uw_X9, by decide, mem_T0 763 (by decide +kernel) (by decide +kernel), ty_X9, nm_X9, rfl, by decide +kernel, fun _ => rfl⟩
theorem fl_X9_80 : ac_fl "VirtualRewriteModel" 80 9 0 := ⟨_, _, _, rfl, uw_X9, by decide, mem_T0 735 (by decide +kernel) (by decide +kernel)⟩
theorem fl_X9_13 : ac_fl "VirtualRewriteModel" 13 9 2 := ⟨_, _, _, rfl, uw_X9, by decide, mem_T0 737 (by decide +kernel) (by decide +kernel)⟩
theorem fl_X9_7 : ac_fl "VirtualRewriteModel" 7 9 1 := ⟨_, _, _, rfl, uw_X9, by decide, mem_T0 736 (by decide +kernel) (by decide +kernel)⟩
theorem fl_X9_26 : ac_fl "VirtualRewriteModel" 26 9 7 := ⟨_, _, _, rfl, uw_X9, by decide, mem_T0 742 (by decide +kernel) (by decide +kernel)⟩
theorem fl_X9_20 : ac_fl "VirtualRewriteModel" 20 9 5 := ⟨_, _, _, rfl, uw_X9, by decide, mem_T0 740 (by decide +kernel) (by decide +kernel)⟩
theorem fl_X9_29 : ac_fl "VirtualRewriteModel" 29 9 8 := ⟨_, _, _, rfl, uw_X9, by decide, mem_T0 743 (by decide +kernel) (by decide +kernel)⟩
theorem fp_X9_80 : ac_fp "VirtualRewriteModel" 80 9 0 .int false := ⟨_, _, _, t_X9, rfl, uw_X9, by decide, mem_T0 735 (by decide +kernel) (by decide +kernel), ty_X9, nm_X9, rfl, by decide +kernel, fun h => by cases h⟩
theorem fl_X9_103 : ac_fl "VirtualRewriteModel" 103 9 9 := ⟨_, _, _, rfl, uw_X9, by decide, mem_T0 744 (by decide +kernel) (by decide +kernel)⟩
theorem fp_X9_103 : ac_fp "VirtualRewriteModel" 103 9 9 .int false := ⟨_, _, _, t_X9, rfl, uw_X9, by decide, mem_T0 744 (by decide +kernel) (by decide +kernel), ty_X9, nm_X9, rfl, by decide +kernel, fun h => by cases h⟩
theorem fp_X9_106 : ac_fp "VirtualRewriteModel" 106 9 12 .int false := ⟨_, _, _, t_X9, rfl, uw_X9, by decide, mem_T0 747 (by decide +kernel) (by decide +kernel), ty_X9, nm_X9, rfl, by decide +kernel, fun h => by cases h⟩
theorem fl_X9_62 : ac_fl "VirtualRewriteModel" 62 9 22 := ⟨_, _, _, rfl, uw_X9, by decide, mem_T0 757 (by decide +kernel) (by decide +kernel)⟩
theorem fl_X9_23 : ac_fl "VirtualRewriteModel" 23 9 6 := ⟨_, _, _, rfl, uw_X9, by decide, mem_T0 741 (by decide +kernel) (by decide +kernel)⟩
theorem fl_X9_47 : ac_fl "VirtualRewriteModel" 47 9 17 := ⟨_, _, _, rfl, uw_X9, by decide, mem_T0 752 (by decide +kernel) (by decide +kernel)⟩
theorem fl_X9_32 : ac_fl "VirtualRewriteModel" 32 9 10 := ⟨_, _, _, rfl, uw_X9, by decide, mem_T0 745 (by decide +kernel) (by decide +kernel)⟩
theorem fl_X9_35 : ac_fl "VirtualRewriteModel" 35 9 11 := ⟨_, _, _, rfl, uw_X9, by decide, mem_T0 746 (by decide +kernel) (by decide +kernel)⟩
theorem fl_X9_16 : ac_fl "VirtualRewriteModel" 16 9 3 := ⟨_, _, _, rfl, uw_X9, by decide, mem_T0 738 (by decide +kernel) (by decide +kernel)⟩
theorem fl_X9_50 : ac_fl "VirtualRewriteModel" 50 9 18 := ⟨_, _, _, rfl, uw_X9, by decide, mem_T0 753 (by decide +kernel) (by decide +kernel)⟩
theorem fl_X9_59 : ac_fl "VirtualRewriteModel" 59 9 21 := ⟨_, _, _, rfl, uw_X9, by decide, mem_T0 756 (by decide +kernel) (by decide +kernel)⟩
theorem fl_X9_56 : ac_fl "VirtualRewriteModel" 56 9 20 := ⟨_, _, _, rfl, uw_X9, by decide, mem_T0 755 (by decide +kernel) (by decide +kernel)⟩
theorem fl_X9_106 : ac_fl "VirtualRewriteModel" 106 9 12 := ⟨_, _, _, rfl, uw_X9, by decide, mem_T0 747 (by decide +kernel) (by decide +kernel)⟩
theorem fl_X9_38 : ac_fl "VirtualRewriteModel" 38 9 13 := ⟨_, _, _, rfl, uw_X9, by decide, mem_T0 748 (by decide +kernel) (by decide +kernel)⟩
theorem fl_X9_41 : ac_fl "VirtualRewriteModel" 41 9 14 := ⟨_, _, _, rfl, uw_X9, by decide, mem_T0 749 (by decide +kernel) (by decide +kernel)⟩
theorem fl_X9_44 : ac_fl "VirtualRewriteModel" 44 9 15 := ⟨_, _, _, rfl, uw_X9, by decide, mem_T0 750 (by decide +kernel) (by decide +kernel)⟩
theorem fl_X9_68 : ac_fl "VirtualRewriteModel" 68 9 25 := ⟨_, _, _, rfl, uw_X9, by decide, mem_T0 760 (by decide +kernel) (by decide +kernel)⟩
theorem oi_X1_3 : Cond.methodLink "VirtualRewrite$Catalog" 3 objectInit ∈ T0_ := mem_T0 66 (by decide +kernel) (by decide +kernel)
theorem cq_X1_9 : Cond.classLink "VirtualRewrite$Catalog" 9 "VirtualRewrite$Table" ∈ T0_ := mem_T0 67 (by decide +kernel) (by decide +kernel)
theorem fp_X1_11 : ac_fp "VirtualRewrite$Catalog" 11 1 0 (.array (.object "VirtualRewrite$Table")) true := ⟨_, _, _, t_X1, rfl, uw_X1, by decide, mem_T0 125 (by decide +kernel) (by decide +kernel), ty_X1, nm_X1, rfl, by decide +kernel, fun _ => rfl⟩
theorem cq_X1_17 : Cond.classLink "VirtualRewrite$Catalog" 17 "VirtualRewrite$Mapping" ∈ T0_ := mem_T0 69 (by decide +kernel) (by decide +kernel)
theorem fp_X1_19 : ac_fp "VirtualRewrite$Catalog" 19 1 1 (.array (.object "VirtualRewrite$Mapping")) true := ⟨_, _, _, t_X1, rfl, uw_X1, by decide, mem_T0 127 (by decide +kernel) (by decide +kernel), ty_X1, nm_X1, rfl, by decide +kernel, fun _ => rfl⟩
theorem fp_X1_23 : ac_fp "VirtualRewrite$Catalog" 23 1 2 (.array .long) true := ⟨_, _, _, t_X1, rfl, uw_X1, by decide, mem_T0 130 (by decide +kernel) (by decide +kernel), ty_X1, nm_X1, rfl, by decide +kernel, fun _ => rfl⟩
theorem fp_X1_27 : ac_fp "VirtualRewrite$Catalog" 27 1 3 .int false := ⟨_, _, _, t_X1, rfl, uw_X1, by decide, mem_T0 131 (by decide +kernel) (by decide +kernel), ty_X1, nm_X1, rfl, by decide +kernel, fun h => by cases h⟩
theorem cn_X1_9 : ac_cn "VirtualRewrite$Catalog" 9 2 3 [.null, .null, .int 0] := ⟨_, _, t_X2, rfl, uw_X2, ty_X2, mem_T0 67 (by decide +kernel) (by decide +kernel), mem_T0 71 (by decide +kernel) (by decide +kernel), mem_T0 38 (by decide +kernel) (by decide +kernel), by decide +kernel⟩
theorem ml_X1_34 : ("VirtualRewrite$Catalog", 34, y_X2_init, "VirtualRewrite") ∈ NM_ := by decide +kernel
theorem fl_X1_19 : ac_fl "VirtualRewrite$Catalog" 19 1 1 := ⟨_, _, _, rfl, uw_X1, by decide, mem_T0 127 (by decide +kernel) (by decide +kernel)⟩
theorem cn_X1_17 : ac_cn "VirtualRewrite$Catalog" 17 3 4 [.null, .null, .int 0, .int 0] := ⟨_, _, t_X3, rfl, uw_X3, ty_X3, mem_T0 69 (by decide +kernel) (by decide +kernel), mem_T0 95 (by decide +kernel) (by decide +kernel), mem_T0 39 (by decide +kernel) (by decide +kernel), by decide +kernel⟩
theorem ml_X1_35 : ("VirtualRewrite$Catalog", 35, y_X3_init, "VirtualRewrite") ∈ NM_ := by decide +kernel
theorem ml_X2_23 : Cond.methodLink "VirtualRewrite$Table" 23 y_X2_cell ∈ T0_ := mem_T0 344 (by decide +kernel) (by decide +kernel)
theorem ml_X0_57 : Cond.methodLink "VirtualRewrite" 57 y_X0_isBelow ∈ T0_ := mem_T0 337 (by decide +kernel) (by decide +kernel)
theorem fl_X0_12 : ac_fl "VirtualRewrite" 12 0 0 := ⟨_, _, _, rfl, uw_X0, by decide, mem_T0 314 (by decide +kernel) (by decide +kernel)⟩
theorem fl_X0_61 : ac_fl "VirtualRewrite" 61 1 0 := ⟨_, _, _, rfl, uw_X1, by decide, mem_T0 126 (by decide +kernel) (by decide +kernel)⟩
theorem fl_X0_78 : ac_fl "VirtualRewrite" 78 2 2 := ⟨_, _, _, rfl, uw_X2, by decide, mem_T0 82 (by decide +kernel) (by decide +kernel)⟩
theorem ml_X0_86 : Cond.methodLink "VirtualRewrite" 86 y_X2_remove ∈ T0_ := mem_T0 368 (by decide +kernel) (by decide +kernel)
theorem fl_X0_90 : ac_fl "VirtualRewrite" 90 1 3 := ⟨_, _, _, rfl, uw_X1, by decide, mem_T0 132 (by decide +kernel) (by decide +kernel)⟩
theorem fl_X0_91 : ac_fl "VirtualRewrite" 91 1 1 := ⟨_, _, _, rfl, uw_X1, by decide, mem_T0 129 (by decide +kernel) (by decide +kernel)⟩
theorem fp_X0_95 : ac_fp "VirtualRewrite" 95 3 2 .int false := ⟨_, _, _, t_X3, rfl, uw_X3, by decide, mem_T0 111 (by decide +kernel) (by decide +kernel), ty_X3, nm_X3, rfl, by decide +kernel, fun h => by cases h⟩
theorem fp_X0_100 : ac_fp "VirtualRewrite" 100 3 3 .int false := ⟨_, _, _, t_X3, rfl, uw_X3, by decide, mem_T0 114 (by decide +kernel) (by decide +kernel), ty_X3, nm_X3, rfl, by decide +kernel, fun h => by cases h⟩
theorem ml_X0_103 : Cond.methodLink "VirtualRewrite" 103 y_X3_describe ∈ T0_ := mem_T0 379 (by decide +kernel) (by decide +kernel)
theorem fp_X0_90 : ac_fp "VirtualRewrite" 90 1 3 .int false := ⟨_, _, _, t_X1, rfl, uw_X1, by decide, mem_T0 132 (by decide +kernel) (by decide +kernel), ty_X1, nm_X1, rfl, by decide +kernel, fun h => by cases h⟩
theorem fl_X0_28 : ac_fl "VirtualRewrite" 28 0 2 := ⟨_, _, _, rfl, uw_X0, by decide, mem_T0 316 (by decide +kernel) (by decide +kernel)⟩
theorem ml_X0_106 : Cond.methodLink "VirtualRewrite" 106 y_X5_forget ∈ T0_ := mem_T0 383 (by decide +kernel) (by decide +kernel)
theorem fl_X1_52 : ac_fl "VirtualRewrite$Catalog" 52 3 3 := ⟨_, _, _, rfl, uw_X3, by decide, mem_T0 113 (by decide +kernel) (by decide +kernel)⟩
theorem ml_X1_39 : Cond.methodLink "VirtualRewrite$Catalog" 39 y_X1_tableOf ∈ T0_ := mem_T0 395 (by decide +kernel) (by decide +kernel)
theorem fl_X1_55 : ac_fl "VirtualRewrite$Catalog" 55 3 1 := ⟨_, _, _, rfl, uw_X3, by decide, mem_T0 105 (by decide +kernel) (by decide +kernel)⟩
theorem ml_X1_59 : Cond.methodLink "VirtualRewrite$Catalog" 59 y_X2_cell ∈ T0_ := mem_T0 403 (by decide +kernel) (by decide +kernel)
theorem kl_X1_63 : Jvm.Cond.constantLong "VirtualRewrite$Catalog" 63 (60000) ∈ T0_ := mem_T0 404 (by decide +kernel) (by decide +kernel)
theorem fl_X1_65 : ac_fl "VirtualRewrite$Catalog" 65 3 0 := ⟨_, _, _, rfl, uw_X3, by decide, mem_T0 101 (by decide +kernel) (by decide +kernel)⟩
theorem ml_X0_113 : Cond.methodLink "VirtualRewrite" 113 y_X0_isPlace ∈ T0_ := mem_T0 414 (by decide +kernel) (by decide +kernel)
theorem fl_X0_19 : ac_fl "VirtualRewrite" 19 0 1 := ⟨_, _, _, rfl, uw_X0, by decide, mem_T0 315 (by decide +kernel) (by decide +kernel)⟩
theorem fl_X0_116 : ac_fl "VirtualRewrite" 116 4 4 := ⟨_, _, _, rfl, uw_X4, by decide, mem_T0 161 (by decide +kernel) (by decide +kernel)⟩
theorem ml_X0_119 : Cond.methodLink "VirtualRewrite" 119 y_X4_append ∈ T0_ := mem_T0 418 (by decide +kernel) (by decide +kernel)
theorem ml_X4_31 : Cond.methodLink "VirtualRewrite$Question" 31 y_JMath_max ∈ T0_ := mem_T0 430 (by decide +kernel) (by decide +kernel)
theorem ml_X4_37 : Cond.methodLink "VirtualRewrite$Question" 37 y_JMath_min ∈ T0_ := mem_T0 433 (by decide +kernel) (by decide +kernel)
theorem fl_X4_28 : ac_fl "VirtualRewrite$Question" 28 4 5 := ⟨_, _, _, rfl, uw_X4, by decide, mem_T0 162 (by decide +kernel) (by decide +kernel)⟩
theorem ml_X0_126 : Cond.methodLink "VirtualRewrite" 126 y_X4_reset ∈ T0_ := mem_T0 440 (by decide +kernel) (by decide +kernel)
theorem fl_X5_36 : ac_fl "VirtualRewrite$Rewriting" 36 5 1 := ⟨_, _, _, rfl, uw_X5, by decide, mem_T0 184 (by decide +kernel) (by decide +kernel)⟩
theorem ml_X5_89 : Cond.methodLink "VirtualRewrite$Rewriting" 89 y_X4_told ∈ T0_ := mem_T0 465 (by decide +kernel) (by decide +kernel)
theorem fl_X5_92 : ac_fl "VirtualRewrite$Rewriting" 92 3 0 := ⟨_, _, _, rfl, uw_X3, by decide, mem_T0 103 (by decide +kernel) (by decide +kernel)⟩
theorem ml_X5_93 : ("VirtualRewrite$Rewriting", 93, y_X0_isVariable, "VirtualRewrite") ∈ NM_ := by decide +kernel
theorem ml_X5_97 : ("VirtualRewrite$Rewriting", 97, y_X0_variableOf, "VirtualRewrite") ∈ NM_ := by decide +kernel
theorem ml_X5_101 : ("VirtualRewrite$Rewriting", 101, y_X0_has, "VirtualRewrite") ∈ NM_ := by decide +kernel
theorem fl_X5_18 : ac_fl "VirtualRewrite$Rewriting" 18 5 4 := ⟨_, _, _, rfl, uw_X5, by decide, mem_T0 187 (by decide +kernel) (by decide +kernel)⟩
theorem ml_X5_105 : ("VirtualRewrite$Rewriting", 105, y_X0_with, "VirtualRewrite") ∈ NM_ := by decide +kernel
theorem fl_X5_32 : ac_fl "VirtualRewrite$Rewriting" 32 5 0 := ⟨_, _, _, rfl, uw_X5, by decide, mem_T0 183 (by decide +kernel) (by decide +kernel)⟩
theorem fl_X5_40 : ac_fl "VirtualRewrite$Rewriting" 40 1 1 := ⟨_, _, _, rfl, uw_X1, by decide, mem_T0 128 (by decide +kernel) (by decide +kernel)⟩
theorem ml_X5_46 : Cond.methodLink "VirtualRewrite$Rewriting" 46 y_X5_chosen ∈ T0_ := mem_T0 513 (by decide +kernel) (by decide +kernel)
theorem ml_X4_40 : ("VirtualRewrite$Question", 40, y_X0_isVariable, "VirtualRewrite") ∈ NM_ := by decide +kernel
theorem ml_X4_44 : ("VirtualRewrite$Question", 44, y_X0_variableOf, "VirtualRewrite") ∈ NM_ := by decide +kernel
theorem ml_X4_48 : ("VirtualRewrite$Question", 48, y_X0_with, "VirtualRewrite") ∈ NM_ := by decide +kernel
theorem fl_X8_18 : ac_fl "VirtualRewrite$Finder" 18 8 6 := ⟨_, _, _, rfl, uw_X8, by decide, mem_T0 280 (by decide +kernel) (by decide +kernel)⟩
theorem ml_X8_137 : Cond.methodLink "VirtualRewrite$Finder" 137 y_X2_cell ∈ T0_ := mem_T0 580 (by decide +kernel) (by decide +kernel)
theorem fl_X8_15 : ac_fl "VirtualRewrite$Finder" 15 8 5 := ⟨_, _, _, rfl, uw_X8, by decide, mem_T0 279 (by decide +kernel) (by decide +kernel)⟩
theorem ml_X8_151 : Cond.methodLink "VirtualRewrite$Finder" 151 y_JInteger_bitCount ∈ T0_ := mem_T0 601 (by decide +kernel) (by decide +kernel)
theorem fl_X8_24 : ac_fl "VirtualRewrite$Finder" 24 8 8 := ⟨_, _, _, rfl, uw_X8, by decide, mem_T0 282 (by decide +kernel) (by decide +kernel)⟩
theorem ml_X7_53 : Cond.methodLink "VirtualRewrite$Answers" 53 y_X7_code ∈ T0_ := mem_T0 623 (by decide +kernel) (by decide +kernel)
theorem ml_X8_173 : ("VirtualRewrite$Finder", 173, y_X0_has, "VirtualRewrite") ∈ NM_ := by decide +kernel
theorem fl_X8_33 : ac_fl "VirtualRewrite$Finder" 33 8 11 := ⟨_, _, _, rfl, uw_X8, by decide, mem_T0 285 (by decide +kernel) (by decide +kernel)⟩
theorem fl_X8_30 : ac_fl "VirtualRewrite$Finder" 30 8 10 := ⟨_, _, _, rfl, uw_X8, by decide, mem_T0 284 (by decide +kernel) (by decide +kernel)⟩
theorem fl_X0_44 : ac_fl "VirtualRewrite" 44 0 4 := ⟨_, _, _, rfl, uw_X0, by decide, mem_T0 318 (by decide +kernel) (by decide +kernel)⟩
theorem fl_X0_171 : ac_fl "VirtualRewrite" 171 7 4 := ⟨_, _, _, rfl, uw_X7, by decide, mem_T0 247 (by decide +kernel) (by decide +kernel)⟩
theorem ml_X0_190 : Cond.methodLink "VirtualRewrite" 190 y_X7_firstFinder ∈ T0_ := mem_T0 649 (by decide +kernel) (by decide +kernel)
theorem ml_X0_187 : Cond.methodLink "VirtualRewrite" 187 y_X7_finders ∈ T0_ := mem_T0 645 (by decide +kernel) (by decide +kernel)
theorem fl_X0_172 : ac_fl "VirtualRewrite" 172 7 5 := ⟨_, _, _, rfl, uw_X7, by decide, mem_T0 249 (by decide +kernel) (by decide +kernel)⟩
theorem ml_X0_174 : Cond.methodLink "VirtualRewrite" 174 y_X0_has ∈ T0_ := mem_T0 661 (by decide +kernel) (by decide +kernel)
theorem ml_X0_184 : Cond.methodLink "VirtualRewrite" 184 y_X7_code ∈ T0_ := mem_T0 728 (by decide +kernel) (by decide +kernel)
theorem ml_X9_84 : Cond.methodLink "VirtualRewriteModel" 84 y_X9_in ∈ T0_ := mem_T0 831 (by decide +kernel) (by decide +kernel)
theorem ml_X9_88 : Cond.methodLink "VirtualRewriteModel" 88 y_X9_count ∈ T0_ := mem_T0 834 (by decide +kernel) (by decide +kernel)
theorem fl_X9_92 : ac_fl "VirtualRewriteModel" 92 9 4 := ⟨_, _, _, rfl, uw_X9, by decide, mem_T0 739 (by decide +kernel) (by decide +kernel)⟩
theorem fp_X9_92 : ac_fp "VirtualRewriteModel" 92 9 4 .int false := ⟨_, _, _, t_X9, rfl, uw_X9, by decide, mem_T0 739 (by decide +kernel) (by decide +kernel), ty_X9, nm_X9, rfl, by decide +kernel, fun h => by cases h⟩
theorem ml_X9_95 : Cond.methodLink "VirtualRewriteModel" 95 y_X9_code ∈ T0_ := mem_T0 854 (by decide +kernel) (by decide +kernel)
theorem kc_X9_98 : Jvm.Cond.constant "VirtualRewriteModel" 98 (59999) ∈ T0_ := mem_T0 865 (by decide +kernel) (by decide +kernel)
theorem fl_X9_53 : ac_fl "VirtualRewriteModel" 53 9 19 := ⟨_, _, _, rfl, uw_X9, by decide, mem_T0 754 (by decide +kernel) (by decide +kernel)⟩
theorem ml_X9_109 : Cond.methodLink "VirtualRewriteModel" 109 y_X9_isOneRow ∈ T0_ := mem_T0 890 (by decide +kernel) (by decide +kernel)
theorem fl_X9_130 : ac_fl "VirtualRewriteModel" 130 9 23 := ⟨_, _, _, rfl, uw_X9, by decide, mem_T0 758 (by decide +kernel) (by decide +kernel)⟩
theorem ml_X9_133 : Cond.methodLink "VirtualRewriteModel" 133 y_X9_compare ∈ T0_ := mem_T0 922 (by decide +kernel) (by decide +kernel)
theorem fl_X9_71 : ac_fl "VirtualRewriteModel" 71 9 26 := ⟨_, _, _, rfl, uw_X9, by decide, mem_T0 761 (by decide +kernel) (by decide +kernel)⟩
theorem fl_X9_74 : ac_fl "VirtualRewriteModel" 74 9 27 := ⟨_, _, _, rfl, uw_X9, by decide, mem_T0 762 (by decide +kernel) (by decide +kernel)⟩
theorem fl_X9_77 : ac_fl "VirtualRewriteModel" 77 9 28 := ⟨_, _, _, rfl, uw_X9, by decide, mem_T0 763 (by decide +kernel) (by decide +kernel)⟩
theorem fp_X9_130 : ac_fp "VirtualRewriteModel" 130 9 23 .int false := ⟨_, _, _, t_X9, rfl, uw_X9, by decide, mem_T0 758 (by decide +kernel) (by decide +kernel), ty_X9, nm_X9, rfl, by decide +kernel, fun h => by cases h⟩
theorem fl_X9_65 : ac_fl "VirtualRewriteModel" 65 9 24 := ⟨_, _, _, rfl, uw_X9, by decide, mem_T0 759 (by decide +kernel) (by decide +kernel)⟩
theorem oi_X0_3 : Cond.methodLink "VirtualRewrite" 3 objectInit ∈ T0_ := mem_T0 58 (by decide +kernel) (by decide +kernel)
theorem cn_X0_9 : ac_cn "VirtualRewrite" 9 1 5 [.null, .null, .null, .int 0, .int 0] := ⟨_, _, t_X1, rfl, uw_X1, ty_X1, mem_T0 61 (by decide +kernel) (by decide +kernel), mem_T0 62 (by decide +kernel) (by decide +kernel), mem_T0 37 (by decide +kernel) (by decide +kernel), by decide +kernel⟩
theorem ml_X0_11 : Cond.methodLink "VirtualRewrite" 11 y_X1_init ∈ T0_ := mem_T0 63 (by decide +kernel) (by decide +kernel)
theorem fp_X0_12 : ac_fp "VirtualRewrite" 12 0 0 (.object "VirtualRewrite$Catalog") true := ⟨_, _, _, t_X0, rfl, uw_X0, by decide, mem_T0 314 (by decide +kernel) (by decide +kernel), ty_X0, nm_X0, rfl, by decide +kernel, fun _ => rfl⟩
theorem cn_X0_16 : ac_cn "VirtualRewrite" 16 4 6 [.null, .null, .null, .null, .int 0, .int 0] := ⟨_, _, t_X4, rfl, uw_X4, ty_X4, mem_T0 146 (by decide +kernel) (by decide +kernel), mem_T0 147 (by decide +kernel) (by decide +kernel), mem_T0 40 (by decide +kernel) (by decide +kernel), by decide +kernel⟩
theorem ml_X0_18 : Cond.methodLink "VirtualRewrite" 18 y_X4_init ∈ T0_ := mem_T0 148 (by decide +kernel) (by decide +kernel)
theorem fp_X0_19 : ac_fp "VirtualRewrite" 19 0 1 (.object "VirtualRewrite$Question") true := ⟨_, _, _, t_X0, rfl, uw_X0, by decide, mem_T0 315 (by decide +kernel) (by decide +kernel), ty_X0, nm_X0, rfl, by decide +kernel, fun _ => rfl⟩
theorem cn_X0_23 : ac_cn "VirtualRewrite" 23 5 8 [.null, .null, .null, .null, .null, .int 0, .int 0, .int 0] := ⟨_, _, t_X5, rfl, uw_X5, ty_X5, mem_T0 177 (by decide +kernel) (by decide +kernel), mem_T0 178 (by decide +kernel) (by decide +kernel), mem_T0 41 (by decide +kernel) (by decide +kernel), by decide +kernel⟩
theorem ml_X0_25 : Cond.methodLink "VirtualRewrite" 25 y_X5_init ∈ T0_ := mem_T0 179 (by decide +kernel) (by decide +kernel)
theorem fp_X0_28 : ac_fp "VirtualRewrite" 28 0 2 (.object "VirtualRewrite$Rewriting") true := ⟨_, _, _, t_X0, rfl, uw_X0, by decide, mem_T0 316 (by decide +kernel) (by decide +kernel), ty_X0, nm_X0, rfl, by decide +kernel, fun _ => rfl⟩
theorem cn_X0_32 : ac_cn "VirtualRewrite" 32 6 5 [.null, .null, .null, .null, .int 0] := ⟨_, _, t_X6, rfl, uw_X6, ty_X6, mem_T0 210 (by decide +kernel) (by decide +kernel), mem_T0 211 (by decide +kernel) (by decide +kernel), mem_T0 42 (by decide +kernel) (by decide +kernel), by decide +kernel⟩
theorem ml_X0_34 : Cond.methodLink "VirtualRewrite" 34 y_X6_init ∈ T0_ := mem_T0 212 (by decide +kernel) (by decide +kernel)
theorem fp_X0_37 : ac_fp "VirtualRewrite" 37 0 3 (.object "VirtualRewrite$Slots") true := ⟨_, _, _, t_X0, rfl, uw_X0, by decide, mem_T0 317 (by decide +kernel) (by decide +kernel), ty_X0, nm_X0, rfl, by decide +kernel, fun _ => rfl⟩
theorem cn_X0_41 : ac_cn "VirtualRewrite" 41 7 7 [.null, .null, .null, .null, .int 0, .int 0, .int 0] := ⟨_, _, t_X7, rfl, uw_X7, ty_X7, mem_T0 236 (by decide +kernel) (by decide +kernel), mem_T0 237 (by decide +kernel) (by decide +kernel), mem_T0 43 (by decide +kernel) (by decide +kernel), by decide +kernel⟩
theorem ml_X0_43 : ("VirtualRewrite", 43, y_X7_init, "VirtualRewrite") ∈ NM_ := by decide +kernel
theorem fp_X0_44 : ac_fp "VirtualRewrite" 44 0 4 (.object "VirtualRewrite$Answers") true := ⟨_, _, _, t_X0, rfl, uw_X0, by decide, mem_T0 318 (by decide +kernel) (by decide +kernel), ty_X0, nm_X0, rfl, by decide +kernel, fun _ => rfl⟩
theorem cn_X0_48 : ac_cn "VirtualRewrite" 48 8 13 [.null, .null, .null, .null, .null, .null, .null, .null, .null, .null, .null, .null, .int 0] := ⟨_, _, t_X8, rfl, uw_X8, ty_X8, mem_T0 268 (by decide +kernel) (by decide +kernel), mem_T0 269 (by decide +kernel) (by decide +kernel), mem_T0 44 (by decide +kernel) (by decide +kernel), by decide +kernel⟩
theorem fl_X0_37 : ac_fl "VirtualRewrite" 37 0 3 := ⟨_, _, _, rfl, uw_X0, by decide, mem_T0 317 (by decide +kernel) (by decide +kernel)⟩
theorem ml_X0_50 : Cond.methodLink "VirtualRewrite" 50 y_X8_init ∈ T0_ := mem_T0 270 (by decide +kernel) (by decide +kernel)
theorem fp_X0_53 : ac_fp "VirtualRewrite" 53 0 5 (.object "VirtualRewrite$Finder") true := ⟨_, _, _, t_X0, rfl, uw_X0, by decide, mem_T0 319 (by decide +kernel) (by decide +kernel), ty_X0, nm_X0, rfl, by decide +kernel, fun _ => rfl⟩
theorem ml_X2_27 : Cond.methodLink "VirtualRewrite$Table" 27 y_X2_holds ∈ T0_ := mem_T0 348 (by decide +kernel) (by decide +kernel)
theorem fl_X2_15 : ac_fl "VirtualRewrite$Table" 15 2 1 := ⟨_, _, _, rfl, uw_X2, by decide, mem_T0 77 (by decide +kernel) (by decide +kernel)⟩
theorem fl_X1_27 : ac_fl "VirtualRewrite$Catalog" 27 1 3 := ⟨_, _, _, rfl, uw_X1, by decide, mem_T0 131 (by decide +kernel) (by decide +kernel)⟩
theorem fl_X1_43 : ac_fl "VirtualRewrite$Catalog" 43 2 2 := ⟨_, _, _, rfl, uw_X2, by decide, mem_T0 81 (by decide +kernel) (by decide +kernel)⟩
theorem ml_X1_44 : Cond.methodLink "VirtualRewrite$Catalog" 44 y_X1_packedTriple ∈ T0_ := mem_T0 399 (by decide +kernel) (by decide +kernel)
theorem ml_X1_48 : Cond.methodLink "VirtualRewrite$Catalog" 48 y_X1_keepTriple ∈ T0_ := mem_T0 405 (by decide +kernel) (by decide +kernel)
theorem fl_X0_120 : ac_fl "VirtualRewrite" 120 4 5 := ⟨_, _, _, rfl, uw_X4, by decide, mem_T0 163 (by decide +kernel) (by decide +kernel)⟩
theorem ml_X0_123 : Cond.methodLink "VirtualRewrite" 123 y_X4_narrow ∈ T0_ := mem_T0 426 (by decide +kernel) (by decide +kernel)
theorem fl_X5_62 : ac_fl "VirtualRewrite$Rewriting" 62 4 4 := ⟨_, _, _, rfl, uw_X4, by decide, mem_T0 160 (by decide +kernel) (by decide +kernel)⟩
theorem fl_X5_70 : ac_fl "VirtualRewrite$Rewriting" 70 1 3 := ⟨_, _, _, rfl, uw_X1, by decide, mem_T0 133 (by decide +kernel) (by decide +kernel)⟩
theorem fl_X5_25 : ac_fl "VirtualRewrite$Rewriting" 25 5 6 := ⟨_, _, _, rfl, uw_X5, by decide, mem_T0 190 (by decide +kernel) (by decide +kernel)⟩
theorem fl_X5_71 : ac_fl "VirtualRewrite$Rewriting" 71 3 3 := ⟨_, _, _, rfl, uw_X3, by decide, mem_T0 115 (by decide +kernel) (by decide +kernel)⟩
theorem fl_X5_76 : ac_fl "VirtualRewrite$Rewriting" 76 4 0 := ⟨_, _, _, rfl, uw_X4, by decide, mem_T0 153 (by decide +kernel) (by decide +kernel)⟩
theorem ml_X5_79 : Cond.methodLink "VirtualRewrite$Rewriting" 79 y_X5_settle ∈ T0_ := mem_T0 461 (by decide +kernel) (by decide +kernel)
theorem ml_X5_58 : Cond.methodLink "VirtualRewrite$Rewriting" 58 y_X5_extend ∈ T0_ := mem_T0 452 (by decide +kernel) (by decide +kernel)
theorem ml_X5_67 : Cond.methodLink "VirtualRewrite$Rewriting" 67 y_X5_keep ∈ T0_ := mem_T0 456 (by decide +kernel) (by decide +kernel)
theorem fl_X6_27 : ac_fl "VirtualRewrite$Slots" 27 6 2 := ⟨_, _, _, rfl, uw_X6, by decide, mem_T0 218 (by decide +kernel) (by decide +kernel)⟩
theorem ml_X6_44 : Cond.methodLink "VirtualRewrite$Slots" 44 y_X5_mappingOf ∈ T0_ := mem_T0 509 (by decide +kernel) (by decide +kernel)
theorem fl_X6_50 : ac_fl "VirtualRewrite$Slots" 50 3 2 := ⟨_, _, _, rfl, uw_X3, by decide, mem_T0 110 (by decide +kernel) (by decide +kernel)⟩
theorem fl_X6_19 : ac_fl "VirtualRewrite$Slots" 19 6 0 := ⟨_, _, _, rfl, uw_X6, by decide, mem_T0 216 (by decide +kernel) (by decide +kernel)⟩
theorem ml_X6_55 : Cond.methodLink "VirtualRewrite$Slots" 55 y_X1_tableOf ∈ T0_ := mem_T0 514 (by decide +kernel) (by decide +kernel)
theorem fl_X6_61 : ac_fl "VirtualRewrite$Slots" 61 2 1 := ⟨_, _, _, rfl, uw_X2, by decide, mem_T0 79 (by decide +kernel) (by decide +kernel)⟩
theorem fl_X6_67 : ac_fl "VirtualRewrite$Slots" 67 3 1 := ⟨_, _, _, rfl, uw_X3, by decide, mem_T0 107 (by decide +kernel) (by decide +kernel)⟩
theorem fl_X6_23 : ac_fl "VirtualRewrite$Slots" 23 6 1 := ⟨_, _, _, rfl, uw_X6, by decide, mem_T0 217 (by decide +kernel) (by decide +kernel)⟩
theorem ml_X6_70 : Cond.methodLink "VirtualRewrite$Slots" 70 y_X4_told ∈ T0_ := mem_T0 515 (by decide +kernel) (by decide +kernel)
theorem ml_X5_50 : Cond.methodLink "VirtualRewrite$Rewriting" 50 y_X5_mappingOf ∈ T0_ := mem_T0 528 (by decide +kernel) (by decide +kernel)
theorem ml_X5_54 : Cond.methodLink "VirtualRewrite$Rewriting" 54 y_X1_tableOf ∈ T0_ := mem_T0 529 (by decide +kernel) (by decide +kernel)
theorem fl_X8_40 : ac_fl "VirtualRewrite$Finder" 40 8 0 := ⟨_, _, _, rfl, uw_X8, by decide, mem_T0 274 (by decide +kernel) (by decide +kernel)⟩
theorem ml_X8_86 : Cond.methodLink "VirtualRewrite$Finder" 86 y_X4_told ∈ T0_ := mem_T0 554 (by decide +kernel) (by decide +kernel)
theorem ml_X8_97 : ("VirtualRewrite$Finder", 97, y_X0_variableOf, "VirtualRewrite") ∈ NM_ := by decide +kernel
theorem fl_X8_48 : ac_fl "VirtualRewrite$Finder" 48 8 2 := ⟨_, _, _, rfl, uw_X8, by decide, mem_T0 276 (by decide +kernel) (by decide +kernel)⟩
theorem fl_X8_83 : ac_fl "VirtualRewrite$Finder" 83 6 3 := ⟨_, _, _, rfl, uw_X6, by decide, mem_T0 220 (by decide +kernel) (by decide +kernel)⟩
theorem fl_X8_44 : ac_fl "VirtualRewrite$Finder" 44 8 1 := ⟨_, _, _, rfl, uw_X8, by decide, mem_T0 275 (by decide +kernel) (by decide +kernel)⟩
theorem fl_X8_36 : ac_fl "VirtualRewrite$Finder" 36 8 12 := ⟨_, _, _, rfl, uw_X8, by decide, mem_T0 286 (by decide +kernel) (by decide +kernel)⟩
theorem ml_X8_101 : Cond.methodLink "VirtualRewrite$Finder" 101 y_X5_mappingOf ∈ T0_ := mem_T0 561 (by decide +kernel) (by decide +kernel)
theorem fl_X8_107 : ac_fl "VirtualRewrite$Finder" 107 3 0 := ⟨_, _, _, rfl, uw_X3, by decide, mem_T0 102 (by decide +kernel) (by decide +kernel)⟩
theorem fl_X8_110 : ac_fl "VirtualRewrite$Finder" 110 3 1 := ⟨_, _, _, rfl, uw_X3, by decide, mem_T0 106 (by decide +kernel) (by decide +kernel)⟩
theorem ml_X8_111 : ("VirtualRewrite$Finder", 111, y_X0_with, "VirtualRewrite") ∈ NM_ := by decide +kernel
theorem ml_X8_89 : ("VirtualRewrite$Finder", 89, y_X0_isVariable, "VirtualRewrite") ∈ NM_ := by decide +kernel
theorem ml_X8_140 : Cond.methodLink "VirtualRewrite$Finder" 140 y_X4_allows ∈ T0_ := mem_T0 581 (by decide +kernel) (by decide +kernel)
theorem fl_X8_21 : ac_fl "VirtualRewrite$Finder" 21 8 7 := ⟨_, _, _, rfl, uw_X8, by decide, mem_T0 281 (by decide +kernel) (by decide +kernel)⟩
theorem ml_X8_144 : Cond.methodLink "VirtualRewrite$Finder" 144 y_X8_areAlike ∈ T0_ := mem_T0 589 (by decide +kernel) (by decide +kernel)
theorem fl_X8_65 : ac_fl "VirtualRewrite$Finder" 65 6 4 := ⟨_, _, _, rfl, uw_X6, by decide, mem_T0 223 (by decide +kernel) (by decide +kernel)⟩
theorem fl_X8_27 : ac_fl "VirtualRewrite$Finder" 27 8 9 := ⟨_, _, _, rfl, uw_X8, by decide, mem_T0 283 (by decide +kernel) (by decide +kernel)⟩
theorem ml_X8_147 : Cond.methodLink "VirtualRewrite$Finder" 147 y_X8_isBetter ∈ T0_ := mem_T0 597 (by decide +kernel) (by decide +kernel)
theorem ml_X7_39 : Cond.methodLink "VirtualRewrite$Answers" 39 y_X7_compare ∈ T0_ := mem_T0 619 (by decide +kernel) (by decide +kernel)
theorem ml_X9_99 : Cond.methodLink "VirtualRewriteModel" 99 y_X9_isPlace ∈ T0_ := mem_T0 862 (by decide +kernel) (by decide +kernel)
theorem fp_X9_112 : ac_fp "VirtualRewriteModel" 112 9 16 .int false := ⟨_, _, _, t_X9, rfl, uw_X9, by decide, mem_T0 751 (by decide +kernel) (by decide +kernel), ty_X9, nm_X9, rfl, by decide +kernel, fun h => by cases h⟩
theorem fl_X9_112 : ac_fl "VirtualRewriteModel" 112 9 16 := ⟨_, _, _, rfl, uw_X9, by decide, mem_T0 751 (by decide +kernel) (by decide +kernel)⟩
theorem ml_X9_115 : Cond.methodLink "VirtualRewriteModel" 115 y_X9_canMeet ∈ T0_ := mem_T0 882 (by decide +kernel) (by decide +kernel)
theorem ml_X9_118 : Cond.methodLink "VirtualRewriteModel" 118 y_X9_giveSlots ∈ T0_ := mem_T0 886 (by decide +kernel) (by decide +kernel)
theorem ml_X9_126 : Cond.methodLink "VirtualRewriteModel" 126 y_X9_tableOf ∈ T0_ := mem_T0 902 (by decide +kernel) (by decide +kernel)
theorem ml_X9_137 : Cond.methodLink "VirtualRewriteModel" 137 y_X9_agree ∈ T0_ := mem_T0 914 (by decide +kernel) (by decide +kernel)
theorem ml_X9_141 : Cond.methodLink "VirtualRewriteModel" 141 y_X9_keep ∈ T0_ := mem_T0 918 (by decide +kernel) (by decide +kernel)
theorem fl_X0_65 : ac_fl "VirtualRewrite" 65 2 1 := ⟨_, _, _, rfl, uw_X2, by decide, mem_T0 78 (by decide +kernel) (by decide +kernel)⟩
theorem ml_X0_71 : Cond.methodLink "VirtualRewrite" 71 y_X2_repeats ∈ T0_ := mem_T0 340 (by decide +kernel) (by decide +kernel)
theorem ml_X0_75 : Cond.methodLink "VirtualRewrite" 75 y_X2_refuses ∈ T0_ := mem_T0 356 (by decide +kernel) (by decide +kernel)
theorem ml_X0_82 : Cond.methodLink "VirtualRewrite" 82 y_X2_append ∈ T0_ := mem_T0 360 (by decide +kernel) (by decide +kernel)
theorem ml_X0_109 : Cond.methodLink "VirtualRewrite" 109 y_X1_countTriples ∈ T0_ := mem_T0 391 (by decide +kernel) (by decide +kernel)
theorem ml_X6_40 : Cond.methodLink "VirtualRewrite$Slots" 40 y_X6_areOfOneRow ∈ T0_ := mem_T0 505 (by decide +kernel) (by decide +kernel)
theorem fl_X6_31 : ac_fl "VirtualRewrite$Slots" 31 4 4 := ⟨_, _, _, rfl, uw_X4, by decide, mem_T0 158 (by decide +kernel) (by decide +kernel)⟩
theorem fl_X6_9 : ac_fl "VirtualRewrite$Slots" 9 6 3 := ⟨_, _, _, rfl, uw_X6, by decide, mem_T0 219 (by decide +kernel) (by decide +kernel)⟩
theorem ml_X6_73 : Cond.methodLink "VirtualRewrite$Slots" 73 y_X5_tableOf ∈ T0_ := mem_T0 524 (by decide +kernel) (by decide +kernel)
theorem fl_X6_76 : ac_fl "VirtualRewrite$Slots" 76 2 2 := ⟨_, _, _, rfl, uw_X2, by decide, mem_T0 83 (by decide +kernel) (by decide +kernel)⟩
theorem fl_X8_78 : ac_fl "VirtualRewrite$Finder" 78 4 4 := ⟨_, _, _, rfl, uw_X4, by decide, mem_T0 159 (by decide +kernel) (by decide +kernel)⟩
theorem fl_X8_9 : ac_fl "VirtualRewrite$Finder" 9 8 4 := ⟨_, _, _, rfl, uw_X8, by decide, mem_T0 278 (by decide +kernel) (by decide +kernel)⟩
theorem ml_X8_93 : Cond.methodLink "VirtualRewrite$Finder" 93 y_X8_layOutVariable ∈ T0_ := mem_T0 556 (by decide +kernel) (by decide +kernel)
theorem ml_X8_114 : Cond.methodLink "VirtualRewrite$Finder" 114 y_X5_tableOf ∈ T0_ := mem_T0 571 (by decide +kernel) (by decide +kernel)
theorem ml_X8_134 : Cond.methodLink "VirtualRewrite$Finder" 134 y_X8_suitsAtom ∈ T0_ := mem_T0 576 (by decide +kernel) (by decide +kernel)
theorem ml_X7_35 : Cond.methodLink "VirtualRewrite$Answers" 35 y_X7_firstNotBefore ∈ T0_ := mem_T0 615 (by decide +kernel) (by decide +kernel)
theorem ml_X7_43 : Cond.methodLink "VirtualRewrite$Answers" 43 y_X7_insert ∈ T0_ := mem_T0 627 (by decide +kernel) (by decide +kernel)
theorem ml_X9_122 : Cond.methodLink "VirtualRewriteModel" 122 y_X9_makeUnions ∈ T0_ := mem_T0 878 (by decide +kernel) (by decide +kernel)
theorem ml_X9_144 : Cond.methodLink "VirtualRewriteModel" 144 y_X9_find ∈ T0_ := mem_T0 910 (by decide +kernel) (by decide +kernel)
theorem ml_X6_36 : Cond.methodLink "VirtualRewrite$Slots" 36 y_X6_leastOfOneRow ∈ T0_ := mem_T0 501 (by decide +kernel) (by decide +kernel)
theorem fl_X6_15 : ac_fl "VirtualRewrite$Slots" 15 6 4 := ⟨_, _, _, rfl, uw_X6, by decide, mem_T0 222 (by decide +kernel) (by decide +kernel)⟩
theorem ml_X8_118 : Cond.methodLink "VirtualRewrite$Finder" 118 y_X8_tableOf ∈ T0_ := mem_T0 567 (by decide +kernel) (by decide +kernel)
theorem fl_X8_121 : ac_fl "VirtualRewrite$Finder" 121 2 2 := ⟨_, _, _, rfl, uw_X2, by decide, mem_T0 84 (by decide +kernel) (by decide +kernel)⟩
theorem ml_X8_126 : Cond.methodLink "VirtualRewrite$Finder" 126 y_X8_suits ∈ T0_ := mem_T0 572 (by decide +kernel) (by decide +kernel)
theorem ml_X8_130 : Cond.methodLink "VirtualRewrite$Finder" 130 y_X8_isTold ∈ T0_ := mem_T0 585 (by decide +kernel) (by decide +kernel)
theorem fl_X8_52 : ac_fl "VirtualRewrite$Finder" 52 8 3 := ⟨_, _, _, rfl, uw_X8, by decide, mem_T0 277 (by decide +kernel) (by decide +kernel)⟩
theorem fl_X8_162 : ac_fl "VirtualRewrite$Finder" 162 7 6 := ⟨_, _, _, rfl, uw_X7, by decide, mem_T0 252 (by decide +kernel) (by decide +kernel)⟩
theorem ml_X8_166 : Cond.methodLink "VirtualRewrite$Finder" 166 y_X8_agrees ∈ T0_ := mem_T0 632 (by decide +kernel) (by decide +kernel)
theorem ml_X8_169 : Cond.methodLink "VirtualRewrite$Finder" 169 y_X8_settleVariables ∈ T0_ := mem_T0 637 (by decide +kernel) (by decide +kernel)
theorem ml_X8_74 : Cond.methodLink "VirtualRewrite$Finder" 74 y_X8_search ∈ T0_ := mem_T0 607 (by decide +kernel) (by decide +kernel)
theorem ml_X8_156 : Cond.methodLink "VirtualRewrite$Finder" 156 y_X7_take ∈ T0_ := mem_T0 611 (by decide +kernel) (by decide +kernel)
theorem fl_X5_29 : ac_fl "VirtualRewrite$Rewriting" 29 5 7 := ⟨_, _, _, rfl, uw_X5, by decide, mem_T0 192 (by decide +kernel) (by decide +kernel)⟩
theorem ml_X0_129 : Cond.methodLink "VirtualRewrite" 129 y_X5_refresh ∈ T0_ := mem_T0 448 (by decide +kernel) (by decide +kernel)
theorem fl_X0_132 : ac_fl "VirtualRewrite" 132 5 6 := ⟨_, _, _, rfl, uw_X5, by decide, mem_T0 191 (by decide +kernel) (by decide +kernel)⟩
theorem fl_X0_136 : ac_fl "VirtualRewrite" 136 5 5 := ⟨_, _, _, rfl, uw_X5, by decide, mem_T0 189 (by decide +kernel) (by decide +kernel)⟩
theorem ml_X0_137 : Cond.methodLink "VirtualRewrite" 137 y_X0_isAsked ∈ T0_ := mem_T0 485 (by decide +kernel) (by decide +kernel)
theorem ml_X0_140 : Cond.methodLink "VirtualRewrite" 140 y_X0_troubleWith ∈ T0_ := mem_T0 489 (by decide +kernel) (by decide +kernel)
theorem ml_X0_148 : Cond.methodLink "VirtualRewrite" 148 y_X6_assign ∈ T0_ := mem_T0 497 (by decide +kernel) (by decide +kernel)
theorem fl_X0_155 : ac_fl "VirtualRewrite" 155 6 4 := ⟨_, _, _, rfl, uw_X6, by decide, mem_T0 224 (by decide +kernel) (by decide +kernel)⟩
theorem fl_X0_151 : ac_fl "VirtualRewrite" 151 6 3 := ⟨_, _, _, rfl, uw_X6, by decide, mem_T0 221 (by decide +kernel) (by decide +kernel)⟩
theorem ml_X0_144 : Cond.methodLink "VirtualRewrite" 144 y_X5_chosen ∈ T0_ := mem_T0 493 (by decide +kernel) (by decide +kernel)
theorem ml_X0_158 : Cond.methodLink "VirtualRewrite" 158 y_X6_productOfRows ∈ T0_ := mem_T0 520 (by decide +kernel) (by decide +kernel)
theorem ml_X8_56 : Cond.methodLink "VirtualRewrite$Finder" 56 y_X6_assign ∈ T0_ := mem_T0 549 (by decide +kernel) (by decide +kernel)
theorem ml_X8_62 : Cond.methodLink "VirtualRewrite$Finder" 62 y_X8_layOut ∈ T0_ := mem_T0 550 (by decide +kernel) (by decide +kernel)
theorem ml_X8_68 : Cond.methodLink "VirtualRewrite$Finder" 68 y_X8_gatherRows ∈ T0_ := mem_T0 563 (by decide +kernel) (by decide +kernel)
theorem ml_X8_71 : Cond.methodLink "VirtualRewrite$Finder" 71 y_X8_orderSlots ∈ T0_ := mem_T0 593 (by decide +kernel) (by decide +kernel)
theorem ml_X0_161 : Cond.methodLink "VirtualRewrite" 161 y_X4_variables ∈ T0_ := mem_T0 534 (by decide +kernel) (by decide +kernel)
theorem ml_X0_164 : Cond.methodLink "VirtualRewrite" 164 y_X7_begin ∈ T0_ := mem_T0 541 (by decide +kernel) (by decide +kernel)
theorem fl_X0_167 : ac_fl "VirtualRewrite" 167 7 6 := ⟨_, _, _, rfl, uw_X7, by decide, mem_T0 251 (by decide +kernel) (by decide +kernel)⟩
theorem fl_X0_53 : ac_fl "VirtualRewrite" 53 0 5 := ⟨_, _, _, rfl, uw_X0, by decide, mem_T0 319 (by decide +kernel) (by decide +kernel)⟩
theorem ml_X0_168 : Cond.methodLink "VirtualRewrite" 168 y_X8_find ∈ T0_ := mem_T0 545 (by decide +kernel) (by decide +kernel)
theorem fp_X0_171 : ac_fp "VirtualRewrite" 171 7 4 .int false := ⟨_, _, _, t_X7, rfl, uw_X7, by decide, mem_T0 247 (by decide +kernel) (by decide +kernel), ty_X7, nm_X7, rfl, by decide +kernel, fun h => by cases h⟩
