theorem zT_l {ws : List Cond} (ps : List Nat) (hp : ws = ps.filterMap (fun i => tables_1[i]?)) (h : ws.all goodWord = true) : ∀ w ∈ ws, w ∈ zT := by
  intro w hw
  have h1 := List.all_eq_true.mp h w hw
  rw [hp] at hw
  obtain ⟨i, -, hi⟩ := List.mem_filterMap.mp hw
  exact zT_t hi h1
theorem in_X0 : ∀ w ∈ u_ws RX0 TX0 2, w ∈ zT := zT_l [397, 398] (by decide +kernel) (by decide +kernel)
theorem in_X1 : ∀ w ∈ u_ws RX1 TX1 6, w ∈ zT := zT_l [48, 50, 52, 54, 56, 58] (by decide +kernel) (by decide +kernel)
theorem in_X2 : ∀ w ∈ u_ws RX2 TX2 2, w ∈ zT := zT_l [370, 371] (by decide +kernel) (by decide +kernel)
theorem in_X3 : ∀ w ∈ u_ws RX3 TX3 2, w ∈ zT := zT_l [359, 361] (by decide +kernel) (by decide +kernel)
theorem in_X4 : ∀ w ∈ u_ws RX4 TX4 8, w ∈ zT := zT_l [147, 149, 151, 153, 155, 157, 159, 161] (by decide +kernel) (by decide +kernel)
theorem in_X5 : ∀ w ∈ u_ws RX5 TX5 2, w ∈ zT := zT_l [388, 389] (by decide +kernel) (by decide +kernel)
theorem in_X6 : ∀ w ∈ u_ws RX6 TX6 2, w ∈ zT := zT_l [412, 413] (by decide +kernel) (by decide +kernel)
theorem in_X7 : ∀ w ∈ u_ws RX7 TX7 2, w ∈ zT := zT_l [75, 77] (by decide +kernel) (by decide +kernel)
theorem in_X8 : ∀ w ∈ u_ws RX8 TX8 2, w ∈ zT := zT_l [379, 380] (by decide +kernel) (by decide +kernel)
theorem in_X9 : ∀ w ∈ u_ws RX9 TX9 11, w ∈ zT := zT_l [106, 108, 110, 112, 114, 116, 118, 120, 122, 124, 126] (by decide +kernel) (by decide +kernel)
theorem in_X10 : ∀ w ∈ u_ws RX10 TX10 2, w ∈ zT := zT_l [406, 407] (by decide +kernel) (by decide +kernel)
theorem in_X11 : ∀ w ∈ u_ws RX11 TX11 8, w ∈ zT := zT_l [172, 174, 176, 178, 180, 182, 184, 186] (by decide +kernel) (by decide +kernel)
theorem in_X12 : ∀ w ∈ u_ws RX12 TX12 24, w ∈ zT := zT_l [873, 875, 877, 879, 881, 883, 885, 887, 889, 891, 893, 895, 897, 899, 901, 903, 905, 907, 909, 911, 913, 915, 917, 919] (by decide +kernel) (by decide +kernel)
theorem zw_368 : Cond.code yX2_init cX2_init 3 none ∈ zT := zT_t (i := 368) (by decide +kernel) (by decide +kernel)
theorem zw_14 : Cond.initialized "LowWater$Diver" ∈ zT := zT_t (i := 14) (by decide +kernel) (by decide +kernel)
theorem co_X2_init : zCo yX2_init cX2_init 3 none 2 := ⟨zw_368, zw_14, by decide +kernel, by decide +kernel, by decide +kernel⟩
theorem zw_396 : Cond.methodLink "LowWater$Blind" 1 yX2_init ∈ zT := zT_t (i := 396) (by decide +kernel) (by decide +kernel)
theorem zw_367 : Cond.instanceMethod yX2_init ∈ zT := zT_t (i := 367) (by decide +kernel) (by decide +kernel)
theorem k_X0_1 : Cond.methodLink "LowWater$Blind" 1 yX2_init ∈ zT ∧ Cond.instanceMethod yX2_init ∈ zT := ⟨zw_396, zw_367⟩
theorem zw_799 : Cond.code yX2_isA cX2_isA 2 (some .boolean) ∈ zT := zT_t (i := 799) (by decide +kernel) (by decide +kernel)
theorem co_X2_isA : zCo yX2_isA cX2_isA 2 (some .boolean) 1 := ⟨zw_799, zw_14, by decide +kernel, by decide +kernel, by decide +kernel⟩
theorem zw_797 : Cond.methodLink "LowWater$Blind" 7 yX2_isA ∈ zT := zT_t (i := 797) (by decide +kernel) (by decide +kernel)
theorem zw_1226 : Cond.sameMethod "LowWater$Diver" "LowWater$Diver" "isA" "(I)Z" ∈ zT := zT_t (i := 1226) (by decide +kernel) (by decide +kernel)
theorem zw_399 : Cond.superclass "LowWater$Blind" "LowWater$Diver" ∈ zT := zT_t (i := 399) (by decide +kernel) (by decide +kernel)
theorem zw_798 : Cond.instanceMethod yX2_isA ∈ zT := zT_t (i := 798) (by decide +kernel) (by decide +kernel)
theorem k_X0_7 : Cond.methodLink "LowWater$Blind" 7 yX2_isA ∈ zT ∧ Cond.sameMethod yX2_isA.cls yX2_isA.cls yX2_isA.name yX2_isA.desc ∈ zT ∧ Cond.superclass "LowWater$Blind" yX2_isA.cls ∈ zT ∧ Cond.instanceMethod yX2_isA ∈ zT ∧ yX2_isA.name ≠ "<init>" := ⟨zw_797, zw_1226, zw_399, zw_798, by decide +kernel⟩
theorem zw_200 : Cond.code yX7_add cX7_add 2 none ∈ zT := zT_t (i := 200) (by decide +kernel) (by decide +kernel)
theorem zw_4 : Cond.initialized "LowWater$Row" ∈ zT := zT_t (i := 4) (by decide +kernel) (by decide +kernel)
theorem co_X7_add : zCo yX7_add cX7_add 2 none 1 := ⟨zw_200, zw_4, by decide +kernel, by decide +kernel, by decide +kernel⟩
theorem zw_719 : Cond.methodLink "LowWater$Blind" 11 yX7_add ∈ zT := zT_t (i := 719) (by decide +kernel) (by decide +kernel)
theorem zw_198 : Cond.instanceMethod yX7_add ∈ zT := zT_t (i := 198) (by decide +kernel) (by decide +kernel)
theorem zw_199 : Cond.selects "LowWater$Row" yX7_add yX7_add ∈ zT := zT_t (i := 199) (by decide +kernel) (by decide +kernel)
theorem k_X0_11 : Cond.methodLink "LowWater$Blind" 11 yX7_add ∈ zT ∧ Cond.instanceMethod yX7_add ∈ zT ∧ Cond.selects yX7_add.cls yX7_add yX7_add ∈ zT := ⟨zw_719, zw_198, zw_199⟩
theorem zw_732 : Cond.code yX6_bodyOfReads cX6_bodyOfReads 3 (some .int) ∈ zT := zT_t (i := 732) (by decide +kernel) (by decide +kernel)
theorem zw_12 : Cond.initialized "LowWater$Reader" ∈ zT := zT_t (i := 12) (by decide +kernel) (by decide +kernel)
theorem co_X6_bodyOfReads : zCo yX6_bodyOfReads cX6_bodyOfReads 3 (some .int) 2 := ⟨zw_732, zw_12, by decide +kernel, by decide +kernel, by decide +kernel⟩
theorem zw_347 : Cond.fieldLink "LowWater$Blind" 21 "LowWater$Blind" "number" "I" ∈ zT := zT_t (i := 347) (by decide +kernel) (by decide +kernel)
theorem zw_348 : Cond.sameField "LowWater$Blind" "LowWater$Reader" "number" "I" ∈ zT := zT_t (i := 348) (by decide +kernel) (by decide +kernel)
theorem f_X0_21 : zFL "LowWater$Blind" 21 0 0 true false .int := ⟨RX0, "LowWater$Blind", TX0, 2, tyX0, rfl, by decide, in_X0, tyX0_ok, nmX0, rfl, rfl, (fun h => Bool.noConfusion h), Or.inl zw_347, Or.inr zw_348⟩
theorem zw_41 : Cond.methodLink "LowWater$Cave" 3 objectInit ∈ zT := zT_t (i := 41) (by decide +kernel) (by decide +kernel)
theorem zw_28 : Cond.instanceMethod objectInit ∈ zT := zT_t (i := 28) (by decide +kernel) (by decide +kernel)
theorem zw_29 : Cond.code objectInit ⟨#[0xb1]⟩ 1 none ∈ zT := zT_t (i := 29) (by decide +kernel) (by decide +kernel)
theorem k_X1_3 : Cond.methodLink "LowWater$Cave" 3 objectInit ∈ zT ∧ Cond.instanceMethod objectInit ∈ zT ∧ Cond.code objectInit ⟨#[0xb1]⟩ 1 none ∈ zT := ⟨zw_41, zw_28, zw_29⟩
theorem zw_42 : Cond.fieldLink "LowWater$Cave" 11 "LowWater$Cave" "steps" "[I" ∈ zT := zT_t (i := 42) (by decide +kernel) (by decide +kernel)
theorem f_X1_11 : zFL "LowWater$Cave" 11 1 0 true true (.array .int) := ⟨RX1, "LowWater$Cave", TX1, 6, tyX1, rfl, by decide, in_X1, tyX1_ok, nmX1, rfl, rfl, (fun _ => rfl), Or.inl zw_42, Or.inl rfl⟩
theorem zw_43 : Cond.fieldLink "LowWater$Cave" 15 "LowWater$Cave" "numbers" "[I" ∈ zT := zT_t (i := 43) (by decide +kernel) (by decide +kernel)
theorem f_X1_15 : zFL "LowWater$Cave" 15 1 1 true true (.array .int) := ⟨RX1, "LowWater$Cave", TX1, 6, tyX1, rfl, by decide, in_X1, tyX1_ok, nmX1, rfl, rfl, (fun _ => rfl), Or.inl zw_43, Or.inl rfl⟩
theorem zw_44 : Cond.fieldLink "LowWater$Cave" 18 "LowWater$Cave" "size" "I" ∈ zT := zT_t (i := 44) (by decide +kernel) (by decide +kernel)
theorem f_X1_18 : zFL "LowWater$Cave" 18 1 2 false true .int := ⟨RX1, "LowWater$Cave", TX1, 6, tyX1, rfl, by decide, in_X1, tyX1_ok, nmX1, rfl, rfl, (fun _ => rfl), Or.inl zw_44, Or.inl rfl⟩
theorem zw_45 : Cond.fieldLink "LowWater$Cave" 22 "LowWater$Cave" "tides" "[I" ∈ zT := zT_t (i := 45) (by decide +kernel) (by decide +kernel)
theorem f_X1_22 : zFL "LowWater$Cave" 22 1 3 true true (.array .int) := ⟨RX1, "LowWater$Cave", TX1, 6, tyX1, rfl, by decide, in_X1, tyX1_ok, nmX1, rfl, rfl, (fun _ => rfl), Or.inl zw_45, Or.inl rfl⟩
theorem zw_46 : Cond.fieldLink "LowWater$Cave" 25 "LowWater$Cave" "text" "LLowWater$Row;" ∈ zT := zT_t (i := 46) (by decide +kernel) (by decide +kernel)
theorem f_X1_25 : zFL "LowWater$Cave" 25 1 4 false true (.object "LowWater$Row") := ⟨RX1, "LowWater$Cave", TX1, 6, tyX1, rfl, by decide, in_X1, tyX1_ok, nmX1, rfl, rfl, (fun _ => rfl), Or.inl zw_46, Or.inl rfl⟩
theorem zw_47 : Cond.fieldLink "LowWater$Cave" 29 "LowWater$Cave" "place" "I" ∈ zT := zT_t (i := 47) (by decide +kernel) (by decide +kernel)
theorem f_X1_29 : zFL "LowWater$Cave" 29 1 5 false true .int := ⟨RX1, "LowWater$Cave", TX1, 6, tyX1, rfl, by decide, in_X1, tyX1_ok, nmX1, rfl, rfl, (fun _ => rfl), Or.inl zw_47, Or.inl rfl⟩
theorem zw_492 : Cond.code yJ9_floorMod_7cf53 cJ9_floorMod_7cf53 3 (some .int) ∈ zT := zT_t (i := 492) (by decide +kernel) (by decide +kernel)
theorem zw_19 : Cond.initialized "java/lang/Math" ∈ zT := zT_t (i := 19) (by decide +kernel) (by decide +kernel)
theorem co_J9_floorMod_7cf53 : zCo yJ9_floorMod_7cf53 cJ9_floorMod_7cf53 3 (some .int) 2 := ⟨zw_492, zw_19, by decide +kernel, by decide +kernel, by decide +kernel⟩
theorem zw_490 : Cond.methodLink "LowWater$Cave" 32 yJ9_floorMod_7cf53 ∈ zT := zT_t (i := 490) (by decide +kernel) (by decide +kernel)
theorem zw_491 : Cond.static yJ9_floorMod_7cf53 ∈ zT := zT_t (i := 491) (by decide +kernel) (by decide +kernel)
theorem k_X1_32 : Cond.methodLink "LowWater$Cave" 32 yJ9_floorMod_7cf53 ∈ zT ∧ Cond.static yJ9_floorMod_7cf53 ∈ zT := ⟨zw_490, zw_491⟩
theorem zw_496 : Cond.code yX1_makeTide cX1_makeTide 13 none ∈ zT := zT_t (i := 496) (by decide +kernel) (by decide +kernel)
theorem zw_3 : Cond.initialized "LowWater$Cave" ∈ zT := zT_t (i := 3) (by decide +kernel) (by decide +kernel)
theorem co_X1_makeTide : zCo yX1_makeTide cX1_makeTide 13 none 1 := ⟨zw_496, zw_3, by decide +kernel, by decide +kernel, by decide +kernel⟩
theorem zw_493 : Cond.methodLink "LowWater$Cave" 38 yX1_makeTide ∈ zT := zT_t (i := 493) (by decide +kernel) (by decide +kernel)
theorem zw_495 : Cond.instanceMethod yX1_makeTide ∈ zT := zT_t (i := 495) (by decide +kernel) (by decide +kernel)
theorem zw_s10 : Cond.selects "LowWater$Cave" yX1_makeTide yX1_makeTide ∈ zT := zT_s (i := 10) (by decide +kernel) (by decide +kernel)
theorem k_X1_38 : Cond.methodLink "LowWater$Cave" 38 yX1_makeTide ∈ zT ∧ Cond.instanceMethod yX1_makeTide ∈ zT ∧ Cond.selects yX1_makeTide.cls yX1_makeTide yX1_makeTide ∈ zT := ⟨zw_493, zw_495, zw_s10⟩
theorem zw_831 : Cond.methodLink "LowWater$Cave" 42 arraycopyName ∈ zT := zT_t (i := 831) (by decide +kernel) (by decide +kernel)
theorem zw_582 : Cond.native arraycopyName ∈ zT := zT_t (i := 582) (by decide +kernel) (by decide +kernel)
theorem zw_581 : Cond.static arraycopyName ∈ zT := zT_t (i := 581) (by decide +kernel) (by decide +kernel)
theorem zw_21 : Cond.initialized "java/lang/System" ∈ zT := zT_t (i := 21) (by decide +kernel) (by decide +kernel)
theorem k_X1_42 : Cond.methodLink "LowWater$Cave" 42 arraycopyName ∈ zT ∧ Cond.native arraycopyName ∈ zT ∧ Cond.static arraycopyName ∈ zT ∧ Cond.initialized "java/lang/System" ∈ zT := ⟨zw_831, zw_582, zw_581, zw_21⟩
theorem zw_497 : Cond.methodLink "LowWater$Cave" 48 Lib.Math.abs.name ∈ zT := zT_t (i := 497) (by decide +kernel) (by decide +kernel)
theorem zw_498 : Cond.static Lib.Math.abs.name ∈ zT := zT_t (i := 498) (by decide +kernel) (by decide +kernel)
theorem zw_499 : Cond.code Lib.Math.abs.name Lib.Math.abs.code 1 (some .int) ∈ zT := zT_t (i := 499) (by decide +kernel) (by decide +kernel)
theorem ma_X1_48 : zMa "LowWater$Cave" 48 Lib.Math.abs.name Lib.Math.abs.code 1 := ⟨zw_497, zw_498, zw_19, zw_499⟩
theorem zw_502 : Cond.code yJ6_compare_7cf53 cJ6_compare_7cf53 2 (some .int) ∈ zT := zT_t (i := 502) (by decide +kernel) (by decide +kernel)
theorem zw_20 : Cond.initialized "java/lang/Integer" ∈ zT := zT_t (i := 20) (by decide +kernel) (by decide +kernel)
theorem co_J6_compare_7cf53 : zCo yJ6_compare_7cf53 cJ6_compare_7cf53 2 (some .int) 2 := ⟨zw_502, zw_20, by decide +kernel, by decide +kernel, by decide +kernel⟩
theorem zw_500 : Cond.methodLink "LowWater$Cave" 52 yJ6_compare_7cf53 ∈ zT := zT_t (i := 500) (by decide +kernel) (by decide +kernel)
theorem zw_501 : Cond.static yJ6_compare_7cf53 ∈ zT := zT_t (i := 501) (by decide +kernel) (by decide +kernel)
theorem k_X1_52 : Cond.methodLink "LowWater$Cave" 52 yJ6_compare_7cf53 ∈ zT ∧ Cond.static yJ6_compare_7cf53 ∈ zT := ⟨zw_500, zw_501⟩
theorem zw_503 : Cond.methodLink "LowWater$Cave" 57 Lib.Math.min.name ∈ zT := zT_t (i := 503) (by decide +kernel) (by decide +kernel)
theorem zw_504 : Cond.static Lib.Math.min.name ∈ zT := zT_t (i := 504) (by decide +kernel) (by decide +kernel)
theorem zw_505 : Cond.code Lib.Math.min.name Lib.Math.min.code 2 (some .int) ∈ zT := zT_t (i := 505) (by decide +kernel) (by decide +kernel)
theorem ma_X1_57 : zMa "LowWater$Cave" 57 Lib.Math.min.name Lib.Math.min.code 2 := ⟨zw_503, zw_504, zw_19, zw_505⟩
theorem zw_506 : Cond.methodLink "LowWater$Cave" 60 Lib.Math.max.name ∈ zT := zT_t (i := 506) (by decide +kernel) (by decide +kernel)
theorem zw_466 : Cond.static Lib.Math.max.name ∈ zT := zT_t (i := 466) (by decide +kernel) (by decide +kernel)
theorem zw_467 : Cond.code Lib.Math.max.name Lib.Math.max.code 2 (some .int) ∈ zT := zT_t (i := 467) (by decide +kernel) (by decide +kernel)
theorem ma_X1_60 : zMa "LowWater$Cave" 60 Lib.Math.max.name Lib.Math.max.code 2 := ⟨zw_506, zw_466, zw_19, zw_467⟩
theorem zw_211 : Cond.code yJ7_fill_53178 cJ7_fill_53178 4 none ∈ zT := zT_t (i := 211) (by decide +kernel) (by decide +kernel)
theorem zw_7 : Cond.initialized "java/util/Arrays" ∈ zT := zT_t (i := 7) (by decide +kernel) (by decide +kernel)
theorem co_J7_fill_53178 : zCo yJ7_fill_53178 cJ7_fill_53178 4 none 2 := ⟨zw_211, zw_7, by decide +kernel, by decide +kernel, by decide +kernel⟩
theorem zw_209 : Cond.methodLink "LowWater$Cave" 63 yJ7_fill_53178 ∈ zT := zT_t (i := 209) (by decide +kernel) (by decide +kernel)
theorem zw_210 : Cond.static yJ7_fill_53178 ∈ zT := zT_t (i := 210) (by decide +kernel) (by decide +kernel)
theorem k_X1_63 : Cond.methodLink "LowWater$Cave" 63 yJ7_fill_53178 ∈ zT ∧ Cond.static yJ7_fill_53178 ∈ zT := ⟨zw_209, zw_210⟩
theorem zw_215 : Cond.code yX1_readClause cX1_readClause 5 (some .boolean) ∈ zT := zT_t (i := 215) (by decide +kernel) (by decide +kernel)
theorem co_X1_readClause : zCo yX1_readClause cX1_readClause 5 (some .boolean) 0 := ⟨zw_215, zw_3, by decide +kernel, by decide +kernel, by decide +kernel⟩
theorem zw_212 : Cond.methodLink "LowWater$Cave" 69 yX1_readClause ∈ zT := zT_t (i := 212) (by decide +kernel) (by decide +kernel)
theorem zw_214 : Cond.instanceMethod yX1_readClause ∈ zT := zT_t (i := 214) (by decide +kernel) (by decide +kernel)
theorem zw_s0 : Cond.selects "LowWater$Cave" yX1_readClause yX1_readClause ∈ zT := zT_s (i := 0) (by decide +kernel) (by decide +kernel)
theorem k_X1_69 : Cond.methodLink "LowWater$Cave" 69 yX1_readClause ∈ zT ∧ Cond.instanceMethod yX1_readClause ∈ zT ∧ Cond.selects yX1_readClause.cls yX1_readClause yX1_readClause ∈ zT := ⟨zw_212, zw_214, zw_s0⟩
theorem f_X1_73 : zFL "LowWater$Cave" 73 7 1 false false .int := ⟨RX7, "LowWater$Row", TX7, 2, tyX7, rfl, by decide, in_X7, tyX7_ok, nmX7, rfl, rfl, (fun h => Bool.noConfusion h), Or.inr ⟨"LowWater", by decide +kernel⟩, Or.inl rfl⟩
theorem zw_274 : Cond.code yX1_skip cX1_skip 2 (some .boolean) ∈ zT := zT_t (i := 274) (by decide +kernel) (by decide +kernel)
theorem co_X1_skip : zCo yX1_skip cX1_skip 2 (some .boolean) 1 := ⟨zw_274, zw_3, by decide +kernel, by decide +kernel, by decide +kernel⟩
theorem zw_271 : Cond.methodLink "LowWater$Cave" 76 yX1_skip ∈ zT := zT_t (i := 271) (by decide +kernel) (by decide +kernel)
theorem zw_273 : Cond.instanceMethod yX1_skip ∈ zT := zT_t (i := 273) (by decide +kernel) (by decide +kernel)
theorem zw_s2 : Cond.selects "LowWater$Cave" yX1_skip yX1_skip ∈ zT := zT_s (i := 2) (by decide +kernel) (by decide +kernel)
theorem k_X1_76 : Cond.methodLink "LowWater$Cave" 76 yX1_skip ∈ zT ∧ Cond.instanceMethod yX1_skip ∈ zT ∧ Cond.selects yX1_skip.cls yX1_skip yX1_skip ∈ zT := ⟨zw_271, zw_273, zw_s2⟩
theorem zw_219 : Cond.code yX1_signHere cX1_signHere 2 (some .int) ∈ zT := zT_t (i := 219) (by decide +kernel) (by decide +kernel)
theorem co_X1_signHere : zCo yX1_signHere cX1_signHere 2 (some .int) 0 := ⟨zw_219, zw_3, by decide +kernel, by decide +kernel, by decide +kernel⟩
theorem zw_216 : Cond.methodLink "LowWater$Cave" 80 yX1_signHere ∈ zT := zT_t (i := 216) (by decide +kernel) (by decide +kernel)
theorem zw_218 : Cond.instanceMethod yX1_signHere ∈ zT := zT_t (i := 218) (by decide +kernel) (by decide +kernel)
theorem zw_s1 : Cond.selects "LowWater$Cave" yX1_signHere yX1_signHere ∈ zT := zT_s (i := 1) (by decide +kernel) (by decide +kernel)
theorem k_X1_80 : Cond.methodLink "LowWater$Cave" 80 yX1_signHere ∈ zT ∧ Cond.instanceMethod yX1_signHere ∈ zT ∧ Cond.selects yX1_signHere.cls yX1_signHere yX1_signHere ∈ zT := ⟨zw_216, zw_218, zw_s1⟩
theorem zw_226 : Cond.code yJ0_length_8abf5 cJ0_length_8abf5 1 (some .int) ∈ zT := zT_t (i := 226) (by decide +kernel) (by decide +kernel)
theorem zw_8 : Cond.initialized "java/lang/String" ∈ zT := zT_t (i := 8) (by decide +kernel) (by decide +kernel)
theorem co_J0_length_8abf5 : zCo yJ0_length_8abf5 cJ0_length_8abf5 1 (some .int) 0 := ⟨zw_226, zw_8, by decide +kernel, by decide +kernel, by decide +kernel⟩
theorem zw_223 : Cond.methodLink "LowWater$Cave" 90 yJ0_length_8abf5 ∈ zT := zT_t (i := 223) (by decide +kernel) (by decide +kernel)
theorem zw_224 : Cond.instanceMethod yJ0_length_8abf5 ∈ zT := zT_t (i := 224) (by decide +kernel) (by decide +kernel)
theorem zw_225 : Cond.selects "java/lang/String" yJ0_length_8abf5 yJ0_length_8abf5 ∈ zT := zT_t (i := 225) (by decide +kernel) (by decide +kernel)
theorem k_X1_90 : Cond.methodLink "LowWater$Cave" 90 yJ0_length_8abf5 ∈ zT ∧ Cond.instanceMethod yJ0_length_8abf5 ∈ zT ∧ Cond.selects yJ0_length_8abf5.cls yJ0_length_8abf5 yJ0_length_8abf5 ∈ zT := ⟨zw_223, zw_224, zw_225⟩
theorem zw_236 : Cond.code yJ0_charAt_5068e cJ0_charAt_5068e 2 (some .char) ∈ zT := zT_t (i := 236) (by decide +kernel) (by decide +kernel)
theorem co_J0_charAt_5068e : zCo yJ0_charAt_5068e cJ0_charAt_5068e 2 (some .char) 1 := ⟨zw_236, zw_8, by decide +kernel, by decide +kernel, by decide +kernel⟩
theorem zw_233 : Cond.methodLink "LowWater$Cave" 95 yJ0_charAt_5068e ∈ zT := zT_t (i := 233) (by decide +kernel) (by decide +kernel)
theorem zw_234 : Cond.instanceMethod yJ0_charAt_5068e ∈ zT := zT_t (i := 234) (by decide +kernel) (by decide +kernel)
theorem zw_235 : Cond.selects "java/lang/String" yJ0_charAt_5068e yJ0_charAt_5068e ∈ zT := zT_t (i := 235) (by decide +kernel) (by decide +kernel)
theorem k_X1_95 : Cond.methodLink "LowWater$Cave" 95 yJ0_charAt_5068e ∈ zT ∧ Cond.instanceMethod yJ0_charAt_5068e ∈ zT ∧ Cond.selects yJ0_charAt_5068e.cls yJ0_charAt_5068e yJ0_charAt_5068e ∈ zT := ⟨zw_233, zw_234, zw_235⟩
theorem zw_278 : Cond.code yX1_readNumber cX1_readNumber 3 (some .int) ∈ zT := zT_t (i := 278) (by decide +kernel) (by decide +kernel)
theorem co_X1_readNumber : zCo yX1_readNumber cX1_readNumber 3 (some .int) 0 := ⟨zw_278, zw_3, by decide +kernel, by decide +kernel, by decide +kernel⟩
theorem zw_275 : Cond.methodLink "LowWater$Cave" 99 yX1_readNumber ∈ zT := zT_t (i := 275) (by decide +kernel) (by decide +kernel)
theorem zw_277 : Cond.instanceMethod yX1_readNumber ∈ zT := zT_t (i := 277) (by decide +kernel) (by decide +kernel)
theorem zw_s3 : Cond.selects "LowWater$Cave" yX1_readNumber yX1_readNumber ∈ zT := zT_s (i := 3) (by decide +kernel) (by decide +kernel)
theorem k_X1_99 : Cond.methodLink "LowWater$Cave" 99 yX1_readNumber ∈ zT ∧ Cond.instanceMethod yX1_readNumber ∈ zT ∧ Cond.selects yX1_readNumber.cls yX1_readNumber yX1_readNumber ∈ zT := ⟨zw_275, zw_277, zw_s3⟩
theorem zw_282 : Cond.code yX1_readE cX1_readE 3 (some .boolean) ∈ zT := zT_t (i := 282) (by decide +kernel) (by decide +kernel)
theorem co_X1_readE : zCo yX1_readE cX1_readE 3 (some .boolean) 1 := ⟨zw_282, zw_3, by decide +kernel, by decide +kernel, by decide +kernel⟩
theorem zw_279 : Cond.methodLink "LowWater$Cave" 102 yX1_readE ∈ zT := zT_t (i := 279) (by decide +kernel) (by decide +kernel)
theorem zw_281 : Cond.instanceMethod yX1_readE ∈ zT := zT_t (i := 281) (by decide +kernel) (by decide +kernel)
theorem zw_s4 : Cond.selects "LowWater$Cave" yX1_readE yX1_readE ∈ zT := zT_s (i := 4) (by decide +kernel) (by decide +kernel)
theorem k_X1_102 : Cond.methodLink "LowWater$Cave" 102 yX1_readE ∈ zT ∧ Cond.instanceMethod yX1_readE ∈ zT ∧ Cond.selects yX1_readE.cls yX1_readE yX1_readE ∈ zT := ⟨zw_279, zw_281, zw_s4⟩
theorem zw_294 : Cond.code yX1_addStep cX1_addStep 3 none ∈ zT := zT_t (i := 294) (by decide +kernel) (by decide +kernel)
theorem co_X1_addStep : zCo yX1_addStep cX1_addStep 3 none 2 := ⟨zw_294, zw_3, by decide +kernel, by decide +kernel, by decide +kernel⟩
theorem zw_291 : Cond.methodLink "LowWater$Cave" 105 yX1_addStep ∈ zT := zT_t (i := 291) (by decide +kernel) (by decide +kernel)
theorem zw_293 : Cond.instanceMethod yX1_addStep ∈ zT := zT_t (i := 293) (by decide +kernel) (by decide +kernel)
theorem zw_s7 : Cond.selects "LowWater$Cave" yX1_addStep yX1_addStep ∈ zT := zT_s (i := 7) (by decide +kernel) (by decide +kernel)
theorem k_X1_105 : Cond.methodLink "LowWater$Cave" 105 yX1_addStep ∈ zT ∧ Cond.instanceMethod yX1_addStep ∈ zT ∧ Cond.selects yX1_addStep.cls yX1_addStep yX1_addStep ∈ zT := ⟨zw_291, zw_293, zw_s7⟩
theorem zw_286 : Cond.code yX1_readT cX1_readT 3 (some .boolean) ∈ zT := zT_t (i := 286) (by decide +kernel) (by decide +kernel)
theorem co_X1_readT : zCo yX1_readT cX1_readT 3 (some .boolean) 1 := ⟨zw_286, zw_3, by decide +kernel, by decide +kernel, by decide +kernel⟩
theorem zw_283 : Cond.methodLink "LowWater$Cave" 109 yX1_readT ∈ zT := zT_t (i := 283) (by decide +kernel) (by decide +kernel)
theorem zw_285 : Cond.instanceMethod yX1_readT ∈ zT := zT_t (i := 285) (by decide +kernel) (by decide +kernel)
theorem zw_s5 : Cond.selects "LowWater$Cave" yX1_readT yX1_readT ∈ zT := zT_s (i := 5) (by decide +kernel) (by decide +kernel)
theorem k_X1_109 : Cond.methodLink "LowWater$Cave" 109 yX1_readT ∈ zT ∧ Cond.instanceMethod yX1_readT ∈ zT ∧ Cond.selects yX1_readT.cls yX1_readT yX1_readT ∈ zT := ⟨zw_283, zw_285, zw_s5⟩
theorem zw_290 : Cond.code yX1_readF cX1_readF 6 (some .boolean) ∈ zT := zT_t (i := 290) (by decide +kernel) (by decide +kernel)
theorem co_X1_readF : zCo yX1_readF cX1_readF 6 (some .boolean) 1 := ⟨zw_290, zw_3, by decide +kernel, by decide +kernel, by decide +kernel⟩
theorem zw_287 : Cond.methodLink "LowWater$Cave" 112 yX1_readF ∈ zT := zT_t (i := 287) (by decide +kernel) (by decide +kernel)
theorem zw_289 : Cond.instanceMethod yX1_readF ∈ zT := zT_t (i := 289) (by decide +kernel) (by decide +kernel)
theorem zw_s6 : Cond.selects "LowWater$Cave" yX1_readF yX1_readF ∈ zT := zT_s (i := 6) (by decide +kernel) (by decide +kernel)
theorem k_X1_112 : Cond.methodLink "LowWater$Cave" 112 yX1_readF ∈ zT ∧ Cond.instanceMethod yX1_readF ∈ zT ∧ Cond.selects yX1_readF.cls yX1_readF yX1_readF ∈ zT := ⟨zw_287, zw_289, zw_s6⟩
theorem f_X1_115 : zFL "LowWater$Cave" 115 7 0 true false (.array .int) := ⟨RX7, "LowWater$Row", TX7, 2, tyX7, rfl, by decide, in_X7, tyX7_ok, nmX7, rfl, rfl, (fun h => Bool.noConfusion h), Or.inr ⟨"LowWater", by decide +kernel⟩, Or.inl rfl⟩
theorem zw_344 : Cond.code yX6_init cX6_init 3 none ∈ zT := zT_t (i := 344) (by decide +kernel) (by decide +kernel)
theorem co_X6_init : zCo yX6_init cX6_init 3 none 2 := ⟨zw_344, zw_12, by decide +kernel, by decide +kernel, by decide +kernel⟩
theorem zw_369 : Cond.methodLink "LowWater$Diver" 1 yX6_init ∈ zT := zT_t (i := 369) (by decide +kernel) (by decide +kernel)
theorem zw_343 : Cond.instanceMethod yX6_init ∈ zT := zT_t (i := 343) (by decide +kernel) (by decide +kernel)
theorem k_X2_1 : Cond.methodLink "LowWater$Diver" 1 yX6_init ∈ zT ∧ Cond.instanceMethod yX6_init ∈ zT := ⟨zw_369, zw_343⟩
theorem zw_818 : Cond.code yX6_isA cX6_isA 2 (some .boolean) ∈ zT := zT_t (i := 818) (by decide +kernel) (by decide +kernel)
theorem co_X6_isA : zCo yX6_isA cX6_isA 2 (some .boolean) 1 := ⟨zw_818, zw_12, by decide +kernel, by decide +kernel, by decide +kernel⟩
theorem zw_800 : Cond.methodLink "LowWater$Diver" 7 yX6_isA ∈ zT := zT_t (i := 800) (by decide +kernel) (by decide +kernel)
theorem zw_793 : Cond.sameMethod "LowWater$Reader" "LowWater$Reader" "isA" "(I)Z" ∈ zT := zT_t (i := 793) (by decide +kernel) (by decide +kernel)
theorem zw_372 : Cond.superclass "LowWater$Diver" "LowWater$Reader" ∈ zT := zT_t (i := 372) (by decide +kernel) (by decide +kernel)
theorem zw_791 : Cond.instanceMethod yX6_isA ∈ zT := zT_t (i := 791) (by decide +kernel) (by decide +kernel)
theorem k_X2_7 : Cond.methodLink "LowWater$Diver" 7 yX6_isA ∈ zT ∧ Cond.sameMethod yX6_isA.cls yX6_isA.cls yX6_isA.name yX6_isA.desc ∈ zT ∧ Cond.superclass "LowWater$Diver" yX6_isA.cls ∈ zT ∧ Cond.instanceMethod yX6_isA ∈ zT ∧ yX6_isA.name ≠ "<init>" := ⟨zw_800, zw_793, zw_372, zw_791, by decide +kernel⟩
theorem zw_350 : Cond.fieldLink "LowWater$Diver" 11 "LowWater$Diver" "v" "I" ∈ zT := zT_t (i := 350) (by decide +kernel) (by decide +kernel)
theorem zw_351 : Cond.sameField "LowWater$Diver" "LowWater$Reader" "v" "I" ∈ zT := zT_t (i := 351) (by decide +kernel) (by decide +kernel)
theorem f_X2_11 : zFL "LowWater$Diver" 11 2 1 true false .int := ⟨RX2, "LowWater$Diver", TX2, 2, tyX2, rfl, by decide, in_X2, tyX2_ok, nmX2, rfl, rfl, (fun h => Bool.noConfusion h), Or.inl zw_350, Or.inr zw_351⟩
theorem zw_741 : Cond.methodLink "LowWater$Diver" 17 yX7_add ∈ zT := zT_t (i := 741) (by decide +kernel) (by decide +kernel)
theorem k_X2_17 : Cond.methodLink "LowWater$Diver" 17 yX7_add ∈ zT ∧ Cond.instanceMethod yX7_add ∈ zT ∧ Cond.selects yX7_add.cls yX7_add yX7_add ∈ zT := ⟨zw_741, zw_198, zw_199⟩
theorem zw_754 : Cond.code yX6_bodyOfWaits cX6_bodyOfWaits 3 (some .int) ∈ zT := zT_t (i := 754) (by decide +kernel) (by decide +kernel)
theorem co_X6_bodyOfWaits : zCo yX6_bodyOfWaits cX6_bodyOfWaits 3 (some .int) 2 := ⟨zw_754, zw_12, by decide +kernel, by decide +kernel, by decide +kernel⟩
theorem zw_742 : Cond.methodLink "LowWater$Diver" 23 yX6_bodyOfWaits ∈ zT := zT_t (i := 742) (by decide +kernel) (by decide +kernel)
theorem zw_737 : Cond.sameMethod "LowWater$Reader" "LowWater$Reader" "bodyOfWaits" "(ILLowWater$Row;)I" ∈ zT := zT_t (i := 737) (by decide +kernel) (by decide +kernel)
theorem zw_735 : Cond.instanceMethod yX6_bodyOfWaits ∈ zT := zT_t (i := 735) (by decide +kernel) (by decide +kernel)
theorem k_X2_23 : Cond.methodLink "LowWater$Diver" 23 yX6_bodyOfWaits ∈ zT ∧ Cond.sameMethod yX6_bodyOfWaits.cls yX6_bodyOfWaits.cls yX6_bodyOfWaits.name yX6_bodyOfWaits.desc ∈ zT ∧ Cond.superclass "LowWater$Diver" yX6_bodyOfWaits.cls ∈ zT ∧ Cond.instanceMethod yX6_bodyOfWaits ∈ zT ∧ yX6_bodyOfWaits.name ≠ "<init>" := ⟨zw_742, zw_737, zw_372, zw_735, by decide +kernel⟩
theorem zw_342 : Cond.methodLink "LowWater$Fast" 1 yX6_init ∈ zT := zT_t (i := 342) (by decide +kernel) (by decide +kernel)
theorem k_X3_1 : Cond.methodLink "LowWater$Fast" 1 yX6_init ∈ zT ∧ Cond.instanceMethod yX6_init ∈ zT := ⟨zw_342, zw_343⟩
theorem zw_805 : Cond.methodLink "LowWater$Fast" 7 yX6_isA ∈ zT := zT_t (i := 805) (by decide +kernel) (by decide +kernel)
theorem zw_363 : Cond.superclass "LowWater$Fast" "LowWater$Reader" ∈ zT := zT_t (i := 363) (by decide +kernel) (by decide +kernel)
theorem k_X3_7 : Cond.methodLink "LowWater$Fast" 7 yX6_isA ∈ zT ∧ Cond.sameMethod yX6_isA.cls yX6_isA.cls yX6_isA.name yX6_isA.desc ∈ zT ∧ Cond.superclass "LowWater$Fast" yX6_isA.cls ∈ zT ∧ Cond.instanceMethod yX6_isA ∈ zT ∧ yX6_isA.name ≠ "<init>" := ⟨zw_805, zw_793, zw_363, zw_791, by decide +kernel⟩
theorem zw_727 : Cond.methodLink "LowWater$Fast" 11 yX7_add ∈ zT := zT_t (i := 727) (by decide +kernel) (by decide +kernel)
theorem k_X3_11 : Cond.methodLink "LowWater$Fast" 11 yX7_add ∈ zT ∧ Cond.instanceMethod yX7_add ∈ zT ∧ Cond.selects yX7_add.cls yX7_add yX7_add ∈ zT := ⟨zw_727, zw_198, zw_199⟩
theorem zw_728 : Cond.methodLink "LowWater$Fast" 17 yX6_bodyOfReads ∈ zT := zT_t (i := 728) (by decide +kernel) (by decide +kernel)
theorem zw_715 : Cond.sameMethod "LowWater$Reader" "LowWater$Reader" "bodyOfReads" "(ILLowWater$Row;)I" ∈ zT := zT_t (i := 715) (by decide +kernel) (by decide +kernel)
theorem zw_713 : Cond.instanceMethod yX6_bodyOfReads ∈ zT := zT_t (i := 713) (by decide +kernel) (by decide +kernel)
theorem k_X3_17 : Cond.methodLink "LowWater$Fast" 17 yX6_bodyOfReads ∈ zT ∧ Cond.sameMethod yX6_bodyOfReads.cls yX6_bodyOfReads.cls yX6_bodyOfReads.name yX6_bodyOfReads.desc ∈ zT ∧ Cond.superclass "LowWater$Fast" yX6_bodyOfReads.cls ∈ zT ∧ Cond.instanceMethod yX6_bodyOfReads ∈ zT ∧ yX6_bodyOfReads.name ≠ "<init>" := ⟨zw_728, zw_715, zw_363, zw_713, by decide +kernel⟩
theorem zw_138 : Cond.methodLink "LowWater$Orders" 3 objectInit ∈ zT := zT_t (i := 138) (by decide +kernel) (by decide +kernel)
theorem k_X4_3 : Cond.methodLink "LowWater$Orders" 3 objectInit ∈ zT ∧ Cond.instanceMethod objectInit ∈ zT ∧ Cond.code objectInit ⟨#[0xb1]⟩ 1 none ∈ zT := ⟨zw_138, zw_28, zw_29⟩
theorem zw_139 : Cond.fieldLink "LowWater$Orders" 9 "LowWater$Orders" "state" "LLowWater$State;" ∈ zT := zT_t (i := 139) (by decide +kernel) (by decide +kernel)
theorem f_X4_9 : zFL "LowWater$Orders" 9 4 0 false true (.object "LowWater$State") := ⟨RX4, "LowWater$Orders", TX4, 8, tyX4, rfl, by decide, in_X4, tyX4_ok, nmX4, rfl, rfl, (fun _ => rfl), Or.inl zw_139, Or.inl rfl⟩
theorem zw_140 : Cond.fieldLink "LowWater$Orders" 15 "LowWater$Orders" "reader" "LLowWater$Reader;" ∈ zT := zT_t (i := 140) (by decide +kernel) (by decide +kernel)
theorem f_X4_15 : zFL "LowWater$Orders" 15 4 1 false true (.object "LowWater$Reader") := ⟨RX4, "LowWater$Orders", TX4, 8, tyX4, rfl, by decide, in_X4, tyX4_ok, nmX4, rfl, rfl, (fun _ => rfl), Or.inl zw_140, Or.inl rfl⟩
theorem zw_141 : Cond.fieldLink "LowWater$Orders" 19 "LowWater$Orders" "all" "I" ∈ zT := zT_t (i := 141) (by decide +kernel) (by decide +kernel)
theorem f_X4_19 : zFL "LowWater$Orders" 19 4 2 false true .int := ⟨RX4, "LowWater$Orders", TX4, 8, tyX4, rfl, by decide, in_X4, tyX4_ok, nmX4, rfl, rfl, (fun _ => rfl), Or.inl zw_141, Or.inl rfl⟩
theorem zw_142 : Cond.fieldLink "LowWater$Orders" 23 "LowWater$Orders" "best" "[I" ∈ zT := zT_t (i := 142) (by decide +kernel) (by decide +kernel)
theorem f_X4_23 : zFL "LowWater$Orders" 23 4 3 true true (.array .int) := ⟨RX4, "LowWater$Orders", TX4, 8, tyX4, rfl, by decide, in_X4, tyX4_ok, nmX4, rfl, rfl, (fun _ => rfl), Or.inl zw_142, Or.inl rfl⟩
theorem zw_143 : Cond.fieldLink "LowWater$Orders" 27 "LowWater$Orders" "row" "[I" ∈ zT := zT_t (i := 143) (by decide +kernel) (by decide +kernel)
theorem f_X4_27 : zFL "LowWater$Orders" 27 4 4 true true (.array .int) := ⟨RX4, "LowWater$Orders", TX4, 8, tyX4, rfl, by decide, in_X4, tyX4_ok, nmX4, rfl, rfl, (fun _ => rfl), Or.inl zw_143, Or.inl rfl⟩
theorem zw_144 : Cond.fieldLink "LowWater$Orders" 30 "LowWater$Orders" "bestRow" "[I" ∈ zT := zT_t (i := 144) (by decide +kernel) (by decide +kernel)
theorem f_X4_30 : zFL "LowWater$Orders" 30 4 5 true true (.array .int) := ⟨RX4, "LowWater$Orders", TX4, 8, tyX4, rfl, by decide, in_X4, tyX4_ok, nmX4, rfl, rfl, (fun _ => rfl), Or.inl zw_144, Or.inl rfl⟩
theorem zw_145 : Cond.fieldLink "LowWater$Orders" 33 "LowWater$Orders" "soons" "[I" ∈ zT := zT_t (i := 145) (by decide +kernel) (by decide +kernel)
theorem f_X4_33 : zFL "LowWater$Orders" 33 4 6 true true (.array .int) := ⟨RX4, "LowWater$Orders", TX4, 8, tyX4, rfl, by decide, in_X4, tyX4_ok, nmX4, rfl, rfl, (fun _ => rfl), Or.inl zw_145, Or.inl rfl⟩
theorem zw_146 : Cond.fieldLink "LowWater$Orders" 36 "LowWater$Orders" "asking" "I" ∈ zT := zT_t (i := 146) (by decide +kernel) (by decide +kernel)
theorem f_X4_36 : zFL "LowWater$Orders" 36 4 7 false true .int := ⟨RX4, "LowWater$Orders", TX4, 8, tyX4, rfl, by decide, in_X4, tyX4_ok, nmX4, rfl, rfl, (fun _ => rfl), Or.inl zw_146, Or.inl rfl⟩
theorem zw_576 : Cond.methodLink "LowWater$Orders" 39 yJ7_fill_53178 ∈ zT := zT_t (i := 576) (by decide +kernel) (by decide +kernel)
theorem k_X4_39 : Cond.methodLink "LowWater$Orders" 39 yJ7_fill_53178 ∈ zT ∧ Cond.static yJ7_fill_53178 ∈ zT := ⟨zw_576, zw_210⟩
theorem zw_580 : Cond.methodLink "LowWater$Orders" 45 arraycopyName ∈ zT := zT_t (i := 580) (by decide +kernel) (by decide +kernel)
theorem k_X4_45 : Cond.methodLink "LowWater$Orders" 45 arraycopyName ∈ zT ∧ Cond.native arraycopyName ∈ zT ∧ Cond.static arraycopyName ∈ zT ∧ Cond.initialized "java/lang/System" ∈ zT := ⟨zw_580, zw_582, zw_581, zw_21⟩
theorem zw_586 : Cond.code yX4_soonFrom cX4_soonFrom 6 (some .int) ∈ zT := zT_t (i := 586) (by decide +kernel) (by decide +kernel)
theorem zw_5 : Cond.initialized "LowWater$Orders" ∈ zT := zT_t (i := 5) (by decide +kernel) (by decide +kernel)
theorem co_X4_soonFrom : zCo yX4_soonFrom cX4_soonFrom 6 (some .int) 2 := ⟨zw_586, zw_5, by decide +kernel, by decide +kernel, by decide +kernel⟩
theorem zw_583 : Cond.methodLink "LowWater$Orders" 51 yX4_soonFrom ∈ zT := zT_t (i := 583) (by decide +kernel) (by decide +kernel)
theorem zw_585 : Cond.instanceMethod yX4_soonFrom ∈ zT := zT_t (i := 585) (by decide +kernel) (by decide +kernel)
theorem zw_s12 : Cond.selects "LowWater$Orders" yX4_soonFrom yX4_soonFrom ∈ zT := zT_s (i := 12) (by decide +kernel) (by decide +kernel)
theorem k_X4_51 : Cond.methodLink "LowWater$Orders" 51 yX4_soonFrom ∈ zT ∧ Cond.instanceMethod yX4_soonFrom ∈ zT ∧ Cond.selects yX4_soonFrom.cls yX4_soonFrom yX4_soonFrom ∈ zT := ⟨zw_583, zw_585, zw_s12⟩
theorem zw_579 : Cond.code yX4_goOn cX4_goOn 7 none ∈ zT := zT_t (i := 579) (by decide +kernel) (by decide +kernel)
theorem co_X4_goOn : zCo yX4_goOn cX4_goOn 7 none 4 := ⟨zw_579, zw_5, by decide +kernel, by decide +kernel, by decide +kernel⟩
theorem zw_589 : Cond.methodLink "LowWater$Orders" 55 yX4_goOn ∈ zT := zT_t (i := 589) (by decide +kernel) (by decide +kernel)
theorem zw_578 : Cond.static yX4_goOn ∈ zT := zT_t (i := 578) (by decide +kernel) (by decide +kernel)
theorem k_X4_55 : Cond.methodLink "LowWater$Orders" 55 yX4_goOn ∈ zT ∧ Cond.static yX4_goOn ∈ zT := ⟨zw_589, zw_578⟩
theorem zw_600 : Cond.code yJ6_bitCount_0f7a4 cJ6_bitCount_0f7a4 1 (some .int) ∈ zT := zT_t (i := 600) (by decide +kernel) (by decide +kernel)
theorem co_J6_bitCount_0f7a4 : zCo yJ6_bitCount_0f7a4 cJ6_bitCount_0f7a4 1 (some .int) 1 := ⟨zw_600, zw_20, by decide +kernel, by decide +kernel, by decide +kernel⟩
theorem zw_598 : Cond.methodLink "LowWater$Orders" 59 yJ6_bitCount_0f7a4 ∈ zT := zT_t (i := 598) (by decide +kernel) (by decide +kernel)
theorem zw_599 : Cond.static yJ6_bitCount_0f7a4 ∈ zT := zT_t (i := 599) (by decide +kernel) (by decide +kernel)
theorem k_X4_59 : Cond.methodLink "LowWater$Orders" 59 yJ6_bitCount_0f7a4 ∈ zT ∧ Cond.static yJ6_bitCount_0f7a4 ∈ zT := ⟨zw_598, zw_599⟩
theorem zw_593 : Cond.code yX4_hoursOf cX4_hoursOf 2 (some .int) ∈ zT := zT_t (i := 593) (by decide +kernel) (by decide +kernel)
theorem co_X4_hoursOf : zCo yX4_hoursOf cX4_hoursOf 2 (some .int) 1 := ⟨zw_593, zw_5, by decide +kernel, by decide +kernel, by decide +kernel⟩
theorem zw_604 : Cond.methodLink "LowWater$Orders" 65 yX4_hoursOf ∈ zT := zT_t (i := 604) (by decide +kernel) (by decide +kernel)
theorem zw_591 : Cond.instanceMethod yX4_hoursOf ∈ zT := zT_t (i := 591) (by decide +kernel) (by decide +kernel)
theorem zw_592 : Cond.selects "LowWater$Orders" yX4_hoursOf yX4_hoursOf ∈ zT := zT_t (i := 592) (by decide +kernel) (by decide +kernel)
theorem k_X4_65 : Cond.methodLink "LowWater$Orders" 65 yX4_hoursOf ∈ zT ∧ Cond.instanceMethod yX4_hoursOf ∈ zT ∧ Cond.selects yX4_hoursOf.cls yX4_hoursOf yX4_hoursOf ∈ zT := ⟨zw_604, zw_591, zw_592⟩
theorem f_X4_68 : zFL "LowWater$Orders" 68 9 7 true false (.object "LowWater$Row") := ⟨RX9, "LowWater$State", TX9, 11, tyX9, rfl, by decide, in_X9, tyX9_ok, nmX9, rfl, rfl, (fun h => Bool.noConfusion h), Or.inr ⟨"LowWater", by decide +kernel⟩, Or.inl rfl⟩
theorem zw_321 : Cond.code yX7_get cX7_get 2 (some .int) ∈ zT := zT_t (i := 321) (by decide +kernel) (by decide +kernel)
theorem co_X7_get : zCo yX7_get cX7_get 2 (some .int) 1 := ⟨zw_321, zw_4, by decide +kernel, by decide +kernel, by decide +kernel⟩
theorem zw_587 : Cond.methodLink "LowWater$Orders" 74 yX7_get ∈ zT := zT_t (i := 587) (by decide +kernel) (by decide +kernel)
theorem zw_319 : Cond.instanceMethod yX7_get ∈ zT := zT_t (i := 319) (by decide +kernel) (by decide +kernel)
theorem zw_320 : Cond.selects "LowWater$Row" yX7_get yX7_get ∈ zT := zT_t (i := 320) (by decide +kernel) (by decide +kernel)
theorem k_X4_74 : Cond.methodLink "LowWater$Orders" 74 yX7_get ∈ zT ∧ Cond.instanceMethod yX7_get ∈ zT ∧ Cond.selects yX7_get.cls yX7_get yX7_get ∈ zT := ⟨zw_587, zw_319, zw_320⟩
theorem f_X4_79 : zFL "LowWater$Orders" 79 9 3 false false (.object "LowWater$Cave") := ⟨RX9, "LowWater$State", TX9, 11, tyX9, rfl, by decide, in_X9, tyX9_ok, nmX9, rfl, rfl, (fun h => Bool.noConfusion h), Or.inr ⟨"LowWater", by decide +kernel⟩, Or.inl rfl⟩
theorem f_X4_83 : zFL "LowWater$Orders" 83 9 6 true false (.object "LowWater$Row") := ⟨RX9, "LowWater$State", TX9, 11, tyX9, rfl, by decide, in_X9, tyX9_ok, nmX9, rfl, rfl, (fun h => Bool.noConfusion h), Or.inr ⟨"LowWater", by decide +kernel⟩, Or.inl rfl⟩
theorem f_X4_86 : zFL "LowWater$Orders" 86 9 0 false false .int := ⟨RX9, "LowWater$State", TX9, 11, tyX9, rfl, by decide, in_X9, tyX9_ok, nmX9, rfl, rfl, (fun h => Bool.noConfusion h), Or.inr ⟨"LowWater", by decide +kernel⟩, Or.inl rfl⟩
theorem zw_529 : Cond.code yX6_soonest cX6_soonest 8 (some .int) ∈ zT := zT_t (i := 529) (by decide +kernel) (by decide +kernel)
theorem co_X6_soonest : zCo yX6_soonest cX6_soonest 8 (some .int) 4 := ⟨zw_529, zw_12, by decide +kernel, by decide +kernel, by decide +kernel⟩
theorem zw_588 : Cond.methodLink "LowWater$Orders" 89 yX6_soonest ∈ zT := zT_t (i := 588) (by decide +kernel) (by decide +kernel)
theorem zw_522 : Cond.sameMethod "LowWater$Reader" "LowWater$Reader" "soonest" "(LLowWater$Cave;III)I" ∈ zT := zT_t (i := 522) (by decide +kernel) (by decide +kernel)
theorem zw_520 : Cond.instanceMethod yX6_soonest ∈ zT := zT_t (i := 520) (by decide +kernel) (by decide +kernel)
theorem zw_523 : Cond.selects "LowWater$Blind" yX6_soonest yX6_soonest ∈ zT := zT_t (i := 523) (by decide +kernel) (by decide +kernel)
theorem ku_X4_89_X0 : Cond.methodLink "LowWater$Orders" 89 ⟨"LowWater$Reader", "soonest", "(LLowWater$Cave;III)I"⟩ ∈ zT ∧ Cond.sameMethod "LowWater$Reader" "LowWater$Reader" "soonest" "(LLowWater$Cave;III)I" ∈ zT ∧ Cond.instanceMethod ⟨"LowWater$Reader", "soonest", "(LLowWater$Cave;III)I"⟩ ∈ zT ∧ Cond.code ⟨"LowWater$Reader", "soonest", "(LLowWater$Cave;III)I"⟩ cX6_soonest 8 (some .int) ∈ zT ∧ Cond.selects "LowWater$Blind" ⟨"LowWater$Reader", "soonest", "(LLowWater$Cave;III)I"⟩ yX6_soonest ∈ zT ∧ Cond.instanceMethod yX6_soonest ∈ zT ∧ "LowWater$Reader" ≠ "java/lang/invoke/MethodHandle" ∧ "LowWater$Reader" ≠ "java/lang/invoke/VarHandle" ∧ (parseMethodDescriptor "(LLowWater$Cave;III)I").map (fun d => d.parameters.length) = some 4 := ⟨zw_588, zw_522, zw_520, zw_529, zw_523, zw_520, by decide +kernel, by decide +kernel, by decide +kernel⟩
theorem zw_524 : Cond.selects "LowWater$Diver" yX6_soonest yX6_soonest ∈ zT := zT_t (i := 524) (by decide +kernel) (by decide +kernel)
theorem ku_X4_89_X2 : Cond.methodLink "LowWater$Orders" 89 ⟨"LowWater$Reader", "soonest", "(LLowWater$Cave;III)I"⟩ ∈ zT ∧ Cond.sameMethod "LowWater$Reader" "LowWater$Reader" "soonest" "(LLowWater$Cave;III)I" ∈ zT ∧ Cond.instanceMethod ⟨"LowWater$Reader", "soonest", "(LLowWater$Cave;III)I"⟩ ∈ zT ∧ Cond.code ⟨"LowWater$Reader", "soonest", "(LLowWater$Cave;III)I"⟩ cX6_soonest 8 (some .int) ∈ zT ∧ Cond.selects "LowWater$Diver" ⟨"LowWater$Reader", "soonest", "(LLowWater$Cave;III)I"⟩ yX6_soonest ∈ zT ∧ Cond.instanceMethod yX6_soonest ∈ zT ∧ "LowWater$Reader" ≠ "java/lang/invoke/MethodHandle" ∧ "LowWater$Reader" ≠ "java/lang/invoke/VarHandle" ∧ (parseMethodDescriptor "(LLowWater$Cave;III)I").map (fun d => d.parameters.length) = some 4 := ⟨zw_588, zw_522, zw_520, zw_529, zw_524, zw_520, by decide +kernel, by decide +kernel, by decide +kernel⟩
theorem zw_525 : Cond.selects "LowWater$Fast" yX6_soonest yX6_soonest ∈ zT := zT_t (i := 525) (by decide +kernel) (by decide +kernel)
theorem ku_X4_89_X3 : Cond.methodLink "LowWater$Orders" 89 ⟨"LowWater$Reader", "soonest", "(LLowWater$Cave;III)I"⟩ ∈ zT ∧ Cond.sameMethod "LowWater$Reader" "LowWater$Reader" "soonest" "(LLowWater$Cave;III)I" ∈ zT ∧ Cond.instanceMethod ⟨"LowWater$Reader", "soonest", "(LLowWater$Cave;III)I"⟩ ∈ zT ∧ Cond.code ⟨"LowWater$Reader", "soonest", "(LLowWater$Cave;III)I"⟩ cX6_soonest 8 (some .int) ∈ zT ∧ Cond.selects "LowWater$Fast" ⟨"LowWater$Reader", "soonest", "(LLowWater$Cave;III)I"⟩ yX6_soonest ∈ zT ∧ Cond.instanceMethod yX6_soonest ∈ zT ∧ "LowWater$Reader" ≠ "java/lang/invoke/MethodHandle" ∧ "LowWater$Reader" ≠ "java/lang/invoke/VarHandle" ∧ (parseMethodDescriptor "(LLowWater$Cave;III)I").map (fun d => d.parameters.length) = some 4 := ⟨zw_588, zw_522, zw_520, zw_529, zw_525, zw_520, by decide +kernel, by decide +kernel, by decide +kernel⟩
theorem zw_526 : Cond.selects "LowWater$Quick" yX6_soonest yX6_soonest ∈ zT := zT_t (i := 526) (by decide +kernel) (by decide +kernel)
theorem ku_X4_89_X5 : Cond.methodLink "LowWater$Orders" 89 ⟨"LowWater$Reader", "soonest", "(LLowWater$Cave;III)I"⟩ ∈ zT ∧ Cond.sameMethod "LowWater$Reader" "LowWater$Reader" "soonest" "(LLowWater$Cave;III)I" ∈ zT ∧ Cond.instanceMethod ⟨"LowWater$Reader", "soonest", "(LLowWater$Cave;III)I"⟩ ∈ zT ∧ Cond.code ⟨"LowWater$Reader", "soonest", "(LLowWater$Cave;III)I"⟩ cX6_soonest 8 (some .int) ∈ zT ∧ Cond.selects "LowWater$Quick" ⟨"LowWater$Reader", "soonest", "(LLowWater$Cave;III)I"⟩ yX6_soonest ∈ zT ∧ Cond.instanceMethod yX6_soonest ∈ zT ∧ "LowWater$Reader" ≠ "java/lang/invoke/MethodHandle" ∧ "LowWater$Reader" ≠ "java/lang/invoke/VarHandle" ∧ (parseMethodDescriptor "(LLowWater$Cave;III)I").map (fun d => d.parameters.length) = some 4 := ⟨zw_588, zw_522, zw_520, zw_529, zw_526, zw_520, by decide +kernel, by decide +kernel, by decide +kernel⟩
theorem zw_521 : Cond.selects "LowWater$Reader" yX6_soonest yX6_soonest ∈ zT := zT_t (i := 521) (by decide +kernel) (by decide +kernel)
theorem k_X4_89_X6 : Cond.methodLink "LowWater$Orders" 89 yX6_soonest ∈ zT ∧ Cond.instanceMethod yX6_soonest ∈ zT ∧ Cond.selects yX6_soonest.cls yX6_soonest yX6_soonest ∈ zT := ⟨zw_588, zw_520, zw_521⟩
theorem ku_X4_89_X6 : Cond.methodLink "LowWater$Orders" 89 ⟨"LowWater$Reader", "soonest", "(LLowWater$Cave;III)I"⟩ ∈ zT ∧ Cond.sameMethod "LowWater$Reader" "LowWater$Reader" "soonest" "(LLowWater$Cave;III)I" ∈ zT ∧ Cond.instanceMethod ⟨"LowWater$Reader", "soonest", "(LLowWater$Cave;III)I"⟩ ∈ zT ∧ Cond.code ⟨"LowWater$Reader", "soonest", "(LLowWater$Cave;III)I"⟩ cX6_soonest 8 (some .int) ∈ zT ∧ Cond.selects "LowWater$Reader" ⟨"LowWater$Reader", "soonest", "(LLowWater$Cave;III)I"⟩ yX6_soonest ∈ zT ∧ Cond.instanceMethod yX6_soonest ∈ zT ∧ "LowWater$Reader" ≠ "java/lang/invoke/MethodHandle" ∧ "LowWater$Reader" ≠ "java/lang/invoke/VarHandle" ∧ (parseMethodDescriptor "(LLowWater$Cave;III)I").map (fun d => d.parameters.length) = some 4 := ⟨zw_588, zw_522, zw_520, zw_529, zw_521, zw_520, by decide +kernel, by decide +kernel, by decide +kernel⟩
theorem zw_527 : Cond.selects "LowWater$Rowed" yX6_soonest yX6_soonest ∈ zT := zT_t (i := 527) (by decide +kernel) (by decide +kernel)
theorem ku_X4_89_X8 : Cond.methodLink "LowWater$Orders" 89 ⟨"LowWater$Reader", "soonest", "(LLowWater$Cave;III)I"⟩ ∈ zT ∧ Cond.sameMethod "LowWater$Reader" "LowWater$Reader" "soonest" "(LLowWater$Cave;III)I" ∈ zT ∧ Cond.instanceMethod ⟨"LowWater$Reader", "soonest", "(LLowWater$Cave;III)I"⟩ ∈ zT ∧ Cond.code ⟨"LowWater$Reader", "soonest", "(LLowWater$Cave;III)I"⟩ cX6_soonest 8 (some .int) ∈ zT ∧ Cond.selects "LowWater$Rowed" ⟨"LowWater$Reader", "soonest", "(LLowWater$Cave;III)I"⟩ yX6_soonest ∈ zT ∧ Cond.instanceMethod yX6_soonest ∈ zT ∧ "LowWater$Reader" ≠ "java/lang/invoke/MethodHandle" ∧ "LowWater$Reader" ≠ "java/lang/invoke/VarHandle" ∧ (parseMethodDescriptor "(LLowWater$Cave;III)I").map (fun d => d.parameters.length) = some 4 := ⟨zw_588, zw_522, zw_520, zw_529, zw_527, zw_520, by decide +kernel, by decide +kernel, by decide +kernel⟩
theorem zw_528 : Cond.selects "LowWater$Waiting" yX6_soonest yX6_soonest ∈ zT := zT_t (i := 528) (by decide +kernel) (by decide +kernel)
theorem ku_X4_89_X10 : Cond.methodLink "LowWater$Orders" 89 ⟨"LowWater$Reader", "soonest", "(LLowWater$Cave;III)I"⟩ ∈ zT ∧ Cond.sameMethod "LowWater$Reader" "LowWater$Reader" "soonest" "(LLowWater$Cave;III)I" ∈ zT ∧ Cond.instanceMethod ⟨"LowWater$Reader", "soonest", "(LLowWater$Cave;III)I"⟩ ∈ zT ∧ Cond.code ⟨"LowWater$Reader", "soonest", "(LLowWater$Cave;III)I"⟩ cX6_soonest 8 (some .int) ∈ zT ∧ Cond.selects "LowWater$Waiting" ⟨"LowWater$Reader", "soonest", "(LLowWater$Cave;III)I"⟩ yX6_soonest ∈ zT ∧ Cond.instanceMethod yX6_soonest ∈ zT ∧ "LowWater$Reader" ≠ "java/lang/invoke/MethodHandle" ∧ "LowWater$Reader" ≠ "java/lang/invoke/VarHandle" ∧ (parseMethodDescriptor "(LLowWater$Cave;III)I").map (fun d => d.parameters.length) = some 4 := ⟨zw_588, zw_522, zw_520, zw_529, zw_528, zw_520, by decide +kernel, by decide +kernel, by decide +kernel⟩
theorem zw_341 : Cond.code yX3_init cX3_init 3 none ∈ zT := zT_t (i := 341) (by decide +kernel) (by decide +kernel)
theorem zw_13 : Cond.initialized "LowWater$Fast" ∈ zT := zT_t (i := 13) (by decide +kernel) (by decide +kernel)
theorem co_X3_init : zCo yX3_init cX3_init 3 none 2 := ⟨zw_341, zw_13, by decide +kernel, by decide +kernel, by decide +kernel⟩
theorem zw_387 : Cond.methodLink "LowWater$Quick" 1 yX3_init ∈ zT := zT_t (i := 387) (by decide +kernel) (by decide +kernel)
theorem zw_340 : Cond.instanceMethod yX3_init ∈ zT := zT_t (i := 340) (by decide +kernel) (by decide +kernel)
theorem k_X5_1 : Cond.methodLink "LowWater$Quick" 1 yX3_init ∈ zT ∧ Cond.instanceMethod yX3_init ∈ zT := ⟨zw_387, zw_340⟩
theorem zw_804 : Cond.code yX3_isA cX3_isA 2 (some .boolean) ∈ zT := zT_t (i := 804) (by decide +kernel) (by decide +kernel)
theorem co_X3_isA : zCo yX3_isA cX3_isA 2 (some .boolean) 1 := ⟨zw_804, zw_13, by decide +kernel, by decide +kernel, by decide +kernel⟩
theorem zw_809 : Cond.methodLink "LowWater$Quick" 7 yX3_isA ∈ zT := zT_t (i := 809) (by decide +kernel) (by decide +kernel)
theorem zw_1227 : Cond.sameMethod "LowWater$Fast" "LowWater$Fast" "isA" "(I)Z" ∈ zT := zT_t (i := 1227) (by decide +kernel) (by decide +kernel)
theorem zw_390 : Cond.superclass "LowWater$Quick" "LowWater$Fast" ∈ zT := zT_t (i := 390) (by decide +kernel) (by decide +kernel)
theorem zw_803 : Cond.instanceMethod yX3_isA ∈ zT := zT_t (i := 803) (by decide +kernel) (by decide +kernel)
theorem k_X5_7 : Cond.methodLink "LowWater$Quick" 7 yX3_isA ∈ zT ∧ Cond.sameMethod yX3_isA.cls yX3_isA.cls yX3_isA.name yX3_isA.desc ∈ zT ∧ Cond.superclass "LowWater$Quick" yX3_isA.cls ∈ zT ∧ Cond.instanceMethod yX3_isA ∈ zT ∧ yX3_isA.name ≠ "<init>" := ⟨zw_809, zw_1227, zw_390, zw_803, by decide +kernel⟩
theorem zw_460 : Cond.code yX3_hoursFor cX3_hoursFor 2 (some .int) ∈ zT := zT_t (i := 460) (by decide +kernel) (by decide +kernel)
theorem co_X3_hoursFor : zCo yX3_hoursFor cX3_hoursFor 2 (some .int) 1 := ⟨zw_460, zw_13, by decide +kernel, by decide +kernel, by decide +kernel⟩
theorem zw_464 : Cond.methodLink "LowWater$Quick" 11 yX3_hoursFor ∈ zT := zT_t (i := 464) (by decide +kernel) (by decide +kernel)
theorem zw_1224 : Cond.sameMethod "LowWater$Fast" "LowWater$Fast" "hoursFor" "(I)I" ∈ zT := zT_t (i := 1224) (by decide +kernel) (by decide +kernel)
theorem zw_459 : Cond.instanceMethod yX3_hoursFor ∈ zT := zT_t (i := 459) (by decide +kernel) (by decide +kernel)
theorem k_X5_11 : Cond.methodLink "LowWater$Quick" 11 yX3_hoursFor ∈ zT ∧ Cond.sameMethod yX3_hoursFor.cls yX3_hoursFor.cls yX3_hoursFor.name yX3_hoursFor.desc ∈ zT ∧ Cond.superclass "LowWater$Quick" yX3_hoursFor.cls ∈ zT ∧ Cond.instanceMethod yX3_hoursFor ∈ zT ∧ yX3_hoursFor.name ≠ "<init>" := ⟨zw_464, zw_1224, zw_390, zw_459, by decide +kernel⟩
theorem zw_354 : Cond.fieldLink "LowWater$Quick" 15 "LowWater$Quick" "v" "I" ∈ zT := zT_t (i := 354) (by decide +kernel) (by decide +kernel)
theorem zw_355 : Cond.sameField "LowWater$Quick" "LowWater$Reader" "v" "I" ∈ zT := zT_t (i := 355) (by decide +kernel) (by decide +kernel)
theorem f_X5_15 : zFL "LowWater$Quick" 15 5 1 true false .int := ⟨RX5, "LowWater$Quick", TX5, 2, tyX5, rfl, by decide, in_X5, tyX5_ok, nmX5, rfl, rfl, (fun h => Bool.noConfusion h), Or.inl zw_354, Or.inr zw_355⟩
theorem zw_465 : Cond.methodLink "LowWater$Quick" 21 Lib.Math.max.name ∈ zT := zT_t (i := 465) (by decide +kernel) (by decide +kernel)
theorem ma_X5_21 : zMa "LowWater$Quick" 21 Lib.Math.max.name Lib.Math.max.code 2 := ⟨zw_465, zw_466, zw_19, zw_467⟩
theorem zw_766 : Cond.methodLink "LowWater$Quick" 27 yX7_add ∈ zT := zT_t (i := 766) (by decide +kernel) (by decide +kernel)
theorem k_X5_27 : Cond.methodLink "LowWater$Quick" 27 yX7_add ∈ zT ∧ Cond.instanceMethod yX7_add ∈ zT ∧ Cond.selects yX7_add.cls yX7_add yX7_add ∈ zT := ⟨zw_766, zw_198, zw_199⟩
theorem zw_780 : Cond.code yX6_bodyOfTells cX6_bodyOfTells 3 (some .int) ∈ zT := zT_t (i := 780) (by decide +kernel) (by decide +kernel)
theorem co_X6_bodyOfTells : zCo yX6_bodyOfTells cX6_bodyOfTells 3 (some .int) 2 := ⟨zw_780, zw_12, by decide +kernel, by decide +kernel, by decide +kernel⟩
theorem zw_726 : Cond.code yX3_bodyOfReads cX3_bodyOfReads 3 (some .int) ∈ zT := zT_t (i := 726) (by decide +kernel) (by decide +kernel)
theorem co_X3_bodyOfReads : zCo yX3_bodyOfReads cX3_bodyOfReads 3 (some .int) 2 := ⟨zw_726, zw_13, by decide +kernel, by decide +kernel, by decide +kernel⟩
theorem zw_770 : Cond.methodLink "LowWater$Quick" 37 ⟨"LowWater$Quick", "bodyOfReads", "(ILLowWater$Row;)I"⟩ ∈ zT := zT_t (i := 770) (by decide +kernel) (by decide +kernel)
theorem zw_771 : Cond.sameMethod "LowWater$Quick" "LowWater$Fast" "bodyOfReads" "(ILLowWater$Row;)I" ∈ zT := zT_t (i := 771) (by decide +kernel) (by decide +kernel)
theorem zw_725 : Cond.instanceMethod yX3_bodyOfReads ∈ zT := zT_t (i := 725) (by decide +kernel) (by decide +kernel)
theorem zw_773 : Cond.selects "LowWater$Quick" ⟨"LowWater$Quick", "bodyOfReads", "(ILLowWater$Row;)I"⟩ yX3_bodyOfReads ∈ zT := zT_t (i := 773) (by decide +kernel) (by decide +kernel)
theorem ku_X5_37_X5 : Cond.methodLink "LowWater$Quick" 37 ⟨"LowWater$Quick", "bodyOfReads", "(ILLowWater$Row;)I"⟩ ∈ zT ∧ Cond.sameMethod "LowWater$Quick" "LowWater$Fast" "bodyOfReads" "(ILLowWater$Row;)I" ∈ zT ∧ Cond.instanceMethod ⟨"LowWater$Fast", "bodyOfReads", "(ILLowWater$Row;)I"⟩ ∈ zT ∧ Cond.code ⟨"LowWater$Fast", "bodyOfReads", "(ILLowWater$Row;)I"⟩ cX3_bodyOfReads 3 (some .int) ∈ zT ∧ Cond.selects "LowWater$Quick" ⟨"LowWater$Quick", "bodyOfReads", "(ILLowWater$Row;)I"⟩ yX3_bodyOfReads ∈ zT ∧ Cond.instanceMethod yX3_bodyOfReads ∈ zT ∧ "LowWater$Fast" ≠ "java/lang/invoke/MethodHandle" ∧ "LowWater$Fast" ≠ "java/lang/invoke/VarHandle" ∧ (parseMethodDescriptor "(ILLowWater$Row;)I").map (fun d => d.parameters.length) = some 2 := ⟨zw_770, zw_771, zw_725, zw_726, zw_773, zw_725, by decide +kernel, by decide +kernel, by decide +kernel⟩
theorem zw_345 : Cond.methodLink "LowWater$Reader" 3 objectInit ∈ zT := zT_t (i := 345) (by decide +kernel) (by decide +kernel)
theorem k_X6_3 : Cond.methodLink "LowWater$Reader" 3 objectInit ∈ zT ∧ Cond.instanceMethod objectInit ∈ zT ∧ Cond.code objectInit ⟨#[0xb1]⟩ 1 none ∈ zT := ⟨zw_345, zw_28, zw_29⟩
theorem zw_346 : Cond.fieldLink "LowWater$Reader" 9 "LowWater$Reader" "number" "I" ∈ zT := zT_t (i := 346) (by decide +kernel) (by decide +kernel)
theorem f_X6_9 : zFL "LowWater$Reader" 9 6 0 true true .int := ⟨RX6, "LowWater$Reader", TX6, 2, tyX6, rfl, by decide, in_X6, tyX6_ok, nmX6, rfl, rfl, (fun _ => rfl), Or.inl zw_346, Or.inl rfl⟩
theorem zw_349 : Cond.fieldLink "LowWater$Reader" 15 "LowWater$Reader" "v" "I" ∈ zT := zT_t (i := 349) (by decide +kernel) (by decide +kernel)
theorem f_X6_15 : zFL "LowWater$Reader" 15 6 1 true true .int := ⟨RX6, "LowWater$Reader", TX6, 2, tyX6, rfl, by decide, in_X6, tyX6_ok, nmX6, rfl, rfl, (fun _ => rfl), Or.inl zw_349, Or.inl rfl⟩
theorem zw_456 : Cond.code yX0_hoursFor cX0_hoursFor 2 (some .int) ∈ zT := zT_t (i := 456) (by decide +kernel) (by decide +kernel)
theorem zw_17 : Cond.initialized "LowWater$Blind" ∈ zT := zT_t (i := 17) (by decide +kernel) (by decide +kernel)
theorem co_X0_hoursFor : zCo yX0_hoursFor cX0_hoursFor 2 (some .int) 1 := ⟨zw_456, zw_17, by decide +kernel, by decide +kernel, by decide +kernel⟩
theorem zw_530 : Cond.methodLink "LowWater$Reader" 18 yX6_hoursFor ∈ zT := zT_t (i := 530) (by decide +kernel) (by decide +kernel)
theorem zw_453 : Cond.sameMethod "LowWater$Reader" "LowWater$Reader" "hoursFor" "(I)I" ∈ zT := zT_t (i := 453) (by decide +kernel) (by decide +kernel)
theorem zw_451 : Cond.instanceMethod yX6_hoursFor ∈ zT := zT_t (i := 451) (by decide +kernel) (by decide +kernel)
theorem zw_470 : Cond.code yX6_hoursFor cX6_hoursFor 2 (some .int) ∈ zT := zT_t (i := 470) (by decide +kernel) (by decide +kernel)
theorem zw_454 : Cond.selects "LowWater$Blind" yX6_hoursFor yX0_hoursFor ∈ zT := zT_t (i := 454) (by decide +kernel) (by decide +kernel)
theorem zw_455 : Cond.instanceMethod yX0_hoursFor ∈ zT := zT_t (i := 455) (by decide +kernel) (by decide +kernel)
theorem ku_X6_18_X0 : Cond.methodLink "LowWater$Reader" 18 ⟨"LowWater$Reader", "hoursFor", "(I)I"⟩ ∈ zT ∧ Cond.sameMethod "LowWater$Reader" "LowWater$Reader" "hoursFor" "(I)I" ∈ zT ∧ Cond.instanceMethod ⟨"LowWater$Reader", "hoursFor", "(I)I"⟩ ∈ zT ∧ Cond.code ⟨"LowWater$Reader", "hoursFor", "(I)I"⟩ cX6_hoursFor 2 (some .int) ∈ zT ∧ Cond.selects "LowWater$Blind" ⟨"LowWater$Reader", "hoursFor", "(I)I"⟩ yX0_hoursFor ∈ zT ∧ Cond.instanceMethod yX0_hoursFor ∈ zT ∧ "LowWater$Reader" ≠ "java/lang/invoke/MethodHandle" ∧ "LowWater$Reader" ≠ "java/lang/invoke/VarHandle" ∧ (parseMethodDescriptor "(I)I").map (fun d => d.parameters.length) = some 1 := ⟨zw_530, zw_453, zw_451, zw_470, zw_454, zw_455, by decide +kernel, by decide +kernel, by decide +kernel⟩
theorem co_X6_hoursFor : zCo yX6_hoursFor cX6_hoursFor 2 (some .int) 1 := ⟨zw_470, zw_12, by decide +kernel, by decide +kernel, by decide +kernel⟩
theorem zw_457 : Cond.selects "LowWater$Diver" yX6_hoursFor yX6_hoursFor ∈ zT := zT_t (i := 457) (by decide +kernel) (by decide +kernel)
theorem ku_X6_18_X2 : Cond.methodLink "LowWater$Reader" 18 ⟨"LowWater$Reader", "hoursFor", "(I)I"⟩ ∈ zT ∧ Cond.sameMethod "LowWater$Reader" "LowWater$Reader" "hoursFor" "(I)I" ∈ zT ∧ Cond.instanceMethod ⟨"LowWater$Reader", "hoursFor", "(I)I"⟩ ∈ zT ∧ Cond.code ⟨"LowWater$Reader", "hoursFor", "(I)I"⟩ cX6_hoursFor 2 (some .int) ∈ zT ∧ Cond.selects "LowWater$Diver" ⟨"LowWater$Reader", "hoursFor", "(I)I"⟩ yX6_hoursFor ∈ zT ∧ Cond.instanceMethod yX6_hoursFor ∈ zT ∧ "LowWater$Reader" ≠ "java/lang/invoke/MethodHandle" ∧ "LowWater$Reader" ≠ "java/lang/invoke/VarHandle" ∧ (parseMethodDescriptor "(I)I").map (fun d => d.parameters.length) = some 1 := ⟨zw_530, zw_453, zw_451, zw_470, zw_457, zw_451, by decide +kernel, by decide +kernel, by decide +kernel⟩
theorem zw_458 : Cond.selects "LowWater$Fast" yX6_hoursFor yX3_hoursFor ∈ zT := zT_t (i := 458) (by decide +kernel) (by decide +kernel)
theorem ku_X6_18_X3 : Cond.methodLink "LowWater$Reader" 18 ⟨"LowWater$Reader", "hoursFor", "(I)I"⟩ ∈ zT ∧ Cond.sameMethod "LowWater$Reader" "LowWater$Reader" "hoursFor" "(I)I" ∈ zT ∧ Cond.instanceMethod ⟨"LowWater$Reader", "hoursFor", "(I)I"⟩ ∈ zT ∧ Cond.code ⟨"LowWater$Reader", "hoursFor", "(I)I"⟩ cX6_hoursFor 2 (some .int) ∈ zT ∧ Cond.selects "LowWater$Fast" ⟨"LowWater$Reader", "hoursFor", "(I)I"⟩ yX3_hoursFor ∈ zT ∧ Cond.instanceMethod yX3_hoursFor ∈ zT ∧ "LowWater$Reader" ≠ "java/lang/invoke/MethodHandle" ∧ "LowWater$Reader" ≠ "java/lang/invoke/VarHandle" ∧ (parseMethodDescriptor "(I)I").map (fun d => d.parameters.length) = some 1 := ⟨zw_530, zw_453, zw_451, zw_470, zw_458, zw_459, by decide +kernel, by decide +kernel, by decide +kernel⟩
theorem zw_463 : Cond.code yX5_hoursFor cX5_hoursFor 3 (some .int) ∈ zT := zT_t (i := 463) (by decide +kernel) (by decide +kernel)
theorem zw_16 : Cond.initialized "LowWater$Quick" ∈ zT := zT_t (i := 16) (by decide +kernel) (by decide +kernel)
theorem co_X5_hoursFor : zCo yX5_hoursFor cX5_hoursFor 3 (some .int) 1 := ⟨zw_463, zw_16, by decide +kernel, by decide +kernel, by decide +kernel⟩
theorem zw_461 : Cond.selects "LowWater$Quick" yX6_hoursFor yX5_hoursFor ∈ zT := zT_t (i := 461) (by decide +kernel) (by decide +kernel)
theorem zw_462 : Cond.instanceMethod yX5_hoursFor ∈ zT := zT_t (i := 462) (by decide +kernel) (by decide +kernel)
theorem ku_X6_18_X5 : Cond.methodLink "LowWater$Reader" 18 ⟨"LowWater$Reader", "hoursFor", "(I)I"⟩ ∈ zT ∧ Cond.sameMethod "LowWater$Reader" "LowWater$Reader" "hoursFor" "(I)I" ∈ zT ∧ Cond.instanceMethod ⟨"LowWater$Reader", "hoursFor", "(I)I"⟩ ∈ zT ∧ Cond.code ⟨"LowWater$Reader", "hoursFor", "(I)I"⟩ cX6_hoursFor 2 (some .int) ∈ zT ∧ Cond.selects "LowWater$Quick" ⟨"LowWater$Reader", "hoursFor", "(I)I"⟩ yX5_hoursFor ∈ zT ∧ Cond.instanceMethod yX5_hoursFor ∈ zT ∧ "LowWater$Reader" ≠ "java/lang/invoke/MethodHandle" ∧ "LowWater$Reader" ≠ "java/lang/invoke/VarHandle" ∧ (parseMethodDescriptor "(I)I").map (fun d => d.parameters.length) = some 1 := ⟨zw_530, zw_453, zw_451, zw_470, zw_461, zw_462, by decide +kernel, by decide +kernel, by decide +kernel⟩
theorem zw_452 : Cond.selects "LowWater$Reader" yX6_hoursFor yX6_hoursFor ∈ zT := zT_t (i := 452) (by decide +kernel) (by decide +kernel)
theorem k_X6_18_X6 : Cond.methodLink "LowWater$Reader" 18 yX6_hoursFor ∈ zT ∧ Cond.instanceMethod yX6_hoursFor ∈ zT ∧ Cond.selects yX6_hoursFor.cls yX6_hoursFor yX6_hoursFor ∈ zT := ⟨zw_530, zw_451, zw_452⟩
theorem ku_X6_18_X6 : Cond.methodLink "LowWater$Reader" 18 ⟨"LowWater$Reader", "hoursFor", "(I)I"⟩ ∈ zT ∧ Cond.sameMethod "LowWater$Reader" "LowWater$Reader" "hoursFor" "(I)I" ∈ zT ∧ Cond.instanceMethod ⟨"LowWater$Reader", "hoursFor", "(I)I"⟩ ∈ zT ∧ Cond.code ⟨"LowWater$Reader", "hoursFor", "(I)I"⟩ cX6_hoursFor 2 (some .int) ∈ zT ∧ Cond.selects "LowWater$Reader" ⟨"LowWater$Reader", "hoursFor", "(I)I"⟩ yX6_hoursFor ∈ zT ∧ Cond.instanceMethod yX6_hoursFor ∈ zT ∧ "LowWater$Reader" ≠ "java/lang/invoke/MethodHandle" ∧ "LowWater$Reader" ≠ "java/lang/invoke/VarHandle" ∧ (parseMethodDescriptor "(I)I").map (fun d => d.parameters.length) = some 1 := ⟨zw_530, zw_453, zw_451, zw_470, zw_452, zw_451, by decide +kernel, by decide +kernel, by decide +kernel⟩
theorem zw_468 : Cond.selects "LowWater$Rowed" yX6_hoursFor yX6_hoursFor ∈ zT := zT_t (i := 468) (by decide +kernel) (by decide +kernel)
theorem ku_X6_18_X8 : Cond.methodLink "LowWater$Reader" 18 ⟨"LowWater$Reader", "hoursFor", "(I)I"⟩ ∈ zT ∧ Cond.sameMethod "LowWater$Reader" "LowWater$Reader" "hoursFor" "(I)I" ∈ zT ∧ Cond.instanceMethod ⟨"LowWater$Reader", "hoursFor", "(I)I"⟩ ∈ zT ∧ Cond.code ⟨"LowWater$Reader", "hoursFor", "(I)I"⟩ cX6_hoursFor 2 (some .int) ∈ zT ∧ Cond.selects "LowWater$Rowed" ⟨"LowWater$Reader", "hoursFor", "(I)I"⟩ yX6_hoursFor ∈ zT ∧ Cond.instanceMethod yX6_hoursFor ∈ zT ∧ "LowWater$Reader" ≠ "java/lang/invoke/MethodHandle" ∧ "LowWater$Reader" ≠ "java/lang/invoke/VarHandle" ∧ (parseMethodDescriptor "(I)I").map (fun d => d.parameters.length) = some 1 := ⟨zw_530, zw_453, zw_451, zw_470, zw_468, zw_451, by decide +kernel, by decide +kernel, by decide +kernel⟩
theorem zw_469 : Cond.selects "LowWater$Waiting" yX6_hoursFor yX6_hoursFor ∈ zT := zT_t (i := 469) (by decide +kernel) (by decide +kernel)
theorem ku_X6_18_X10 : Cond.methodLink "LowWater$Reader" 18 ⟨"LowWater$Reader", "hoursFor", "(I)I"⟩ ∈ zT ∧ Cond.sameMethod "LowWater$Reader" "LowWater$Reader" "hoursFor" "(I)I" ∈ zT ∧ Cond.instanceMethod ⟨"LowWater$Reader", "hoursFor", "(I)I"⟩ ∈ zT ∧ Cond.code ⟨"LowWater$Reader", "hoursFor", "(I)I"⟩ cX6_hoursFor 2 (some .int) ∈ zT ∧ Cond.selects "LowWater$Waiting" ⟨"LowWater$Reader", "hoursFor", "(I)I"⟩ yX6_hoursFor ∈ zT ∧ Cond.instanceMethod yX6_hoursFor ∈ zT ∧ "LowWater$Reader" ≠ "java/lang/invoke/MethodHandle" ∧ "LowWater$Reader" ≠ "java/lang/invoke/VarHandle" ∧ (parseMethodDescriptor "(I)I").map (fun d => d.parameters.length) = some 1 := ⟨zw_530, zw_453, zw_451, zw_470, zw_469, zw_451, by decide +kernel, by decide +kernel, by decide +kernel⟩
theorem zw_489 : Cond.code yX1_levelAt cX1_levelAt 3 (some .int) ∈ zT := zT_t (i := 489) (by decide +kernel) (by decide +kernel)
theorem co_X1_levelAt : zCo yX1_levelAt cX1_levelAt 3 (some .int) 1 := ⟨zw_489, zw_3, by decide +kernel, by decide +kernel, by decide +kernel⟩
theorem zw_531 : Cond.methodLink "LowWater$Reader" 22 yX1_levelAt ∈ zT := zT_t (i := 531) (by decide +kernel) (by decide +kernel)
theorem zw_487 : Cond.instanceMethod yX1_levelAt ∈ zT := zT_t (i := 487) (by decide +kernel) (by decide +kernel)
theorem zw_488 : Cond.selects "LowWater$Cave" yX1_levelAt yX1_levelAt ∈ zT := zT_t (i := 488) (by decide +kernel) (by decide +kernel)
theorem k_X6_22 : Cond.methodLink "LowWater$Reader" 22 yX1_levelAt ∈ zT ∧ Cond.instanceMethod yX1_levelAt ∈ zT ∧ Cond.selects yX1_levelAt.cls yX1_levelAt yX1_levelAt ∈ zT := ⟨zw_531, zw_487, zw_488⟩
theorem zw_538 : Cond.code yX2_reaches cX2_reaches 3 (some .boolean) ∈ zT := zT_t (i := 538) (by decide +kernel) (by decide +kernel)
theorem co_X2_reaches : zCo yX2_reaches cX2_reaches 3 (some .boolean) 2 := ⟨zw_538, zw_14, by decide +kernel, by decide +kernel, by decide +kernel⟩
theorem zw_532 : Cond.methodLink "LowWater$Reader" 27 yX6_reaches ∈ zT := zT_t (i := 532) (by decide +kernel) (by decide +kernel)
theorem zw_535 : Cond.sameMethod "LowWater$Reader" "LowWater$Reader" "reaches" "(II)Z" ∈ zT := zT_t (i := 535) (by decide +kernel) (by decide +kernel)
theorem zw_533 : Cond.instanceMethod yX6_reaches ∈ zT := zT_t (i := 533) (by decide +kernel) (by decide +kernel)
theorem zw_544 : Cond.code yX6_reaches cX6_reaches 3 (some .boolean) ∈ zT := zT_t (i := 544) (by decide +kernel) (by decide +kernel)
theorem zw_536 : Cond.selects "LowWater$Blind" yX6_reaches yX2_reaches ∈ zT := zT_t (i := 536) (by decide +kernel) (by decide +kernel)
theorem zw_537 : Cond.instanceMethod yX2_reaches ∈ zT := zT_t (i := 537) (by decide +kernel) (by decide +kernel)
theorem ku_X6_27_X0 : Cond.methodLink "LowWater$Reader" 27 ⟨"LowWater$Reader", "reaches", "(II)Z"⟩ ∈ zT ∧ Cond.sameMethod "LowWater$Reader" "LowWater$Reader" "reaches" "(II)Z" ∈ zT ∧ Cond.instanceMethod ⟨"LowWater$Reader", "reaches", "(II)Z"⟩ ∈ zT ∧ Cond.code ⟨"LowWater$Reader", "reaches", "(II)Z"⟩ cX6_reaches 3 (some .boolean) ∈ zT ∧ Cond.selects "LowWater$Blind" ⟨"LowWater$Reader", "reaches", "(II)Z"⟩ yX2_reaches ∈ zT ∧ Cond.instanceMethod yX2_reaches ∈ zT ∧ "LowWater$Reader" ≠ "java/lang/invoke/MethodHandle" ∧ "LowWater$Reader" ≠ "java/lang/invoke/VarHandle" ∧ (parseMethodDescriptor "(II)Z").map (fun d => d.parameters.length) = some 2 := ⟨zw_532, zw_535, zw_533, zw_544, zw_536, zw_537, by decide +kernel, by decide +kernel, by decide +kernel⟩
theorem zw_539 : Cond.selects "LowWater$Diver" yX6_reaches yX2_reaches ∈ zT := zT_t (i := 539) (by decide +kernel) (by decide +kernel)
theorem ku_X6_27_X2 : Cond.methodLink "LowWater$Reader" 27 ⟨"LowWater$Reader", "reaches", "(II)Z"⟩ ∈ zT ∧ Cond.sameMethod "LowWater$Reader" "LowWater$Reader" "reaches" "(II)Z" ∈ zT ∧ Cond.instanceMethod ⟨"LowWater$Reader", "reaches", "(II)Z"⟩ ∈ zT ∧ Cond.code ⟨"LowWater$Reader", "reaches", "(II)Z"⟩ cX6_reaches 3 (some .boolean) ∈ zT ∧ Cond.selects "LowWater$Diver" ⟨"LowWater$Reader", "reaches", "(II)Z"⟩ yX2_reaches ∈ zT ∧ Cond.instanceMethod yX2_reaches ∈ zT ∧ "LowWater$Reader" ≠ "java/lang/invoke/MethodHandle" ∧ "LowWater$Reader" ≠ "java/lang/invoke/VarHandle" ∧ (parseMethodDescriptor "(II)Z").map (fun d => d.parameters.length) = some 2 := ⟨zw_532, zw_535, zw_533, zw_544, zw_539, zw_537, by decide +kernel, by decide +kernel, by decide +kernel⟩
theorem co_X6_reaches : zCo yX6_reaches cX6_reaches 3 (some .boolean) 2 := ⟨zw_544, zw_12, by decide +kernel, by decide +kernel, by decide +kernel⟩
theorem zw_540 : Cond.selects "LowWater$Fast" yX6_reaches yX6_reaches ∈ zT := zT_t (i := 540) (by decide +kernel) (by decide +kernel)
theorem ku_X6_27_X3 : Cond.methodLink "LowWater$Reader" 27 ⟨"LowWater$Reader", "reaches", "(II)Z"⟩ ∈ zT ∧ Cond.sameMethod "LowWater$Reader" "LowWater$Reader" "reaches" "(II)Z" ∈ zT ∧ Cond.instanceMethod ⟨"LowWater$Reader", "reaches", "(II)Z"⟩ ∈ zT ∧ Cond.code ⟨"LowWater$Reader", "reaches", "(II)Z"⟩ cX6_reaches 3 (some .boolean) ∈ zT ∧ Cond.selects "LowWater$Fast" ⟨"LowWater$Reader", "reaches", "(II)Z"⟩ yX6_reaches ∈ zT ∧ Cond.instanceMethod yX6_reaches ∈ zT ∧ "LowWater$Reader" ≠ "java/lang/invoke/MethodHandle" ∧ "LowWater$Reader" ≠ "java/lang/invoke/VarHandle" ∧ (parseMethodDescriptor "(II)Z").map (fun d => d.parameters.length) = some 2 := ⟨zw_532, zw_535, zw_533, zw_544, zw_540, zw_533, by decide +kernel, by decide +kernel, by decide +kernel⟩
theorem zw_541 : Cond.selects "LowWater$Quick" yX6_reaches yX6_reaches ∈ zT := zT_t (i := 541) (by decide +kernel) (by decide +kernel)
theorem ku_X6_27_X5 : Cond.methodLink "LowWater$Reader" 27 ⟨"LowWater$Reader", "reaches", "(II)Z"⟩ ∈ zT ∧ Cond.sameMethod "LowWater$Reader" "LowWater$Reader" "reaches" "(II)Z" ∈ zT ∧ Cond.instanceMethod ⟨"LowWater$Reader", "reaches", "(II)Z"⟩ ∈ zT ∧ Cond.code ⟨"LowWater$Reader", "reaches", "(II)Z"⟩ cX6_reaches 3 (some .boolean) ∈ zT ∧ Cond.selects "LowWater$Quick" ⟨"LowWater$Reader", "reaches", "(II)Z"⟩ yX6_reaches ∈ zT ∧ Cond.instanceMethod yX6_reaches ∈ zT ∧ "LowWater$Reader" ≠ "java/lang/invoke/MethodHandle" ∧ "LowWater$Reader" ≠ "java/lang/invoke/VarHandle" ∧ (parseMethodDescriptor "(II)Z").map (fun d => d.parameters.length) = some 2 := ⟨zw_532, zw_535, zw_533, zw_544, zw_541, zw_533, by decide +kernel, by decide +kernel, by decide +kernel⟩
theorem zw_534 : Cond.selects "LowWater$Reader" yX6_reaches yX6_reaches ∈ zT := zT_t (i := 534) (by decide +kernel) (by decide +kernel)
theorem k_X6_27_X6 : Cond.methodLink "LowWater$Reader" 27 yX6_reaches ∈ zT ∧ Cond.instanceMethod yX6_reaches ∈ zT ∧ Cond.selects yX6_reaches.cls yX6_reaches yX6_reaches ∈ zT := ⟨zw_532, zw_533, zw_534⟩
theorem ku_X6_27_X6 : Cond.methodLink "LowWater$Reader" 27 ⟨"LowWater$Reader", "reaches", "(II)Z"⟩ ∈ zT ∧ Cond.sameMethod "LowWater$Reader" "LowWater$Reader" "reaches" "(II)Z" ∈ zT ∧ Cond.instanceMethod ⟨"LowWater$Reader", "reaches", "(II)Z"⟩ ∈ zT ∧ Cond.code ⟨"LowWater$Reader", "reaches", "(II)Z"⟩ cX6_reaches 3 (some .boolean) ∈ zT ∧ Cond.selects "LowWater$Reader" ⟨"LowWater$Reader", "reaches", "(II)Z"⟩ yX6_reaches ∈ zT ∧ Cond.instanceMethod yX6_reaches ∈ zT ∧ "LowWater$Reader" ≠ "java/lang/invoke/MethodHandle" ∧ "LowWater$Reader" ≠ "java/lang/invoke/VarHandle" ∧ (parseMethodDescriptor "(II)Z").map (fun d => d.parameters.length) = some 2 := ⟨zw_532, zw_535, zw_533, zw_544, zw_534, zw_533, by decide +kernel, by decide +kernel, by decide +kernel⟩
theorem zw_542 : Cond.selects "LowWater$Rowed" yX6_reaches yX6_reaches ∈ zT := zT_t (i := 542) (by decide +kernel) (by decide +kernel)
theorem ku_X6_27_X8 : Cond.methodLink "LowWater$Reader" 27 ⟨"LowWater$Reader", "reaches", "(II)Z"⟩ ∈ zT ∧ Cond.sameMethod "LowWater$Reader" "LowWater$Reader" "reaches" "(II)Z" ∈ zT ∧ Cond.instanceMethod ⟨"LowWater$Reader", "reaches", "(II)Z"⟩ ∈ zT ∧ Cond.code ⟨"LowWater$Reader", "reaches", "(II)Z"⟩ cX6_reaches 3 (some .boolean) ∈ zT ∧ Cond.selects "LowWater$Rowed" ⟨"LowWater$Reader", "reaches", "(II)Z"⟩ yX6_reaches ∈ zT ∧ Cond.instanceMethod yX6_reaches ∈ zT ∧ "LowWater$Reader" ≠ "java/lang/invoke/MethodHandle" ∧ "LowWater$Reader" ≠ "java/lang/invoke/VarHandle" ∧ (parseMethodDescriptor "(II)Z").map (fun d => d.parameters.length) = some 2 := ⟨zw_532, zw_535, zw_533, zw_544, zw_542, zw_533, by decide +kernel, by decide +kernel, by decide +kernel⟩
theorem zw_543 : Cond.selects "LowWater$Waiting" yX6_reaches yX6_reaches ∈ zT := zT_t (i := 543) (by decide +kernel) (by decide +kernel)
theorem ku_X6_27_X10 : Cond.methodLink "LowWater$Reader" 27 ⟨"LowWater$Reader", "reaches", "(II)Z"⟩ ∈ zT ∧ Cond.sameMethod "LowWater$Reader" "LowWater$Reader" "reaches" "(II)Z" ∈ zT ∧ Cond.instanceMethod ⟨"LowWater$Reader", "reaches", "(II)Z"⟩ ∈ zT ∧ Cond.code ⟨"LowWater$Reader", "reaches", "(II)Z"⟩ cX6_reaches 3 (some .boolean) ∈ zT ∧ Cond.selects "LowWater$Waiting" ⟨"LowWater$Reader", "reaches", "(II)Z"⟩ yX6_reaches ∈ zT ∧ Cond.instanceMethod yX6_reaches ∈ zT ∧ "LowWater$Reader" ≠ "java/lang/invoke/MethodHandle" ∧ "LowWater$Reader" ≠ "java/lang/invoke/VarHandle" ∧ (parseMethodDescriptor "(II)Z").map (fun d => d.parameters.length) = some 2 := ⟨zw_532, zw_535, zw_533, zw_544, zw_543, zw_533, by decide +kernel, by decide +kernel, by decide +kernel⟩
theorem zw_563 : Cond.code yX6_mayBegin cX6_mayBegin 3 (some .boolean) ∈ zT := zT_t (i := 563) (by decide +kernel) (by decide +kernel)
theorem co_X6_mayBegin : zCo yX6_mayBegin cX6_mayBegin 3 (some .boolean) 2 := ⟨zw_563, zw_12, by decide +kernel, by decide +kernel, by decide +kernel⟩
theorem zw_545 : Cond.methodLink "LowWater$Reader" 31 yX6_mayBegin ∈ zT := zT_t (i := 545) (by decide +kernel) (by decide +kernel)
theorem zw_548 : Cond.sameMethod "LowWater$Reader" "LowWater$Reader" "mayBegin" "(LLowWater$Cave;I)Z" ∈ zT := zT_t (i := 548) (by decide +kernel) (by decide +kernel)
theorem zw_546 : Cond.instanceMethod yX6_mayBegin ∈ zT := zT_t (i := 546) (by decide +kernel) (by decide +kernel)
theorem zw_549 : Cond.selects "LowWater$Blind" yX6_mayBegin yX6_mayBegin ∈ zT := zT_t (i := 549) (by decide +kernel) (by decide +kernel)
theorem ku_X6_31_X0 : Cond.methodLink "LowWater$Reader" 31 ⟨"LowWater$Reader", "mayBegin", "(LLowWater$Cave;I)Z"⟩ ∈ zT ∧ Cond.sameMethod "LowWater$Reader" "LowWater$Reader" "mayBegin" "(LLowWater$Cave;I)Z" ∈ zT ∧ Cond.instanceMethod ⟨"LowWater$Reader", "mayBegin", "(LLowWater$Cave;I)Z"⟩ ∈ zT ∧ Cond.code ⟨"LowWater$Reader", "mayBegin", "(LLowWater$Cave;I)Z"⟩ cX6_mayBegin 3 (some .boolean) ∈ zT ∧ Cond.selects "LowWater$Blind" ⟨"LowWater$Reader", "mayBegin", "(LLowWater$Cave;I)Z"⟩ yX6_mayBegin ∈ zT ∧ Cond.instanceMethod yX6_mayBegin ∈ zT ∧ "LowWater$Reader" ≠ "java/lang/invoke/MethodHandle" ∧ "LowWater$Reader" ≠ "java/lang/invoke/VarHandle" ∧ (parseMethodDescriptor "(LLowWater$Cave;I)Z").map (fun d => d.parameters.length) = some 2 := ⟨zw_545, zw_548, zw_546, zw_563, zw_549, zw_546, by decide +kernel, by decide +kernel, by decide +kernel⟩
theorem zw_550 : Cond.selects "LowWater$Diver" yX6_mayBegin yX6_mayBegin ∈ zT := zT_t (i := 550) (by decide +kernel) (by decide +kernel)
theorem ku_X6_31_X2 : Cond.methodLink "LowWater$Reader" 31 ⟨"LowWater$Reader", "mayBegin", "(LLowWater$Cave;I)Z"⟩ ∈ zT ∧ Cond.sameMethod "LowWater$Reader" "LowWater$Reader" "mayBegin" "(LLowWater$Cave;I)Z" ∈ zT ∧ Cond.instanceMethod ⟨"LowWater$Reader", "mayBegin", "(LLowWater$Cave;I)Z"⟩ ∈ zT ∧ Cond.code ⟨"LowWater$Reader", "mayBegin", "(LLowWater$Cave;I)Z"⟩ cX6_mayBegin 3 (some .boolean) ∈ zT ∧ Cond.selects "LowWater$Diver" ⟨"LowWater$Reader", "mayBegin", "(LLowWater$Cave;I)Z"⟩ yX6_mayBegin ∈ zT ∧ Cond.instanceMethod yX6_mayBegin ∈ zT ∧ "LowWater$Reader" ≠ "java/lang/invoke/MethodHandle" ∧ "LowWater$Reader" ≠ "java/lang/invoke/VarHandle" ∧ (parseMethodDescriptor "(LLowWater$Cave;I)Z").map (fun d => d.parameters.length) = some 2 := ⟨zw_545, zw_548, zw_546, zw_563, zw_550, zw_546, by decide +kernel, by decide +kernel, by decide +kernel⟩
theorem zw_551 : Cond.selects "LowWater$Fast" yX6_mayBegin yX6_mayBegin ∈ zT := zT_t (i := 551) (by decide +kernel) (by decide +kernel)
theorem ku_X6_31_X3 : Cond.methodLink "LowWater$Reader" 31 ⟨"LowWater$Reader", "mayBegin", "(LLowWater$Cave;I)Z"⟩ ∈ zT ∧ Cond.sameMethod "LowWater$Reader" "LowWater$Reader" "mayBegin" "(LLowWater$Cave;I)Z" ∈ zT ∧ Cond.instanceMethod ⟨"LowWater$Reader", "mayBegin", "(LLowWater$Cave;I)Z"⟩ ∈ zT ∧ Cond.code ⟨"LowWater$Reader", "mayBegin", "(LLowWater$Cave;I)Z"⟩ cX6_mayBegin 3 (some .boolean) ∈ zT ∧ Cond.selects "LowWater$Fast" ⟨"LowWater$Reader", "mayBegin", "(LLowWater$Cave;I)Z"⟩ yX6_mayBegin ∈ zT ∧ Cond.instanceMethod yX6_mayBegin ∈ zT ∧ "LowWater$Reader" ≠ "java/lang/invoke/MethodHandle" ∧ "LowWater$Reader" ≠ "java/lang/invoke/VarHandle" ∧ (parseMethodDescriptor "(LLowWater$Cave;I)Z").map (fun d => d.parameters.length) = some 2 := ⟨zw_545, zw_548, zw_546, zw_563, zw_551, zw_546, by decide +kernel, by decide +kernel, by decide +kernel⟩
theorem zw_552 : Cond.selects "LowWater$Quick" yX6_mayBegin yX6_mayBegin ∈ zT := zT_t (i := 552) (by decide +kernel) (by decide +kernel)
theorem ku_X6_31_X5 : Cond.methodLink "LowWater$Reader" 31 ⟨"LowWater$Reader", "mayBegin", "(LLowWater$Cave;I)Z"⟩ ∈ zT ∧ Cond.sameMethod "LowWater$Reader" "LowWater$Reader" "mayBegin" "(LLowWater$Cave;I)Z" ∈ zT ∧ Cond.instanceMethod ⟨"LowWater$Reader", "mayBegin", "(LLowWater$Cave;I)Z"⟩ ∈ zT ∧ Cond.code ⟨"LowWater$Reader", "mayBegin", "(LLowWater$Cave;I)Z"⟩ cX6_mayBegin 3 (some .boolean) ∈ zT ∧ Cond.selects "LowWater$Quick" ⟨"LowWater$Reader", "mayBegin", "(LLowWater$Cave;I)Z"⟩ yX6_mayBegin ∈ zT ∧ Cond.instanceMethod yX6_mayBegin ∈ zT ∧ "LowWater$Reader" ≠ "java/lang/invoke/MethodHandle" ∧ "LowWater$Reader" ≠ "java/lang/invoke/VarHandle" ∧ (parseMethodDescriptor "(LLowWater$Cave;I)Z").map (fun d => d.parameters.length) = some 2 := ⟨zw_545, zw_548, zw_546, zw_563, zw_552, zw_546, by decide +kernel, by decide +kernel, by decide +kernel⟩
theorem zw_547 : Cond.selects "LowWater$Reader" yX6_mayBegin yX6_mayBegin ∈ zT := zT_t (i := 547) (by decide +kernel) (by decide +kernel)
theorem k_X6_31_X6 : Cond.methodLink "LowWater$Reader" 31 yX6_mayBegin ∈ zT ∧ Cond.instanceMethod yX6_mayBegin ∈ zT ∧ Cond.selects yX6_mayBegin.cls yX6_mayBegin yX6_mayBegin ∈ zT := ⟨zw_545, zw_546, zw_547⟩
theorem ku_X6_31_X6 : Cond.methodLink "LowWater$Reader" 31 ⟨"LowWater$Reader", "mayBegin", "(LLowWater$Cave;I)Z"⟩ ∈ zT ∧ Cond.sameMethod "LowWater$Reader" "LowWater$Reader" "mayBegin" "(LLowWater$Cave;I)Z" ∈ zT ∧ Cond.instanceMethod ⟨"LowWater$Reader", "mayBegin", "(LLowWater$Cave;I)Z"⟩ ∈ zT ∧ Cond.code ⟨"LowWater$Reader", "mayBegin", "(LLowWater$Cave;I)Z"⟩ cX6_mayBegin 3 (some .boolean) ∈ zT ∧ Cond.selects "LowWater$Reader" ⟨"LowWater$Reader", "mayBegin", "(LLowWater$Cave;I)Z"⟩ yX6_mayBegin ∈ zT ∧ Cond.instanceMethod yX6_mayBegin ∈ zT ∧ "LowWater$Reader" ≠ "java/lang/invoke/MethodHandle" ∧ "LowWater$Reader" ≠ "java/lang/invoke/VarHandle" ∧ (parseMethodDescriptor "(LLowWater$Cave;I)Z").map (fun d => d.parameters.length) = some 2 := ⟨zw_545, zw_548, zw_546, zw_563, zw_547, zw_546, by decide +kernel, by decide +kernel, by decide +kernel⟩
theorem zw_555 : Cond.code yX8_mayBegin cX8_mayBegin 3 (some .boolean) ∈ zT := zT_t (i := 555) (by decide +kernel) (by decide +kernel)
theorem zw_15 : Cond.initialized "LowWater$Rowed" ∈ zT := zT_t (i := 15) (by decide +kernel) (by decide +kernel)
theorem co_X8_mayBegin : zCo yX8_mayBegin cX8_mayBegin 3 (some .boolean) 2 := ⟨zw_555, zw_15, by decide +kernel, by decide +kernel, by decide +kernel⟩
theorem zw_553 : Cond.selects "LowWater$Rowed" yX6_mayBegin yX8_mayBegin ∈ zT := zT_t (i := 553) (by decide +kernel) (by decide +kernel)
theorem zw_554 : Cond.instanceMethod yX8_mayBegin ∈ zT := zT_t (i := 554) (by decide +kernel) (by decide +kernel)
theorem ku_X6_31_X8 : Cond.methodLink "LowWater$Reader" 31 ⟨"LowWater$Reader", "mayBegin", "(LLowWater$Cave;I)Z"⟩ ∈ zT ∧ Cond.sameMethod "LowWater$Reader" "LowWater$Reader" "mayBegin" "(LLowWater$Cave;I)Z" ∈ zT ∧ Cond.instanceMethod ⟨"LowWater$Reader", "mayBegin", "(LLowWater$Cave;I)Z"⟩ ∈ zT ∧ Cond.code ⟨"LowWater$Reader", "mayBegin", "(LLowWater$Cave;I)Z"⟩ cX6_mayBegin 3 (some .boolean) ∈ zT ∧ Cond.selects "LowWater$Rowed" ⟨"LowWater$Reader", "mayBegin", "(LLowWater$Cave;I)Z"⟩ yX8_mayBegin ∈ zT ∧ Cond.instanceMethod yX8_mayBegin ∈ zT ∧ "LowWater$Reader" ≠ "java/lang/invoke/MethodHandle" ∧ "LowWater$Reader" ≠ "java/lang/invoke/VarHandle" ∧ (parseMethodDescriptor "(LLowWater$Cave;I)Z").map (fun d => d.parameters.length) = some 2 := ⟨zw_545, zw_548, zw_546, zw_563, zw_553, zw_554, by decide +kernel, by decide +kernel, by decide +kernel⟩
theorem zw_560 : Cond.code yX10_mayBegin cX10_mayBegin 4 (some .boolean) ∈ zT := zT_t (i := 560) (by decide +kernel) (by decide +kernel)
theorem zw_18 : Cond.initialized "LowWater$Waiting" ∈ zT := zT_t (i := 18) (by decide +kernel) (by decide +kernel)
theorem co_X10_mayBegin : zCo yX10_mayBegin cX10_mayBegin 4 (some .boolean) 2 := ⟨zw_560, zw_18, by decide +kernel, by decide +kernel, by decide +kernel⟩
theorem zw_558 : Cond.selects "LowWater$Waiting" yX6_mayBegin yX10_mayBegin ∈ zT := zT_t (i := 558) (by decide +kernel) (by decide +kernel)
theorem zw_559 : Cond.instanceMethod yX10_mayBegin ∈ zT := zT_t (i := 559) (by decide +kernel) (by decide +kernel)
theorem ku_X6_31_X10 : Cond.methodLink "LowWater$Reader" 31 ⟨"LowWater$Reader", "mayBegin", "(LLowWater$Cave;I)Z"⟩ ∈ zT ∧ Cond.sameMethod "LowWater$Reader" "LowWater$Reader" "mayBegin" "(LLowWater$Cave;I)Z" ∈ zT ∧ Cond.instanceMethod ⟨"LowWater$Reader", "mayBegin", "(LLowWater$Cave;I)Z"⟩ ∈ zT ∧ Cond.code ⟨"LowWater$Reader", "mayBegin", "(LLowWater$Cave;I)Z"⟩ cX6_mayBegin 3 (some .boolean) ∈ zT ∧ Cond.selects "LowWater$Waiting" ⟨"LowWater$Reader", "mayBegin", "(LLowWater$Cave;I)Z"⟩ yX10_mayBegin ∈ zT ∧ Cond.instanceMethod yX10_mayBegin ∈ zT ∧ "LowWater$Reader" ≠ "java/lang/invoke/MethodHandle" ∧ "LowWater$Reader" ≠ "java/lang/invoke/VarHandle" ∧ (parseMethodDescriptor "(LLowWater$Cave;I)Z").map (fun d => d.parameters.length) = some 2 := ⟨zw_545, zw_548, zw_546, zw_563, zw_558, zw_559, by decide +kernel, by decide +kernel, by decide +kernel⟩
theorem zw_733 : Cond.methodLink "LowWater$Reader" 35 yX7_add ∈ zT := zT_t (i := 733) (by decide +kernel) (by decide +kernel)
theorem k_X6_35 : Cond.methodLink "LowWater$Reader" 35 yX7_add ∈ zT ∧ Cond.instanceMethod yX7_add ∈ zT ∧ Cond.selects yX7_add.cls yX7_add yX7_add ∈ zT := ⟨zw_733, zw_198, zw_199⟩
theorem zw_718 : Cond.code yX0_bodyOfReads cX0_bodyOfReads 3 (some .int) ∈ zT := zT_t (i := 718) (by decide +kernel) (by decide +kernel)
theorem co_X0_bodyOfReads : zCo yX0_bodyOfReads cX0_bodyOfReads 3 (some .int) 2 := ⟨zw_718, zw_17, by decide +kernel, by decide +kernel, by decide +kernel⟩
theorem zw_755 : Cond.methodLink "LowWater$Reader" 41 yX6_bodyOfReads ∈ zT := zT_t (i := 755) (by decide +kernel) (by decide +kernel)
theorem zw_716 : Cond.selects "LowWater$Blind" yX6_bodyOfReads yX0_bodyOfReads ∈ zT := zT_t (i := 716) (by decide +kernel) (by decide +kernel)
theorem zw_717 : Cond.instanceMethod yX0_bodyOfReads ∈ zT := zT_t (i := 717) (by decide +kernel) (by decide +kernel)
theorem ku_X6_41_X0 : Cond.methodLink "LowWater$Reader" 41 ⟨"LowWater$Reader", "bodyOfReads", "(ILLowWater$Row;)I"⟩ ∈ zT ∧ Cond.sameMethod "LowWater$Reader" "LowWater$Reader" "bodyOfReads" "(ILLowWater$Row;)I" ∈ zT ∧ Cond.instanceMethod ⟨"LowWater$Reader", "bodyOfReads", "(ILLowWater$Row;)I"⟩ ∈ zT ∧ Cond.code ⟨"LowWater$Reader", "bodyOfReads", "(ILLowWater$Row;)I"⟩ cX6_bodyOfReads 3 (some .int) ∈ zT ∧ Cond.selects "LowWater$Blind" ⟨"LowWater$Reader", "bodyOfReads", "(ILLowWater$Row;)I"⟩ yX0_bodyOfReads ∈ zT ∧ Cond.instanceMethod yX0_bodyOfReads ∈ zT ∧ "LowWater$Reader" ≠ "java/lang/invoke/MethodHandle" ∧ "LowWater$Reader" ≠ "java/lang/invoke/VarHandle" ∧ (parseMethodDescriptor "(ILLowWater$Row;)I").map (fun d => d.parameters.length) = some 2 := ⟨zw_755, zw_715, zw_713, zw_732, zw_716, zw_717, by decide +kernel, by decide +kernel, by decide +kernel⟩
theorem zw_723 : Cond.selects "LowWater$Diver" yX6_bodyOfReads yX6_bodyOfReads ∈ zT := zT_t (i := 723) (by decide +kernel) (by decide +kernel)
theorem ku_X6_41_X2 : Cond.methodLink "LowWater$Reader" 41 ⟨"LowWater$Reader", "bodyOfReads", "(ILLowWater$Row;)I"⟩ ∈ zT ∧ Cond.sameMethod "LowWater$Reader" "LowWater$Reader" "bodyOfReads" "(ILLowWater$Row;)I" ∈ zT ∧ Cond.instanceMethod ⟨"LowWater$Reader", "bodyOfReads", "(ILLowWater$Row;)I"⟩ ∈ zT ∧ Cond.code ⟨"LowWater$Reader", "bodyOfReads", "(ILLowWater$Row;)I"⟩ cX6_bodyOfReads 3 (some .int) ∈ zT ∧ Cond.selects "LowWater$Diver" ⟨"LowWater$Reader", "bodyOfReads", "(ILLowWater$Row;)I"⟩ yX6_bodyOfReads ∈ zT ∧ Cond.instanceMethod yX6_bodyOfReads ∈ zT ∧ "LowWater$Reader" ≠ "java/lang/invoke/MethodHandle" ∧ "LowWater$Reader" ≠ "java/lang/invoke/VarHandle" ∧ (parseMethodDescriptor "(ILLowWater$Row;)I").map (fun d => d.parameters.length) = some 2 := ⟨zw_755, zw_715, zw_713, zw_732, zw_723, zw_713, by decide +kernel, by decide +kernel, by decide +kernel⟩
theorem zw_724 : Cond.selects "LowWater$Fast" yX6_bodyOfReads yX3_bodyOfReads ∈ zT := zT_t (i := 724) (by decide +kernel) (by decide +kernel)
theorem ku_X6_41_X3 : Cond.methodLink "LowWater$Reader" 41 ⟨"LowWater$Reader", "bodyOfReads", "(ILLowWater$Row;)I"⟩ ∈ zT ∧ Cond.sameMethod "LowWater$Reader" "LowWater$Reader" "bodyOfReads" "(ILLowWater$Row;)I" ∈ zT ∧ Cond.instanceMethod ⟨"LowWater$Reader", "bodyOfReads", "(ILLowWater$Row;)I"⟩ ∈ zT ∧ Cond.code ⟨"LowWater$Reader", "bodyOfReads", "(ILLowWater$Row;)I"⟩ cX6_bodyOfReads 3 (some .int) ∈ zT ∧ Cond.selects "LowWater$Fast" ⟨"LowWater$Reader", "bodyOfReads", "(ILLowWater$Row;)I"⟩ yX3_bodyOfReads ∈ zT ∧ Cond.instanceMethod yX3_bodyOfReads ∈ zT ∧ "LowWater$Reader" ≠ "java/lang/invoke/MethodHandle" ∧ "LowWater$Reader" ≠ "java/lang/invoke/VarHandle" ∧ (parseMethodDescriptor "(ILLowWater$Row;)I").map (fun d => d.parameters.length) = some 2 := ⟨zw_755, zw_715, zw_713, zw_732, zw_724, zw_725, by decide +kernel, by decide +kernel, by decide +kernel⟩
theorem zw_729 : Cond.selects "LowWater$Quick" yX6_bodyOfReads yX3_bodyOfReads ∈ zT := zT_t (i := 729) (by decide +kernel) (by decide +kernel)
theorem ku_X6_41_X5 : Cond.methodLink "LowWater$Reader" 41 ⟨"LowWater$Reader", "bodyOfReads", "(ILLowWater$Row;)I"⟩ ∈ zT ∧ Cond.sameMethod "LowWater$Reader" "LowWater$Reader" "bodyOfReads" "(ILLowWater$Row;)I" ∈ zT ∧ Cond.instanceMethod ⟨"LowWater$Reader", "bodyOfReads", "(ILLowWater$Row;)I"⟩ ∈ zT ∧ Cond.code ⟨"LowWater$Reader", "bodyOfReads", "(ILLowWater$Row;)I"⟩ cX6_bodyOfReads 3 (some .int) ∈ zT ∧ Cond.selects "LowWater$Quick" ⟨"LowWater$Reader", "bodyOfReads", "(ILLowWater$Row;)I"⟩ yX3_bodyOfReads ∈ zT ∧ Cond.instanceMethod yX3_bodyOfReads ∈ zT ∧ "LowWater$Reader" ≠ "java/lang/invoke/MethodHandle" ∧ "LowWater$Reader" ≠ "java/lang/invoke/VarHandle" ∧ (parseMethodDescriptor "(ILLowWater$Row;)I").map (fun d => d.parameters.length) = some 2 := ⟨zw_755, zw_715, zw_713, zw_732, zw_729, zw_725, by decide +kernel, by decide +kernel, by decide +kernel⟩
theorem zw_714 : Cond.selects "LowWater$Reader" yX6_bodyOfReads yX6_bodyOfReads ∈ zT := zT_t (i := 714) (by decide +kernel) (by decide +kernel)
theorem k_X6_41_X6 : Cond.methodLink "LowWater$Reader" 41 yX6_bodyOfReads ∈ zT ∧ Cond.instanceMethod yX6_bodyOfReads ∈ zT ∧ Cond.selects yX6_bodyOfReads.cls yX6_bodyOfReads yX6_bodyOfReads ∈ zT := ⟨zw_755, zw_713, zw_714⟩
theorem ku_X6_41_X6 : Cond.methodLink "LowWater$Reader" 41 ⟨"LowWater$Reader", "bodyOfReads", "(ILLowWater$Row;)I"⟩ ∈ zT ∧ Cond.sameMethod "LowWater$Reader" "LowWater$Reader" "bodyOfReads" "(ILLowWater$Row;)I" ∈ zT ∧ Cond.instanceMethod ⟨"LowWater$Reader", "bodyOfReads", "(ILLowWater$Row;)I"⟩ ∈ zT ∧ Cond.code ⟨"LowWater$Reader", "bodyOfReads", "(ILLowWater$Row;)I"⟩ cX6_bodyOfReads 3 (some .int) ∈ zT ∧ Cond.selects "LowWater$Reader" ⟨"LowWater$Reader", "bodyOfReads", "(ILLowWater$Row;)I"⟩ yX6_bodyOfReads ∈ zT ∧ Cond.instanceMethod yX6_bodyOfReads ∈ zT ∧ "LowWater$Reader" ≠ "java/lang/invoke/MethodHandle" ∧ "LowWater$Reader" ≠ "java/lang/invoke/VarHandle" ∧ (parseMethodDescriptor "(ILLowWater$Row;)I").map (fun d => d.parameters.length) = some 2 := ⟨zw_755, zw_715, zw_713, zw_732, zw_714, zw_713, by decide +kernel, by decide +kernel, by decide +kernel⟩
theorem zw_730 : Cond.selects "LowWater$Rowed" yX6_bodyOfReads yX6_bodyOfReads ∈ zT := zT_t (i := 730) (by decide +kernel) (by decide +kernel)
theorem ku_X6_41_X8 : Cond.methodLink "LowWater$Reader" 41 ⟨"LowWater$Reader", "bodyOfReads", "(ILLowWater$Row;)I"⟩ ∈ zT ∧ Cond.sameMethod "LowWater$Reader" "LowWater$Reader" "bodyOfReads" "(ILLowWater$Row;)I" ∈ zT ∧ Cond.instanceMethod ⟨"LowWater$Reader", "bodyOfReads", "(ILLowWater$Row;)I"⟩ ∈ zT ∧ Cond.code ⟨"LowWater$Reader", "bodyOfReads", "(ILLowWater$Row;)I"⟩ cX6_bodyOfReads 3 (some .int) ∈ zT ∧ Cond.selects "LowWater$Rowed" ⟨"LowWater$Reader", "bodyOfReads", "(ILLowWater$Row;)I"⟩ yX6_bodyOfReads ∈ zT ∧ Cond.instanceMethod yX6_bodyOfReads ∈ zT ∧ "LowWater$Reader" ≠ "java/lang/invoke/MethodHandle" ∧ "LowWater$Reader" ≠ "java/lang/invoke/VarHandle" ∧ (parseMethodDescriptor "(ILLowWater$Row;)I").map (fun d => d.parameters.length) = some 2 := ⟨zw_755, zw_715, zw_713, zw_732, zw_730, zw_713, by decide +kernel, by decide +kernel, by decide +kernel⟩
theorem zw_731 : Cond.selects "LowWater$Waiting" yX6_bodyOfReads yX6_bodyOfReads ∈ zT := zT_t (i := 731) (by decide +kernel) (by decide +kernel)
theorem ku_X6_41_X10 : Cond.methodLink "LowWater$Reader" 41 ⟨"LowWater$Reader", "bodyOfReads", "(ILLowWater$Row;)I"⟩ ∈ zT ∧ Cond.sameMethod "LowWater$Reader" "LowWater$Reader" "bodyOfReads" "(ILLowWater$Row;)I" ∈ zT ∧ Cond.instanceMethod ⟨"LowWater$Reader", "bodyOfReads", "(ILLowWater$Row;)I"⟩ ∈ zT ∧ Cond.code ⟨"LowWater$Reader", "bodyOfReads", "(ILLowWater$Row;)I"⟩ cX6_bodyOfReads 3 (some .int) ∈ zT ∧ Cond.selects "LowWater$Waiting" ⟨"LowWater$Reader", "bodyOfReads", "(ILLowWater$Row;)I"⟩ yX6_bodyOfReads ∈ zT ∧ Cond.instanceMethod yX6_bodyOfReads ∈ zT ∧ "LowWater$Reader" ≠ "java/lang/invoke/MethodHandle" ∧ "LowWater$Reader" ≠ "java/lang/invoke/VarHandle" ∧ (parseMethodDescriptor "(ILLowWater$Row;)I").map (fun d => d.parameters.length) = some 2 := ⟨zw_755, zw_715, zw_713, zw_732, zw_731, zw_713, by decide +kernel, by decide +kernel, by decide +kernel⟩
theorem zw_740 : Cond.code yX2_bodyOfWaits cX2_bodyOfWaits 3 (some .int) ∈ zT := zT_t (i := 740) (by decide +kernel) (by decide +kernel)
theorem co_X2_bodyOfWaits : zCo yX2_bodyOfWaits cX2_bodyOfWaits 3 (some .int) 2 := ⟨zw_740, zw_14, by decide +kernel, by decide +kernel, by decide +kernel⟩
theorem zw_781 : Cond.methodLink "LowWater$Reader" 45 yX6_bodyOfWaits ∈ zT := zT_t (i := 781) (by decide +kernel) (by decide +kernel)
theorem zw_738 : Cond.selects "LowWater$Blind" yX6_bodyOfWaits yX2_bodyOfWaits ∈ zT := zT_t (i := 738) (by decide +kernel) (by decide +kernel)
theorem zw_739 : Cond.instanceMethod yX2_bodyOfWaits ∈ zT := zT_t (i := 739) (by decide +kernel) (by decide +kernel)
theorem ku_X6_45_X0 : Cond.methodLink "LowWater$Reader" 45 ⟨"LowWater$Reader", "bodyOfWaits", "(ILLowWater$Row;)I"⟩ ∈ zT ∧ Cond.sameMethod "LowWater$Reader" "LowWater$Reader" "bodyOfWaits" "(ILLowWater$Row;)I" ∈ zT ∧ Cond.instanceMethod ⟨"LowWater$Reader", "bodyOfWaits", "(ILLowWater$Row;)I"⟩ ∈ zT ∧ Cond.code ⟨"LowWater$Reader", "bodyOfWaits", "(ILLowWater$Row;)I"⟩ cX6_bodyOfWaits 3 (some .int) ∈ zT ∧ Cond.selects "LowWater$Blind" ⟨"LowWater$Reader", "bodyOfWaits", "(ILLowWater$Row;)I"⟩ yX2_bodyOfWaits ∈ zT ∧ Cond.instanceMethod yX2_bodyOfWaits ∈ zT ∧ "LowWater$Reader" ≠ "java/lang/invoke/MethodHandle" ∧ "LowWater$Reader" ≠ "java/lang/invoke/VarHandle" ∧ (parseMethodDescriptor "(ILLowWater$Row;)I").map (fun d => d.parameters.length) = some 2 := ⟨zw_781, zw_737, zw_735, zw_754, zw_738, zw_739, by decide +kernel, by decide +kernel, by decide +kernel⟩
theorem zw_743 : Cond.selects "LowWater$Diver" yX6_bodyOfWaits yX2_bodyOfWaits ∈ zT := zT_t (i := 743) (by decide +kernel) (by decide +kernel)
theorem ku_X6_45_X2 : Cond.methodLink "LowWater$Reader" 45 ⟨"LowWater$Reader", "bodyOfWaits", "(ILLowWater$Row;)I"⟩ ∈ zT ∧ Cond.sameMethod "LowWater$Reader" "LowWater$Reader" "bodyOfWaits" "(ILLowWater$Row;)I" ∈ zT ∧ Cond.instanceMethod ⟨"LowWater$Reader", "bodyOfWaits", "(ILLowWater$Row;)I"⟩ ∈ zT ∧ Cond.code ⟨"LowWater$Reader", "bodyOfWaits", "(ILLowWater$Row;)I"⟩ cX6_bodyOfWaits 3 (some .int) ∈ zT ∧ Cond.selects "LowWater$Diver" ⟨"LowWater$Reader", "bodyOfWaits", "(ILLowWater$Row;)I"⟩ yX2_bodyOfWaits ∈ zT ∧ Cond.instanceMethod yX2_bodyOfWaits ∈ zT ∧ "LowWater$Reader" ≠ "java/lang/invoke/MethodHandle" ∧ "LowWater$Reader" ≠ "java/lang/invoke/VarHandle" ∧ (parseMethodDescriptor "(ILLowWater$Row;)I").map (fun d => d.parameters.length) = some 2 := ⟨zw_781, zw_737, zw_735, zw_754, zw_743, zw_739, by decide +kernel, by decide +kernel, by decide +kernel⟩
theorem zw_744 : Cond.selects "LowWater$Fast" yX6_bodyOfWaits yX6_bodyOfWaits ∈ zT := zT_t (i := 744) (by decide +kernel) (by decide +kernel)
theorem ku_X6_45_X3 : Cond.methodLink "LowWater$Reader" 45 ⟨"LowWater$Reader", "bodyOfWaits", "(ILLowWater$Row;)I"⟩ ∈ zT ∧ Cond.sameMethod "LowWater$Reader" "LowWater$Reader" "bodyOfWaits" "(ILLowWater$Row;)I" ∈ zT ∧ Cond.instanceMethod ⟨"LowWater$Reader", "bodyOfWaits", "(ILLowWater$Row;)I"⟩ ∈ zT ∧ Cond.code ⟨"LowWater$Reader", "bodyOfWaits", "(ILLowWater$Row;)I"⟩ cX6_bodyOfWaits 3 (some .int) ∈ zT ∧ Cond.selects "LowWater$Fast" ⟨"LowWater$Reader", "bodyOfWaits", "(ILLowWater$Row;)I"⟩ yX6_bodyOfWaits ∈ zT ∧ Cond.instanceMethod yX6_bodyOfWaits ∈ zT ∧ "LowWater$Reader" ≠ "java/lang/invoke/MethodHandle" ∧ "LowWater$Reader" ≠ "java/lang/invoke/VarHandle" ∧ (parseMethodDescriptor "(ILLowWater$Row;)I").map (fun d => d.parameters.length) = some 2 := ⟨zw_781, zw_737, zw_735, zw_754, zw_744, zw_735, by decide +kernel, by decide +kernel, by decide +kernel⟩
theorem zw_745 : Cond.selects "LowWater$Quick" yX6_bodyOfWaits yX6_bodyOfWaits ∈ zT := zT_t (i := 745) (by decide +kernel) (by decide +kernel)
theorem ku_X6_45_X5 : Cond.methodLink "LowWater$Reader" 45 ⟨"LowWater$Reader", "bodyOfWaits", "(ILLowWater$Row;)I"⟩ ∈ zT ∧ Cond.sameMethod "LowWater$Reader" "LowWater$Reader" "bodyOfWaits" "(ILLowWater$Row;)I" ∈ zT ∧ Cond.instanceMethod ⟨"LowWater$Reader", "bodyOfWaits", "(ILLowWater$Row;)I"⟩ ∈ zT ∧ Cond.code ⟨"LowWater$Reader", "bodyOfWaits", "(ILLowWater$Row;)I"⟩ cX6_bodyOfWaits 3 (some .int) ∈ zT ∧ Cond.selects "LowWater$Quick" ⟨"LowWater$Reader", "bodyOfWaits", "(ILLowWater$Row;)I"⟩ yX6_bodyOfWaits ∈ zT ∧ Cond.instanceMethod yX6_bodyOfWaits ∈ zT ∧ "LowWater$Reader" ≠ "java/lang/invoke/MethodHandle" ∧ "LowWater$Reader" ≠ "java/lang/invoke/VarHandle" ∧ (parseMethodDescriptor "(ILLowWater$Row;)I").map (fun d => d.parameters.length) = some 2 := ⟨zw_781, zw_737, zw_735, zw_754, zw_745, zw_735, by decide +kernel, by decide +kernel, by decide +kernel⟩
theorem zw_736 : Cond.selects "LowWater$Reader" yX6_bodyOfWaits yX6_bodyOfWaits ∈ zT := zT_t (i := 736) (by decide +kernel) (by decide +kernel)
theorem k_X6_45_X6 : Cond.methodLink "LowWater$Reader" 45 yX6_bodyOfWaits ∈ zT ∧ Cond.instanceMethod yX6_bodyOfWaits ∈ zT ∧ Cond.selects yX6_bodyOfWaits.cls yX6_bodyOfWaits yX6_bodyOfWaits ∈ zT := ⟨zw_781, zw_735, zw_736⟩
theorem ku_X6_45_X6 : Cond.methodLink "LowWater$Reader" 45 ⟨"LowWater$Reader", "bodyOfWaits", "(ILLowWater$Row;)I"⟩ ∈ zT ∧ Cond.sameMethod "LowWater$Reader" "LowWater$Reader" "bodyOfWaits" "(ILLowWater$Row;)I" ∈ zT ∧ Cond.instanceMethod ⟨"LowWater$Reader", "bodyOfWaits", "(ILLowWater$Row;)I"⟩ ∈ zT ∧ Cond.code ⟨"LowWater$Reader", "bodyOfWaits", "(ILLowWater$Row;)I"⟩ cX6_bodyOfWaits 3 (some .int) ∈ zT ∧ Cond.selects "LowWater$Reader" ⟨"LowWater$Reader", "bodyOfWaits", "(ILLowWater$Row;)I"⟩ yX6_bodyOfWaits ∈ zT ∧ Cond.instanceMethod yX6_bodyOfWaits ∈ zT ∧ "LowWater$Reader" ≠ "java/lang/invoke/MethodHandle" ∧ "LowWater$Reader" ≠ "java/lang/invoke/VarHandle" ∧ (parseMethodDescriptor "(ILLowWater$Row;)I").map (fun d => d.parameters.length) = some 2 := ⟨zw_781, zw_737, zw_735, zw_754, zw_736, zw_735, by decide +kernel, by decide +kernel, by decide +kernel⟩
theorem zw_746 : Cond.selects "LowWater$Rowed" yX6_bodyOfWaits yX6_bodyOfWaits ∈ zT := zT_t (i := 746) (by decide +kernel) (by decide +kernel)
theorem ku_X6_45_X8 : Cond.methodLink "LowWater$Reader" 45 ⟨"LowWater$Reader", "bodyOfWaits", "(ILLowWater$Row;)I"⟩ ∈ zT ∧ Cond.sameMethod "LowWater$Reader" "LowWater$Reader" "bodyOfWaits" "(ILLowWater$Row;)I" ∈ zT ∧ Cond.instanceMethod ⟨"LowWater$Reader", "bodyOfWaits", "(ILLowWater$Row;)I"⟩ ∈ zT ∧ Cond.code ⟨"LowWater$Reader", "bodyOfWaits", "(ILLowWater$Row;)I"⟩ cX6_bodyOfWaits 3 (some .int) ∈ zT ∧ Cond.selects "LowWater$Rowed" ⟨"LowWater$Reader", "bodyOfWaits", "(ILLowWater$Row;)I"⟩ yX6_bodyOfWaits ∈ zT ∧ Cond.instanceMethod yX6_bodyOfWaits ∈ zT ∧ "LowWater$Reader" ≠ "java/lang/invoke/MethodHandle" ∧ "LowWater$Reader" ≠ "java/lang/invoke/VarHandle" ∧ (parseMethodDescriptor "(ILLowWater$Row;)I").map (fun d => d.parameters.length) = some 2 := ⟨zw_781, zw_737, zw_735, zw_754, zw_746, zw_735, by decide +kernel, by decide +kernel, by decide +kernel⟩
theorem zw_749 : Cond.code yX10_bodyOfWaits cX10_bodyOfWaits 3 (some .int) ∈ zT := zT_t (i := 749) (by decide +kernel) (by decide +kernel)
theorem co_X10_bodyOfWaits : zCo yX10_bodyOfWaits cX10_bodyOfWaits 3 (some .int) 2 := ⟨zw_749, zw_18, by decide +kernel, by decide +kernel, by decide +kernel⟩
theorem zw_747 : Cond.selects "LowWater$Waiting" yX6_bodyOfWaits yX10_bodyOfWaits ∈ zT := zT_t (i := 747) (by decide +kernel) (by decide +kernel)
theorem zw_748 : Cond.instanceMethod yX10_bodyOfWaits ∈ zT := zT_t (i := 748) (by decide +kernel) (by decide +kernel)
theorem ku_X6_45_X10 : Cond.methodLink "LowWater$Reader" 45 ⟨"LowWater$Reader", "bodyOfWaits", "(ILLowWater$Row;)I"⟩ ∈ zT ∧ Cond.sameMethod "LowWater$Reader" "LowWater$Reader" "bodyOfWaits" "(ILLowWater$Row;)I" ∈ zT ∧ Cond.instanceMethod ⟨"LowWater$Reader", "bodyOfWaits", "(ILLowWater$Row;)I"⟩ ∈ zT ∧ Cond.code ⟨"LowWater$Reader", "bodyOfWaits", "(ILLowWater$Row;)I"⟩ cX6_bodyOfWaits 3 (some .int) ∈ zT ∧ Cond.selects "LowWater$Waiting" ⟨"LowWater$Reader", "bodyOfWaits", "(ILLowWater$Row;)I"⟩ yX10_bodyOfWaits ∈ zT ∧ Cond.instanceMethod yX10_bodyOfWaits ∈ zT ∧ "LowWater$Reader" ≠ "java/lang/invoke/MethodHandle" ∧ "LowWater$Reader" ≠ "java/lang/invoke/VarHandle" ∧ (parseMethodDescriptor "(ILLowWater$Row;)I").map (fun d => d.parameters.length) = some 2 := ⟨zw_781, zw_737, zw_735, zw_754, zw_747, zw_748, by decide +kernel, by decide +kernel, by decide +kernel⟩
theorem zw_69 : Cond.methodLink "LowWater$Row" 3 objectInit ∈ zT := zT_t (i := 69) (by decide +kernel) (by decide +kernel)
theorem k_X7_3 : Cond.methodLink "LowWater$Row" 3 objectInit ∈ zT ∧ Cond.instanceMethod objectInit ∈ zT ∧ Cond.code objectInit ⟨#[0xb1]⟩ 1 none ∈ zT := ⟨zw_69, zw_28, zw_29⟩
theorem zw_72 : Cond.fieldLink "LowWater$Row" 9 "LowWater$Row" "size" "I" ∈ zT := zT_t (i := 72) (by decide +kernel) (by decide +kernel)
theorem f_X7_9 : zFL "LowWater$Row" 9 7 1 false true .int := ⟨RX7, "LowWater$Row", TX7, 2, tyX7, rfl, by decide, in_X7, tyX7_ok, nmX7, rfl, rfl, (fun _ => rfl), Or.inl zw_72, Or.inl rfl⟩
theorem zw_70 : Cond.fieldLink "LowWater$Row" 15 "LowWater$Row" "items" "[I" ∈ zT := zT_t (i := 70) (by decide +kernel) (by decide +kernel)
theorem f_X7_15 : zFL "LowWater$Row" 15 7 0 true true (.array .int) := ⟨RX7, "LowWater$Row", TX7, 2, tyX7, rfl, by decide, in_X7, tyX7_ok, nmX7, rfl, rfl, (fun _ => rfl), Or.inl zw_70, Or.inl rfl⟩
theorem zw_378 : Cond.methodLink "LowWater$Rowed" 1 yX6_init ∈ zT := zT_t (i := 378) (by decide +kernel) (by decide +kernel)
theorem k_X8_1 : Cond.methodLink "LowWater$Rowed" 1 yX6_init ∈ zT ∧ Cond.instanceMethod yX6_init ∈ zT := ⟨zw_378, zw_343⟩
theorem zw_813 : Cond.methodLink "LowWater$Rowed" 7 yX6_isA ∈ zT := zT_t (i := 813) (by decide +kernel) (by decide +kernel)
theorem zw_381 : Cond.superclass "LowWater$Rowed" "LowWater$Reader" ∈ zT := zT_t (i := 381) (by decide +kernel) (by decide +kernel)
theorem k_X8_7 : Cond.methodLink "LowWater$Rowed" 7 yX6_isA ∈ zT ∧ Cond.sameMethod yX6_isA.cls yX6_isA.cls yX6_isA.name yX6_isA.desc ∈ zT ∧ Cond.superclass "LowWater$Rowed" yX6_isA.cls ∈ zT ∧ Cond.instanceMethod yX6_isA ∈ zT ∧ yX6_isA.name ≠ "<init>" := ⟨zw_813, zw_793, zw_381, zw_791, by decide +kernel⟩
theorem zw_352 : Cond.fieldLink "LowWater$Rowed" 11 "LowWater$Rowed" "v" "I" ∈ zT := zT_t (i := 352) (by decide +kernel) (by decide +kernel)
theorem zw_353 : Cond.sameField "LowWater$Rowed" "LowWater$Reader" "v" "I" ∈ zT := zT_t (i := 353) (by decide +kernel) (by decide +kernel)
theorem f_X8_11 : zFL "LowWater$Rowed" 11 8 1 true false .int := ⟨RX8, "LowWater$Rowed", TX8, 2, tyX8, rfl, by decide, in_X8, tyX8_ok, nmX8, rfl, rfl, (fun h => Bool.noConfusion h), Or.inl zw_352, Or.inr zw_353⟩
theorem zw_556 : Cond.methodLink "LowWater$Rowed" 17 Lib.Math.max.name ∈ zT := zT_t (i := 556) (by decide +kernel) (by decide +kernel)
theorem ma_X8_17 : zMa "LowWater$Rowed" 17 Lib.Math.max.name Lib.Math.max.code 2 := ⟨zw_556, zw_466, zw_19, zw_467⟩
theorem zw_557 : Cond.methodLink "LowWater$Rowed" 23 yJ9_floorMod_7cf53 ∈ zT := zT_t (i := 557) (by decide +kernel) (by decide +kernel)
theorem k_X8_23 : Cond.methodLink "LowWater$Rowed" 23 yJ9_floorMod_7cf53 ∈ zT ∧ Cond.static yJ9_floorMod_7cf53 ∈ zT := ⟨zw_557, zw_491⟩
theorem zw_777 : Cond.methodLink "LowWater$Rowed" 26 yX7_add ∈ zT := zT_t (i := 777) (by decide +kernel) (by decide +kernel)
theorem k_X8_26 : Cond.methodLink "LowWater$Rowed" 26 yX7_add ∈ zT ∧ Cond.instanceMethod yX7_add ∈ zT ∧ Cond.selects yX7_add.cls yX7_add yX7_add ∈ zT := ⟨zw_777, zw_198, zw_199⟩
theorem zw_778 : Cond.methodLink "LowWater$Rowed" 32 yX6_bodyOfTells ∈ zT := zT_t (i := 778) (by decide +kernel) (by decide +kernel)
theorem zw_759 : Cond.sameMethod "LowWater$Reader" "LowWater$Reader" "bodyOfTells" "(ILLowWater$Row;)I" ∈ zT := zT_t (i := 759) (by decide +kernel) (by decide +kernel)
theorem zw_757 : Cond.instanceMethod yX6_bodyOfTells ∈ zT := zT_t (i := 757) (by decide +kernel) (by decide +kernel)
theorem k_X8_32 : Cond.methodLink "LowWater$Rowed" 32 yX6_bodyOfTells ∈ zT ∧ Cond.sameMethod yX6_bodyOfTells.cls yX6_bodyOfTells.cls yX6_bodyOfTells.name yX6_bodyOfTells.desc ∈ zT ∧ Cond.superclass "LowWater$Rowed" yX6_bodyOfTells.cls ∈ zT ∧ Cond.instanceMethod yX6_bodyOfTells ∈ zT ∧ yX6_bodyOfTells.name ≠ "<init>" := ⟨zw_778, zw_759, zw_381, zw_757, by decide +kernel⟩
theorem zw_35 : Cond.methodLink "LowWater$State" 3 objectInit ∈ zT := zT_t (i := 35) (by decide +kernel) (by decide +kernel)
theorem k_X9_3 : Cond.methodLink "LowWater$State" 3 objectInit ∈ zT ∧ Cond.instanceMethod objectInit ∈ zT ∧ Cond.code objectInit ⟨#[0xb1]⟩ 1 none ∈ zT := ⟨zw_35, zw_28, zw_29⟩
theorem zw_80 : Cond.fieldLink "LowWater$State" 9 "LowWater$State" "hour" "I" ∈ zT := zT_t (i := 80) (by decide +kernel) (by decide +kernel)
theorem f_X9_9 : zFL "LowWater$State" 9 9 0 false true .int := ⟨RX9, "LowWater$State", TX9, 11, tyX9, rfl, by decide, in_X9, tyX9_ok, nmX9, rfl, rfl, (fun _ => rfl), Or.inl zw_80, Or.inl rfl⟩
theorem zw_83 : Cond.fieldLink "LowWater$State" 15 "LowWater$State" "caves" "I" ∈ zT := zT_t (i := 83) (by decide +kernel) (by decide +kernel)
theorem f_X9_15 : zFL "LowWater$State" 15 9 1 false true .int := ⟨RX9, "LowWater$State", TX9, 11, tyX9, rfl, by decide, in_X9, tyX9_ok, nmX9, rfl, rfl, (fun _ => rfl), Or.inl zw_83, Or.inl rfl⟩
theorem zw_85 : Cond.fieldLink "LowWater$State" 18 "LowWater$State" "readerCount" "I" ∈ zT := zT_t (i := 85) (by decide +kernel) (by decide +kernel)
theorem f_X9_18 : zFL "LowWater$State" 18 9 2 false true .int := ⟨RX9, "LowWater$State", TX9, 11, tyX9, rfl, by decide, in_X9, tyX9_ok, nmX9, rfl, rfl, (fun _ => rfl), Or.inl zw_85, Or.inl rfl⟩
theorem zw_36 : Cond.classLink "LowWater$State" 21 "LowWater$Cave" ∈ zT := zT_t (i := 36) (by decide +kernel) (by decide +kernel)
theorem zw_37 : Cond.instantiable "LowWater$Cave" 6 ∈ zT := zT_t (i := 37) (by decide +kernel) (by decide +kernel)
theorem nw_X9_21 : zNW "LowWater$State" 21 1 6 [.null, .null, .int 0, .null, .null, .int 0] := ⟨RX1, TX1, tyX1, rfl, in_X1, tyX1_ok, zw_36, zw_37, zw_3, by decide +kernel⟩
theorem zw_40 : Cond.code yX1_init cX1_init 1 none ∈ zT := zT_t (i := 40) (by decide +kernel) (by decide +kernel)
theorem co_X1_init : zCo yX1_init cX1_init 1 none 0 := ⟨zw_40, zw_3, by decide +kernel, by decide +kernel, by decide +kernel⟩
theorem zw_39 : Cond.instanceMethod yX1_init ∈ zT := zT_t (i := 39) (by decide +kernel) (by decide +kernel)
theorem k_X9_23 : ("LowWater$State", 23, yX1_init, "LowWater") ∈ zNM ∧ Cond.instanceMethod yX1_init ∈ zT := ⟨by decide +kernel, zw_39⟩
theorem zw_87 : Cond.fieldLink "LowWater$State" 24 "LowWater$State" "cave" "LLowWater$Cave;" ∈ zT := zT_t (i := 87) (by decide +kernel) (by decide +kernel)
theorem f_X9_24 : zFL "LowWater$State" 24 9 3 false true (.object "LowWater$Cave") := ⟨RX9, "LowWater$State", TX9, 11, tyX9, rfl, by decide, in_X9, tyX9_ok, nmX9, rfl, rfl, (fun _ => rfl), Or.inl zw_87, Or.inl rfl⟩
theorem zw_62 : Cond.classLink "LowWater$State" 28 "LowWater$Reader" ∈ zT := zT_t (i := 62) (by decide +kernel) (by decide +kernel)
theorem ac_X9_28 : Cond.classLink "LowWater$State" 28 "LowWater$Reader" ∈ zT := zw_62
theorem zw_90 : Cond.fieldLink "LowWater$State" 30 "LowWater$State" "readers" "[LLowWater$Reader;" ∈ zT := zT_t (i := 90) (by decide +kernel) (by decide +kernel)
theorem f_X9_30 : zFL "LowWater$State" 30 9 4 true true (.array (.object "LowWater$Reader")) := ⟨RX9, "LowWater$State", TX9, 11, tyX9, rfl, by decide, in_X9, tyX9_ok, nmX9, rfl, rfl, (fun _ => rfl), Or.inl zw_90, Or.inl rfl⟩
theorem zw_64 : Cond.classLink "LowWater$State" 34 "LowWater$Row" ∈ zT := zT_t (i := 64) (by decide +kernel) (by decide +kernel)
theorem zw_65 : Cond.instantiable "LowWater$Row" 2 ∈ zT := zT_t (i := 65) (by decide +kernel) (by decide +kernel)
theorem nw_X9_34 : zNW "LowWater$State" 34 7 2 [.null, .int 0] := ⟨RX7, TX7, tyX7, rfl, in_X7, tyX7_ok, zw_64, zw_65, zw_4, by decide +kernel⟩
theorem zw_68 : Cond.code yX7_init cX7_init 2 none ∈ zT := zT_t (i := 68) (by decide +kernel) (by decide +kernel)
theorem co_X7_init : zCo yX7_init cX7_init 2 none 1 := ⟨zw_68, zw_4, by decide +kernel, by decide +kernel, by decide +kernel⟩
theorem zw_66 : Cond.methodLink "LowWater$State" 36 yX7_init ∈ zT := zT_t (i := 66) (by decide +kernel) (by decide +kernel)
theorem zw_67 : Cond.instanceMethod yX7_init ∈ zT := zT_t (i := 67) (by decide +kernel) (by decide +kernel)
theorem k_X9_36 : Cond.methodLink "LowWater$State" 36 yX7_init ∈ zT ∧ Cond.instanceMethod yX7_init ∈ zT := ⟨zw_66, zw_67⟩
theorem zw_92 : Cond.fieldLink "LowWater$State" 39 "LowWater$State" "tape" "LLowWater$Row;" ∈ zT := zT_t (i := 92) (by decide +kernel) (by decide +kernel)
theorem f_X9_39 : zFL "LowWater$State" 39 9 5 true true (.object "LowWater$Row") := ⟨RX9, "LowWater$State", TX9, 11, tyX9, rfl, by decide, in_X9, tyX9_ok, nmX9, rfl, rfl, (fun _ => rfl), Or.inl zw_92, Or.inl rfl⟩
theorem zw_94 : Cond.fieldLink "LowWater$State" 43 "LowWater$State" "shelves" "LLowWater$Row;" ∈ zT := zT_t (i := 94) (by decide +kernel) (by decide +kernel)
theorem f_X9_43 : zFL "LowWater$State" 43 9 6 true true (.object "LowWater$Row") := ⟨RX9, "LowWater$State", TX9, 11, tyX9, rfl, by decide, in_X9, tyX9_ok, nmX9, rfl, rfl, (fun _ => rfl), Or.inl zw_94, Or.inl rfl⟩
theorem zw_97 : Cond.fieldLink "LowWater$State" 46 "LowWater$State" "lines" "LLowWater$Row;" ∈ zT := zT_t (i := 97) (by decide +kernel) (by decide +kernel)
theorem f_X9_46 : zFL "LowWater$State" 46 9 7 true true (.object "LowWater$Row") := ⟨RX9, "LowWater$State", TX9, 11, tyX9, rfl, by decide, in_X9, tyX9_ok, nmX9, rfl, rfl, (fun _ => rfl), Or.inl zw_97, Or.inl rfl⟩
theorem zw_100 : Cond.fieldLink "LowWater$State" 49 "LowWater$State" "asks" "LLowWater$Row;" ∈ zT := zT_t (i := 100) (by decide +kernel) (by decide +kernel)
theorem f_X9_49 : zFL "LowWater$State" 49 9 8 true true (.object "LowWater$Row") := ⟨RX9, "LowWater$State", TX9, 11, tyX9, rfl, by decide, in_X9, tyX9_ok, nmX9, rfl, rfl, (fun _ => rfl), Or.inl zw_100, Or.inl rfl⟩
theorem zw_102 : Cond.fieldLink "LowWater$State" 52 "LowWater$State" "seen" "LLowWater$Row;" ∈ zT := zT_t (i := 102) (by decide +kernel) (by decide +kernel)
theorem f_X9_52 : zFL "LowWater$State" 52 9 9 true true (.object "LowWater$Row") := ⟨RX9, "LowWater$State", TX9, 11, tyX9, rfl, by decide, in_X9, tyX9_ok, nmX9, rfl, rfl, (fun _ => rfl), Or.inl zw_102, Or.inl rfl⟩
theorem zw_104 : Cond.fieldLink "LowWater$State" 55 "LowWater$State" "tales" "LLowWater$Row;" ∈ zT := zT_t (i := 104) (by decide +kernel) (by decide +kernel)
theorem f_X9_55 : zFL "LowWater$State" 55 9 10 true true (.object "LowWater$Row") := ⟨RX9, "LowWater$State", TX9, 11, tyX9, rfl, by decide, in_X9, tyX9_ok, nmX9, rfl, rfl, (fun _ => rfl), Or.inl zw_104, Or.inl rfl⟩
theorem zw_830 : Cond.code yX1_takeFrom cX1_takeFrom 3 none ∈ zT := zT_t (i := 830) (by decide +kernel) (by decide +kernel)
theorem co_X1_takeFrom : zCo yX1_takeFrom cX1_takeFrom 3 none 1 := ⟨zw_830, zw_3, by decide +kernel, by decide +kernel, by decide +kernel⟩
theorem zw_827 : Cond.methodLink "LowWater$State" 58 yX1_takeFrom ∈ zT := zT_t (i := 827) (by decide +kernel) (by decide +kernel)
theorem zw_828 : Cond.instanceMethod yX1_takeFrom ∈ zT := zT_t (i := 828) (by decide +kernel) (by decide +kernel)
theorem zw_829 : Cond.selects "LowWater$Cave" yX1_takeFrom yX1_takeFrom ∈ zT := zT_t (i := 829) (by decide +kernel) (by decide +kernel)
theorem k_X9_58 : Cond.methodLink "LowWater$State" 58 yX1_takeFrom ∈ zT ∧ Cond.instanceMethod yX1_takeFrom ∈ zT ∧ Cond.selects yX1_takeFrom.cls yX1_takeFrom yX1_takeFrom ∈ zT := ⟨zw_827, zw_828, zw_829⟩
theorem zw_835 : Cond.code yX7_takeFrom cX7_takeFrom 3 none ∈ zT := zT_t (i := 835) (by decide +kernel) (by decide +kernel)
theorem co_X7_takeFrom : zCo yX7_takeFrom cX7_takeFrom 3 none 1 := ⟨zw_835, zw_4, by decide +kernel, by decide +kernel, by decide +kernel⟩
theorem zw_832 : Cond.methodLink "LowWater$State" 62 yX7_takeFrom ∈ zT := zT_t (i := 832) (by decide +kernel) (by decide +kernel)
theorem zw_833 : Cond.instanceMethod yX7_takeFrom ∈ zT := zT_t (i := 833) (by decide +kernel) (by decide +kernel)
theorem zw_834 : Cond.selects "LowWater$Row" yX7_takeFrom yX7_takeFrom ∈ zT := zT_t (i := 834) (by decide +kernel) (by decide +kernel)
theorem k_X9_62 : Cond.methodLink "LowWater$State" 62 yX7_takeFrom ∈ zT ∧ Cond.instanceMethod yX7_takeFrom ∈ zT ∧ Cond.selects yX7_takeFrom.cls yX7_takeFrom yX7_takeFrom ∈ zT := ⟨zw_832, zw_833, zw_834⟩
theorem zw_377 : Cond.code yX8_init cX8_init 3 none ∈ zT := zT_t (i := 377) (by decide +kernel) (by decide +kernel)
theorem co_X8_init : zCo yX8_init cX8_init 3 none 2 := ⟨zw_377, zw_15, by decide +kernel, by decide +kernel, by decide +kernel⟩
theorem zw_405 : Cond.methodLink "LowWater$Waiting" 1 yX8_init ∈ zT := zT_t (i := 405) (by decide +kernel) (by decide +kernel)
theorem zw_376 : Cond.instanceMethod yX8_init ∈ zT := zT_t (i := 376) (by decide +kernel) (by decide +kernel)
theorem k_X10_1 : Cond.methodLink "LowWater$Waiting" 1 yX8_init ∈ zT ∧ Cond.instanceMethod yX8_init ∈ zT := ⟨zw_405, zw_376⟩
theorem zw_812 : Cond.code yX8_isA cX8_isA 2 (some .boolean) ∈ zT := zT_t (i := 812) (by decide +kernel) (by decide +kernel)
theorem co_X8_isA : zCo yX8_isA cX8_isA 2 (some .boolean) 1 := ⟨zw_812, zw_15, by decide +kernel, by decide +kernel, by decide +kernel⟩
theorem zw_817 : Cond.methodLink "LowWater$Waiting" 7 yX8_isA ∈ zT := zT_t (i := 817) (by decide +kernel) (by decide +kernel)
theorem zw_1228 : Cond.sameMethod "LowWater$Rowed" "LowWater$Rowed" "isA" "(I)Z" ∈ zT := zT_t (i := 1228) (by decide +kernel) (by decide +kernel)
theorem zw_408 : Cond.superclass "LowWater$Waiting" "LowWater$Rowed" ∈ zT := zT_t (i := 408) (by decide +kernel) (by decide +kernel)
theorem zw_811 : Cond.instanceMethod yX8_isA ∈ zT := zT_t (i := 811) (by decide +kernel) (by decide +kernel)
theorem k_X10_7 : Cond.methodLink "LowWater$Waiting" 7 yX8_isA ∈ zT ∧ Cond.sameMethod yX8_isA.cls yX8_isA.cls yX8_isA.name yX8_isA.desc ∈ zT ∧ Cond.superclass "LowWater$Waiting" yX8_isA.cls ∈ zT ∧ Cond.instanceMethod yX8_isA ∈ zT ∧ yX8_isA.name ≠ "<init>" := ⟨zw_817, zw_1228, zw_408, zw_811, by decide +kernel⟩
theorem zw_561 : Cond.methodLink "LowWater$Waiting" 11 yX8_mayBegin ∈ zT := zT_t (i := 561) (by decide +kernel) (by decide +kernel)
theorem zw_1225 : Cond.sameMethod "LowWater$Rowed" "LowWater$Rowed" "mayBegin" "(LLowWater$Cave;I)Z" ∈ zT := zT_t (i := 1225) (by decide +kernel) (by decide +kernel)
theorem k_X10_11 : Cond.methodLink "LowWater$Waiting" 11 yX8_mayBegin ∈ zT ∧ Cond.sameMethod yX8_mayBegin.cls yX8_mayBegin.cls yX8_mayBegin.name yX8_mayBegin.desc ∈ zT ∧ Cond.superclass "LowWater$Waiting" yX8_mayBegin.cls ∈ zT ∧ Cond.instanceMethod yX8_mayBegin ∈ zT ∧ yX8_mayBegin.name ≠ "<init>" := ⟨zw_561, zw_1225, zw_408, zw_554, by decide +kernel⟩
theorem zw_562 : Cond.methodLink "LowWater$Waiting" 15 yX1_levelAt ∈ zT := zT_t (i := 562) (by decide +kernel) (by decide +kernel)
theorem k_X10_15 : Cond.methodLink "LowWater$Waiting" 15 yX1_levelAt ∈ zT ∧ Cond.instanceMethod yX1_levelAt ∈ zT ∧ Cond.selects yX1_levelAt.cls yX1_levelAt yX1_levelAt ∈ zT := ⟨zw_562, zw_487, zw_488⟩
theorem zw_750 : Cond.methodLink "LowWater$Waiting" 21 yX7_add ∈ zT := zT_t (i := 750) (by decide +kernel) (by decide +kernel)
theorem k_X10_21 : Cond.methodLink "LowWater$Waiting" 21 yX7_add ∈ zT ∧ Cond.instanceMethod yX7_add ∈ zT ∧ Cond.selects yX7_add.cls yX7_add yX7_add ∈ zT := ⟨zw_750, zw_198, zw_199⟩
theorem zw_356 : Cond.fieldLink "LowWater$Waiting" 31 "LowWater$Waiting" "v" "I" ∈ zT := zT_t (i := 356) (by decide +kernel) (by decide +kernel)
theorem zw_357 : Cond.sameField "LowWater$Waiting" "LowWater$Reader" "v" "I" ∈ zT := zT_t (i := 357) (by decide +kernel) (by decide +kernel)
theorem f_X10_31 : zFL "LowWater$Waiting" 31 10 1 true false .int := ⟨RX10, "LowWater$Waiting", TX10, 2, tyX10, rfl, by decide, in_X10, tyX10_ok, nmX10, rfl, rfl, (fun h => Bool.noConfusion h), Or.inl zw_356, Or.inr zw_357⟩
theorem zw_27 : Cond.methodLink "LowWater" 3 objectInit ∈ zT := zT_t (i := 27) (by decide +kernel) (by decide +kernel)
theorem k_X11_3 : Cond.methodLink "LowWater" 3 objectInit ∈ zT ∧ Cond.instanceMethod objectInit ∈ zT ∧ Cond.code objectInit ⟨#[0xb1]⟩ 1 none ∈ zT := ⟨zw_27, zw_28, zw_29⟩
theorem zw_30 : Cond.classLink "LowWater" 9 "LowWater$State" ∈ zT := zT_t (i := 30) (by decide +kernel) (by decide +kernel)
theorem zw_31 : Cond.instantiable "LowWater$State" 11 ∈ zT := zT_t (i := 31) (by decide +kernel) (by decide +kernel)
theorem zw_2 : Cond.initialized "LowWater$State" ∈ zT := zT_t (i := 2) (by decide +kernel) (by decide +kernel)
theorem nw_X11_9 : zNW "LowWater" 9 9 11 [.int 0, .int 0, .int 0, .null, .null, .null, .null, .null, .null, .null, .null] := ⟨RX9, TX9, tyX9, rfl, in_X9, tyX9_ok, zw_30, zw_31, zw_2, by decide +kernel⟩
theorem zw_34 : Cond.code yX9_init cX9_init 1 none ∈ zT := zT_t (i := 34) (by decide +kernel) (by decide +kernel)
theorem co_X9_init : zCo yX9_init cX9_init 1 none 0 := ⟨zw_34, zw_2, by decide +kernel, by decide +kernel, by decide +kernel⟩
theorem zw_33 : Cond.instanceMethod yX9_init ∈ zT := zT_t (i := 33) (by decide +kernel) (by decide +kernel)
theorem k_X11_11 : ("LowWater", 11, yX9_init, "LowWater") ∈ zNM ∧ Cond.instanceMethod yX9_init ∈ zT := ⟨by decide +kernel, zw_33⟩
theorem zw_164 : Cond.fieldLink "LowWater" 12 "LowWater" "now" "LLowWater$State;" ∈ zT := zT_t (i := 164) (by decide +kernel) (by decide +kernel)
theorem f_X11_12 : zFL "LowWater" 12 11 0 true true (.object "LowWater$State") := ⟨RX11, "LowWater", TX11, 8, tyX11, rfl, by decide, in_X11, tyX11_ok, nmX11, rfl, rfl, (fun _ => rfl), Or.inl zw_164, Or.inl rfl⟩
theorem zw_165 : Cond.fieldLink "LowWater" 18 "LowWater" "kept" "LLowWater$State;" ∈ zT := zT_t (i := 165) (by decide +kernel) (by decide +kernel)
theorem f_X11_18 : zFL "LowWater" 18 11 1 true true (.object "LowWater$State") := ⟨RX11, "LowWater", TX11, 8, tyX11, rfl, by decide, in_X11, tyX11_ok, nmX11, rfl, rfl, (fun _ => rfl), Or.inl zw_165, Or.inl rfl⟩
theorem zw_166 : Cond.fieldLink "LowWater" 21 "LowWater" "imageTaken" "Z" ∈ zT := zT_t (i := 166) (by decide +kernel) (by decide +kernel)
theorem f_X11_21 : zFL "LowWater" 21 11 2 false true .boolean := ⟨RX11, "LowWater", TX11, 8, tyX11, rfl, by decide, in_X11, tyX11_ok, nmX11, rfl, rfl, (fun _ => rfl), Or.inl zw_166, Or.inl rfl⟩
theorem zw_129 : Cond.classLink "LowWater" 25 "LowWater$Cave" ∈ zT := zT_t (i := 129) (by decide +kernel) (by decide +kernel)
theorem nw_X11_25 : zNW "LowWater" 25 1 6 [.null, .null, .int 0, .null, .null, .int 0] := ⟨RX1, TX1, tyX1, rfl, in_X1, tyX1_ok, zw_129, zw_37, zw_3, by decide +kernel⟩
theorem k_X11_27 : ("LowWater", 27, yX1_init, "LowWater") ∈ zNM ∧ Cond.instanceMethod yX1_init ∈ zT := ⟨by decide +kernel, zw_39⟩
theorem zw_167 : Cond.fieldLink "LowWater" 28 "LowWater" "spare" "LLowWater$Cave;" ∈ zT := zT_t (i := 167) (by decide +kernel) (by decide +kernel)
theorem f_X11_28 : zFL "LowWater" 28 11 3 false true (.object "LowWater$Cave") := ⟨RX11, "LowWater", TX11, 8, tyX11, rfl, by decide, in_X11, tyX11_ok, nmX11, rfl, rfl, (fun _ => rfl), Or.inl zw_167, Or.inl rfl⟩
theorem zw_131 : Cond.classLink "LowWater" 32 "LowWater$Row" ∈ zT := zT_t (i := 131) (by decide +kernel) (by decide +kernel)
theorem nw_X11_32 : zNW "LowWater" 32 7 2 [.null, .int 0] := ⟨RX7, TX7, tyX7, rfl, in_X7, tyX7_ok, zw_131, zw_65, zw_4, by decide +kernel⟩
theorem zw_132 : Cond.methodLink "LowWater" 34 yX7_init ∈ zT := zT_t (i := 132) (by decide +kernel) (by decide +kernel)
theorem k_X11_34 : Cond.methodLink "LowWater" 34 yX7_init ∈ zT ∧ Cond.instanceMethod yX7_init ∈ zT := ⟨zw_132, zw_67⟩
theorem zw_168 : Cond.fieldLink "LowWater" 37 "LowWater" "trace" "LLowWater$Row;" ∈ zT := zT_t (i := 168) (by decide +kernel) (by decide +kernel)
theorem f_X11_37 : zFL "LowWater" 37 11 4 true true (.object "LowWater$Row") := ⟨RX11, "LowWater", TX11, 8, tyX11, rfl, by decide, in_X11, tyX11_ok, nmX11, rfl, rfl, (fun _ => rfl), Or.inl zw_168, Or.inl rfl⟩
theorem zw_133 : Cond.classLink "LowWater" 41 "LowWater$Orders" ∈ zT := zT_t (i := 133) (by decide +kernel) (by decide +kernel)
theorem zw_134 : Cond.instantiable "LowWater$Orders" 8 ∈ zT := zT_t (i := 134) (by decide +kernel) (by decide +kernel)
theorem nw_X11_41 : zNW "LowWater" 41 4 8 [.null, .null, .int 0, .null, .null, .null, .null, .int 0] := ⟨RX4, TX4, tyX4, rfl, in_X4, tyX4_ok, zw_133, zw_134, zw_5, by decide +kernel⟩
theorem zw_137 : Cond.code yX4_init cX4_init 1 none ∈ zT := zT_t (i := 137) (by decide +kernel) (by decide +kernel)
theorem co_X4_init : zCo yX4_init cX4_init 1 none 0 := ⟨zw_137, zw_5, by decide +kernel, by decide +kernel, by decide +kernel⟩
theorem zw_136 : Cond.instanceMethod yX4_init ∈ zT := zT_t (i := 136) (by decide +kernel) (by decide +kernel)
theorem k_X11_43 : ("LowWater", 43, yX4_init, "LowWater") ∈ zNM ∧ Cond.instanceMethod yX4_init ∈ zT := ⟨by decide +kernel, zw_136⟩
theorem zw_169 : Cond.fieldLink "LowWater" 44 "LowWater" "orders" "LLowWater$Orders;" ∈ zT := zT_t (i := 169) (by decide +kernel) (by decide +kernel)
theorem f_X11_44 : zFL "LowWater" 44 11 5 true true (.object "LowWater$Orders") := ⟨RX11, "LowWater", TX11, 8, tyX11, rfl, by decide, in_X11, tyX11_ok, nmX11, rfl, rfl, (fun _ => rfl), Or.inl zw_169, Or.inl rfl⟩
theorem zw_170 : Cond.fieldLink "LowWater" 48 "LowWater" "othersOrders" "LLowWater$Orders;" ∈ zT := zT_t (i := 170) (by decide +kernel) (by decide +kernel)
theorem f_X11_48 : zFL "LowWater" 48 11 6 true true (.object "LowWater$Orders") := ⟨RX11, "LowWater", TX11, 8, tyX11, rfl, by decide, in_X11, tyX11_ok, nmX11, rfl, rfl, (fun _ => rfl), Or.inl zw_170, Or.inl rfl⟩
theorem zw_171 : Cond.fieldLink "LowWater" 51 "LowWater" "waited" "[I" ∈ zT := zT_t (i := 171) (by decide +kernel) (by decide +kernel)
theorem f_X11_51 : zFL "LowWater" 51 11 7 true true (.array .int) := ⟨RX11, "LowWater", TX11, 8, tyX11, rfl, by decide, in_X11, tyX11_ok, nmX11, rfl, rfl, (fun _ => rfl), Or.inl zw_171, Or.inl rfl⟩
theorem f_X11_55 : zFL "LowWater" 55 9 5 true false (.object "LowWater$Row") := ⟨RX9, "LowWater$State", TX9, 11, tyX9, rfl, by decide, in_X9, tyX9_ok, nmX9, rfl, rfl, (fun h => Bool.noConfusion h), Or.inr ⟨"LowWater", by decide +kernel⟩, Or.inl rfl⟩
theorem zw_196 : Cond.code yX7_isFull cX7_isFull 1 (some .boolean) ∈ zT := zT_t (i := 196) (by decide +kernel) (by decide +kernel)
theorem co_X7_isFull : zCo yX7_isFull cX7_isFull 1 (some .boolean) 0 := ⟨zw_196, zw_4, by decide +kernel, by decide +kernel, by decide +kernel⟩
theorem zw_193 : Cond.methodLink "LowWater" 58 yX7_isFull ∈ zT := zT_t (i := 193) (by decide +kernel) (by decide +kernel)
theorem zw_194 : Cond.instanceMethod yX7_isFull ∈ zT := zT_t (i := 194) (by decide +kernel) (by decide +kernel)
theorem zw_195 : Cond.selects "LowWater$Row" yX7_isFull yX7_isFull ∈ zT := zT_t (i := 195) (by decide +kernel) (by decide +kernel)
theorem k_X11_58 : Cond.methodLink "LowWater" 58 yX7_isFull ∈ zT ∧ Cond.instanceMethod yX7_isFull ∈ zT ∧ Cond.selects yX7_isFull.cls yX7_isFull yX7_isFull ∈ zT := ⟨zw_193, zw_194, zw_195⟩
theorem zw_197 : Cond.methodLink "LowWater" 62 yX7_add ∈ zT := zT_t (i := 197) (by decide +kernel) (by decide +kernel)
theorem k_X11_62 : Cond.methodLink "LowWater" 62 yX7_add ∈ zT ∧ Cond.instanceMethod yX7_add ∈ zT ∧ Cond.selects yX7_add.cls yX7_add yX7_add ∈ zT := ⟨zw_197, zw_198, zw_199⟩
theorem f_X11_66 : zFL "LowWater" 66 7 1 false false .int := ⟨RX7, "LowWater$Row", TX7, 2, tyX7, rfl, by decide, in_X7, tyX7_ok, nmX7, rfl, rfl, (fun h => Bool.noConfusion h), Or.inr ⟨"LowWater", by decide +kernel⟩, Or.inl rfl⟩
theorem f_X11_70 : zFL "LowWater" 70 9 1 false false .int := ⟨RX9, "LowWater$State", TX9, 11, tyX9, rfl, by decide, in_X9, tyX9_ok, nmX9, rfl, rfl, (fun h => Bool.noConfusion h), Or.inr ⟨"LowWater", by decide +kernel⟩, Or.inl rfl⟩
theorem zw_208 : Cond.code yX1_read cX1_read 3 (some .int) ∈ zT := zT_t (i := 208) (by decide +kernel) (by decide +kernel)
theorem co_X1_read : zCo yX1_read cX1_read 3 (some .int) 1 := ⟨zw_208, zw_3, by decide +kernel, by decide +kernel, by decide +kernel⟩
theorem zw_205 : Cond.methodLink "LowWater" 73 yX1_read ∈ zT := zT_t (i := 205) (by decide +kernel) (by decide +kernel)
theorem zw_206 : Cond.instanceMethod yX1_read ∈ zT := zT_t (i := 206) (by decide +kernel) (by decide +kernel)
theorem zw_207 : Cond.selects "LowWater$Cave" yX1_read yX1_read ∈ zT := zT_t (i := 207) (by decide +kernel) (by decide +kernel)
theorem k_X11_73 : Cond.methodLink "LowWater" 73 yX1_read ∈ zT ∧ Cond.instanceMethod yX1_read ∈ zT ∧ Cond.selects yX1_read.cls yX1_read yX1_read ∈ zT := ⟨zw_205, zw_206, zw_207⟩
theorem zw_298 : Cond.code yX7_clear cX7_clear 1 none ∈ zT := zT_t (i := 298) (by decide +kernel) (by decide +kernel)
theorem co_X7_clear : zCo yX7_clear cX7_clear 1 none 0 := ⟨zw_298, zw_4, by decide +kernel, by decide +kernel, by decide +kernel⟩
theorem zw_295 : Cond.methodLink "LowWater" 77 yX7_clear ∈ zT := zT_t (i := 295) (by decide +kernel) (by decide +kernel)
theorem zw_296 : Cond.instanceMethod yX7_clear ∈ zT := zT_t (i := 296) (by decide +kernel) (by decide +kernel)
theorem zw_297 : Cond.selects "LowWater$Row" yX7_clear yX7_clear ∈ zT := zT_t (i := 297) (by decide +kernel) (by decide +kernel)
theorem k_X11_77 : Cond.methodLink "LowWater" 77 yX7_clear ∈ zT ∧ Cond.instanceMethod yX7_clear ∈ zT ∧ Cond.selects yX7_clear.cls yX7_clear yX7_clear ∈ zT := ⟨zw_295, zw_296, zw_297⟩
theorem f_X11_80 : zFL "LowWater" 80 9 3 false false (.object "LowWater$Cave") := ⟨RX9, "LowWater$State", TX9, 11, tyX9, rfl, by decide, in_X9, tyX9_ok, nmX9, rfl, rfl, (fun h => Bool.noConfusion h), Or.inr ⟨"LowWater", by decide +kernel⟩, Or.inl rfl⟩
theorem zw_306 : Cond.code yX11_isShelf cX11_isShelf 1 (some .boolean) ∈ zT := zT_t (i := 306) (by decide +kernel) (by decide +kernel)
theorem zw_1 : Cond.initialized "LowWater" ∈ zT := zT_t (i := 1) (by decide +kernel) (by decide +kernel)
theorem co_X11_isShelf : zCo yX11_isShelf cX11_isShelf 1 (some .boolean) 1 := ⟨zw_306, zw_1, by decide +kernel, by decide +kernel, by decide +kernel⟩
theorem zw_304 : Cond.methodLink "LowWater" 83 yX11_isShelf ∈ zT := zT_t (i := 304) (by decide +kernel) (by decide +kernel)
theorem zw_305 : Cond.static yX11_isShelf ∈ zT := zT_t (i := 305) (by decide +kernel) (by decide +kernel)
theorem k_X11_83 : Cond.methodLink "LowWater" 83 yX11_isShelf ∈ zT ∧ Cond.static yX11_isShelf ∈ zT := ⟨zw_304, zw_305⟩
theorem f_X11_87 : zFL "LowWater" 87 9 6 true false (.object "LowWater$Row") := ⟨RX9, "LowWater$State", TX9, 11, tyX9, rfl, by decide, in_X9, tyX9_ok, nmX9, rfl, rfl, (fun h => Bool.noConfusion h), Or.inr ⟨"LowWater", by decide +kernel⟩, Or.inl rfl⟩
theorem f_X11_90 : zFL "LowWater" 90 9 7 true false (.object "LowWater$Row") := ⟨RX9, "LowWater$State", TX9, 11, tyX9, rfl, by decide, in_X9, tyX9_ok, nmX9, rfl, rfl, (fun h => Bool.noConfusion h), Or.inr ⟨"LowWater", by decide +kernel⟩, Or.inl rfl⟩
theorem zw_314 : Cond.code yX11_isSlate cX11_isSlate 2 (some .boolean) ∈ zT := zT_t (i := 314) (by decide +kernel) (by decide +kernel)
theorem co_X11_isSlate : zCo yX11_isSlate cX11_isSlate 2 (some .boolean) 1 := ⟨zw_314, zw_1, by decide +kernel, by decide +kernel, by decide +kernel⟩
theorem zw_311 : Cond.methodLink "LowWater" 93 yX11_isSlate ∈ zT := zT_t (i := 311) (by decide +kernel) (by decide +kernel)
theorem zw_313 : Cond.instanceMethod yX11_isSlate ∈ zT := zT_t (i := 313) (by decide +kernel) (by decide +kernel)
theorem zw_s8 : Cond.selects "LowWater" yX11_isSlate yX11_isSlate ∈ zT := zT_s (i := 8) (by decide +kernel) (by decide +kernel)
theorem k_X11_93 : Cond.methodLink "LowWater" 93 yX11_isSlate ∈ zT ∧ Cond.instanceMethod yX11_isSlate ∈ zT ∧ Cond.selects yX11_isSlate.cls yX11_isSlate yX11_isSlate ∈ zT := ⟨zw_311, zw_313, zw_s8⟩
theorem zw_317 : Cond.code yX11_isWhat cX11_isWhat 1 (some .boolean) ∈ zT := zT_t (i := 317) (by decide +kernel) (by decide +kernel)
theorem co_X11_isWhat : zCo yX11_isWhat cX11_isWhat 1 (some .boolean) 1 := ⟨zw_317, zw_1, by decide +kernel, by decide +kernel, by decide +kernel⟩
theorem zw_315 : Cond.methodLink "LowWater" 96 yX11_isWhat ∈ zT := zT_t (i := 315) (by decide +kernel) (by decide +kernel)
theorem zw_316 : Cond.static yX11_isWhat ∈ zT := zT_t (i := 316) (by decide +kernel) (by decide +kernel)
theorem k_X11_96 : Cond.methodLink "LowWater" 96 yX11_isWhat ∈ zT ∧ Cond.static yX11_isWhat ∈ zT := ⟨zw_315, zw_316⟩
theorem zw_318 : Cond.methodLink "LowWater" 99 yX7_get ∈ zT := zT_t (i := 318) (by decide +kernel) (by decide +kernel)
theorem k_X11_99 : Cond.methodLink "LowWater" 99 yX7_get ∈ zT ∧ Cond.instanceMethod yX7_get ∈ zT ∧ Cond.selects yX7_get.cls yX7_get yX7_get ∈ zT := ⟨zw_318, zw_319, zw_320⟩
theorem zw_329 : Cond.code yX7_replace cX7_replace 3 none ∈ zT := zT_t (i := 329) (by decide +kernel) (by decide +kernel)
theorem co_X7_replace : zCo yX7_replace cX7_replace 3 none 2 := ⟨zw_329, zw_4, by decide +kernel, by decide +kernel, by decide +kernel⟩
theorem zw_326 : Cond.methodLink "LowWater" 103 yX7_replace ∈ zT := zT_t (i := 326) (by decide +kernel) (by decide +kernel)
theorem zw_327 : Cond.instanceMethod yX7_replace ∈ zT := zT_t (i := 327) (by decide +kernel) (by decide +kernel)
theorem zw_328 : Cond.selects "LowWater$Row" yX7_replace yX7_replace ∈ zT := zT_t (i := 328) (by decide +kernel) (by decide +kernel)
theorem k_X11_103 : Cond.methodLink "LowWater" 103 yX7_replace ∈ zT ∧ Cond.instanceMethod yX7_replace ∈ zT ∧ Cond.selects yX7_replace.cls yX7_replace yX7_replace ∈ zT := ⟨zw_326, zw_327, zw_328⟩
theorem f_X11_107 : zFL "LowWater" 107 9 2 false false .int := ⟨RX9, "LowWater$State", TX9, 11, tyX9, rfl, by decide, in_X9, tyX9_ok, nmX9, rfl, rfl, (fun h => Bool.noConfusion h), Or.inr ⟨"LowWater", by decide +kernel⟩, Or.inl rfl⟩
theorem f_X11_110 : zFL "LowWater" 110 9 4 true false (.array (.object "LowWater$Reader")) := ⟨RX9, "LowWater$State", TX9, 11, tyX9, rfl, by decide, in_X9, tyX9_ok, nmX9, rfl, rfl, (fun h => Bool.noConfusion h), Or.inr ⟨"LowWater", by decide +kernel⟩, Or.inl rfl⟩
theorem zw_336 : Cond.code yX11_newReader cX11_newReader 3 (some (.object "LowWater$Reader")) ∈ zT := zT_t (i := 336) (by decide +kernel) (by decide +kernel)
theorem co_X11_newReader : zCo yX11_newReader cX11_newReader 3 (some (.object "LowWater$Reader")) 3 := ⟨zw_336, zw_1, by decide +kernel, by decide +kernel, by decide +kernel⟩
theorem zw_334 : Cond.methodLink "LowWater" 114 yX11_newReader ∈ zT := zT_t (i := 334) (by decide +kernel) (by decide +kernel)
theorem zw_335 : Cond.static yX11_newReader ∈ zT := zT_t (i := 335) (by decide +kernel) (by decide +kernel)
theorem k_X11_114 : Cond.methodLink "LowWater" 114 yX11_newReader ∈ zT ∧ Cond.static yX11_newReader ∈ zT := ⟨zw_334, zw_335⟩
theorem zw_422 : Cond.code yX9_readerAt cX9_readerAt 2 (some (.object "LowWater$Reader")) ∈ zT := zT_t (i := 422) (by decide +kernel) (by decide +kernel)
theorem co_X9_readerAt : zCo yX9_readerAt cX9_readerAt 2 (some (.object "LowWater$Reader")) 1 := ⟨zw_422, zw_2, by decide +kernel, by decide +kernel, by decide +kernel⟩
theorem zw_419 : Cond.methodLink "LowWater" 118 yX9_readerAt ∈ zT := zT_t (i := 419) (by decide +kernel) (by decide +kernel)
theorem zw_420 : Cond.instanceMethod yX9_readerAt ∈ zT := zT_t (i := 420) (by decide +kernel) (by decide +kernel)
theorem zw_421 : Cond.selects "LowWater$State" yX9_readerAt yX9_readerAt ∈ zT := zT_t (i := 421) (by decide +kernel) (by decide +kernel)
theorem k_X11_118 : Cond.methodLink "LowWater" 118 yX9_readerAt ∈ zT ∧ Cond.instanceMethod yX9_readerAt ∈ zT ∧ Cond.selects yX9_readerAt.cls yX9_readerAt yX9_readerAt ∈ zT := ⟨zw_419, zw_420, zw_421⟩
theorem zw_429 : Cond.code yX0_kind cX0_kind 1 (some .int) ∈ zT := zT_t (i := 429) (by decide +kernel) (by decide +kernel)
theorem co_X0_kind : zCo yX0_kind cX0_kind 1 (some .int) 0 := ⟨zw_429, zw_17, by decide +kernel, by decide +kernel, by decide +kernel⟩
theorem zw_423 : Cond.methodLink "LowWater" 122 yX6_kind ∈ zT := zT_t (i := 423) (by decide +kernel) (by decide +kernel)
theorem zw_426 : Cond.sameMethod "LowWater$Reader" "LowWater$Reader" "kind" "()I" ∈ zT := zT_t (i := 426) (by decide +kernel) (by decide +kernel)
theorem zw_424 : Cond.instanceMethod yX6_kind ∈ zT := zT_t (i := 424) (by decide +kernel) (by decide +kernel)
theorem zw_445 : Cond.code yX6_kind cX6_kind 1 (some .int) ∈ zT := zT_t (i := 445) (by decide +kernel) (by decide +kernel)
theorem zw_427 : Cond.selects "LowWater$Blind" yX6_kind yX0_kind ∈ zT := zT_t (i := 427) (by decide +kernel) (by decide +kernel)
theorem zw_428 : Cond.instanceMethod yX0_kind ∈ zT := zT_t (i := 428) (by decide +kernel) (by decide +kernel)
theorem ku_X11_122_X0 : Cond.methodLink "LowWater" 122 ⟨"LowWater$Reader", "kind", "()I"⟩ ∈ zT ∧ Cond.sameMethod "LowWater$Reader" "LowWater$Reader" "kind" "()I" ∈ zT ∧ Cond.instanceMethod ⟨"LowWater$Reader", "kind", "()I"⟩ ∈ zT ∧ Cond.code ⟨"LowWater$Reader", "kind", "()I"⟩ cX6_kind 1 (some .int) ∈ zT ∧ Cond.selects "LowWater$Blind" ⟨"LowWater$Reader", "kind", "()I"⟩ yX0_kind ∈ zT ∧ Cond.instanceMethod yX0_kind ∈ zT ∧ "LowWater$Reader" ≠ "java/lang/invoke/MethodHandle" ∧ "LowWater$Reader" ≠ "java/lang/invoke/VarHandle" ∧ (parseMethodDescriptor "()I").map (fun d => d.parameters.length) = some 0 := ⟨zw_423, zw_426, zw_424, zw_445, zw_427, zw_428, by decide +kernel, by decide +kernel, by decide +kernel⟩
theorem zw_432 : Cond.code yX2_kind cX2_kind 1 (some .int) ∈ zT := zT_t (i := 432) (by decide +kernel) (by decide +kernel)
theorem co_X2_kind : zCo yX2_kind cX2_kind 1 (some .int) 0 := ⟨zw_432, zw_14, by decide +kernel, by decide +kernel, by decide +kernel⟩
theorem zw_430 : Cond.selects "LowWater$Diver" yX6_kind yX2_kind ∈ zT := zT_t (i := 430) (by decide +kernel) (by decide +kernel)
theorem zw_431 : Cond.instanceMethod yX2_kind ∈ zT := zT_t (i := 431) (by decide +kernel) (by decide +kernel)
theorem ku_X11_122_X2 : Cond.methodLink "LowWater" 122 ⟨"LowWater$Reader", "kind", "()I"⟩ ∈ zT ∧ Cond.sameMethod "LowWater$Reader" "LowWater$Reader" "kind" "()I" ∈ zT ∧ Cond.instanceMethod ⟨"LowWater$Reader", "kind", "()I"⟩ ∈ zT ∧ Cond.code ⟨"LowWater$Reader", "kind", "()I"⟩ cX6_kind 1 (some .int) ∈ zT ∧ Cond.selects "LowWater$Diver" ⟨"LowWater$Reader", "kind", "()I"⟩ yX2_kind ∈ zT ∧ Cond.instanceMethod yX2_kind ∈ zT ∧ "LowWater$Reader" ≠ "java/lang/invoke/MethodHandle" ∧ "LowWater$Reader" ≠ "java/lang/invoke/VarHandle" ∧ (parseMethodDescriptor "()I").map (fun d => d.parameters.length) = some 0 := ⟨zw_423, zw_426, zw_424, zw_445, zw_430, zw_431, by decide +kernel, by decide +kernel, by decide +kernel⟩
theorem zw_435 : Cond.code yX3_kind cX3_kind 1 (some .int) ∈ zT := zT_t (i := 435) (by decide +kernel) (by decide +kernel)
theorem co_X3_kind : zCo yX3_kind cX3_kind 1 (some .int) 0 := ⟨zw_435, zw_13, by decide +kernel, by decide +kernel, by decide +kernel⟩
theorem zw_433 : Cond.selects "LowWater$Fast" yX6_kind yX3_kind ∈ zT := zT_t (i := 433) (by decide +kernel) (by decide +kernel)
theorem zw_434 : Cond.instanceMethod yX3_kind ∈ zT := zT_t (i := 434) (by decide +kernel) (by decide +kernel)
theorem ku_X11_122_X3 : Cond.methodLink "LowWater" 122 ⟨"LowWater$Reader", "kind", "()I"⟩ ∈ zT ∧ Cond.sameMethod "LowWater$Reader" "LowWater$Reader" "kind" "()I" ∈ zT ∧ Cond.instanceMethod ⟨"LowWater$Reader", "kind", "()I"⟩ ∈ zT ∧ Cond.code ⟨"LowWater$Reader", "kind", "()I"⟩ cX6_kind 1 (some .int) ∈ zT ∧ Cond.selects "LowWater$Fast" ⟨"LowWater$Reader", "kind", "()I"⟩ yX3_kind ∈ zT ∧ Cond.instanceMethod yX3_kind ∈ zT ∧ "LowWater$Reader" ≠ "java/lang/invoke/MethodHandle" ∧ "LowWater$Reader" ≠ "java/lang/invoke/VarHandle" ∧ (parseMethodDescriptor "()I").map (fun d => d.parameters.length) = some 0 := ⟨zw_423, zw_426, zw_424, zw_445, zw_433, zw_434, by decide +kernel, by decide +kernel, by decide +kernel⟩
theorem zw_438 : Cond.code yX5_kind cX5_kind 1 (some .int) ∈ zT := zT_t (i := 438) (by decide +kernel) (by decide +kernel)
theorem co_X5_kind : zCo yX5_kind cX5_kind 1 (some .int) 0 := ⟨zw_438, zw_16, by decide +kernel, by decide +kernel, by decide +kernel⟩
theorem zw_436 : Cond.selects "LowWater$Quick" yX6_kind yX5_kind ∈ zT := zT_t (i := 436) (by decide +kernel) (by decide +kernel)
theorem zw_437 : Cond.instanceMethod yX5_kind ∈ zT := zT_t (i := 437) (by decide +kernel) (by decide +kernel)
theorem ku_X11_122_X5 : Cond.methodLink "LowWater" 122 ⟨"LowWater$Reader", "kind", "()I"⟩ ∈ zT ∧ Cond.sameMethod "LowWater$Reader" "LowWater$Reader" "kind" "()I" ∈ zT ∧ Cond.instanceMethod ⟨"LowWater$Reader", "kind", "()I"⟩ ∈ zT ∧ Cond.code ⟨"LowWater$Reader", "kind", "()I"⟩ cX6_kind 1 (some .int) ∈ zT ∧ Cond.selects "LowWater$Quick" ⟨"LowWater$Reader", "kind", "()I"⟩ yX5_kind ∈ zT ∧ Cond.instanceMethod yX5_kind ∈ zT ∧ "LowWater$Reader" ≠ "java/lang/invoke/MethodHandle" ∧ "LowWater$Reader" ≠ "java/lang/invoke/VarHandle" ∧ (parseMethodDescriptor "()I").map (fun d => d.parameters.length) = some 0 := ⟨zw_423, zw_426, zw_424, zw_445, zw_436, zw_437, by decide +kernel, by decide +kernel, by decide +kernel⟩
theorem co_X6_kind : zCo yX6_kind cX6_kind 1 (some .int) 0 := ⟨zw_445, zw_12, by decide +kernel, by decide +kernel, by decide +kernel⟩
theorem zw_425 : Cond.selects "LowWater$Reader" yX6_kind yX6_kind ∈ zT := zT_t (i := 425) (by decide +kernel) (by decide +kernel)
theorem k_X11_122_X6 : Cond.methodLink "LowWater" 122 yX6_kind ∈ zT ∧ Cond.instanceMethod yX6_kind ∈ zT ∧ Cond.selects yX6_kind.cls yX6_kind yX6_kind ∈ zT := ⟨zw_423, zw_424, zw_425⟩
theorem ku_X11_122_X6 : Cond.methodLink "LowWater" 122 ⟨"LowWater$Reader", "kind", "()I"⟩ ∈ zT ∧ Cond.sameMethod "LowWater$Reader" "LowWater$Reader" "kind" "()I" ∈ zT ∧ Cond.instanceMethod ⟨"LowWater$Reader", "kind", "()I"⟩ ∈ zT ∧ Cond.code ⟨"LowWater$Reader", "kind", "()I"⟩ cX6_kind 1 (some .int) ∈ zT ∧ Cond.selects "LowWater$Reader" ⟨"LowWater$Reader", "kind", "()I"⟩ yX6_kind ∈ zT ∧ Cond.instanceMethod yX6_kind ∈ zT ∧ "LowWater$Reader" ≠ "java/lang/invoke/MethodHandle" ∧ "LowWater$Reader" ≠ "java/lang/invoke/VarHandle" ∧ (parseMethodDescriptor "()I").map (fun d => d.parameters.length) = some 0 := ⟨zw_423, zw_426, zw_424, zw_445, zw_425, zw_424, by decide +kernel, by decide +kernel, by decide +kernel⟩
theorem zw_441 : Cond.code yX8_kind cX8_kind 1 (some .int) ∈ zT := zT_t (i := 441) (by decide +kernel) (by decide +kernel)
theorem co_X8_kind : zCo yX8_kind cX8_kind 1 (some .int) 0 := ⟨zw_441, zw_15, by decide +kernel, by decide +kernel, by decide +kernel⟩
theorem zw_439 : Cond.selects "LowWater$Rowed" yX6_kind yX8_kind ∈ zT := zT_t (i := 439) (by decide +kernel) (by decide +kernel)
theorem zw_440 : Cond.instanceMethod yX8_kind ∈ zT := zT_t (i := 440) (by decide +kernel) (by decide +kernel)
theorem ku_X11_122_X8 : Cond.methodLink "LowWater" 122 ⟨"LowWater$Reader", "kind", "()I"⟩ ∈ zT ∧ Cond.sameMethod "LowWater$Reader" "LowWater$Reader" "kind" "()I" ∈ zT ∧ Cond.instanceMethod ⟨"LowWater$Reader", "kind", "()I"⟩ ∈ zT ∧ Cond.code ⟨"LowWater$Reader", "kind", "()I"⟩ cX6_kind 1 (some .int) ∈ zT ∧ Cond.selects "LowWater$Rowed" ⟨"LowWater$Reader", "kind", "()I"⟩ yX8_kind ∈ zT ∧ Cond.instanceMethod yX8_kind ∈ zT ∧ "LowWater$Reader" ≠ "java/lang/invoke/MethodHandle" ∧ "LowWater$Reader" ≠ "java/lang/invoke/VarHandle" ∧ (parseMethodDescriptor "()I").map (fun d => d.parameters.length) = some 0 := ⟨zw_423, zw_426, zw_424, zw_445, zw_439, zw_440, by decide +kernel, by decide +kernel, by decide +kernel⟩
theorem zw_444 : Cond.code yX10_kind cX10_kind 1 (some .int) ∈ zT := zT_t (i := 444) (by decide +kernel) (by decide +kernel)
theorem co_X10_kind : zCo yX10_kind cX10_kind 1 (some .int) 0 := ⟨zw_444, zw_18, by decide +kernel, by decide +kernel, by decide +kernel⟩
theorem zw_442 : Cond.selects "LowWater$Waiting" yX6_kind yX10_kind ∈ zT := zT_t (i := 442) (by decide +kernel) (by decide +kernel)
theorem zw_443 : Cond.instanceMethod yX10_kind ∈ zT := zT_t (i := 443) (by decide +kernel) (by decide +kernel)
theorem ku_X11_122_X10 : Cond.methodLink "LowWater" 122 ⟨"LowWater$Reader", "kind", "()I"⟩ ∈ zT ∧ Cond.sameMethod "LowWater$Reader" "LowWater$Reader" "kind" "()I" ∈ zT ∧ Cond.instanceMethod ⟨"LowWater$Reader", "kind", "()I"⟩ ∈ zT ∧ Cond.code ⟨"LowWater$Reader", "kind", "()I"⟩ cX6_kind 1 (some .int) ∈ zT ∧ Cond.selects "LowWater$Waiting" ⟨"LowWater$Reader", "kind", "()I"⟩ yX10_kind ∈ zT ∧ Cond.instanceMethod yX10_kind ∈ zT ∧ "LowWater$Reader" ≠ "java/lang/invoke/MethodHandle" ∧ "LowWater$Reader" ≠ "java/lang/invoke/VarHandle" ∧ (parseMethodDescriptor "()I").map (fun d => d.parameters.length) = some 0 := ⟨zw_423, zw_426, zw_424, zw_445, zw_442, zw_443, by decide +kernel, by decide +kernel, by decide +kernel⟩
theorem zw_358 : Cond.fieldLink "LowWater" 128 "LowWater$Reader" "v" "I" ∈ zT := zT_t (i := 358) (by decide +kernel) (by decide +kernel)
theorem f_X11_128 : zFL "LowWater" 128 6 1 true false .int := ⟨RX6, "LowWater$Reader", TX6, 2, tyX6, rfl, by decide, in_X6, tyX6_ok, nmX6, rfl, rfl, (fun h => Bool.noConfusion h), Or.inl zw_358, Or.inl rfl⟩
theorem zw_450 : Cond.methodLink "LowWater" 131 yX6_hoursFor ∈ zT := zT_t (i := 450) (by decide +kernel) (by decide +kernel)
theorem ku_X11_131_X0 : Cond.methodLink "LowWater" 131 ⟨"LowWater$Reader", "hoursFor", "(I)I"⟩ ∈ zT ∧ Cond.sameMethod "LowWater$Reader" "LowWater$Reader" "hoursFor" "(I)I" ∈ zT ∧ Cond.instanceMethod ⟨"LowWater$Reader", "hoursFor", "(I)I"⟩ ∈ zT ∧ Cond.code ⟨"LowWater$Reader", "hoursFor", "(I)I"⟩ cX6_hoursFor 2 (some .int) ∈ zT ∧ Cond.selects "LowWater$Blind" ⟨"LowWater$Reader", "hoursFor", "(I)I"⟩ yX0_hoursFor ∈ zT ∧ Cond.instanceMethod yX0_hoursFor ∈ zT ∧ "LowWater$Reader" ≠ "java/lang/invoke/MethodHandle" ∧ "LowWater$Reader" ≠ "java/lang/invoke/VarHandle" ∧ (parseMethodDescriptor "(I)I").map (fun d => d.parameters.length) = some 1 := ⟨zw_450, zw_453, zw_451, zw_470, zw_454, zw_455, by decide +kernel, by decide +kernel, by decide +kernel⟩
theorem ku_X11_131_X2 : Cond.methodLink "LowWater" 131 ⟨"LowWater$Reader", "hoursFor", "(I)I"⟩ ∈ zT ∧ Cond.sameMethod "LowWater$Reader" "LowWater$Reader" "hoursFor" "(I)I" ∈ zT ∧ Cond.instanceMethod ⟨"LowWater$Reader", "hoursFor", "(I)I"⟩ ∈ zT ∧ Cond.code ⟨"LowWater$Reader", "hoursFor", "(I)I"⟩ cX6_hoursFor 2 (some .int) ∈ zT ∧ Cond.selects "LowWater$Diver" ⟨"LowWater$Reader", "hoursFor", "(I)I"⟩ yX6_hoursFor ∈ zT ∧ Cond.instanceMethod yX6_hoursFor ∈ zT ∧ "LowWater$Reader" ≠ "java/lang/invoke/MethodHandle" ∧ "LowWater$Reader" ≠ "java/lang/invoke/VarHandle" ∧ (parseMethodDescriptor "(I)I").map (fun d => d.parameters.length) = some 1 := ⟨zw_450, zw_453, zw_451, zw_470, zw_457, zw_451, by decide +kernel, by decide +kernel, by decide +kernel⟩
theorem ku_X11_131_X3 : Cond.methodLink "LowWater" 131 ⟨"LowWater$Reader", "hoursFor", "(I)I"⟩ ∈ zT ∧ Cond.sameMethod "LowWater$Reader" "LowWater$Reader" "hoursFor" "(I)I" ∈ zT ∧ Cond.instanceMethod ⟨"LowWater$Reader", "hoursFor", "(I)I"⟩ ∈ zT ∧ Cond.code ⟨"LowWater$Reader", "hoursFor", "(I)I"⟩ cX6_hoursFor 2 (some .int) ∈ zT ∧ Cond.selects "LowWater$Fast" ⟨"LowWater$Reader", "hoursFor", "(I)I"⟩ yX3_hoursFor ∈ zT ∧ Cond.instanceMethod yX3_hoursFor ∈ zT ∧ "LowWater$Reader" ≠ "java/lang/invoke/MethodHandle" ∧ "LowWater$Reader" ≠ "java/lang/invoke/VarHandle" ∧ (parseMethodDescriptor "(I)I").map (fun d => d.parameters.length) = some 1 := ⟨zw_450, zw_453, zw_451, zw_470, zw_458, zw_459, by decide +kernel, by decide +kernel, by decide +kernel⟩
theorem ku_X11_131_X5 : Cond.methodLink "LowWater" 131 ⟨"LowWater$Reader", "hoursFor", "(I)I"⟩ ∈ zT ∧ Cond.sameMethod "LowWater$Reader" "LowWater$Reader" "hoursFor" "(I)I" ∈ zT ∧ Cond.instanceMethod ⟨"LowWater$Reader", "hoursFor", "(I)I"⟩ ∈ zT ∧ Cond.code ⟨"LowWater$Reader", "hoursFor", "(I)I"⟩ cX6_hoursFor 2 (some .int) ∈ zT ∧ Cond.selects "LowWater$Quick" ⟨"LowWater$Reader", "hoursFor", "(I)I"⟩ yX5_hoursFor ∈ zT ∧ Cond.instanceMethod yX5_hoursFor ∈ zT ∧ "LowWater$Reader" ≠ "java/lang/invoke/MethodHandle" ∧ "LowWater$Reader" ≠ "java/lang/invoke/VarHandle" ∧ (parseMethodDescriptor "(I)I").map (fun d => d.parameters.length) = some 1 := ⟨zw_450, zw_453, zw_451, zw_470, zw_461, zw_462, by decide +kernel, by decide +kernel, by decide +kernel⟩
theorem k_X11_131_X6 : Cond.methodLink "LowWater" 131 yX6_hoursFor ∈ zT ∧ Cond.instanceMethod yX6_hoursFor ∈ zT ∧ Cond.selects yX6_hoursFor.cls yX6_hoursFor yX6_hoursFor ∈ zT := ⟨zw_450, zw_451, zw_452⟩
theorem ku_X11_131_X6 : Cond.methodLink "LowWater" 131 ⟨"LowWater$Reader", "hoursFor", "(I)I"⟩ ∈ zT ∧ Cond.sameMethod "LowWater$Reader" "LowWater$Reader" "hoursFor" "(I)I" ∈ zT ∧ Cond.instanceMethod ⟨"LowWater$Reader", "hoursFor", "(I)I"⟩ ∈ zT ∧ Cond.code ⟨"LowWater$Reader", "hoursFor", "(I)I"⟩ cX6_hoursFor 2 (some .int) ∈ zT ∧ Cond.selects "LowWater$Reader" ⟨"LowWater$Reader", "hoursFor", "(I)I"⟩ yX6_hoursFor ∈ zT ∧ Cond.instanceMethod yX6_hoursFor ∈ zT ∧ "LowWater$Reader" ≠ "java/lang/invoke/MethodHandle" ∧ "LowWater$Reader" ≠ "java/lang/invoke/VarHandle" ∧ (parseMethodDescriptor "(I)I").map (fun d => d.parameters.length) = some 1 := ⟨zw_450, zw_453, zw_451, zw_470, zw_452, zw_451, by decide +kernel, by decide +kernel, by decide +kernel⟩
theorem ku_X11_131_X8 : Cond.methodLink "LowWater" 131 ⟨"LowWater$Reader", "hoursFor", "(I)I"⟩ ∈ zT ∧ Cond.sameMethod "LowWater$Reader" "LowWater$Reader" "hoursFor" "(I)I" ∈ zT ∧ Cond.instanceMethod ⟨"LowWater$Reader", "hoursFor", "(I)I"⟩ ∈ zT ∧ Cond.code ⟨"LowWater$Reader", "hoursFor", "(I)I"⟩ cX6_hoursFor 2 (some .int) ∈ zT ∧ Cond.selects "LowWater$Rowed" ⟨"LowWater$Reader", "hoursFor", "(I)I"⟩ yX6_hoursFor ∈ zT ∧ Cond.instanceMethod yX6_hoursFor ∈ zT ∧ "LowWater$Reader" ≠ "java/lang/invoke/MethodHandle" ∧ "LowWater$Reader" ≠ "java/lang/invoke/VarHandle" ∧ (parseMethodDescriptor "(I)I").map (fun d => d.parameters.length) = some 1 := ⟨zw_450, zw_453, zw_451, zw_470, zw_468, zw_451, by decide +kernel, by decide +kernel, by decide +kernel⟩
theorem ku_X11_131_X10 : Cond.methodLink "LowWater" 131 ⟨"LowWater$Reader", "hoursFor", "(I)I"⟩ ∈ zT ∧ Cond.sameMethod "LowWater$Reader" "LowWater$Reader" "hoursFor" "(I)I" ∈ zT ∧ Cond.instanceMethod ⟨"LowWater$Reader", "hoursFor", "(I)I"⟩ ∈ zT ∧ Cond.code ⟨"LowWater$Reader", "hoursFor", "(I)I"⟩ cX6_hoursFor 2 (some .int) ∈ zT ∧ Cond.selects "LowWater$Waiting" ⟨"LowWater$Reader", "hoursFor", "(I)I"⟩ yX6_hoursFor ∈ zT ∧ Cond.instanceMethod yX6_hoursFor ∈ zT ∧ "LowWater$Reader" ≠ "java/lang/invoke/MethodHandle" ∧ "LowWater$Reader" ≠ "java/lang/invoke/VarHandle" ∧ (parseMethodDescriptor "(I)I").map (fun d => d.parameters.length) = some 1 := ⟨zw_450, zw_453, zw_451, zw_470, zw_469, zw_451, by decide +kernel, by decide +kernel, by decide +kernel⟩
theorem zw_477 : Cond.code yX11_isNear cX11_isNear 1 (some .boolean) ∈ zT := zT_t (i := 477) (by decide +kernel) (by decide +kernel)
theorem co_X11_isNear : zCo yX11_isNear cX11_isNear 1 (some .boolean) 1 := ⟨zw_477, zw_1, by decide +kernel, by decide +kernel, by decide +kernel⟩
theorem zw_475 : Cond.methodLink "LowWater" 134 yX11_isNear ∈ zT := zT_t (i := 475) (by decide +kernel) (by decide +kernel)
theorem zw_476 : Cond.static yX11_isNear ∈ zT := zT_t (i := 476) (by decide +kernel) (by decide +kernel)
theorem k_X11_134 : Cond.methodLink "LowWater" 134 yX11_isNear ∈ zT ∧ Cond.static yX11_isNear ∈ zT := ⟨zw_475, zw_476⟩
theorem f_X11_137 : zFL "LowWater" 137 9 0 false false .int := ⟨RX9, "LowWater$State", TX9, 11, tyX9, rfl, by decide, in_X9, tyX9_ok, nmX9, rfl, rfl, (fun h => Bool.noConfusion h), Or.inr ⟨"LowWater", by decide +kernel⟩, Or.inl rfl⟩
theorem zw_485 : Cond.code yX11_levelIn cX11_levelIn 2 (some .int) ∈ zT := zT_t (i := 485) (by decide +kernel) (by decide +kernel)
theorem co_X11_levelIn : zCo yX11_levelIn cX11_levelIn 2 (some .int) 1 := ⟨zw_485, zw_1, by decide +kernel, by decide +kernel, by decide +kernel⟩
theorem zw_482 : Cond.methodLink "LowWater" 140 yX11_levelIn ∈ zT := zT_t (i := 482) (by decide +kernel) (by decide +kernel)
theorem zw_484 : Cond.instanceMethod yX11_levelIn ∈ zT := zT_t (i := 484) (by decide +kernel) (by decide +kernel)
theorem zw_s9 : Cond.selects "LowWater" yX11_levelIn yX11_levelIn ∈ zT := zT_s (i := 9) (by decide +kernel) (by decide +kernel)
theorem k_X11_140 : Cond.methodLink "LowWater" 140 yX11_levelIn ∈ zT ∧ Cond.instanceMethod yX11_levelIn ∈ zT ∧ Cond.selects yX11_levelIn.cls yX11_levelIn yX11_levelIn ∈ zT := ⟨zw_482, zw_484, zw_s9⟩
theorem zw_510 : Cond.code yX1_waveAt cX1_waveAt 3 (some .int) ∈ zT := zT_t (i := 510) (by decide +kernel) (by decide +kernel)
theorem co_X1_waveAt : zCo yX1_waveAt cX1_waveAt 3 (some .int) 1 := ⟨zw_510, zw_3, by decide +kernel, by decide +kernel, by decide +kernel⟩
theorem zw_507 : Cond.methodLink "LowWater" 143 yX1_waveAt ∈ zT := zT_t (i := 507) (by decide +kernel) (by decide +kernel)
theorem zw_508 : Cond.instanceMethod yX1_waveAt ∈ zT := zT_t (i := 508) (by decide +kernel) (by decide +kernel)
theorem zw_509 : Cond.selects "LowWater$Cave" yX1_waveAt yX1_waveAt ∈ zT := zT_t (i := 509) (by decide +kernel) (by decide +kernel)
theorem k_X11_143 : Cond.methodLink "LowWater" 143 yX1_waveAt ∈ zT ∧ Cond.instanceMethod yX1_waveAt ∈ zT ∧ Cond.selects yX1_waveAt.cls yX1_waveAt yX1_waveAt ∈ zT := ⟨zw_507, zw_508, zw_509⟩
theorem zw_519 : Cond.methodLink "LowWater" 146 yX6_soonest ∈ zT := zT_t (i := 519) (by decide +kernel) (by decide +kernel)
theorem ku_X11_146_X0 : Cond.methodLink "LowWater" 146 ⟨"LowWater$Reader", "soonest", "(LLowWater$Cave;III)I"⟩ ∈ zT ∧ Cond.sameMethod "LowWater$Reader" "LowWater$Reader" "soonest" "(LLowWater$Cave;III)I" ∈ zT ∧ Cond.instanceMethod ⟨"LowWater$Reader", "soonest", "(LLowWater$Cave;III)I"⟩ ∈ zT ∧ Cond.code ⟨"LowWater$Reader", "soonest", "(LLowWater$Cave;III)I"⟩ cX6_soonest 8 (some .int) ∈ zT ∧ Cond.selects "LowWater$Blind" ⟨"LowWater$Reader", "soonest", "(LLowWater$Cave;III)I"⟩ yX6_soonest ∈ zT ∧ Cond.instanceMethod yX6_soonest ∈ zT ∧ "LowWater$Reader" ≠ "java/lang/invoke/MethodHandle" ∧ "LowWater$Reader" ≠ "java/lang/invoke/VarHandle" ∧ (parseMethodDescriptor "(LLowWater$Cave;III)I").map (fun d => d.parameters.length) = some 4 := ⟨zw_519, zw_522, zw_520, zw_529, zw_523, zw_520, by decide +kernel, by decide +kernel, by decide +kernel⟩
theorem ku_X11_146_X2 : Cond.methodLink "LowWater" 146 ⟨"LowWater$Reader", "soonest", "(LLowWater$Cave;III)I"⟩ ∈ zT ∧ Cond.sameMethod "LowWater$Reader" "LowWater$Reader" "soonest" "(LLowWater$Cave;III)I" ∈ zT ∧ Cond.instanceMethod ⟨"LowWater$Reader", "soonest", "(LLowWater$Cave;III)I"⟩ ∈ zT ∧ Cond.code ⟨"LowWater$Reader", "soonest", "(LLowWater$Cave;III)I"⟩ cX6_soonest 8 (some .int) ∈ zT ∧ Cond.selects "LowWater$Diver" ⟨"LowWater$Reader", "soonest", "(LLowWater$Cave;III)I"⟩ yX6_soonest ∈ zT ∧ Cond.instanceMethod yX6_soonest ∈ zT ∧ "LowWater$Reader" ≠ "java/lang/invoke/MethodHandle" ∧ "LowWater$Reader" ≠ "java/lang/invoke/VarHandle" ∧ (parseMethodDescriptor "(LLowWater$Cave;III)I").map (fun d => d.parameters.length) = some 4 := ⟨zw_519, zw_522, zw_520, zw_529, zw_524, zw_520, by decide +kernel, by decide +kernel, by decide +kernel⟩
theorem ku_X11_146_X3 : Cond.methodLink "LowWater" 146 ⟨"LowWater$Reader", "soonest", "(LLowWater$Cave;III)I"⟩ ∈ zT ∧ Cond.sameMethod "LowWater$Reader" "LowWater$Reader" "soonest" "(LLowWater$Cave;III)I" ∈ zT ∧ Cond.instanceMethod ⟨"LowWater$Reader", "soonest", "(LLowWater$Cave;III)I"⟩ ∈ zT ∧ Cond.code ⟨"LowWater$Reader", "soonest", "(LLowWater$Cave;III)I"⟩ cX6_soonest 8 (some .int) ∈ zT ∧ Cond.selects "LowWater$Fast" ⟨"LowWater$Reader", "soonest", "(LLowWater$Cave;III)I"⟩ yX6_soonest ∈ zT ∧ Cond.instanceMethod yX6_soonest ∈ zT ∧ "LowWater$Reader" ≠ "java/lang/invoke/MethodHandle" ∧ "LowWater$Reader" ≠ "java/lang/invoke/VarHandle" ∧ (parseMethodDescriptor "(LLowWater$Cave;III)I").map (fun d => d.parameters.length) = some 4 := ⟨zw_519, zw_522, zw_520, zw_529, zw_525, zw_520, by decide +kernel, by decide +kernel, by decide +kernel⟩
theorem ku_X11_146_X5 : Cond.methodLink "LowWater" 146 ⟨"LowWater$Reader", "soonest", "(LLowWater$Cave;III)I"⟩ ∈ zT ∧ Cond.sameMethod "LowWater$Reader" "LowWater$Reader" "soonest" "(LLowWater$Cave;III)I" ∈ zT ∧ Cond.instanceMethod ⟨"LowWater$Reader", "soonest", "(LLowWater$Cave;III)I"⟩ ∈ zT ∧ Cond.code ⟨"LowWater$Reader", "soonest", "(LLowWater$Cave;III)I"⟩ cX6_soonest 8 (some .int) ∈ zT ∧ Cond.selects "LowWater$Quick" ⟨"LowWater$Reader", "soonest", "(LLowWater$Cave;III)I"⟩ yX6_soonest ∈ zT ∧ Cond.instanceMethod yX6_soonest ∈ zT ∧ "LowWater$Reader" ≠ "java/lang/invoke/MethodHandle" ∧ "LowWater$Reader" ≠ "java/lang/invoke/VarHandle" ∧ (parseMethodDescriptor "(LLowWater$Cave;III)I").map (fun d => d.parameters.length) = some 4 := ⟨zw_519, zw_522, zw_520, zw_529, zw_526, zw_520, by decide +kernel, by decide +kernel, by decide +kernel⟩
theorem k_X11_146_X6 : Cond.methodLink "LowWater" 146 yX6_soonest ∈ zT ∧ Cond.instanceMethod yX6_soonest ∈ zT ∧ Cond.selects yX6_soonest.cls yX6_soonest yX6_soonest ∈ zT := ⟨zw_519, zw_520, zw_521⟩
theorem ku_X11_146_X6 : Cond.methodLink "LowWater" 146 ⟨"LowWater$Reader", "soonest", "(LLowWater$Cave;III)I"⟩ ∈ zT ∧ Cond.sameMethod "LowWater$Reader" "LowWater$Reader" "soonest" "(LLowWater$Cave;III)I" ∈ zT ∧ Cond.instanceMethod ⟨"LowWater$Reader", "soonest", "(LLowWater$Cave;III)I"⟩ ∈ zT ∧ Cond.code ⟨"LowWater$Reader", "soonest", "(LLowWater$Cave;III)I"⟩ cX6_soonest 8 (some .int) ∈ zT ∧ Cond.selects "LowWater$Reader" ⟨"LowWater$Reader", "soonest", "(LLowWater$Cave;III)I"⟩ yX6_soonest ∈ zT ∧ Cond.instanceMethod yX6_soonest ∈ zT ∧ "LowWater$Reader" ≠ "java/lang/invoke/MethodHandle" ∧ "LowWater$Reader" ≠ "java/lang/invoke/VarHandle" ∧ (parseMethodDescriptor "(LLowWater$Cave;III)I").map (fun d => d.parameters.length) = some 4 := ⟨zw_519, zw_522, zw_520, zw_529, zw_521, zw_520, by decide +kernel, by decide +kernel, by decide +kernel⟩
theorem ku_X11_146_X8 : Cond.methodLink "LowWater" 146 ⟨"LowWater$Reader", "soonest", "(LLowWater$Cave;III)I"⟩ ∈ zT ∧ Cond.sameMethod "LowWater$Reader" "LowWater$Reader" "soonest" "(LLowWater$Cave;III)I" ∈ zT ∧ Cond.instanceMethod ⟨"LowWater$Reader", "soonest", "(LLowWater$Cave;III)I"⟩ ∈ zT ∧ Cond.code ⟨"LowWater$Reader", "soonest", "(LLowWater$Cave;III)I"⟩ cX6_soonest 8 (some .int) ∈ zT ∧ Cond.selects "LowWater$Rowed" ⟨"LowWater$Reader", "soonest", "(LLowWater$Cave;III)I"⟩ yX6_soonest ∈ zT ∧ Cond.instanceMethod yX6_soonest ∈ zT ∧ "LowWater$Reader" ≠ "java/lang/invoke/MethodHandle" ∧ "LowWater$Reader" ≠ "java/lang/invoke/VarHandle" ∧ (parseMethodDescriptor "(LLowWater$Cave;III)I").map (fun d => d.parameters.length) = some 4 := ⟨zw_519, zw_522, zw_520, zw_529, zw_527, zw_520, by decide +kernel, by decide +kernel, by decide +kernel⟩
theorem ku_X11_146_X10 : Cond.methodLink "LowWater" 146 ⟨"LowWater$Reader", "soonest", "(LLowWater$Cave;III)I"⟩ ∈ zT ∧ Cond.sameMethod "LowWater$Reader" "LowWater$Reader" "soonest" "(LLowWater$Cave;III)I" ∈ zT ∧ Cond.instanceMethod ⟨"LowWater$Reader", "soonest", "(LLowWater$Cave;III)I"⟩ ∈ zT ∧ Cond.code ⟨"LowWater$Reader", "soonest", "(LLowWater$Cave;III)I"⟩ cX6_soonest 8 (some .int) ∈ zT ∧ Cond.selects "LowWater$Waiting" ⟨"LowWater$Reader", "soonest", "(LLowWater$Cave;III)I"⟩ yX6_soonest ∈ zT ∧ Cond.instanceMethod yX6_soonest ∈ zT ∧ "LowWater$Reader" ≠ "java/lang/invoke/MethodHandle" ∧ "LowWater$Reader" ≠ "java/lang/invoke/VarHandle" ∧ (parseMethodDescriptor "(LLowWater$Cave;III)I").map (fun d => d.parameters.length) = some 4 := ⟨zw_519, zw_522, zw_520, zw_529, zw_528, zw_520, by decide +kernel, by decide +kernel, by decide +kernel⟩
theorem zw_571 : Cond.code yX11_isSet cX11_isSet 2 (some .boolean) ∈ zT := zT_t (i := 571) (by decide +kernel) (by decide +kernel)
theorem co_X11_isSet : zCo yX11_isSet cX11_isSet 2 (some .boolean) 1 := ⟨zw_571, zw_1, by decide +kernel, by decide +kernel, by decide +kernel⟩
theorem zw_568 : Cond.methodLink "LowWater" 150 yX11_isSet ∈ zT := zT_t (i := 568) (by decide +kernel) (by decide +kernel)
theorem zw_570 : Cond.instanceMethod yX11_isSet ∈ zT := zT_t (i := 570) (by decide +kernel) (by decide +kernel)
theorem zw_s11 : Cond.selects "LowWater" yX11_isSet yX11_isSet ∈ zT := zT_s (i := 11) (by decide +kernel) (by decide +kernel)
theorem k_X11_150 : Cond.methodLink "LowWater" 150 yX11_isSet ∈ zT ∧ Cond.instanceMethod yX11_isSet ∈ zT ∧ Cond.selects yX11_isSet.cls yX11_isSet yX11_isSet ∈ zT := ⟨zw_568, zw_570, zw_s11⟩
theorem zw_575 : Cond.code yX4_begin cX4_begin 4 none ∈ zT := zT_t (i := 575) (by decide +kernel) (by decide +kernel)
theorem co_X4_begin : zCo yX4_begin cX4_begin 4 none 3 := ⟨zw_575, zw_5, by decide +kernel, by decide +kernel, by decide +kernel⟩
theorem zw_572 : Cond.methodLink "LowWater" 153 yX4_begin ∈ zT := zT_t (i := 572) (by decide +kernel) (by decide +kernel)
theorem zw_573 : Cond.instanceMethod yX4_begin ∈ zT := zT_t (i := 573) (by decide +kernel) (by decide +kernel)
theorem zw_574 : Cond.selects "LowWater$Orders" yX4_begin yX4_begin ∈ zT := zT_t (i := 574) (by decide +kernel) (by decide +kernel)
theorem k_X11_153 : Cond.methodLink "LowWater" 153 yX4_begin ∈ zT ∧ Cond.instanceMethod yX4_begin ∈ zT ∧ Cond.selects yX4_begin.cls yX4_begin yX4_begin ∈ zT := ⟨zw_572, zw_573, zw_574⟩
theorem k_X11_157 : ("LowWater", 157, yX4_goOn, "LowWater") ∈ zNM ∧ Cond.static yX4_goOn ∈ zT := ⟨by decide +kernel, zw_578⟩
theorem zw_590 : Cond.methodLink "LowWater" 161 yX4_hoursOf ∈ zT := zT_t (i := 590) (by decide +kernel) (by decide +kernel)
theorem k_X11_161 : Cond.methodLink "LowWater" 161 yX4_hoursOf ∈ zT ∧ Cond.instanceMethod yX4_hoursOf ∈ zT ∧ Cond.selects yX4_hoursOf.cls yX4_hoursOf yX4_hoursOf ∈ zT := ⟨zw_590, zw_591, zw_592⟩
theorem zw_597 : Cond.code yX4_kth cX4_kth 3 (some .int) ∈ zT := zT_t (i := 597) (by decide +kernel) (by decide +kernel)
theorem co_X4_kth : zCo yX4_kth cX4_kth 3 (some .int) 1 := ⟨zw_597, zw_5, by decide +kernel, by decide +kernel, by decide +kernel⟩
theorem zw_594 : Cond.methodLink "LowWater" 164 yX4_kth ∈ zT := zT_t (i := 594) (by decide +kernel) (by decide +kernel)
theorem zw_595 : Cond.instanceMethod yX4_kth ∈ zT := zT_t (i := 595) (by decide +kernel) (by decide +kernel)
theorem zw_596 : Cond.selects "LowWater$Orders" yX4_kth yX4_kth ∈ zT := zT_t (i := 596) (by decide +kernel) (by decide +kernel)
theorem k_X11_164 : Cond.methodLink "LowWater" 164 yX4_kth ∈ zT ∧ Cond.instanceMethod yX4_kth ∈ zT ∧ Cond.selects yX4_kth.cls yX4_kth yX4_kth ∈ zT := ⟨zw_594, zw_595, zw_596⟩
theorem zw_612 : Cond.code yX11_bothDone cX11_bothDone 5 (some .int) ∈ zT := zT_t (i := 612) (by decide +kernel) (by decide +kernel)
theorem co_X11_bothDone : zCo yX11_bothDone cX11_bothDone 5 (some .int) 2 := ⟨zw_612, zw_1, by decide +kernel, by decide +kernel, by decide +kernel⟩
theorem zw_609 : Cond.methodLink "LowWater" 167 yX11_bothDone ∈ zT := zT_t (i := 609) (by decide +kernel) (by decide +kernel)
theorem zw_611 : Cond.instanceMethod yX11_bothDone ∈ zT := zT_t (i := 611) (by decide +kernel) (by decide +kernel)
theorem zw_s13 : Cond.selects "LowWater" yX11_bothDone yX11_bothDone ∈ zT := zT_s (i := 13) (by decide +kernel) (by decide +kernel)
theorem k_X11_167 : Cond.methodLink "LowWater" 167 yX11_bothDone ∈ zT ∧ Cond.instanceMethod yX11_bothDone ∈ zT ∧ Cond.selects yX11_bothDone.cls yX11_bothDone yX11_bothDone ∈ zT := ⟨zw_609, zw_611, zw_s13⟩
theorem f_X11_171 : zFL "LowWater" 171 9 8 true false (.object "LowWater$Row") := ⟨RX9, "LowWater$State", TX9, 11, tyX9, rfl, by decide, in_X9, tyX9_ok, nmX9, rfl, rfl, (fun h => Bool.noConfusion h), Or.inr ⟨"LowWater", by decide +kernel⟩, Or.inl rfl⟩
theorem zw_621 : Cond.code yX11_tellOf cX11_tellOf 6 (some .int) ∈ zT := zT_t (i := 621) (by decide +kernel) (by decide +kernel)
theorem co_X11_tellOf : zCo yX11_tellOf cX11_tellOf 6 (some .int) 5 := ⟨zw_621, zw_1, by decide +kernel, by decide +kernel, by decide +kernel⟩
theorem zw_618 : Cond.methodLink "LowWater" 174 yX11_tellOf ∈ zT := zT_t (i := 618) (by decide +kernel) (by decide +kernel)
theorem zw_620 : Cond.instanceMethod yX11_tellOf ∈ zT := zT_t (i := 620) (by decide +kernel) (by decide +kernel)
theorem zw_s14 : Cond.selects "LowWater" yX11_tellOf yX11_tellOf ∈ zT := zT_s (i := 14) (by decide +kernel) (by decide +kernel)
theorem k_X11_174 : Cond.methodLink "LowWater" 174 yX11_tellOf ∈ zT ∧ Cond.instanceMethod yX11_tellOf ∈ zT ∧ Cond.selects yX11_tellOf.cls yX11_tellOf yX11_tellOf ∈ zT := ⟨zw_618, zw_620, zw_s14⟩
theorem zw_629 : Cond.code yX11_fillWaited cX11_fillWaited 4 (some .int) ∈ zT := zT_t (i := 629) (by decide +kernel) (by decide +kernel)
theorem co_X11_fillWaited : zCo yX11_fillWaited cX11_fillWaited 4 (some .int) 0 := ⟨zw_629, zw_1, by decide +kernel, by decide +kernel, by decide +kernel⟩
theorem zw_626 : Cond.methodLink "LowWater" 178 yX11_fillWaited ∈ zT := zT_t (i := 626) (by decide +kernel) (by decide +kernel)
theorem zw_628 : Cond.instanceMethod yX11_fillWaited ∈ zT := zT_t (i := 628) (by decide +kernel) (by decide +kernel)
theorem zw_s15 : Cond.selects "LowWater" yX11_fillWaited yX11_fillWaited ∈ zT := zT_s (i := 15) (by decide +kernel) (by decide +kernel)
theorem k_X11_178 : Cond.methodLink "LowWater" 178 yX11_fillWaited ∈ zT ∧ Cond.instanceMethod yX11_fillWaited ∈ zT ∧ Cond.selects yX11_fillWaited.cls yX11_fillWaited yX11_fillWaited ∈ zT := ⟨zw_626, zw_628, zw_s15⟩
theorem zw_650 : Cond.code yX11_waitsIf cX11_waitsIf 9 (some .int) ∈ zT := zT_t (i := 650) (by decide +kernel) (by decide +kernel)
theorem co_X11_waitsIf : zCo yX11_waitsIf cX11_waitsIf 9 (some .int) 4 := ⟨zw_650, zw_1, by decide +kernel, by decide +kernel, by decide +kernel⟩
theorem zw_647 : Cond.methodLink "LowWater" 181 yX11_waitsIf ∈ zT := zT_t (i := 647) (by decide +kernel) (by decide +kernel)
theorem zw_649 : Cond.instanceMethod yX11_waitsIf ∈ zT := zT_t (i := 649) (by decide +kernel) (by decide +kernel)
theorem zw_s17 : Cond.selects "LowWater" yX11_waitsIf yX11_waitsIf ∈ zT := zT_s (i := 17) (by decide +kernel) (by decide +kernel)
theorem k_X11_181 : Cond.methodLink "LowWater" 181 yX11_waitsIf ∈ zT ∧ Cond.instanceMethod yX11_waitsIf ∈ zT ∧ Cond.selects yX11_waitsIf.cls yX11_waitsIf yX11_waitsIf ∈ zT := ⟨zw_647, zw_649, zw_s17⟩
theorem zw_613 : Cond.methodLink "LowWater" 185 Lib.Math.max.name ∈ zT := zT_t (i := 613) (by decide +kernel) (by decide +kernel)
theorem ma_X11_185 : zMa "LowWater" 185 Lib.Math.max.name Lib.Math.max.code 2 := ⟨zw_613, zw_466, zw_19, zw_467⟩
theorem zw_671 : Cond.constantLong "LowWater" 190 (-9223372036854775808) ∈ zT := zT_t (i := 671) (by decide +kernel) (by decide +kernel)
theorem cn_X11_190 : Cond.constantLong "LowWater" 190 (-9223372036854775808) ∈ zT := zw_671
theorem zw_672 : Cond.constantLong "LowWater" 192 10 ∈ zT := zT_t (i := 672) (by decide +kernel) (by decide +kernel)
theorem cn_X11_192 : Cond.constantLong "LowWater" 192 10 ∈ zT := zw_672
theorem zw_675 : Cond.code yX11_lowestTerms cX11_lowestTerms 12 (some .long) ∈ zT := zT_t (i := 675) (by decide +kernel) (by decide +kernel)
theorem co_X11_lowestTerms : zCo yX11_lowestTerms cX11_lowestTerms 12 (some .long) 3 := ⟨zw_675, zw_1, by decide +kernel, by decide +kernel, by decide +kernel⟩
theorem zw_673 : Cond.methodLink "LowWater" 194 yX11_lowestTerms ∈ zT := zT_t (i := 673) (by decide +kernel) (by decide +kernel)
theorem zw_674 : Cond.static yX11_lowestTerms ∈ zT := zT_t (i := 674) (by decide +kernel) (by decide +kernel)
theorem k_X11_194 : Cond.methodLink "LowWater" 194 yX11_lowestTerms ∈ zT ∧ Cond.static yX11_lowestTerms ∈ zT := ⟨zw_673, zw_674⟩
theorem f_X11_198 : zFL "LowWater" 198 9 9 true false (.object "LowWater$Row") := ⟨RX9, "LowWater$State", TX9, 11, tyX9, rfl, by decide, in_X9, tyX9_ok, nmX9, rfl, rfl, (fun h => Bool.noConfusion h), Or.inr ⟨"LowWater", by decide +kernel⟩, Or.inl rfl⟩
theorem zw_688 : Cond.methodLink "LowWater" 201 Lib.Math.min.name ∈ zT := zT_t (i := 688) (by decide +kernel) (by decide +kernel)
theorem ma_X11_201 : zMa "LowWater" 201 Lib.Math.min.name Lib.Math.min.code 2 := ⟨zw_688, zw_504, zw_19, zw_505⟩
theorem f_X11_204 : zFL "LowWater" 204 9 10 true false (.object "LowWater$Row") := ⟨RX9, "LowWater$State", TX9, 11, tyX9, rfl, by decide, in_X9, tyX9_ok, nmX9, rfl, rfl, (fun h => Bool.noConfusion h), Or.inr ⟨"LowWater", by decide +kernel⟩, Or.inl rfl⟩
theorem zw_632 : Cond.code yX11_slateIn cX11_slateIn 1 (some .int) ∈ zT := zT_t (i := 632) (by decide +kernel) (by decide +kernel)
theorem co_X11_slateIn : zCo yX11_slateIn cX11_slateIn 1 (some .int) 1 := ⟨zw_632, zw_1, by decide +kernel, by decide +kernel, by decide +kernel⟩
theorem zw_630 : Cond.methodLink "LowWater" 207 yX11_slateIn ∈ zT := zT_t (i := 630) (by decide +kernel) (by decide +kernel)
theorem zw_631 : Cond.static yX11_slateIn ∈ zT := zT_t (i := 631) (by decide +kernel) (by decide +kernel)
theorem k_X11_207 : Cond.methodLink "LowWater" 207 yX11_slateIn ∈ zT ∧ Cond.static yX11_slateIn ∈ zT := ⟨zw_630, zw_631⟩
theorem zw_639 : Cond.code yX11_readerIn cX11_readerIn 1 (some .int) ∈ zT := zT_t (i := 639) (by decide +kernel) (by decide +kernel)
theorem co_X11_readerIn : zCo yX11_readerIn cX11_readerIn 1 (some .int) 1 := ⟨zw_639, zw_1, by decide +kernel, by decide +kernel, by decide +kernel⟩
theorem zw_637 : Cond.methodLink "LowWater" 210 yX11_readerIn ∈ zT := zT_t (i := 637) (by decide +kernel) (by decide +kernel)
theorem zw_638 : Cond.static yX11_readerIn ∈ zT := zT_t (i := 638) (by decide +kernel) (by decide +kernel)
theorem k_X11_210 : Cond.methodLink "LowWater" 210 yX11_readerIn ∈ zT ∧ Cond.static yX11_readerIn ∈ zT := ⟨zw_637, zw_638⟩
theorem zw_642 : Cond.code yX11_hoursIn cX11_hoursIn 1 (some .int) ∈ zT := zT_t (i := 642) (by decide +kernel) (by decide +kernel)
theorem co_X11_hoursIn : zCo yX11_hoursIn cX11_hoursIn 1 (some .int) 1 := ⟨zw_642, zw_1, by decide +kernel, by decide +kernel, by decide +kernel⟩
theorem zw_640 : Cond.methodLink "LowWater" 213 yX11_hoursIn ∈ zT := zT_t (i := 640) (by decide +kernel) (by decide +kernel)
theorem zw_641 : Cond.static yX11_hoursIn ∈ zT := zT_t (i := 641) (by decide +kernel) (by decide +kernel)
theorem k_X11_213 : Cond.methodLink "LowWater" 213 yX11_hoursIn ∈ zT ∧ Cond.static yX11_hoursIn ∈ zT := ⟨zw_640, zw_641⟩
theorem zw_707 : Cond.code yX6_reads cX6_reads 7 (some .boolean) ∈ zT := zT_t (i := 707) (by decide +kernel) (by decide +kernel)
theorem co_X6_reads : zCo yX6_reads cX6_reads 7 (some .boolean) 4 := ⟨zw_707, zw_12, by decide +kernel, by decide +kernel, by decide +kernel⟩
theorem zw_697 : Cond.methodLink "LowWater" 216 yX6_reads ∈ zT := zT_t (i := 697) (by decide +kernel) (by decide +kernel)
theorem zw_700 : Cond.sameMethod "LowWater$Reader" "LowWater$Reader" "reads" "(LLowWater$Cave;III)Z" ∈ zT := zT_t (i := 700) (by decide +kernel) (by decide +kernel)
theorem zw_698 : Cond.instanceMethod yX6_reads ∈ zT := zT_t (i := 698) (by decide +kernel) (by decide +kernel)
theorem zw_701 : Cond.selects "LowWater$Blind" yX6_reads yX6_reads ∈ zT := zT_t (i := 701) (by decide +kernel) (by decide +kernel)
theorem ku_X11_216_X0 : Cond.methodLink "LowWater" 216 ⟨"LowWater$Reader", "reads", "(LLowWater$Cave;III)Z"⟩ ∈ zT ∧ Cond.sameMethod "LowWater$Reader" "LowWater$Reader" "reads" "(LLowWater$Cave;III)Z" ∈ zT ∧ Cond.instanceMethod ⟨"LowWater$Reader", "reads", "(LLowWater$Cave;III)Z"⟩ ∈ zT ∧ Cond.code ⟨"LowWater$Reader", "reads", "(LLowWater$Cave;III)Z"⟩ cX6_reads 7 (some .boolean) ∈ zT ∧ Cond.selects "LowWater$Blind" ⟨"LowWater$Reader", "reads", "(LLowWater$Cave;III)Z"⟩ yX6_reads ∈ zT ∧ Cond.instanceMethod yX6_reads ∈ zT ∧ "LowWater$Reader" ≠ "java/lang/invoke/MethodHandle" ∧ "LowWater$Reader" ≠ "java/lang/invoke/VarHandle" ∧ (parseMethodDescriptor "(LLowWater$Cave;III)Z").map (fun d => d.parameters.length) = some 4 := ⟨zw_697, zw_700, zw_698, zw_707, zw_701, zw_698, by decide +kernel, by decide +kernel, by decide +kernel⟩
theorem zw_702 : Cond.selects "LowWater$Diver" yX6_reads yX6_reads ∈ zT := zT_t (i := 702) (by decide +kernel) (by decide +kernel)
theorem ku_X11_216_X2 : Cond.methodLink "LowWater" 216 ⟨"LowWater$Reader", "reads", "(LLowWater$Cave;III)Z"⟩ ∈ zT ∧ Cond.sameMethod "LowWater$Reader" "LowWater$Reader" "reads" "(LLowWater$Cave;III)Z" ∈ zT ∧ Cond.instanceMethod ⟨"LowWater$Reader", "reads", "(LLowWater$Cave;III)Z"⟩ ∈ zT ∧ Cond.code ⟨"LowWater$Reader", "reads", "(LLowWater$Cave;III)Z"⟩ cX6_reads 7 (some .boolean) ∈ zT ∧ Cond.selects "LowWater$Diver" ⟨"LowWater$Reader", "reads", "(LLowWater$Cave;III)Z"⟩ yX6_reads ∈ zT ∧ Cond.instanceMethod yX6_reads ∈ zT ∧ "LowWater$Reader" ≠ "java/lang/invoke/MethodHandle" ∧ "LowWater$Reader" ≠ "java/lang/invoke/VarHandle" ∧ (parseMethodDescriptor "(LLowWater$Cave;III)Z").map (fun d => d.parameters.length) = some 4 := ⟨zw_697, zw_700, zw_698, zw_707, zw_702, zw_698, by decide +kernel, by decide +kernel, by decide +kernel⟩
theorem zw_703 : Cond.selects "LowWater$Fast" yX6_reads yX6_reads ∈ zT := zT_t (i := 703) (by decide +kernel) (by decide +kernel)
theorem ku_X11_216_X3 : Cond.methodLink "LowWater" 216 ⟨"LowWater$Reader", "reads", "(LLowWater$Cave;III)Z"⟩ ∈ zT ∧ Cond.sameMethod "LowWater$Reader" "LowWater$Reader" "reads" "(LLowWater$Cave;III)Z" ∈ zT ∧ Cond.instanceMethod ⟨"LowWater$Reader", "reads", "(LLowWater$Cave;III)Z"⟩ ∈ zT ∧ Cond.code ⟨"LowWater$Reader", "reads", "(LLowWater$Cave;III)Z"⟩ cX6_reads 7 (some .boolean) ∈ zT ∧ Cond.selects "LowWater$Fast" ⟨"LowWater$Reader", "reads", "(LLowWater$Cave;III)Z"⟩ yX6_reads ∈ zT ∧ Cond.instanceMethod yX6_reads ∈ zT ∧ "LowWater$Reader" ≠ "java/lang/invoke/MethodHandle" ∧ "LowWater$Reader" ≠ "java/lang/invoke/VarHandle" ∧ (parseMethodDescriptor "(LLowWater$Cave;III)Z").map (fun d => d.parameters.length) = some 4 := ⟨zw_697, zw_700, zw_698, zw_707, zw_703, zw_698, by decide +kernel, by decide +kernel, by decide +kernel⟩
theorem zw_704 : Cond.selects "LowWater$Quick" yX6_reads yX6_reads ∈ zT := zT_t (i := 704) (by decide +kernel) (by decide +kernel)
theorem ku_X11_216_X5 : Cond.methodLink "LowWater" 216 ⟨"LowWater$Reader", "reads", "(LLowWater$Cave;III)Z"⟩ ∈ zT ∧ Cond.sameMethod "LowWater$Reader" "LowWater$Reader" "reads" "(LLowWater$Cave;III)Z" ∈ zT ∧ Cond.instanceMethod ⟨"LowWater$Reader", "reads", "(LLowWater$Cave;III)Z"⟩ ∈ zT ∧ Cond.code ⟨"LowWater$Reader", "reads", "(LLowWater$Cave;III)Z"⟩ cX6_reads 7 (some .boolean) ∈ zT ∧ Cond.selects "LowWater$Quick" ⟨"LowWater$Reader", "reads", "(LLowWater$Cave;III)Z"⟩ yX6_reads ∈ zT ∧ Cond.instanceMethod yX6_reads ∈ zT ∧ "LowWater$Reader" ≠ "java/lang/invoke/MethodHandle" ∧ "LowWater$Reader" ≠ "java/lang/invoke/VarHandle" ∧ (parseMethodDescriptor "(LLowWater$Cave;III)Z").map (fun d => d.parameters.length) = some 4 := ⟨zw_697, zw_700, zw_698, zw_707, zw_704, zw_698, by decide +kernel, by decide +kernel, by decide +kernel⟩
theorem zw_699 : Cond.selects "LowWater$Reader" yX6_reads yX6_reads ∈ zT := zT_t (i := 699) (by decide +kernel) (by decide +kernel)
theorem k_X11_216_X6 : Cond.methodLink "LowWater" 216 yX6_reads ∈ zT ∧ Cond.instanceMethod yX6_reads ∈ zT ∧ Cond.selects yX6_reads.cls yX6_reads yX6_reads ∈ zT := ⟨zw_697, zw_698, zw_699⟩
theorem ku_X11_216_X6 : Cond.methodLink "LowWater" 216 ⟨"LowWater$Reader", "reads", "(LLowWater$Cave;III)Z"⟩ ∈ zT ∧ Cond.sameMethod "LowWater$Reader" "LowWater$Reader" "reads" "(LLowWater$Cave;III)Z" ∈ zT ∧ Cond.instanceMethod ⟨"LowWater$Reader", "reads", "(LLowWater$Cave;III)Z"⟩ ∈ zT ∧ Cond.code ⟨"LowWater$Reader", "reads", "(LLowWater$Cave;III)Z"⟩ cX6_reads 7 (some .boolean) ∈ zT ∧ Cond.selects "LowWater$Reader" ⟨"LowWater$Reader", "reads", "(LLowWater$Cave;III)Z"⟩ yX6_reads ∈ zT ∧ Cond.instanceMethod yX6_reads ∈ zT ∧ "LowWater$Reader" ≠ "java/lang/invoke/MethodHandle" ∧ "LowWater$Reader" ≠ "java/lang/invoke/VarHandle" ∧ (parseMethodDescriptor "(LLowWater$Cave;III)Z").map (fun d => d.parameters.length) = some 4 := ⟨zw_697, zw_700, zw_698, zw_707, zw_699, zw_698, by decide +kernel, by decide +kernel, by decide +kernel⟩
theorem zw_705 : Cond.selects "LowWater$Rowed" yX6_reads yX6_reads ∈ zT := zT_t (i := 705) (by decide +kernel) (by decide +kernel)
theorem ku_X11_216_X8 : Cond.methodLink "LowWater" 216 ⟨"LowWater$Reader", "reads", "(LLowWater$Cave;III)Z"⟩ ∈ zT ∧ Cond.sameMethod "LowWater$Reader" "LowWater$Reader" "reads" "(LLowWater$Cave;III)Z" ∈ zT ∧ Cond.instanceMethod ⟨"LowWater$Reader", "reads", "(LLowWater$Cave;III)Z"⟩ ∈ zT ∧ Cond.code ⟨"LowWater$Reader", "reads", "(LLowWater$Cave;III)Z"⟩ cX6_reads 7 (some .boolean) ∈ zT ∧ Cond.selects "LowWater$Rowed" ⟨"LowWater$Reader", "reads", "(LLowWater$Cave;III)Z"⟩ yX6_reads ∈ zT ∧ Cond.instanceMethod yX6_reads ∈ zT ∧ "LowWater$Reader" ≠ "java/lang/invoke/MethodHandle" ∧ "LowWater$Reader" ≠ "java/lang/invoke/VarHandle" ∧ (parseMethodDescriptor "(LLowWater$Cave;III)Z").map (fun d => d.parameters.length) = some 4 := ⟨zw_697, zw_700, zw_698, zw_707, zw_705, zw_698, by decide +kernel, by decide +kernel, by decide +kernel⟩
theorem zw_706 : Cond.selects "LowWater$Waiting" yX6_reads yX6_reads ∈ zT := zT_t (i := 706) (by decide +kernel) (by decide +kernel)
theorem ku_X11_216_X10 : Cond.methodLink "LowWater" 216 ⟨"LowWater$Reader", "reads", "(LLowWater$Cave;III)Z"⟩ ∈ zT ∧ Cond.sameMethod "LowWater$Reader" "LowWater$Reader" "reads" "(LLowWater$Cave;III)Z" ∈ zT ∧ Cond.instanceMethod ⟨"LowWater$Reader", "reads", "(LLowWater$Cave;III)Z"⟩ ∈ zT ∧ Cond.code ⟨"LowWater$Reader", "reads", "(LLowWater$Cave;III)Z"⟩ cX6_reads 7 (some .boolean) ∈ zT ∧ Cond.selects "LowWater$Waiting" ⟨"LowWater$Reader", "reads", "(LLowWater$Cave;III)Z"⟩ yX6_reads ∈ zT ∧ Cond.instanceMethod yX6_reads ∈ zT ∧ "LowWater$Reader" ≠ "java/lang/invoke/MethodHandle" ∧ "LowWater$Reader" ≠ "java/lang/invoke/VarHandle" ∧ (parseMethodDescriptor "(LLowWater$Cave;III)Z").map (fun d => d.parameters.length) = some 4 := ⟨zw_697, zw_700, zw_698, zw_707, zw_706, zw_698, by decide +kernel, by decide +kernel, by decide +kernel⟩
theorem zw_712 : Cond.methodLink "LowWater" 220 yX6_bodyOfReads ∈ zT := zT_t (i := 712) (by decide +kernel) (by decide +kernel)
theorem ku_X11_220_X0 : Cond.methodLink "LowWater" 220 ⟨"LowWater$Reader", "bodyOfReads", "(ILLowWater$Row;)I"⟩ ∈ zT ∧ Cond.sameMethod "LowWater$Reader" "LowWater$Reader" "bodyOfReads" "(ILLowWater$Row;)I" ∈ zT ∧ Cond.instanceMethod ⟨"LowWater$Reader", "bodyOfReads", "(ILLowWater$Row;)I"⟩ ∈ zT ∧ Cond.code ⟨"LowWater$Reader", "bodyOfReads", "(ILLowWater$Row;)I"⟩ cX6_bodyOfReads 3 (some .int) ∈ zT ∧ Cond.selects "LowWater$Blind" ⟨"LowWater$Reader", "bodyOfReads", "(ILLowWater$Row;)I"⟩ yX0_bodyOfReads ∈ zT ∧ Cond.instanceMethod yX0_bodyOfReads ∈ zT ∧ "LowWater$Reader" ≠ "java/lang/invoke/MethodHandle" ∧ "LowWater$Reader" ≠ "java/lang/invoke/VarHandle" ∧ (parseMethodDescriptor "(ILLowWater$Row;)I").map (fun d => d.parameters.length) = some 2 := ⟨zw_712, zw_715, zw_713, zw_732, zw_716, zw_717, by decide +kernel, by decide +kernel, by decide +kernel⟩
theorem ku_X11_220_X2 : Cond.methodLink "LowWater" 220 ⟨"LowWater$Reader", "bodyOfReads", "(ILLowWater$Row;)I"⟩ ∈ zT ∧ Cond.sameMethod "LowWater$Reader" "LowWater$Reader" "bodyOfReads" "(ILLowWater$Row;)I" ∈ zT ∧ Cond.instanceMethod ⟨"LowWater$Reader", "bodyOfReads", "(ILLowWater$Row;)I"⟩ ∈ zT ∧ Cond.code ⟨"LowWater$Reader", "bodyOfReads", "(ILLowWater$Row;)I"⟩ cX6_bodyOfReads 3 (some .int) ∈ zT ∧ Cond.selects "LowWater$Diver" ⟨"LowWater$Reader", "bodyOfReads", "(ILLowWater$Row;)I"⟩ yX6_bodyOfReads ∈ zT ∧ Cond.instanceMethod yX6_bodyOfReads ∈ zT ∧ "LowWater$Reader" ≠ "java/lang/invoke/MethodHandle" ∧ "LowWater$Reader" ≠ "java/lang/invoke/VarHandle" ∧ (parseMethodDescriptor "(ILLowWater$Row;)I").map (fun d => d.parameters.length) = some 2 := ⟨zw_712, zw_715, zw_713, zw_732, zw_723, zw_713, by decide +kernel, by decide +kernel, by decide +kernel⟩
theorem ku_X11_220_X3 : Cond.methodLink "LowWater" 220 ⟨"LowWater$Reader", "bodyOfReads", "(ILLowWater$Row;)I"⟩ ∈ zT ∧ Cond.sameMethod "LowWater$Reader" "LowWater$Reader" "bodyOfReads" "(ILLowWater$Row;)I" ∈ zT ∧ Cond.instanceMethod ⟨"LowWater$Reader", "bodyOfReads", "(ILLowWater$Row;)I"⟩ ∈ zT ∧ Cond.code ⟨"LowWater$Reader", "bodyOfReads", "(ILLowWater$Row;)I"⟩ cX6_bodyOfReads 3 (some .int) ∈ zT ∧ Cond.selects "LowWater$Fast" ⟨"LowWater$Reader", "bodyOfReads", "(ILLowWater$Row;)I"⟩ yX3_bodyOfReads ∈ zT ∧ Cond.instanceMethod yX3_bodyOfReads ∈ zT ∧ "LowWater$Reader" ≠ "java/lang/invoke/MethodHandle" ∧ "LowWater$Reader" ≠ "java/lang/invoke/VarHandle" ∧ (parseMethodDescriptor "(ILLowWater$Row;)I").map (fun d => d.parameters.length) = some 2 := ⟨zw_712, zw_715, zw_713, zw_732, zw_724, zw_725, by decide +kernel, by decide +kernel, by decide +kernel⟩
theorem ku_X11_220_X5 : Cond.methodLink "LowWater" 220 ⟨"LowWater$Reader", "bodyOfReads", "(ILLowWater$Row;)I"⟩ ∈ zT ∧ Cond.sameMethod "LowWater$Reader" "LowWater$Reader" "bodyOfReads" "(ILLowWater$Row;)I" ∈ zT ∧ Cond.instanceMethod ⟨"LowWater$Reader", "bodyOfReads", "(ILLowWater$Row;)I"⟩ ∈ zT ∧ Cond.code ⟨"LowWater$Reader", "bodyOfReads", "(ILLowWater$Row;)I"⟩ cX6_bodyOfReads 3 (some .int) ∈ zT ∧ Cond.selects "LowWater$Quick" ⟨"LowWater$Reader", "bodyOfReads", "(ILLowWater$Row;)I"⟩ yX3_bodyOfReads ∈ zT ∧ Cond.instanceMethod yX3_bodyOfReads ∈ zT ∧ "LowWater$Reader" ≠ "java/lang/invoke/MethodHandle" ∧ "LowWater$Reader" ≠ "java/lang/invoke/VarHandle" ∧ (parseMethodDescriptor "(ILLowWater$Row;)I").map (fun d => d.parameters.length) = some 2 := ⟨zw_712, zw_715, zw_713, zw_732, zw_729, zw_725, by decide +kernel, by decide +kernel, by decide +kernel⟩
theorem k_X11_220_X6 : Cond.methodLink "LowWater" 220 yX6_bodyOfReads ∈ zT ∧ Cond.instanceMethod yX6_bodyOfReads ∈ zT ∧ Cond.selects yX6_bodyOfReads.cls yX6_bodyOfReads yX6_bodyOfReads ∈ zT := ⟨zw_712, zw_713, zw_714⟩
theorem ku_X11_220_X6 : Cond.methodLink "LowWater" 220 ⟨"LowWater$Reader", "bodyOfReads", "(ILLowWater$Row;)I"⟩ ∈ zT ∧ Cond.sameMethod "LowWater$Reader" "LowWater$Reader" "bodyOfReads" "(ILLowWater$Row;)I" ∈ zT ∧ Cond.instanceMethod ⟨"LowWater$Reader", "bodyOfReads", "(ILLowWater$Row;)I"⟩ ∈ zT ∧ Cond.code ⟨"LowWater$Reader", "bodyOfReads", "(ILLowWater$Row;)I"⟩ cX6_bodyOfReads 3 (some .int) ∈ zT ∧ Cond.selects "LowWater$Reader" ⟨"LowWater$Reader", "bodyOfReads", "(ILLowWater$Row;)I"⟩ yX6_bodyOfReads ∈ zT ∧ Cond.instanceMethod yX6_bodyOfReads ∈ zT ∧ "LowWater$Reader" ≠ "java/lang/invoke/MethodHandle" ∧ "LowWater$Reader" ≠ "java/lang/invoke/VarHandle" ∧ (parseMethodDescriptor "(ILLowWater$Row;)I").map (fun d => d.parameters.length) = some 2 := ⟨zw_712, zw_715, zw_713, zw_732, zw_714, zw_713, by decide +kernel, by decide +kernel, by decide +kernel⟩
theorem ku_X11_220_X8 : Cond.methodLink "LowWater" 220 ⟨"LowWater$Reader", "bodyOfReads", "(ILLowWater$Row;)I"⟩ ∈ zT ∧ Cond.sameMethod "LowWater$Reader" "LowWater$Reader" "bodyOfReads" "(ILLowWater$Row;)I" ∈ zT ∧ Cond.instanceMethod ⟨"LowWater$Reader", "bodyOfReads", "(ILLowWater$Row;)I"⟩ ∈ zT ∧ Cond.code ⟨"LowWater$Reader", "bodyOfReads", "(ILLowWater$Row;)I"⟩ cX6_bodyOfReads 3 (some .int) ∈ zT ∧ Cond.selects "LowWater$Rowed" ⟨"LowWater$Reader", "bodyOfReads", "(ILLowWater$Row;)I"⟩ yX6_bodyOfReads ∈ zT ∧ Cond.instanceMethod yX6_bodyOfReads ∈ zT ∧ "LowWater$Reader" ≠ "java/lang/invoke/MethodHandle" ∧ "LowWater$Reader" ≠ "java/lang/invoke/VarHandle" ∧ (parseMethodDescriptor "(ILLowWater$Row;)I").map (fun d => d.parameters.length) = some 2 := ⟨zw_712, zw_715, zw_713, zw_732, zw_730, zw_713, by decide +kernel, by decide +kernel, by decide +kernel⟩
theorem ku_X11_220_X10 : Cond.methodLink "LowWater" 220 ⟨"LowWater$Reader", "bodyOfReads", "(ILLowWater$Row;)I"⟩ ∈ zT ∧ Cond.sameMethod "LowWater$Reader" "LowWater$Reader" "bodyOfReads" "(ILLowWater$Row;)I" ∈ zT ∧ Cond.instanceMethod ⟨"LowWater$Reader", "bodyOfReads", "(ILLowWater$Row;)I"⟩ ∈ zT ∧ Cond.code ⟨"LowWater$Reader", "bodyOfReads", "(ILLowWater$Row;)I"⟩ cX6_bodyOfReads 3 (some .int) ∈ zT ∧ Cond.selects "LowWater$Waiting" ⟨"LowWater$Reader", "bodyOfReads", "(ILLowWater$Row;)I"⟩ yX6_bodyOfReads ∈ zT ∧ Cond.instanceMethod yX6_bodyOfReads ∈ zT ∧ "LowWater$Reader" ≠ "java/lang/invoke/MethodHandle" ∧ "LowWater$Reader" ≠ "java/lang/invoke/VarHandle" ∧ (parseMethodDescriptor "(ILLowWater$Row;)I").map (fun d => d.parameters.length) = some 2 := ⟨zw_712, zw_715, zw_713, zw_732, zw_731, zw_713, by decide +kernel, by decide +kernel, by decide +kernel⟩
theorem zw_734 : Cond.methodLink "LowWater" 224 yX6_bodyOfWaits ∈ zT := zT_t (i := 734) (by decide +kernel) (by decide +kernel)
theorem ku_X11_224_X0 : Cond.methodLink "LowWater" 224 ⟨"LowWater$Reader", "bodyOfWaits", "(ILLowWater$Row;)I"⟩ ∈ zT ∧ Cond.sameMethod "LowWater$Reader" "LowWater$Reader" "bodyOfWaits" "(ILLowWater$Row;)I" ∈ zT ∧ Cond.instanceMethod ⟨"LowWater$Reader", "bodyOfWaits", "(ILLowWater$Row;)I"⟩ ∈ zT ∧ Cond.code ⟨"LowWater$Reader", "bodyOfWaits", "(ILLowWater$Row;)I"⟩ cX6_bodyOfWaits 3 (some .int) ∈ zT ∧ Cond.selects "LowWater$Blind" ⟨"LowWater$Reader", "bodyOfWaits", "(ILLowWater$Row;)I"⟩ yX2_bodyOfWaits ∈ zT ∧ Cond.instanceMethod yX2_bodyOfWaits ∈ zT ∧ "LowWater$Reader" ≠ "java/lang/invoke/MethodHandle" ∧ "LowWater$Reader" ≠ "java/lang/invoke/VarHandle" ∧ (parseMethodDescriptor "(ILLowWater$Row;)I").map (fun d => d.parameters.length) = some 2 := ⟨zw_734, zw_737, zw_735, zw_754, zw_738, zw_739, by decide +kernel, by decide +kernel, by decide +kernel⟩
theorem ku_X11_224_X2 : Cond.methodLink "LowWater" 224 ⟨"LowWater$Reader", "bodyOfWaits", "(ILLowWater$Row;)I"⟩ ∈ zT ∧ Cond.sameMethod "LowWater$Reader" "LowWater$Reader" "bodyOfWaits" "(ILLowWater$Row;)I" ∈ zT ∧ Cond.instanceMethod ⟨"LowWater$Reader", "bodyOfWaits", "(ILLowWater$Row;)I"⟩ ∈ zT ∧ Cond.code ⟨"LowWater$Reader", "bodyOfWaits", "(ILLowWater$Row;)I"⟩ cX6_bodyOfWaits 3 (some .int) ∈ zT ∧ Cond.selects "LowWater$Diver" ⟨"LowWater$Reader", "bodyOfWaits", "(ILLowWater$Row;)I"⟩ yX2_bodyOfWaits ∈ zT ∧ Cond.instanceMethod yX2_bodyOfWaits ∈ zT ∧ "LowWater$Reader" ≠ "java/lang/invoke/MethodHandle" ∧ "LowWater$Reader" ≠ "java/lang/invoke/VarHandle" ∧ (parseMethodDescriptor "(ILLowWater$Row;)I").map (fun d => d.parameters.length) = some 2 := ⟨zw_734, zw_737, zw_735, zw_754, zw_743, zw_739, by decide +kernel, by decide +kernel, by decide +kernel⟩
theorem ku_X11_224_X3 : Cond.methodLink "LowWater" 224 ⟨"LowWater$Reader", "bodyOfWaits", "(ILLowWater$Row;)I"⟩ ∈ zT ∧ Cond.sameMethod "LowWater$Reader" "LowWater$Reader" "bodyOfWaits" "(ILLowWater$Row;)I" ∈ zT ∧ Cond.instanceMethod ⟨"LowWater$Reader", "bodyOfWaits", "(ILLowWater$Row;)I"⟩ ∈ zT ∧ Cond.code ⟨"LowWater$Reader", "bodyOfWaits", "(ILLowWater$Row;)I"⟩ cX6_bodyOfWaits 3 (some .int) ∈ zT ∧ Cond.selects "LowWater$Fast" ⟨"LowWater$Reader", "bodyOfWaits", "(ILLowWater$Row;)I"⟩ yX6_bodyOfWaits ∈ zT ∧ Cond.instanceMethod yX6_bodyOfWaits ∈ zT ∧ "LowWater$Reader" ≠ "java/lang/invoke/MethodHandle" ∧ "LowWater$Reader" ≠ "java/lang/invoke/VarHandle" ∧ (parseMethodDescriptor "(ILLowWater$Row;)I").map (fun d => d.parameters.length) = some 2 := ⟨zw_734, zw_737, zw_735, zw_754, zw_744, zw_735, by decide +kernel, by decide +kernel, by decide +kernel⟩
theorem ku_X11_224_X5 : Cond.methodLink "LowWater" 224 ⟨"LowWater$Reader", "bodyOfWaits", "(ILLowWater$Row;)I"⟩ ∈ zT ∧ Cond.sameMethod "LowWater$Reader" "LowWater$Reader" "bodyOfWaits" "(ILLowWater$Row;)I" ∈ zT ∧ Cond.instanceMethod ⟨"LowWater$Reader", "bodyOfWaits", "(ILLowWater$Row;)I"⟩ ∈ zT ∧ Cond.code ⟨"LowWater$Reader", "bodyOfWaits", "(ILLowWater$Row;)I"⟩ cX6_bodyOfWaits 3 (some .int) ∈ zT ∧ Cond.selects "LowWater$Quick" ⟨"LowWater$Reader", "bodyOfWaits", "(ILLowWater$Row;)I"⟩ yX6_bodyOfWaits ∈ zT ∧ Cond.instanceMethod yX6_bodyOfWaits ∈ zT ∧ "LowWater$Reader" ≠ "java/lang/invoke/MethodHandle" ∧ "LowWater$Reader" ≠ "java/lang/invoke/VarHandle" ∧ (parseMethodDescriptor "(ILLowWater$Row;)I").map (fun d => d.parameters.length) = some 2 := ⟨zw_734, zw_737, zw_735, zw_754, zw_745, zw_735, by decide +kernel, by decide +kernel, by decide +kernel⟩
theorem k_X11_224_X6 : Cond.methodLink "LowWater" 224 yX6_bodyOfWaits ∈ zT ∧ Cond.instanceMethod yX6_bodyOfWaits ∈ zT ∧ Cond.selects yX6_bodyOfWaits.cls yX6_bodyOfWaits yX6_bodyOfWaits ∈ zT := ⟨zw_734, zw_735, zw_736⟩
theorem ku_X11_224_X6 : Cond.methodLink "LowWater" 224 ⟨"LowWater$Reader", "bodyOfWaits", "(ILLowWater$Row;)I"⟩ ∈ zT ∧ Cond.sameMethod "LowWater$Reader" "LowWater$Reader" "bodyOfWaits" "(ILLowWater$Row;)I" ∈ zT ∧ Cond.instanceMethod ⟨"LowWater$Reader", "bodyOfWaits", "(ILLowWater$Row;)I"⟩ ∈ zT ∧ Cond.code ⟨"LowWater$Reader", "bodyOfWaits", "(ILLowWater$Row;)I"⟩ cX6_bodyOfWaits 3 (some .int) ∈ zT ∧ Cond.selects "LowWater$Reader" ⟨"LowWater$Reader", "bodyOfWaits", "(ILLowWater$Row;)I"⟩ yX6_bodyOfWaits ∈ zT ∧ Cond.instanceMethod yX6_bodyOfWaits ∈ zT ∧ "LowWater$Reader" ≠ "java/lang/invoke/MethodHandle" ∧ "LowWater$Reader" ≠ "java/lang/invoke/VarHandle" ∧ (parseMethodDescriptor "(ILLowWater$Row;)I").map (fun d => d.parameters.length) = some 2 := ⟨zw_734, zw_737, zw_735, zw_754, zw_736, zw_735, by decide +kernel, by decide +kernel, by decide +kernel⟩
theorem ku_X11_224_X8 : Cond.methodLink "LowWater" 224 ⟨"LowWater$Reader", "bodyOfWaits", "(ILLowWater$Row;)I"⟩ ∈ zT ∧ Cond.sameMethod "LowWater$Reader" "LowWater$Reader" "bodyOfWaits" "(ILLowWater$Row;)I" ∈ zT ∧ Cond.instanceMethod ⟨"LowWater$Reader", "bodyOfWaits", "(ILLowWater$Row;)I"⟩ ∈ zT ∧ Cond.code ⟨"LowWater$Reader", "bodyOfWaits", "(ILLowWater$Row;)I"⟩ cX6_bodyOfWaits 3 (some .int) ∈ zT ∧ Cond.selects "LowWater$Rowed" ⟨"LowWater$Reader", "bodyOfWaits", "(ILLowWater$Row;)I"⟩ yX6_bodyOfWaits ∈ zT ∧ Cond.instanceMethod yX6_bodyOfWaits ∈ zT ∧ "LowWater$Reader" ≠ "java/lang/invoke/MethodHandle" ∧ "LowWater$Reader" ≠ "java/lang/invoke/VarHandle" ∧ (parseMethodDescriptor "(ILLowWater$Row;)I").map (fun d => d.parameters.length) = some 2 := ⟨zw_734, zw_737, zw_735, zw_754, zw_746, zw_735, by decide +kernel, by decide +kernel, by decide +kernel⟩
theorem ku_X11_224_X10 : Cond.methodLink "LowWater" 224 ⟨"LowWater$Reader", "bodyOfWaits", "(ILLowWater$Row;)I"⟩ ∈ zT ∧ Cond.sameMethod "LowWater$Reader" "LowWater$Reader" "bodyOfWaits" "(ILLowWater$Row;)I" ∈ zT ∧ Cond.instanceMethod ⟨"LowWater$Reader", "bodyOfWaits", "(ILLowWater$Row;)I"⟩ ∈ zT ∧ Cond.code ⟨"LowWater$Reader", "bodyOfWaits", "(ILLowWater$Row;)I"⟩ cX6_bodyOfWaits 3 (some .int) ∈ zT ∧ Cond.selects "LowWater$Waiting" ⟨"LowWater$Reader", "bodyOfWaits", "(ILLowWater$Row;)I"⟩ yX10_bodyOfWaits ∈ zT ∧ Cond.instanceMethod yX10_bodyOfWaits ∈ zT ∧ "LowWater$Reader" ≠ "java/lang/invoke/MethodHandle" ∧ "LowWater$Reader" ≠ "java/lang/invoke/VarHandle" ∧ (parseMethodDescriptor "(ILLowWater$Row;)I").map (fun d => d.parameters.length) = some 2 := ⟨zw_734, zw_737, zw_735, zw_754, zw_747, zw_748, by decide +kernel, by decide +kernel, by decide +kernel⟩
theorem zw_756 : Cond.methodLink "LowWater" 227 yX6_bodyOfTells ∈ zT := zT_t (i := 756) (by decide +kernel) (by decide +kernel)
theorem zw_760 : Cond.selects "LowWater$Blind" yX6_bodyOfTells yX6_bodyOfTells ∈ zT := zT_t (i := 760) (by decide +kernel) (by decide +kernel)
theorem ku_X11_227_X0 : Cond.methodLink "LowWater" 227 ⟨"LowWater$Reader", "bodyOfTells", "(ILLowWater$Row;)I"⟩ ∈ zT ∧ Cond.sameMethod "LowWater$Reader" "LowWater$Reader" "bodyOfTells" "(ILLowWater$Row;)I" ∈ zT ∧ Cond.instanceMethod ⟨"LowWater$Reader", "bodyOfTells", "(ILLowWater$Row;)I"⟩ ∈ zT ∧ Cond.code ⟨"LowWater$Reader", "bodyOfTells", "(ILLowWater$Row;)I"⟩ cX6_bodyOfTells 3 (some .int) ∈ zT ∧ Cond.selects "LowWater$Blind" ⟨"LowWater$Reader", "bodyOfTells", "(ILLowWater$Row;)I"⟩ yX6_bodyOfTells ∈ zT ∧ Cond.instanceMethod yX6_bodyOfTells ∈ zT ∧ "LowWater$Reader" ≠ "java/lang/invoke/MethodHandle" ∧ "LowWater$Reader" ≠ "java/lang/invoke/VarHandle" ∧ (parseMethodDescriptor "(ILLowWater$Row;)I").map (fun d => d.parameters.length) = some 2 := ⟨zw_756, zw_759, zw_757, zw_780, zw_760, zw_757, by decide +kernel, by decide +kernel, by decide +kernel⟩
theorem zw_761 : Cond.selects "LowWater$Diver" yX6_bodyOfTells yX6_bodyOfTells ∈ zT := zT_t (i := 761) (by decide +kernel) (by decide +kernel)
theorem ku_X11_227_X2 : Cond.methodLink "LowWater" 227 ⟨"LowWater$Reader", "bodyOfTells", "(ILLowWater$Row;)I"⟩ ∈ zT ∧ Cond.sameMethod "LowWater$Reader" "LowWater$Reader" "bodyOfTells" "(ILLowWater$Row;)I" ∈ zT ∧ Cond.instanceMethod ⟨"LowWater$Reader", "bodyOfTells", "(ILLowWater$Row;)I"⟩ ∈ zT ∧ Cond.code ⟨"LowWater$Reader", "bodyOfTells", "(ILLowWater$Row;)I"⟩ cX6_bodyOfTells 3 (some .int) ∈ zT ∧ Cond.selects "LowWater$Diver" ⟨"LowWater$Reader", "bodyOfTells", "(ILLowWater$Row;)I"⟩ yX6_bodyOfTells ∈ zT ∧ Cond.instanceMethod yX6_bodyOfTells ∈ zT ∧ "LowWater$Reader" ≠ "java/lang/invoke/MethodHandle" ∧ "LowWater$Reader" ≠ "java/lang/invoke/VarHandle" ∧ (parseMethodDescriptor "(ILLowWater$Row;)I").map (fun d => d.parameters.length) = some 2 := ⟨zw_756, zw_759, zw_757, zw_780, zw_761, zw_757, by decide +kernel, by decide +kernel, by decide +kernel⟩
theorem zw_762 : Cond.selects "LowWater$Fast" yX6_bodyOfTells yX6_bodyOfTells ∈ zT := zT_t (i := 762) (by decide +kernel) (by decide +kernel)
theorem ku_X11_227_X3 : Cond.methodLink "LowWater" 227 ⟨"LowWater$Reader", "bodyOfTells", "(ILLowWater$Row;)I"⟩ ∈ zT ∧ Cond.sameMethod "LowWater$Reader" "LowWater$Reader" "bodyOfTells" "(ILLowWater$Row;)I" ∈ zT ∧ Cond.instanceMethod ⟨"LowWater$Reader", "bodyOfTells", "(ILLowWater$Row;)I"⟩ ∈ zT ∧ Cond.code ⟨"LowWater$Reader", "bodyOfTells", "(ILLowWater$Row;)I"⟩ cX6_bodyOfTells 3 (some .int) ∈ zT ∧ Cond.selects "LowWater$Fast" ⟨"LowWater$Reader", "bodyOfTells", "(ILLowWater$Row;)I"⟩ yX6_bodyOfTells ∈ zT ∧ Cond.instanceMethod yX6_bodyOfTells ∈ zT ∧ "LowWater$Reader" ≠ "java/lang/invoke/MethodHandle" ∧ "LowWater$Reader" ≠ "java/lang/invoke/VarHandle" ∧ (parseMethodDescriptor "(ILLowWater$Row;)I").map (fun d => d.parameters.length) = some 2 := ⟨zw_756, zw_759, zw_757, zw_780, zw_762, zw_757, by decide +kernel, by decide +kernel, by decide +kernel⟩
theorem zw_765 : Cond.code yX5_bodyOfTells cX5_bodyOfTells 3 (some .int) ∈ zT := zT_t (i := 765) (by decide +kernel) (by decide +kernel)
theorem co_X5_bodyOfTells : zCo yX5_bodyOfTells cX5_bodyOfTells 3 (some .int) 2 := ⟨zw_765, zw_16, by decide +kernel, by decide +kernel, by decide +kernel⟩
theorem zw_763 : Cond.selects "LowWater$Quick" yX6_bodyOfTells yX5_bodyOfTells ∈ zT := zT_t (i := 763) (by decide +kernel) (by decide +kernel)
theorem zw_764 : Cond.instanceMethod yX5_bodyOfTells ∈ zT := zT_t (i := 764) (by decide +kernel) (by decide +kernel)
theorem ku_X11_227_X5 : Cond.methodLink "LowWater" 227 ⟨"LowWater$Reader", "bodyOfTells", "(ILLowWater$Row;)I"⟩ ∈ zT ∧ Cond.sameMethod "LowWater$Reader" "LowWater$Reader" "bodyOfTells" "(ILLowWater$Row;)I" ∈ zT ∧ Cond.instanceMethod ⟨"LowWater$Reader", "bodyOfTells", "(ILLowWater$Row;)I"⟩ ∈ zT ∧ Cond.code ⟨"LowWater$Reader", "bodyOfTells", "(ILLowWater$Row;)I"⟩ cX6_bodyOfTells 3 (some .int) ∈ zT ∧ Cond.selects "LowWater$Quick" ⟨"LowWater$Reader", "bodyOfTells", "(ILLowWater$Row;)I"⟩ yX5_bodyOfTells ∈ zT ∧ Cond.instanceMethod yX5_bodyOfTells ∈ zT ∧ "LowWater$Reader" ≠ "java/lang/invoke/MethodHandle" ∧ "LowWater$Reader" ≠ "java/lang/invoke/VarHandle" ∧ (parseMethodDescriptor "(ILLowWater$Row;)I").map (fun d => d.parameters.length) = some 2 := ⟨zw_756, zw_759, zw_757, zw_780, zw_763, zw_764, by decide +kernel, by decide +kernel, by decide +kernel⟩
theorem zw_758 : Cond.selects "LowWater$Reader" yX6_bodyOfTells yX6_bodyOfTells ∈ zT := zT_t (i := 758) (by decide +kernel) (by decide +kernel)
theorem k_X11_227_X6 : Cond.methodLink "LowWater" 227 yX6_bodyOfTells ∈ zT ∧ Cond.instanceMethod yX6_bodyOfTells ∈ zT ∧ Cond.selects yX6_bodyOfTells.cls yX6_bodyOfTells yX6_bodyOfTells ∈ zT := ⟨zw_756, zw_757, zw_758⟩
theorem ku_X11_227_X6 : Cond.methodLink "LowWater" 227 ⟨"LowWater$Reader", "bodyOfTells", "(ILLowWater$Row;)I"⟩ ∈ zT ∧ Cond.sameMethod "LowWater$Reader" "LowWater$Reader" "bodyOfTells" "(ILLowWater$Row;)I" ∈ zT ∧ Cond.instanceMethod ⟨"LowWater$Reader", "bodyOfTells", "(ILLowWater$Row;)I"⟩ ∈ zT ∧ Cond.code ⟨"LowWater$Reader", "bodyOfTells", "(ILLowWater$Row;)I"⟩ cX6_bodyOfTells 3 (some .int) ∈ zT ∧ Cond.selects "LowWater$Reader" ⟨"LowWater$Reader", "bodyOfTells", "(ILLowWater$Row;)I"⟩ yX6_bodyOfTells ∈ zT ∧ Cond.instanceMethod yX6_bodyOfTells ∈ zT ∧ "LowWater$Reader" ≠ "java/lang/invoke/MethodHandle" ∧ "LowWater$Reader" ≠ "java/lang/invoke/VarHandle" ∧ (parseMethodDescriptor "(ILLowWater$Row;)I").map (fun d => d.parameters.length) = some 2 := ⟨zw_756, zw_759, zw_757, zw_780, zw_758, zw_757, by decide +kernel, by decide +kernel, by decide +kernel⟩
theorem zw_776 : Cond.code yX8_bodyOfTells cX8_bodyOfTells 3 (some .int) ∈ zT := zT_t (i := 776) (by decide +kernel) (by decide +kernel)
theorem co_X8_bodyOfTells : zCo yX8_bodyOfTells cX8_bodyOfTells 3 (some .int) 2 := ⟨zw_776, zw_15, by decide +kernel, by decide +kernel, by decide +kernel⟩
theorem zw_774 : Cond.selects "LowWater$Rowed" yX6_bodyOfTells yX8_bodyOfTells ∈ zT := zT_t (i := 774) (by decide +kernel) (by decide +kernel)
theorem zw_775 : Cond.instanceMethod yX8_bodyOfTells ∈ zT := zT_t (i := 775) (by decide +kernel) (by decide +kernel)
theorem ku_X11_227_X8 : Cond.methodLink "LowWater" 227 ⟨"LowWater$Reader", "bodyOfTells", "(ILLowWater$Row;)I"⟩ ∈ zT ∧ Cond.sameMethod "LowWater$Reader" "LowWater$Reader" "bodyOfTells" "(ILLowWater$Row;)I" ∈ zT ∧ Cond.instanceMethod ⟨"LowWater$Reader", "bodyOfTells", "(ILLowWater$Row;)I"⟩ ∈ zT ∧ Cond.code ⟨"LowWater$Reader", "bodyOfTells", "(ILLowWater$Row;)I"⟩ cX6_bodyOfTells 3 (some .int) ∈ zT ∧ Cond.selects "LowWater$Rowed" ⟨"LowWater$Reader", "bodyOfTells", "(ILLowWater$Row;)I"⟩ yX8_bodyOfTells ∈ zT ∧ Cond.instanceMethod yX8_bodyOfTells ∈ zT ∧ "LowWater$Reader" ≠ "java/lang/invoke/MethodHandle" ∧ "LowWater$Reader" ≠ "java/lang/invoke/VarHandle" ∧ (parseMethodDescriptor "(ILLowWater$Row;)I").map (fun d => d.parameters.length) = some 2 := ⟨zw_756, zw_759, zw_757, zw_780, zw_774, zw_775, by decide +kernel, by decide +kernel, by decide +kernel⟩
theorem zw_779 : Cond.selects "LowWater$Waiting" yX6_bodyOfTells yX8_bodyOfTells ∈ zT := zT_t (i := 779) (by decide +kernel) (by decide +kernel)
theorem ku_X11_227_X10 : Cond.methodLink "LowWater" 227 ⟨"LowWater$Reader", "bodyOfTells", "(ILLowWater$Row;)I"⟩ ∈ zT ∧ Cond.sameMethod "LowWater$Reader" "LowWater$Reader" "bodyOfTells" "(ILLowWater$Row;)I" ∈ zT ∧ Cond.instanceMethod ⟨"LowWater$Reader", "bodyOfTells", "(ILLowWater$Row;)I"⟩ ∈ zT ∧ Cond.code ⟨"LowWater$Reader", "bodyOfTells", "(ILLowWater$Row;)I"⟩ cX6_bodyOfTells 3 (some .int) ∈ zT ∧ Cond.selects "LowWater$Waiting" ⟨"LowWater$Reader", "bodyOfTells", "(ILLowWater$Row;)I"⟩ yX8_bodyOfTells ∈ zT ∧ Cond.instanceMethod yX8_bodyOfTells ∈ zT ∧ "LowWater$Reader" ≠ "java/lang/invoke/MethodHandle" ∧ "LowWater$Reader" ≠ "java/lang/invoke/VarHandle" ∧ (parseMethodDescriptor "(ILLowWater$Row;)I").map (fun d => d.parameters.length) = some 2 := ⟨zw_756, zw_759, zw_757, zw_780, zw_779, zw_775, by decide +kernel, by decide +kernel, by decide +kernel⟩
theorem zw_796 : Cond.code yX0_isA cX0_isA 2 (some .boolean) ∈ zT := zT_t (i := 796) (by decide +kernel) (by decide +kernel)
theorem co_X0_isA : zCo yX0_isA cX0_isA 2 (some .boolean) 1 := ⟨zw_796, zw_17, by decide +kernel, by decide +kernel, by decide +kernel⟩
theorem zw_790 : Cond.methodLink "LowWater" 230 yX6_isA ∈ zT := zT_t (i := 790) (by decide +kernel) (by decide +kernel)
theorem zw_794 : Cond.selects "LowWater$Blind" yX6_isA yX0_isA ∈ zT := zT_t (i := 794) (by decide +kernel) (by decide +kernel)
theorem zw_795 : Cond.instanceMethod yX0_isA ∈ zT := zT_t (i := 795) (by decide +kernel) (by decide +kernel)
theorem ku_X11_230_X0 : Cond.methodLink "LowWater" 230 ⟨"LowWater$Reader", "isA", "(I)Z"⟩ ∈ zT ∧ Cond.sameMethod "LowWater$Reader" "LowWater$Reader" "isA" "(I)Z" ∈ zT ∧ Cond.instanceMethod ⟨"LowWater$Reader", "isA", "(I)Z"⟩ ∈ zT ∧ Cond.code ⟨"LowWater$Reader", "isA", "(I)Z"⟩ cX6_isA 2 (some .boolean) ∈ zT ∧ Cond.selects "LowWater$Blind" ⟨"LowWater$Reader", "isA", "(I)Z"⟩ yX0_isA ∈ zT ∧ Cond.instanceMethod yX0_isA ∈ zT ∧ "LowWater$Reader" ≠ "java/lang/invoke/MethodHandle" ∧ "LowWater$Reader" ≠ "java/lang/invoke/VarHandle" ∧ (parseMethodDescriptor "(I)Z").map (fun d => d.parameters.length) = some 1 := ⟨zw_790, zw_793, zw_791, zw_818, zw_794, zw_795, by decide +kernel, by decide +kernel, by decide +kernel⟩
theorem zw_801 : Cond.selects "LowWater$Diver" yX6_isA yX2_isA ∈ zT := zT_t (i := 801) (by decide +kernel) (by decide +kernel)
theorem ku_X11_230_X2 : Cond.methodLink "LowWater" 230 ⟨"LowWater$Reader", "isA", "(I)Z"⟩ ∈ zT ∧ Cond.sameMethod "LowWater$Reader" "LowWater$Reader" "isA" "(I)Z" ∈ zT ∧ Cond.instanceMethod ⟨"LowWater$Reader", "isA", "(I)Z"⟩ ∈ zT ∧ Cond.code ⟨"LowWater$Reader", "isA", "(I)Z"⟩ cX6_isA 2 (some .boolean) ∈ zT ∧ Cond.selects "LowWater$Diver" ⟨"LowWater$Reader", "isA", "(I)Z"⟩ yX2_isA ∈ zT ∧ Cond.instanceMethod yX2_isA ∈ zT ∧ "LowWater$Reader" ≠ "java/lang/invoke/MethodHandle" ∧ "LowWater$Reader" ≠ "java/lang/invoke/VarHandle" ∧ (parseMethodDescriptor "(I)Z").map (fun d => d.parameters.length) = some 1 := ⟨zw_790, zw_793, zw_791, zw_818, zw_801, zw_798, by decide +kernel, by decide +kernel, by decide +kernel⟩
theorem zw_802 : Cond.selects "LowWater$Fast" yX6_isA yX3_isA ∈ zT := zT_t (i := 802) (by decide +kernel) (by decide +kernel)
theorem ku_X11_230_X3 : Cond.methodLink "LowWater" 230 ⟨"LowWater$Reader", "isA", "(I)Z"⟩ ∈ zT ∧ Cond.sameMethod "LowWater$Reader" "LowWater$Reader" "isA" "(I)Z" ∈ zT ∧ Cond.instanceMethod ⟨"LowWater$Reader", "isA", "(I)Z"⟩ ∈ zT ∧ Cond.code ⟨"LowWater$Reader", "isA", "(I)Z"⟩ cX6_isA 2 (some .boolean) ∈ zT ∧ Cond.selects "LowWater$Fast" ⟨"LowWater$Reader", "isA", "(I)Z"⟩ yX3_isA ∈ zT ∧ Cond.instanceMethod yX3_isA ∈ zT ∧ "LowWater$Reader" ≠ "java/lang/invoke/MethodHandle" ∧ "LowWater$Reader" ≠ "java/lang/invoke/VarHandle" ∧ (parseMethodDescriptor "(I)Z").map (fun d => d.parameters.length) = some 1 := ⟨zw_790, zw_793, zw_791, zw_818, zw_802, zw_803, by decide +kernel, by decide +kernel, by decide +kernel⟩
theorem zw_808 : Cond.code yX5_isA cX5_isA 2 (some .boolean) ∈ zT := zT_t (i := 808) (by decide +kernel) (by decide +kernel)
theorem co_X5_isA : zCo yX5_isA cX5_isA 2 (some .boolean) 1 := ⟨zw_808, zw_16, by decide +kernel, by decide +kernel, by decide +kernel⟩
theorem zw_806 : Cond.selects "LowWater$Quick" yX6_isA yX5_isA ∈ zT := zT_t (i := 806) (by decide +kernel) (by decide +kernel)
theorem zw_807 : Cond.instanceMethod yX5_isA ∈ zT := zT_t (i := 807) (by decide +kernel) (by decide +kernel)
theorem ku_X11_230_X5 : Cond.methodLink "LowWater" 230 ⟨"LowWater$Reader", "isA", "(I)Z"⟩ ∈ zT ∧ Cond.sameMethod "LowWater$Reader" "LowWater$Reader" "isA" "(I)Z" ∈ zT ∧ Cond.instanceMethod ⟨"LowWater$Reader", "isA", "(I)Z"⟩ ∈ zT ∧ Cond.code ⟨"LowWater$Reader", "isA", "(I)Z"⟩ cX6_isA 2 (some .boolean) ∈ zT ∧ Cond.selects "LowWater$Quick" ⟨"LowWater$Reader", "isA", "(I)Z"⟩ yX5_isA ∈ zT ∧ Cond.instanceMethod yX5_isA ∈ zT ∧ "LowWater$Reader" ≠ "java/lang/invoke/MethodHandle" ∧ "LowWater$Reader" ≠ "java/lang/invoke/VarHandle" ∧ (parseMethodDescriptor "(I)Z").map (fun d => d.parameters.length) = some 1 := ⟨zw_790, zw_793, zw_791, zw_818, zw_806, zw_807, by decide +kernel, by decide +kernel, by decide +kernel⟩
theorem zw_792 : Cond.selects "LowWater$Reader" yX6_isA yX6_isA ∈ zT := zT_t (i := 792) (by decide +kernel) (by decide +kernel)
theorem k_X11_230_X6 : Cond.methodLink "LowWater" 230 yX6_isA ∈ zT ∧ Cond.instanceMethod yX6_isA ∈ zT ∧ Cond.selects yX6_isA.cls yX6_isA yX6_isA ∈ zT := ⟨zw_790, zw_791, zw_792⟩
theorem ku_X11_230_X6 : Cond.methodLink "LowWater" 230 ⟨"LowWater$Reader", "isA", "(I)Z"⟩ ∈ zT ∧ Cond.sameMethod "LowWater$Reader" "LowWater$Reader" "isA" "(I)Z" ∈ zT ∧ Cond.instanceMethod ⟨"LowWater$Reader", "isA", "(I)Z"⟩ ∈ zT ∧ Cond.code ⟨"LowWater$Reader", "isA", "(I)Z"⟩ cX6_isA 2 (some .boolean) ∈ zT ∧ Cond.selects "LowWater$Reader" ⟨"LowWater$Reader", "isA", "(I)Z"⟩ yX6_isA ∈ zT ∧ Cond.instanceMethod yX6_isA ∈ zT ∧ "LowWater$Reader" ≠ "java/lang/invoke/MethodHandle" ∧ "LowWater$Reader" ≠ "java/lang/invoke/VarHandle" ∧ (parseMethodDescriptor "(I)Z").map (fun d => d.parameters.length) = some 1 := ⟨zw_790, zw_793, zw_791, zw_818, zw_792, zw_791, by decide +kernel, by decide +kernel, by decide +kernel⟩
theorem zw_810 : Cond.selects "LowWater$Rowed" yX6_isA yX8_isA ∈ zT := zT_t (i := 810) (by decide +kernel) (by decide +kernel)
theorem ku_X11_230_X8 : Cond.methodLink "LowWater" 230 ⟨"LowWater$Reader", "isA", "(I)Z"⟩ ∈ zT ∧ Cond.sameMethod "LowWater$Reader" "LowWater$Reader" "isA" "(I)Z" ∈ zT ∧ Cond.instanceMethod ⟨"LowWater$Reader", "isA", "(I)Z"⟩ ∈ zT ∧ Cond.code ⟨"LowWater$Reader", "isA", "(I)Z"⟩ cX6_isA 2 (some .boolean) ∈ zT ∧ Cond.selects "LowWater$Rowed" ⟨"LowWater$Reader", "isA", "(I)Z"⟩ yX8_isA ∈ zT ∧ Cond.instanceMethod yX8_isA ∈ zT ∧ "LowWater$Reader" ≠ "java/lang/invoke/MethodHandle" ∧ "LowWater$Reader" ≠ "java/lang/invoke/VarHandle" ∧ (parseMethodDescriptor "(I)Z").map (fun d => d.parameters.length) = some 1 := ⟨zw_790, zw_793, zw_791, zw_818, zw_810, zw_811, by decide +kernel, by decide +kernel, by decide +kernel⟩
theorem zw_816 : Cond.code yX10_isA cX10_isA 2 (some .boolean) ∈ zT := zT_t (i := 816) (by decide +kernel) (by decide +kernel)
theorem co_X10_isA : zCo yX10_isA cX10_isA 2 (some .boolean) 1 := ⟨zw_816, zw_18, by decide +kernel, by decide +kernel, by decide +kernel⟩
theorem zw_814 : Cond.selects "LowWater$Waiting" yX6_isA yX10_isA ∈ zT := zT_t (i := 814) (by decide +kernel) (by decide +kernel)
theorem zw_815 : Cond.instanceMethod yX10_isA ∈ zT := zT_t (i := 815) (by decide +kernel) (by decide +kernel)
theorem ku_X11_230_X10 : Cond.methodLink "LowWater" 230 ⟨"LowWater$Reader", "isA", "(I)Z"⟩ ∈ zT ∧ Cond.sameMethod "LowWater$Reader" "LowWater$Reader" "isA" "(I)Z" ∈ zT ∧ Cond.instanceMethod ⟨"LowWater$Reader", "isA", "(I)Z"⟩ ∈ zT ∧ Cond.code ⟨"LowWater$Reader", "isA", "(I)Z"⟩ cX6_isA 2 (some .boolean) ∈ zT ∧ Cond.selects "LowWater$Waiting" ⟨"LowWater$Reader", "isA", "(I)Z"⟩ yX10_isA ∈ zT ∧ Cond.instanceMethod yX10_isA ∈ zT ∧ "LowWater$Reader" ≠ "java/lang/invoke/MethodHandle" ∧ "LowWater$Reader" ≠ "java/lang/invoke/VarHandle" ∧ (parseMethodDescriptor "(I)Z").map (fun d => d.parameters.length) = some 1 := ⟨zw_790, zw_793, zw_791, zw_818, zw_814, zw_815, by decide +kernel, by decide +kernel, by decide +kernel⟩
theorem zw_826 : Cond.code yX9_takeFrom cX9_takeFrom 3 none ∈ zT := zT_t (i := 826) (by decide +kernel) (by decide +kernel)
theorem co_X9_takeFrom : zCo yX9_takeFrom cX9_takeFrom 3 none 1 := ⟨zw_826, zw_2, by decide +kernel, by decide +kernel, by decide +kernel⟩
theorem zw_823 : Cond.methodLink "LowWater" 233 yX9_takeFrom ∈ zT := zT_t (i := 823) (by decide +kernel) (by decide +kernel)
theorem zw_824 : Cond.instanceMethod yX9_takeFrom ∈ zT := zT_t (i := 824) (by decide +kernel) (by decide +kernel)
theorem zw_825 : Cond.selects "LowWater$State" yX9_takeFrom yX9_takeFrom ∈ zT := zT_t (i := 825) (by decide +kernel) (by decide +kernel)
theorem k_X11_233 : Cond.methodLink "LowWater" 233 yX9_takeFrom ∈ zT ∧ Cond.instanceMethod yX9_takeFrom ∈ zT ∧ Cond.selects yX9_takeFrom.cls yX9_takeFrom yX9_takeFrom ∈ zT := ⟨zw_823, zw_824, zw_825⟩
theorem zw_486 : Cond.methodLink "LowWater" 237 yX1_levelAt ∈ zT := zT_t (i := 486) (by decide +kernel) (by decide +kernel)
theorem k_X11_237 : Cond.methodLink "LowWater" 237 yX1_levelAt ∈ zT ∧ Cond.instanceMethod yX1_levelAt ∈ zT ∧ Cond.selects yX1_levelAt.cls yX1_levelAt yX1_levelAt ∈ zT := ⟨zw_486, zw_487, zw_488⟩
theorem zw_337 : Cond.classLink "LowWater" 240 "LowWater$Fast" ∈ zT := zT_t (i := 337) (by decide +kernel) (by decide +kernel)
theorem zw_338 : Cond.instantiable "LowWater$Fast" 2 ∈ zT := zT_t (i := 338) (by decide +kernel) (by decide +kernel)
theorem nw_X11_240 : zNW "LowWater" 240 3 2 [.int 0, .int 0] := ⟨RX3, TX3, tyX3, rfl, in_X3, tyX3_ok, zw_337, zw_338, zw_13, by decide +kernel⟩
theorem zw_339 : Cond.methodLink "LowWater" 242 yX3_init ∈ zT := zT_t (i := 339) (by decide +kernel) (by decide +kernel)
theorem k_X11_242 : Cond.methodLink "LowWater" 242 yX3_init ∈ zT ∧ Cond.instanceMethod yX3_init ∈ zT := ⟨zw_339, zw_340⟩
theorem zw_364 : Cond.classLink "LowWater" 244 "LowWater$Diver" ∈ zT := zT_t (i := 364) (by decide +kernel) (by decide +kernel)
theorem zw_365 : Cond.instantiable "LowWater$Diver" 2 ∈ zT := zT_t (i := 365) (by decide +kernel) (by decide +kernel)
theorem nw_X11_244 : zNW "LowWater" 244 2 2 [.int 0, .int 0] := ⟨RX2, TX2, tyX2, rfl, in_X2, tyX2_ok, zw_364, zw_365, zw_14, by decide +kernel⟩
theorem zw_366 : Cond.methodLink "LowWater" 246 yX2_init ∈ zT := zT_t (i := 366) (by decide +kernel) (by decide +kernel)
theorem k_X11_246 : Cond.methodLink "LowWater" 246 yX2_init ∈ zT ∧ Cond.instanceMethod yX2_init ∈ zT := ⟨zw_366, zw_367⟩
theorem zw_373 : Cond.classLink "LowWater" 247 "LowWater$Rowed" ∈ zT := zT_t (i := 373) (by decide +kernel) (by decide +kernel)
theorem zw_374 : Cond.instantiable "LowWater$Rowed" 2 ∈ zT := zT_t (i := 374) (by decide +kernel) (by decide +kernel)
theorem nw_X11_247 : zNW "LowWater" 247 8 2 [.int 0, .int 0] := ⟨RX8, TX8, tyX8, rfl, in_X8, tyX8_ok, zw_373, zw_374, zw_15, by decide +kernel⟩
theorem zw_375 : Cond.methodLink "LowWater" 249 yX8_init ∈ zT := zT_t (i := 375) (by decide +kernel) (by decide +kernel)
theorem k_X11_249 : Cond.methodLink "LowWater" 249 yX8_init ∈ zT ∧ Cond.instanceMethod yX8_init ∈ zT := ⟨zw_375, zw_376⟩
theorem zw_382 : Cond.classLink "LowWater" 250 "LowWater$Quick" ∈ zT := zT_t (i := 382) (by decide +kernel) (by decide +kernel)
theorem zw_383 : Cond.instantiable "LowWater$Quick" 2 ∈ zT := zT_t (i := 383) (by decide +kernel) (by decide +kernel)
theorem nw_X11_250 : zNW "LowWater" 250 5 2 [.int 0, .int 0] := ⟨RX5, TX5, tyX5, rfl, in_X5, tyX5_ok, zw_382, zw_383, zw_16, by decide +kernel⟩
theorem zw_386 : Cond.code yX5_init cX5_init 3 none ∈ zT := zT_t (i := 386) (by decide +kernel) (by decide +kernel)
theorem co_X5_init : zCo yX5_init cX5_init 3 none 2 := ⟨zw_386, zw_16, by decide +kernel, by decide +kernel, by decide +kernel⟩
theorem zw_384 : Cond.methodLink "LowWater" 252 yX5_init ∈ zT := zT_t (i := 384) (by decide +kernel) (by decide +kernel)
theorem zw_385 : Cond.instanceMethod yX5_init ∈ zT := zT_t (i := 385) (by decide +kernel) (by decide +kernel)
theorem k_X11_252 : Cond.methodLink "LowWater" 252 yX5_init ∈ zT ∧ Cond.instanceMethod yX5_init ∈ zT := ⟨zw_384, zw_385⟩
theorem zw_391 : Cond.classLink "LowWater" 253 "LowWater$Blind" ∈ zT := zT_t (i := 391) (by decide +kernel) (by decide +kernel)
theorem zw_392 : Cond.instantiable "LowWater$Blind" 2 ∈ zT := zT_t (i := 392) (by decide +kernel) (by decide +kernel)
theorem nw_X11_253 : zNW "LowWater" 253 0 2 [.int 0, .int 0] := ⟨RX0, TX0, tyX0, rfl, in_X0, tyX0_ok, zw_391, zw_392, zw_17, by decide +kernel⟩
theorem zw_395 : Cond.code yX0_init cX0_init 3 none ∈ zT := zT_t (i := 395) (by decide +kernel) (by decide +kernel)
theorem co_X0_init : zCo yX0_init cX0_init 3 none 2 := ⟨zw_395, zw_17, by decide +kernel, by decide +kernel, by decide +kernel⟩
theorem zw_393 : Cond.methodLink "LowWater" 255 yX0_init ∈ zT := zT_t (i := 393) (by decide +kernel) (by decide +kernel)
theorem zw_394 : Cond.instanceMethod yX0_init ∈ zT := zT_t (i := 394) (by decide +kernel) (by decide +kernel)
theorem k_X11_255 : Cond.methodLink "LowWater" 255 yX0_init ∈ zT ∧ Cond.instanceMethod yX0_init ∈ zT := ⟨zw_393, zw_394⟩
theorem zw_400 : Cond.classLink "LowWater" 256 "LowWater$Waiting" ∈ zT := zT_t (i := 400) (by decide +kernel) (by decide +kernel)
theorem zw_401 : Cond.instantiable "LowWater$Waiting" 2 ∈ zT := zT_t (i := 401) (by decide +kernel) (by decide +kernel)
theorem nw_X11_256 : zNW "LowWater" 256 10 2 [.int 0, .int 0] := ⟨RX10, TX10, tyX10, rfl, in_X10, tyX10_ok, zw_400, zw_401, zw_18, by decide +kernel⟩
theorem zw_404 : Cond.code yX10_init cX10_init 3 none ∈ zT := zT_t (i := 404) (by decide +kernel) (by decide +kernel)
theorem co_X10_init : zCo yX10_init cX10_init 3 none 2 := ⟨zw_404, zw_18, by decide +kernel, by decide +kernel, by decide +kernel⟩
theorem zw_402 : Cond.methodLink "LowWater" 258 yX10_init ∈ zT := zT_t (i := 402) (by decide +kernel) (by decide +kernel)
theorem zw_403 : Cond.instanceMethod yX10_init ∈ zT := zT_t (i := 403) (by decide +kernel) (by decide +kernel)
theorem k_X11_258 : Cond.methodLink "LowWater" 258 yX10_init ∈ zT ∧ Cond.instanceMethod yX10_init ∈ zT := ⟨zw_402, zw_403⟩
theorem zw_409 : Cond.classLink "LowWater" 123 "LowWater$Reader" ∈ zT := zT_t (i := 409) (by decide +kernel) (by decide +kernel)
theorem zw_410 : Cond.instantiable "LowWater$Reader" 2 ∈ zT := zT_t (i := 410) (by decide +kernel) (by decide +kernel)
theorem nw_X11_123 : zNW "LowWater" 123 6 2 [.int 0, .int 0] := ⟨RX6, TX6, tyX6, rfl, in_X6, tyX6_ok, zw_409, zw_410, zw_12, by decide +kernel⟩
theorem zw_411 : Cond.methodLink "LowWater" 259 yX6_init ∈ zT := zT_t (i := 411) (by decide +kernel) (by decide +kernel)
theorem k_X11_259 : Cond.methodLink "LowWater" 259 yX6_init ∈ zT ∧ Cond.instanceMethod yX6_init ∈ zT := ⟨zw_411, zw_343⟩
theorem zw_636 : Cond.code yX11_waitOn cX11_waitOn 6 (some .int) ∈ zT := zT_t (i := 636) (by decide +kernel) (by decide +kernel)
theorem co_X11_waitOn : zCo yX11_waitOn cX11_waitOn 6 (some .int) 2 := ⟨zw_636, zw_1, by decide +kernel, by decide +kernel, by decide +kernel⟩
theorem zw_633 : Cond.methodLink "LowWater" 260 yX11_waitOn ∈ zT := zT_t (i := 633) (by decide +kernel) (by decide +kernel)
theorem zw_635 : Cond.instanceMethod yX11_waitOn ∈ zT := zT_t (i := 635) (by decide +kernel) (by decide +kernel)
theorem zw_s16 : Cond.selects "LowWater" yX11_waitOn yX11_waitOn ∈ zT := zT_s (i := 16) (by decide +kernel) (by decide +kernel)
theorem k_X11_260 : Cond.methodLink "LowWater" 260 yX11_waitOn ∈ zT ∧ Cond.instanceMethod yX11_waitOn ∈ zT ∧ Cond.selects yX11_waitOn.cls yX11_waitOn yX11_waitOn ∈ zT := ⟨zw_633, zw_635, zw_s16⟩
theorem zw_849 : Cond.methodLink "LowWaterModel" 3 objectInit ∈ zT := zT_t (i := 849) (by decide +kernel) (by decide +kernel)
theorem k_X12_3 : Cond.methodLink "LowWaterModel" 3 objectInit ∈ zT ∧ Cond.instanceMethod objectInit ∈ zT ∧ Cond.code objectInit ⟨#[0xb1]⟩ 1 none ∈ zT := ⟨zw_849, zw_28, zw_29⟩
theorem zw_850 : Cond.fieldLink "LowWaterModel" 9 "LowWaterModel" "s" "[I" ∈ zT := zT_t (i := 850) (by decide +kernel) (by decide +kernel)
theorem f_X12_9 : zFL "LowWaterModel" 9 12 1 true true (.array .int) := ⟨RX12, "LowWaterModel", TX12, 24, tyX12, rfl, by decide, in_X12, tyX12_ok, nmX12, rfl, rfl, (fun _ => rfl), Or.inl zw_850, Or.inl rfl⟩
theorem zw_851 : Cond.fieldLink "LowWaterModel" 15 "LowWaterModel" "image" "[I" ∈ zT := zT_t (i := 851) (by decide +kernel) (by decide +kernel)
theorem f_X12_15 : zFL "LowWaterModel" 15 12 2 true true (.array .int) := ⟨RX12, "LowWaterModel", TX12, 24, tyX12, rfl, by decide, in_X12, tyX12_ok, nmX12, rfl, rfl, (fun _ => rfl), Or.inl zw_851, Or.inl rfl⟩
theorem zw_858 : Cond.fieldLink "LowWaterModel" 18 "LowWaterModel" "by" "[I" ∈ zT := zT_t (i := 858) (by decide +kernel) (by decide +kernel)
theorem f_X12_18 : zFL "LowWaterModel" 18 12 9 true true (.array .int) := ⟨RX12, "LowWaterModel", TX12, 24, tyX12, rfl, by decide, in_X12, tyX12_ok, nmX12, rfl, rfl, (fun _ => rfl), Or.inl zw_858, Or.inl rfl⟩
theorem zw_859 : Cond.fieldLink "LowWaterModel" 21 "LowWaterModel" "truths" "[Z" ∈ zT := zT_t (i := 859) (by decide +kernel) (by decide +kernel)
theorem f_X12_21 : zFL "LowWaterModel" 21 12 10 true true (.array .boolean) := ⟨RX12, "LowWaterModel", TX12, 24, tyX12, rfl, by decide, in_X12, tyX12_ok, nmX12, rfl, rfl, (fun _ => rfl), Or.inl zw_859, Or.inl rfl⟩
theorem zw_862 : Cond.fieldLink "LowWaterModel" 25 "LowWaterModel" "levels" "[I" ∈ zT := zT_t (i := 862) (by decide +kernel) (by decide +kernel)
theorem f_X12_25 : zFL "LowWaterModel" 25 12 13 true true (.array .int) := ⟨RX12, "LowWaterModel", TX12, 24, tyX12, rfl, by decide, in_X12, tyX12_ok, nmX12, rfl, rfl, (fun _ => rfl), Or.inl zw_862, Or.inl rfl⟩
theorem zw_864 : Cond.fieldLink "LowWaterModel" 28 "LowWaterModel" "soons" "[I" ∈ zT := zT_t (i := 864) (by decide +kernel) (by decide +kernel)
theorem f_X12_28 : zFL "LowWaterModel" 28 12 15 true true (.array .int) := ⟨RX12, "LowWaterModel", TX12, 24, tyX12, rfl, by decide, in_X12, tyX12_ok, nmX12, rfl, rfl, (fun _ => rfl), Or.inl zw_864, Or.inl rfl⟩
theorem zw_865 : Cond.fieldLink "LowWaterModel" 31 "LowWaterModel" "row" "[I" ∈ zT := zT_t (i := 865) (by decide +kernel) (by decide +kernel)
theorem f_X12_31 : zFL "LowWaterModel" 31 12 16 true true (.array .int) := ⟨RX12, "LowWaterModel", TX12, 24, tyX12, rfl, by decide, in_X12, tyX12_ok, nmX12, rfl, rfl, (fun _ => rfl), Or.inl zw_865, Or.inl rfl⟩
theorem zw_866 : Cond.fieldLink "LowWaterModel" 34 "LowWaterModel" "bestRow" "[I" ∈ zT := zT_t (i := 866) (by decide +kernel) (by decide +kernel)
theorem f_X12_34 : zFL "LowWaterModel" 34 12 17 true true (.array .int) := ⟨RX12, "LowWaterModel", TX12, 24, tyX12, rfl, by decide, in_X12, tyX12_ok, nmX12, rfl, rfl, (fun _ => rfl), Or.inl zw_866, Or.inl rfl⟩
theorem zw_868 : Cond.fieldLink "LowWaterModel" 37 "LowWaterModel" "bodies" "[I" ∈ zT := zT_t (i := 868) (by decide +kernel) (by decide +kernel)
theorem f_X12_37 : zFL "LowWaterModel" 37 12 19 true true (.array .int) := ⟨RX12, "LowWaterModel", TX12, 24, tyX12, rfl, by decide, in_X12, tyX12_ok, nmX12, rfl, rfl, (fun _ => rfl), Or.inl zw_868, Or.inl rfl⟩
theorem zw_929 : Cond.code yX12_in cX12_in 3 (some .boolean) ∈ zT := zT_t (i := 929) (by decide +kernel) (by decide +kernel)
theorem zw_6 : Cond.initialized "LowWaterModel" ∈ zT := zT_t (i := 6) (by decide +kernel) (by decide +kernel)
theorem co_X12_in : zCo yX12_in cX12_in 3 (some .boolean) 3 := ⟨zw_929, zw_6, by decide +kernel, by decide +kernel, by decide +kernel⟩
theorem zw_927 : Cond.methodLink "LowWaterModel" 44 yX12_in ∈ zT := zT_t (i := 927) (by decide +kernel) (by decide +kernel)
theorem zw_928 : Cond.static yX12_in ∈ zT := zT_t (i := 928) (by decide +kernel) (by decide +kernel)
theorem k_X12_44 : Cond.methodLink "LowWaterModel" 44 yX12_in ∈ zT ∧ Cond.static yX12_in ∈ zT := ⟨zw_927, zw_928⟩
theorem zw_854 : Cond.fieldLink "LowWaterModel" 48 "LowWaterModel" "spot" "I" ∈ zT := zT_t (i := 854) (by decide +kernel) (by decide +kernel)
theorem f_X12_48 : zFL "LowWaterModel" 48 12 5 false true .int := ⟨RX12, "LowWaterModel", TX12, 24, tyX12, rfl, by decide, in_X12, tyX12_ok, nmX12, rfl, rfl, (fun _ => rfl), Or.inl zw_854, Or.inl rfl⟩
theorem zw_855 : Cond.fieldLink "LowWaterModel" 51 "LowWaterModel" "end" "I" ∈ zT := zT_t (i := 855) (by decide +kernel) (by decide +kernel)
theorem f_X12_51 : zFL "LowWaterModel" 51 12 6 false true .int := ⟨RX12, "LowWaterModel", TX12, 24, tyX12, rfl, by decide, in_X12, tyX12_ok, nmX12, rfl, rfl, (fun _ => rfl), Or.inl zw_855, Or.inl rfl⟩
theorem zw_856 : Cond.fieldLink "LowWaterModel" 54 "LowWaterModel" "isWrong" "Z" ∈ zT := zT_t (i := 856) (by decide +kernel) (by decide +kernel)
theorem f_X12_54 : zFL "LowWaterModel" 54 12 7 false true .boolean := ⟨RX12, "LowWaterModel", TX12, 24, tyX12, rfl, by decide, in_X12, tyX12_ok, nmX12, rfl, rfl, (fun _ => rfl), Or.inl zw_856, Or.inl rfl⟩
theorem zw_941 : Cond.code yX12_here cX12_here 1 (some .int) ∈ zT := zT_t (i := 941) (by decide +kernel) (by decide +kernel)
theorem co_X12_here : zCo yX12_here cX12_here 1 (some .int) 0 := ⟨zw_941, zw_6, by decide +kernel, by decide +kernel, by decide +kernel⟩
theorem zw_938 : Cond.methodLink "LowWaterModel" 58 yX12_here ∈ zT := zT_t (i := 938) (by decide +kernel) (by decide +kernel)
theorem zw_940 : Cond.instanceMethod yX12_here ∈ zT := zT_t (i := 940) (by decide +kernel) (by decide +kernel)
theorem zw_s19 : Cond.selects "LowWaterModel" yX12_here yX12_here ∈ zT := zT_s (i := 19) (by decide +kernel) (by decide +kernel)
theorem k_X12_58 : Cond.methodLink "LowWaterModel" 58 yX12_here ∈ zT ∧ Cond.instanceMethod yX12_here ∈ zT ∧ Cond.selects yX12_here.cls yX12_here yX12_here ∈ zT := ⟨zw_938, zw_940, zw_s19⟩
theorem zw_951 : Cond.methodLink "LowWaterModel" 62 yJ0_length_8abf5 ∈ zT := zT_t (i := 951) (by decide +kernel) (by decide +kernel)
theorem k_X12_62 : Cond.methodLink "LowWaterModel" 62 yJ0_length_8abf5 ∈ zT ∧ Cond.instanceMethod yJ0_length_8abf5 ∈ zT ∧ Cond.selects yJ0_length_8abf5.cls yJ0_length_8abf5 yJ0_length_8abf5 ∈ zT := ⟨zw_951, zw_224, zw_225⟩
theorem zw_952 : Cond.methodLink "LowWaterModel" 67 yJ0_charAt_5068e ∈ zT := zT_t (i := 952) (by decide +kernel) (by decide +kernel)
theorem k_X12_67 : Cond.methodLink "LowWaterModel" 67 yJ0_charAt_5068e ∈ zT ∧ Cond.instanceMethod yJ0_charAt_5068e ∈ zT ∧ Cond.selects yJ0_charAt_5068e.cls yJ0_charAt_5068e yJ0_charAt_5068e ∈ zT := ⟨zw_952, zw_234, zw_235⟩
theorem zw_956 : Cond.code yX12_must cX12_must 2 none ∈ zT := zT_t (i := 956) (by decide +kernel) (by decide +kernel)
theorem co_X12_must : zCo yX12_must cX12_must 2 none 1 := ⟨zw_956, zw_6, by decide +kernel, by decide +kernel, by decide +kernel⟩
theorem zw_953 : Cond.methodLink "LowWaterModel" 71 yX12_must ∈ zT := zT_t (i := 953) (by decide +kernel) (by decide +kernel)
theorem zw_955 : Cond.instanceMethod yX12_must ∈ zT := zT_t (i := 955) (by decide +kernel) (by decide +kernel)
theorem zw_s22 : Cond.selects "LowWaterModel" yX12_must yX12_must ∈ zT := zT_s (i := 22) (by decide +kernel) (by decide +kernel)
theorem k_X12_71 : Cond.methodLink "LowWaterModel" 71 yX12_must ∈ zT ∧ Cond.instanceMethod yX12_must ∈ zT ∧ Cond.selects yX12_must.cls yX12_must yX12_must ∈ zT := ⟨zw_953, zw_955, zw_s22⟩
theorem zw_853 : Cond.fieldLink "LowWaterModel" 75 "LowWaterModel" "act" "I" ∈ zT := zT_t (i := 853) (by decide +kernel) (by decide +kernel)
theorem f_X12_75 : zFL "LowWaterModel" 75 12 4 false true .int := ⟨RX12, "LowWaterModel", TX12, 24, tyX12, rfl, by decide, in_X12, tyX12_ok, nmX12, rfl, rfl, (fun _ => rfl), Or.inl zw_853, Or.inl rfl⟩
theorem zw_857 : Cond.fieldLink "LowWaterModel" 78 "LowWaterModel" "opened" "I" ∈ zT := zT_t (i := 857) (by decide +kernel) (by decide +kernel)
theorem f_X12_78 : zFL "LowWaterModel" 78 12 8 false true .int := ⟨RX12, "LowWaterModel", TX12, 24, tyX12, rfl, by decide, in_X12, tyX12_ok, nmX12, rfl, rfl, (fun _ => rfl), Or.inl zw_857, Or.inl rfl⟩
theorem zw_972 : Cond.code yX12_factor cX12_factor 5 none ∈ zT := zT_t (i := 972) (by decide +kernel) (by decide +kernel)
theorem co_X12_factor : zCo yX12_factor cX12_factor 5 none 0 := ⟨zw_972, zw_6, by decide +kernel, by decide +kernel, by decide +kernel⟩
theorem zw_969 : Cond.methodLink "LowWaterModel" 81 yX12_factor ∈ zT := zT_t (i := 969) (by decide +kernel) (by decide +kernel)
theorem zw_971 : Cond.instanceMethod yX12_factor ∈ zT := zT_t (i := 971) (by decide +kernel) (by decide +kernel)
theorem zw_s26 : Cond.selects "LowWaterModel" yX12_factor yX12_factor ∈ zT := zT_s (i := 26) (by decide +kernel) (by decide +kernel)
theorem k_X12_81 : Cond.methodLink "LowWaterModel" 81 yX12_factor ∈ zT ∧ Cond.instanceMethod yX12_factor ∈ zT ∧ Cond.selects yX12_factor.cls yX12_factor yX12_factor ∈ zT := ⟨zw_969, zw_971, zw_s26⟩
theorem zw_976 : Cond.code yX12_emits cX12_emits 2 none ∈ zT := zT_t (i := 976) (by decide +kernel) (by decide +kernel)
theorem co_X12_emits : zCo yX12_emits cX12_emits 2 none 1 := ⟨zw_976, zw_6, by decide +kernel, by decide +kernel, by decide +kernel⟩
theorem zw_973 : Cond.methodLink "LowWaterModel" 84 yX12_emits ∈ zT := zT_t (i := 973) (by decide +kernel) (by decide +kernel)
theorem zw_975 : Cond.instanceMethod yX12_emits ∈ zT := zT_t (i := 975) (by decide +kernel) (by decide +kernel)
theorem zw_s27 : Cond.selects "LowWaterModel" yX12_emits yX12_emits ∈ zT := zT_s (i := 27) (by decide +kernel) (by decide +kernel)
theorem k_X12_84 : Cond.methodLink "LowWaterModel" 84 yX12_emits ∈ zT ∧ Cond.instanceMethod yX12_emits ∈ zT ∧ Cond.selects yX12_emits.cls yX12_emits yX12_emits ∈ zT := ⟨zw_973, zw_975, zw_s27⟩
theorem zw_964 : Cond.code yX12_some cX12_some 1 none ∈ zT := zT_t (i := 964) (by decide +kernel) (by decide +kernel)
theorem co_X12_some : zCo yX12_some cX12_some 1 none 0 := ⟨zw_964, zw_6, by decide +kernel, by decide +kernel, by decide +kernel⟩
theorem zw_961 : Cond.methodLink "LowWaterModel" 87 yX12_some ∈ zT := zT_t (i := 961) (by decide +kernel) (by decide +kernel)
theorem zw_963 : Cond.instanceMethod yX12_some ∈ zT := zT_t (i := 963) (by decide +kernel) (by decide +kernel)
theorem zw_s24 : Cond.selects "LowWaterModel" yX12_some yX12_some ∈ zT := zT_s (i := 24) (by decide +kernel) (by decide +kernel)
theorem k_X12_87 : Cond.methodLink "LowWaterModel" 87 yX12_some ∈ zT ∧ Cond.instanceMethod yX12_some ∈ zT ∧ Cond.selects yX12_some.cls yX12_some yX12_some ∈ zT := ⟨zw_961, zw_963, zw_s24⟩
theorem zw_981 : Cond.code yX12_among cX12_among 3 (some .int) ∈ zT := zT_t (i := 981) (by decide +kernel) (by decide +kernel)
theorem co_X12_among : zCo yX12_among cX12_among 3 (some .int) 1 := ⟨zw_981, zw_6, by decide +kernel, by decide +kernel, by decide +kernel⟩
theorem zw_978 : Cond.methodLink "LowWaterModel" 92 yX12_among ∈ zT := zT_t (i := 978) (by decide +kernel) (by decide +kernel)
theorem zw_980 : Cond.instanceMethod yX12_among ∈ zT := zT_t (i := 980) (by decide +kernel) (by decide +kernel)
theorem zw_s28 : Cond.selects "LowWaterModel" yX12_among yX12_among ∈ zT := zT_s (i := 28) (by decide +kernel) (by decide +kernel)
theorem k_X12_92 : Cond.methodLink "LowWaterModel" 92 yX12_among ∈ zT ∧ Cond.instanceMethod yX12_among ∈ zT ∧ Cond.selects yX12_among.cls yX12_among yX12_among ∈ zT := ⟨zw_978, zw_980, zw_s28⟩
theorem zw_960 : Cond.code yX12_figures cX12_figures 3 (some .int) ∈ zT := zT_t (i := 960) (by decide +kernel) (by decide +kernel)
theorem co_X12_figures : zCo yX12_figures cX12_figures 3 (some .int) 0 := ⟨zw_960, zw_6, by decide +kernel, by decide +kernel, by decide +kernel⟩
theorem zw_957 : Cond.methodLink "LowWaterModel" 98 yX12_figures ∈ zT := zT_t (i := 957) (by decide +kernel) (by decide +kernel)
theorem zw_959 : Cond.instanceMethod yX12_figures ∈ zT := zT_t (i := 959) (by decide +kernel) (by decide +kernel)
theorem zw_s23 : Cond.selects "LowWaterModel" yX12_figures yX12_figures ∈ zT := zT_s (i := 23) (by decide +kernel) (by decide +kernel)
theorem k_X12_98 : Cond.methodLink "LowWaterModel" 98 yX12_figures ∈ zT ∧ Cond.instanceMethod yX12_figures ∈ zT ∧ Cond.selects yX12_figures.cls yX12_figures yX12_figures ∈ zT := ⟨zw_957, zw_959, zw_s23⟩
theorem zw_968 : Cond.code yX12_every cX12_every 1 none ∈ zT := zT_t (i := 968) (by decide +kernel) (by decide +kernel)
theorem co_X12_every : zCo yX12_every cX12_every 1 none 0 := ⟨zw_968, zw_6, by decide +kernel, by decide +kernel, by decide +kernel⟩
theorem zw_965 : Cond.methodLink "LowWaterModel" 101 yX12_every ∈ zT := zT_t (i := 965) (by decide +kernel) (by decide +kernel)
theorem zw_967 : Cond.instanceMethod yX12_every ∈ zT := zT_t (i := 967) (by decide +kernel) (by decide +kernel)
theorem zw_s25 : Cond.selects "LowWaterModel" yX12_every yX12_every ∈ zT := zT_s (i := 25) (by decide +kernel) (by decide +kernel)
theorem k_X12_101 : Cond.methodLink "LowWaterModel" 101 yX12_every ∈ zT ∧ Cond.instanceMethod yX12_every ∈ zT ∧ Cond.selects yX12_every.cls yX12_every yX12_every ∈ zT := ⟨zw_965, zw_967, zw_s25⟩
theorem zw_950 : Cond.code yX12_spells cX12_spells 3 none ∈ zT := zT_t (i := 950) (by decide +kernel) (by decide +kernel)
theorem co_X12_spells : zCo yX12_spells cX12_spells 3 none 1 := ⟨zw_950, zw_6, by decide +kernel, by decide +kernel, by decide +kernel⟩
theorem zw_947 : Cond.methodLink "LowWaterModel" 104 yX12_spells ∈ zT := zT_t (i := 947) (by decide +kernel) (by decide +kernel)
theorem zw_949 : Cond.instanceMethod yX12_spells ∈ zT := zT_t (i := 949) (by decide +kernel) (by decide +kernel)
theorem zw_s21 : Cond.selects "LowWaterModel" yX12_spells yX12_spells ∈ zT := zT_s (i := 21) (by decide +kernel) (by decide +kernel)
theorem k_X12_104 : Cond.methodLink "LowWaterModel" 104 yX12_spells ∈ zT ∧ Cond.instanceMethod yX12_spells ∈ zT ∧ Cond.selects yX12_spells.cls yX12_spells yX12_spells ∈ zT := ⟨zw_947, zw_949, zw_s21⟩
theorem zw_946 : Cond.code yX12_much cX12_much 4 none ∈ zT := zT_t (i := 946) (by decide +kernel) (by decide +kernel)
theorem co_X12_much : zCo yX12_much cX12_much 4 none 2 := ⟨zw_946, zw_6, by decide +kernel, by decide +kernel, by decide +kernel⟩
theorem zw_943 : Cond.methodLink "LowWaterModel" 110 yX12_much ∈ zT := zT_t (i := 943) (by decide +kernel) (by decide +kernel)
theorem zw_945 : Cond.instanceMethod yX12_much ∈ zT := zT_t (i := 945) (by decide +kernel) (by decide +kernel)
theorem zw_s20 : Cond.selects "LowWaterModel" yX12_much yX12_much ∈ zT := zT_s (i := 20) (by decide +kernel) (by decide +kernel)
theorem k_X12_110 : Cond.methodLink "LowWaterModel" 110 yX12_much ∈ zT ∧ Cond.instanceMethod yX12_much ∈ zT ∧ Cond.selects yX12_much.cls yX12_much yX12_much ∈ zT := ⟨zw_943, zw_945, zw_s20⟩
theorem zw_937 : Cond.code yX12_clauseHere cX12_clauseHere 1 none ∈ zT := zT_t (i := 937) (by decide +kernel) (by decide +kernel)
theorem co_X12_clauseHere : zCo yX12_clauseHere cX12_clauseHere 1 none 0 := ⟨zw_937, zw_6, by decide +kernel, by decide +kernel, by decide +kernel⟩
theorem zw_934 : Cond.methodLink "LowWaterModel" 118 yX12_clauseHere ∈ zT := zT_t (i := 934) (by decide +kernel) (by decide +kernel)
theorem zw_936 : Cond.instanceMethod yX12_clauseHere ∈ zT := zT_t (i := 936) (by decide +kernel) (by decide +kernel)
theorem zw_s18 : Cond.selects "LowWaterModel" yX12_clauseHere yX12_clauseHere ∈ zT := zT_s (i := 18) (by decide +kernel) (by decide +kernel)
theorem k_X12_118 : Cond.methodLink "LowWaterModel" 118 yX12_clauseHere ∈ zT ∧ Cond.instanceMethod yX12_clauseHere ∈ zT ∧ Cond.selects yX12_clauseHere.cls yX12_clauseHere yX12_clauseHere ∈ zT := ⟨zw_934, zw_936, zw_s18⟩
theorem zw_860 : Cond.fieldLink "LowWaterModel" 121 "LowWaterModel" "swelling" "I" ∈ zT := zT_t (i := 860) (by decide +kernel) (by decide +kernel)
theorem f_X12_121 : zFL "LowWaterModel" 121 12 11 false true .int := ⟨RX12, "LowWaterModel", TX12, 24, tyX12, rfl, by decide, in_X12, tyX12_ok, nmX12, rfl, rfl, (fun _ => rfl), Or.inl zw_860, Or.inl rfl⟩
theorem zw_861 : Cond.fieldLink "LowWaterModel" 124 "LowWaterModel" "waving" "I" ∈ zT := zT_t (i := 861) (by decide +kernel) (by decide +kernel)
theorem f_X12_124 : zFL "LowWaterModel" 124 12 12 false true .int := ⟨RX12, "LowWaterModel", TX12, 24, tyX12, rfl, by decide, in_X12, tyX12_ok, nmX12, rfl, rfl, (fun _ => rfl), Or.inl zw_861, Or.inl rfl⟩
theorem zw_1039 : Cond.code yX12_looks cX12_looks 10 none ∈ zT := zT_t (i := 1039) (by decide +kernel) (by decide +kernel)
theorem co_X12_looks : zCo yX12_looks cX12_looks 10 none 1 := ⟨zw_1039, zw_6, by decide +kernel, by decide +kernel, by decide +kernel⟩
theorem zw_1036 : Cond.methodLink "LowWaterModel" 127 yX12_looks ∈ zT := zT_t (i := 1036) (by decide +kernel) (by decide +kernel)
theorem zw_1038 : Cond.instanceMethod yX12_looks ∈ zT := zT_t (i := 1038) (by decide +kernel) (by decide +kernel)
theorem zw_s33 : Cond.selects "LowWaterModel" yX12_looks yX12_looks ∈ zT := zT_s (i := 33) (by decide +kernel) (by decide +kernel)
theorem k_X12_127 : Cond.methodLink "LowWaterModel" 127 yX12_looks ∈ zT ∧ Cond.instanceMethod yX12_looks ∈ zT ∧ Cond.selects yX12_looks.cls yX12_looks yX12_looks ∈ zT := ⟨zw_1036, zw_1038, zw_s33⟩
theorem zw_863 : Cond.fieldLink "LowWaterModel" 130 "LowWaterModel" "known" "I" ∈ zT := zT_t (i := 863) (by decide +kernel) (by decide +kernel)
theorem f_X12_130 : zFL "LowWaterModel" 130 12 14 false true .int := ⟨RX12, "LowWaterModel", TX12, 24, tyX12, rfl, by decide, in_X12, tyX12_ok, nmX12, rfl, rfl, (fun _ => rfl), Or.inl zw_863, Or.inl rfl⟩
theorem zw_1035 : Cond.code yX12_levelAt cX12_levelAt 4 (some .int) ∈ zT := zT_t (i := 1035) (by decide +kernel) (by decide +kernel)
theorem co_X12_levelAt : zCo yX12_levelAt cX12_levelAt 4 (some .int) 1 := ⟨zw_1035, zw_6, by decide +kernel, by decide +kernel, by decide +kernel⟩
theorem zw_1032 : Cond.methodLink "LowWaterModel" 133 yX12_levelAt ∈ zT := zT_t (i := 1032) (by decide +kernel) (by decide +kernel)
theorem zw_1034 : Cond.instanceMethod yX12_levelAt ∈ zT := zT_t (i := 1034) (by decide +kernel) (by decide +kernel)
theorem zw_s32 : Cond.selects "LowWaterModel" yX12_levelAt yX12_levelAt ∈ zT := zT_s (i := 32) (by decide +kernel) (by decide +kernel)
theorem k_X12_133 : Cond.methodLink "LowWaterModel" 133 yX12_levelAt ∈ zT ∧ Cond.instanceMethod yX12_levelAt ∈ zT ∧ Cond.selects yX12_levelAt.cls yX12_levelAt yX12_levelAt ∈ zT := ⟨zw_1032, zw_1034, zw_s32⟩
theorem zw_991 : Cond.code yX12_isShelf cX12_isShelf 1 (some .boolean) ∈ zT := zT_t (i := 991) (by decide +kernel) (by decide +kernel)
theorem co_X12_isShelf : zCo yX12_isShelf cX12_isShelf 1 (some .boolean) 1 := ⟨zw_991, zw_6, by decide +kernel, by decide +kernel, by decide +kernel⟩
theorem zw_989 : Cond.methodLink "LowWaterModel" 137 yX12_isShelf ∈ zT := zT_t (i := 989) (by decide +kernel) (by decide +kernel)
theorem zw_990 : Cond.static yX12_isShelf ∈ zT := zT_t (i := 990) (by decide +kernel) (by decide +kernel)
theorem k_X12_137 : Cond.methodLink "LowWaterModel" 137 yX12_isShelf ∈ zT ∧ Cond.static yX12_isShelf ∈ zT := ⟨zw_989, zw_990⟩
theorem zw_999 : Cond.code yX12_isSlate cX12_isSlate 2 (some .boolean) ∈ zT := zT_t (i := 999) (by decide +kernel) (by decide +kernel)
theorem co_X12_isSlate : zCo yX12_isSlate cX12_isSlate 2 (some .boolean) 1 := ⟨zw_999, zw_6, by decide +kernel, by decide +kernel, by decide +kernel⟩
theorem zw_996 : Cond.methodLink "LowWaterModel" 141 yX12_isSlate ∈ zT := zT_t (i := 996) (by decide +kernel) (by decide +kernel)
theorem zw_998 : Cond.instanceMethod yX12_isSlate ∈ zT := zT_t (i := 998) (by decide +kernel) (by decide +kernel)
theorem zw_s29 : Cond.selects "LowWaterModel" yX12_isSlate yX12_isSlate ∈ zT := zT_s (i := 29) (by decide +kernel) (by decide +kernel)
theorem k_X12_141 : Cond.methodLink "LowWaterModel" 141 yX12_isSlate ∈ zT ∧ Cond.instanceMethod yX12_isSlate ∈ zT ∧ Cond.selects yX12_isSlate.cls yX12_isSlate yX12_isSlate ∈ zT := ⟨zw_996, zw_998, zw_s29⟩
theorem zw_1015 : Cond.code yX12_isReader cX12_isReader 2 (some .boolean) ∈ zT := zT_t (i := 1015) (by decide +kernel) (by decide +kernel)
theorem co_X12_isReader : zCo yX12_isReader cX12_isReader 2 (some .boolean) 1 := ⟨zw_1015, zw_6, by decide +kernel, by decide +kernel, by decide +kernel⟩
theorem zw_1012 : Cond.methodLink "LowWaterModel" 144 yX12_isReader ∈ zT := zT_t (i := 1012) (by decide +kernel) (by decide +kernel)
theorem zw_1014 : Cond.instanceMethod yX12_isReader ∈ zT := zT_t (i := 1014) (by decide +kernel) (by decide +kernel)
theorem zw_s30 : Cond.selects "LowWaterModel" yX12_isReader yX12_isReader ∈ zT := zT_s (i := 30) (by decide +kernel) (by decide +kernel)
theorem k_X12_144 : Cond.methodLink "LowWaterModel" 144 yX12_isReader ∈ zT ∧ Cond.instanceMethod yX12_isReader ∈ zT ∧ Cond.selects yX12_isReader.cls yX12_isReader yX12_isReader ∈ zT := ⟨zw_1012, zw_1014, zw_s30⟩
theorem zw_1023 : Cond.code yX12_needsOf cX12_needsOf 5 (some .int) ∈ zT := zT_t (i := 1023) (by decide +kernel) (by decide +kernel)
theorem co_X12_needsOf : zCo yX12_needsOf cX12_needsOf 5 (some .int) 2 := ⟨zw_1023, zw_6, by decide +kernel, by decide +kernel, by decide +kernel⟩
theorem zw_1020 : Cond.methodLink "LowWaterModel" 147 yX12_needsOf ∈ zT := zT_t (i := 1020) (by decide +kernel) (by decide +kernel)
theorem zw_1022 : Cond.instanceMethod yX12_needsOf ∈ zT := zT_t (i := 1022) (by decide +kernel) (by decide +kernel)
theorem zw_s31 : Cond.selects "LowWaterModel" yX12_needsOf yX12_needsOf ∈ zT := zT_s (i := 31) (by decide +kernel) (by decide +kernel)
theorem k_X12_147 : Cond.methodLink "LowWaterModel" 147 yX12_needsOf ∈ zT ∧ Cond.instanceMethod yX12_needsOf ∈ zT ∧ Cond.selects yX12_needsOf.cls yX12_needsOf yX12_needsOf ∈ zT := ⟨zw_1020, zw_1022, zw_s31⟩
theorem zw_1067 : Cond.code yX12_levelIn cX12_levelIn 3 (some .int) ∈ zT := zT_t (i := 1067) (by decide +kernel) (by decide +kernel)
theorem co_X12_levelIn : zCo yX12_levelIn cX12_levelIn 3 (some .int) 1 := ⟨zw_1067, zw_6, by decide +kernel, by decide +kernel, by decide +kernel⟩
theorem zw_1064 : Cond.methodLink "LowWaterModel" 151 yX12_levelIn ∈ zT := zT_t (i := 1064) (by decide +kernel) (by decide +kernel)
theorem zw_1066 : Cond.instanceMethod yX12_levelIn ∈ zT := zT_t (i := 1066) (by decide +kernel) (by decide +kernel)
theorem zw_s38 : Cond.selects "LowWaterModel" yX12_levelIn yX12_levelIn ∈ zT := zT_s (i := 38) (by decide +kernel) (by decide +kernel)
theorem k_X12_151 : Cond.methodLink "LowWaterModel" 151 yX12_levelIn ∈ zT ∧ Cond.instanceMethod yX12_levelIn ∈ zT ∧ Cond.selects yX12_levelIn.cls yX12_levelIn yX12_levelIn ∈ zT := ⟨zw_1064, zw_1066, zw_s38⟩
theorem zw_1063 : Cond.code yX12_mayBegin cX12_mayBegin 5 (some .boolean) ∈ zT := zT_t (i := 1063) (by decide +kernel) (by decide +kernel)
theorem co_X12_mayBegin : zCo yX12_mayBegin cX12_mayBegin 5 (some .boolean) 2 := ⟨zw_1063, zw_6, by decide +kernel, by decide +kernel, by decide +kernel⟩
theorem zw_1060 : Cond.methodLink "LowWaterModel" 154 yX12_mayBegin ∈ zT := zT_t (i := 1060) (by decide +kernel) (by decide +kernel)
theorem zw_1062 : Cond.instanceMethod yX12_mayBegin ∈ zT := zT_t (i := 1062) (by decide +kernel) (by decide +kernel)
theorem zw_s37 : Cond.selects "LowWaterModel" yX12_mayBegin yX12_mayBegin ∈ zT := zT_s (i := 37) (by decide +kernel) (by decide +kernel)
theorem k_X12_154 : Cond.methodLink "LowWaterModel" 154 yX12_mayBegin ∈ zT ∧ Cond.instanceMethod yX12_mayBegin ∈ zT ∧ Cond.selects yX12_mayBegin.cls yX12_mayBegin yX12_mayBegin ∈ zT := ⟨zw_1060, zw_1062, zw_s37⟩
theorem zw_1071 : Cond.code yX12_isOpen cX12_isOpen 5 (some .boolean) ∈ zT := zT_t (i := 1071) (by decide +kernel) (by decide +kernel)
theorem co_X12_isOpen : zCo yX12_isOpen cX12_isOpen 5 (some .boolean) 3 := ⟨zw_1071, zw_6, by decide +kernel, by decide +kernel, by decide +kernel⟩
theorem zw_1068 : Cond.methodLink "LowWaterModel" 158 yX12_isOpen ∈ zT := zT_t (i := 1068) (by decide +kernel) (by decide +kernel)
theorem zw_1070 : Cond.instanceMethod yX12_isOpen ∈ zT := zT_t (i := 1070) (by decide +kernel) (by decide +kernel)
theorem zw_s39 : Cond.selects "LowWaterModel" yX12_isOpen yX12_isOpen ∈ zT := zT_s (i := 39) (by decide +kernel) (by decide +kernel)
theorem k_X12_158 : Cond.methodLink "LowWaterModel" 158 yX12_isOpen ∈ zT ∧ Cond.instanceMethod yX12_isOpen ∈ zT ∧ Cond.selects yX12_isOpen.cls yX12_isOpen yX12_isOpen ∈ zT := ⟨zw_1068, zw_1070, zw_s39⟩
theorem zw_1059 : Cond.code yX12_canRead cX12_canRead 6 (some .boolean) ∈ zT := zT_t (i := 1059) (by decide +kernel) (by decide +kernel)
theorem co_X12_canRead : zCo yX12_canRead cX12_canRead 6 (some .boolean) 3 := ⟨zw_1059, zw_6, by decide +kernel, by decide +kernel, by decide +kernel⟩
theorem zw_1056 : Cond.methodLink "LowWaterModel" 161 yX12_canRead ∈ zT := zT_t (i := 1056) (by decide +kernel) (by decide +kernel)
theorem zw_1058 : Cond.instanceMethod yX12_canRead ∈ zT := zT_t (i := 1058) (by decide +kernel) (by decide +kernel)
theorem zw_s36 : Cond.selects "LowWaterModel" yX12_canRead yX12_canRead ∈ zT := zT_s (i := 36) (by decide +kernel) (by decide +kernel)
theorem k_X12_161 : Cond.methodLink "LowWaterModel" 161 yX12_canRead ∈ zT ∧ Cond.instanceMethod yX12_canRead ∈ zT ∧ Cond.selects yX12_canRead.cls yX12_canRead yX12_canRead ∈ zT := ⟨zw_1056, zw_1058, zw_s36⟩
theorem zw_1072 : Cond.constant "LowWaterModel" 164 100000 ∈ zT := zT_t (i := 1072) (by decide +kernel) (by decide +kernel)
theorem cn_X12_164 : Cond.constant "LowWaterModel" 164 100000 ∈ zT := zw_1072
theorem zw_1051 : Cond.code yX12_forgets cX12_forgets 1 none ∈ zT := zT_t (i := 1051) (by decide +kernel) (by decide +kernel)
theorem co_X12_forgets : zCo yX12_forgets cX12_forgets 1 none 0 := ⟨zw_1051, zw_6, by decide +kernel, by decide +kernel, by decide +kernel⟩
theorem zw_1048 : Cond.methodLink "LowWaterModel" 165 yX12_forgets ∈ zT := zT_t (i := 1048) (by decide +kernel) (by decide +kernel)
theorem zw_1050 : Cond.instanceMethod yX12_forgets ∈ zT := zT_t (i := 1050) (by decide +kernel) (by decide +kernel)
theorem zw_s34 : Cond.selects "LowWaterModel" yX12_forgets yX12_forgets ∈ zT := zT_s (i := 34) (by decide +kernel) (by decide +kernel)
theorem k_X12_165 : Cond.methodLink "LowWaterModel" 165 yX12_forgets ∈ zT ∧ Cond.instanceMethod yX12_forgets ∈ zT ∧ Cond.selects yX12_forgets.cls yX12_forgets yX12_forgets ∈ zT := ⟨zw_1048, zw_1050, zw_s34⟩
theorem zw_1055 : Cond.code yX12_soonFrom cX12_soonFrom 6 (some .int) ∈ zT := zT_t (i := 1055) (by decide +kernel) (by decide +kernel)
theorem co_X12_soonFrom : zCo yX12_soonFrom cX12_soonFrom 6 (some .int) 3 := ⟨zw_1055, zw_6, by decide +kernel, by decide +kernel, by decide +kernel⟩
theorem zw_1052 : Cond.methodLink "LowWaterModel" 168 yX12_soonFrom ∈ zT := zT_t (i := 1052) (by decide +kernel) (by decide +kernel)
theorem zw_1054 : Cond.instanceMethod yX12_soonFrom ∈ zT := zT_t (i := 1054) (by decide +kernel) (by decide +kernel)
theorem zw_s35 : Cond.selects "LowWaterModel" yX12_soonFrom yX12_soonFrom ∈ zT := zT_s (i := 35) (by decide +kernel) (by decide +kernel)
theorem k_X12_168 : Cond.methodLink "LowWaterModel" 168 yX12_soonFrom ∈ zT ∧ Cond.instanceMethod yX12_soonFrom ∈ zT ∧ Cond.selects yX12_soonFrom.cls yX12_soonFrom yX12_soonFrom ∈ zT := ⟨zw_1052, zw_1054, zw_s35⟩
theorem zw_1075 : Cond.code yX12_orNone cX12_orNone 1 (some .int) ∈ zT := zT_t (i := 1075) (by decide +kernel) (by decide +kernel)
theorem co_X12_orNone : zCo yX12_orNone cX12_orNone 1 (some .int) 1 := ⟨zw_1075, zw_6, by decide +kernel, by decide +kernel, by decide +kernel⟩
theorem zw_1073 : Cond.methodLink "LowWaterModel" 172 yX12_orNone ∈ zT := zT_t (i := 1073) (by decide +kernel) (by decide +kernel)
theorem zw_1074 : Cond.static yX12_orNone ∈ zT := zT_t (i := 1074) (by decide +kernel) (by decide +kernel)
theorem k_X12_172 : Cond.methodLink "LowWaterModel" 172 yX12_orNone ∈ zT ∧ Cond.static yX12_orNone ∈ zT := ⟨zw_1073, zw_1074⟩
theorem zw_867 : Cond.fieldLink "LowWaterModel" 175 "LowWaterModel" "bestEnd" "I" ∈ zT := zT_t (i := 867) (by decide +kernel) (by decide +kernel)
theorem f_X12_175 : zFL "LowWaterModel" 175 12 18 false true .int := ⟨RX12, "LowWaterModel", TX12, 24, tyX12, rfl, by decide, in_X12, tyX12_ok, nmX12, rfl, rfl, (fun _ => rfl), Or.inl zw_867, Or.inl rfl⟩
theorem zw_1099 : Cond.code yX12_soonKnown cX12_soonKnown 5 (some .int) ∈ zT := zT_t (i := 1099) (by decide +kernel) (by decide +kernel)
theorem co_X12_soonKnown : zCo yX12_soonKnown cX12_soonKnown 5 (some .int) 3 := ⟨zw_1099, zw_6, by decide +kernel, by decide +kernel, by decide +kernel⟩
theorem zw_1096 : Cond.methodLink "LowWaterModel" 178 yX12_soonKnown ∈ zT := zT_t (i := 1096) (by decide +kernel) (by decide +kernel)
theorem zw_1098 : Cond.instanceMethod yX12_soonKnown ∈ zT := zT_t (i := 1098) (by decide +kernel) (by decide +kernel)
theorem zw_s44 : Cond.selects "LowWaterModel" yX12_soonKnown yX12_soonKnown ∈ zT := zT_s (i := 44) (by decide +kernel) (by decide +kernel)
theorem k_X12_178 : Cond.methodLink "LowWaterModel" 178 yX12_soonKnown ∈ zT ∧ Cond.instanceMethod yX12_soonKnown ∈ zT ∧ Cond.selects yX12_soonKnown.cls yX12_soonKnown yX12_soonKnown ∈ zT := ⟨zw_1096, zw_1098, zw_s44⟩
theorem zw_1095 : Cond.code yX12_ordersFrom cX12_ordersFrom 7 none ∈ zT := zT_t (i := 1095) (by decide +kernel) (by decide +kernel)
theorem co_X12_ordersFrom : zCo yX12_ordersFrom cX12_ordersFrom 7 none 4 := ⟨zw_1095, zw_6, by decide +kernel, by decide +kernel, by decide +kernel⟩
theorem zw_1092 : Cond.methodLink "LowWaterModel" 181 yX12_ordersFrom ∈ zT := zT_t (i := 1092) (by decide +kernel) (by decide +kernel)
theorem zw_1094 : Cond.instanceMethod yX12_ordersFrom ∈ zT := zT_t (i := 1094) (by decide +kernel) (by decide +kernel)
theorem zw_s43 : Cond.selects "LowWaterModel" yX12_ordersFrom yX12_ordersFrom ∈ zT := zT_s (i := 43) (by decide +kernel) (by decide +kernel)
theorem k_X12_181 : Cond.methodLink "LowWaterModel" 181 yX12_ordersFrom ∈ zT ∧ Cond.instanceMethod yX12_ordersFrom ∈ zT ∧ Cond.selects yX12_ordersFrom.cls yX12_ordersFrom yX12_ordersFrom ∈ zT := ⟨zw_1092, zw_1094, zw_s43⟩
theorem zw_1083 : Cond.code yX12_isSet cX12_isSet 2 (some .boolean) ∈ zT := zT_t (i := 1083) (by decide +kernel) (by decide +kernel)
theorem co_X12_isSet : zCo yX12_isSet cX12_isSet 2 (some .boolean) 1 := ⟨zw_1083, zw_6, by decide +kernel, by decide +kernel, by decide +kernel⟩
theorem zw_1080 : Cond.methodLink "LowWaterModel" 185 yX12_isSet ∈ zT := zT_t (i := 1080) (by decide +kernel) (by decide +kernel)
theorem zw_1082 : Cond.instanceMethod yX12_isSet ∈ zT := zT_t (i := 1082) (by decide +kernel) (by decide +kernel)
theorem zw_s40 : Cond.selects "LowWaterModel" yX12_isSet yX12_isSet ∈ zT := zT_s (i := 40) (by decide +kernel) (by decide +kernel)
theorem k_X12_185 : Cond.methodLink "LowWaterModel" 185 yX12_isSet ∈ zT ∧ Cond.instanceMethod yX12_isSet ∈ zT ∧ Cond.selects yX12_isSet.cls yX12_isSet yX12_isSet ∈ zT := ⟨zw_1080, zw_1082, zw_s40⟩
theorem zw_1087 : Cond.code yX12_forgetsSoons cX12_forgetsSoons 2 none ∈ zT := zT_t (i := 1087) (by decide +kernel) (by decide +kernel)
theorem co_X12_forgetsSoons : zCo yX12_forgetsSoons cX12_forgetsSoons 2 none 0 := ⟨zw_1087, zw_6, by decide +kernel, by decide +kernel, by decide +kernel⟩
theorem zw_1084 : Cond.methodLink "LowWaterModel" 188 yX12_forgetsSoons ∈ zT := zT_t (i := 1084) (by decide +kernel) (by decide +kernel)
theorem zw_1086 : Cond.instanceMethod yX12_forgetsSoons ∈ zT := zT_t (i := 1086) (by decide +kernel) (by decide +kernel)
theorem zw_s41 : Cond.selects "LowWaterModel" yX12_forgetsSoons yX12_forgetsSoons ∈ zT := zT_s (i := 41) (by decide +kernel) (by decide +kernel)
theorem k_X12_188 : Cond.methodLink "LowWaterModel" 188 yX12_forgetsSoons ∈ zT ∧ Cond.instanceMethod yX12_forgetsSoons ∈ zT ∧ Cond.selects yX12_forgetsSoons.cls yX12_forgetsSoons yX12_forgetsSoons ∈ zT := ⟨zw_1084, zw_1086, zw_s41⟩
theorem zw_1091 : Cond.code yX12_endOf cX12_endOf 4 (some .int) ∈ zT := zT_t (i := 1091) (by decide +kernel) (by decide +kernel)
theorem co_X12_endOf : zCo yX12_endOf cX12_endOf 4 (some .int) 2 := ⟨zw_1091, zw_6, by decide +kernel, by decide +kernel, by decide +kernel⟩
theorem zw_1088 : Cond.methodLink "LowWaterModel" 191 yX12_endOf ∈ zT := zT_t (i := 1088) (by decide +kernel) (by decide +kernel)
theorem zw_1090 : Cond.instanceMethod yX12_endOf ∈ zT := zT_t (i := 1090) (by decide +kernel) (by decide +kernel)
theorem zw_s42 : Cond.selects "LowWaterModel" yX12_endOf yX12_endOf ∈ zT := zT_s (i := 42) (by decide +kernel) (by decide +kernel)
theorem k_X12_191 : Cond.methodLink "LowWaterModel" 191 yX12_endOf ∈ zT ∧ Cond.instanceMethod yX12_endOf ∈ zT ∧ Cond.selects yX12_endOf.cls yX12_endOf yX12_endOf ∈ zT := ⟨zw_1088, zw_1090, zw_s42⟩
theorem zw_1115 : Cond.code yX12_waitsAll cX12_waitsAll 4 (some .int) ∈ zT := zT_t (i := 1115) (by decide +kernel) (by decide +kernel)
theorem co_X12_waitsAll : zCo yX12_waitsAll cX12_waitsAll 4 (some .int) 0 := ⟨zw_1115, zw_6, by decide +kernel, by decide +kernel, by decide +kernel⟩
theorem zw_1112 : Cond.methodLink "LowWaterModel" 194 yX12_waitsAll ∈ zT := zT_t (i := 1112) (by decide +kernel) (by decide +kernel)
theorem zw_1114 : Cond.instanceMethod yX12_waitsAll ∈ zT := zT_t (i := 1114) (by decide +kernel) (by decide +kernel)
theorem zw_s45 : Cond.selects "LowWaterModel" yX12_waitsAll yX12_waitsAll ∈ zT := zT_s (i := 45) (by decide +kernel) (by decide +kernel)
theorem k_X12_194 : Cond.methodLink "LowWaterModel" 194 yX12_waitsAll ∈ zT ∧ Cond.instanceMethod yX12_waitsAll ∈ zT ∧ Cond.selects yX12_waitsAll.cls yX12_waitsAll yX12_waitsAll ∈ zT := ⟨zw_1112, zw_1114, zw_s45⟩
theorem zw_1127 : Cond.code yX12_changes cX12_changes 4 none ∈ zT := zT_t (i := 1127) (by decide +kernel) (by decide +kernel)
theorem co_X12_changes : zCo yX12_changes cX12_changes 4 none 2 := ⟨zw_1127, zw_6, by decide +kernel, by decide +kernel, by decide +kernel⟩
theorem zw_1124 : Cond.methodLink "LowWaterModel" 197 yX12_changes ∈ zT := zT_t (i := 1124) (by decide +kernel) (by decide +kernel)
theorem zw_1126 : Cond.instanceMethod yX12_changes ∈ zT := zT_t (i := 1126) (by decide +kernel) (by decide +kernel)
theorem zw_s46 : Cond.selects "LowWaterModel" yX12_changes yX12_changes ∈ zT := zT_s (i := 46) (by decide +kernel) (by decide +kernel)
theorem k_X12_197 : Cond.methodLink "LowWaterModel" 197 yX12_changes ∈ zT ∧ Cond.instanceMethod yX12_changes ∈ zT ∧ Cond.selects yX12_changes.cls yX12_changes yX12_changes ∈ zT := ⟨zw_1124, zw_1126, zw_s46⟩
theorem zw_1144 : Cond.constantLong "LowWaterModel" 201 (-9223372036854775808) ∈ zT := zT_t (i := 1144) (by decide +kernel) (by decide +kernel)
theorem cn_X12_201 : Cond.constantLong "LowWaterModel" 201 (-9223372036854775808) ∈ zT := zw_1144
theorem zw_1145 : Cond.constantLong "LowWaterModel" 203 10 ∈ zT := zT_t (i := 1145) (by decide +kernel) (by decide +kernel)
theorem cn_X12_203 : Cond.constantLong "LowWaterModel" 203 10 ∈ zT := zw_1145
theorem zw_1148 : Cond.code yX12_lowest cX12_lowest 11 (some .long) ∈ zT := zT_t (i := 1148) (by decide +kernel) (by decide +kernel)
theorem co_X12_lowest : zCo yX12_lowest cX12_lowest 11 (some .long) 3 := ⟨zw_1148, zw_6, by decide +kernel, by decide +kernel, by decide +kernel⟩
theorem zw_1146 : Cond.methodLink "LowWaterModel" 205 yX12_lowest ∈ zT := zT_t (i := 1146) (by decide +kernel) (by decide +kernel)
theorem zw_1147 : Cond.static yX12_lowest ∈ zT := zT_t (i := 1147) (by decide +kernel) (by decide +kernel)
theorem k_X12_205 : Cond.methodLink "LowWaterModel" 205 yX12_lowest ∈ zT ∧ Cond.static yX12_lowest ∈ zT := ⟨zw_1146, zw_1147⟩
theorem zw_869 : Cond.fieldLink "LowWaterModel" 209 "LowWaterModel" "ran" "I" ∈ zT := zT_t (i := 869) (by decide +kernel) (by decide +kernel)
theorem f_X12_209 : zFL "LowWaterModel" 209 12 20 false true .int := ⟨RX12, "LowWaterModel", TX12, 24, tyX12, rfl, by decide, in_X12, tyX12_ok, nmX12, rfl, rfl, (fun _ => rfl), Or.inl zw_869, Or.inl rfl⟩
theorem zw_1183 : Cond.code yX12_ranBody cX12_ranBody 2 none ∈ zT := zT_t (i := 1183) (by decide +kernel) (by decide +kernel)
theorem co_X12_ranBody : zCo yX12_ranBody cX12_ranBody 2 none 1 := ⟨zw_1183, zw_6, by decide +kernel, by decide +kernel, by decide +kernel⟩
theorem zw_1180 : Cond.methodLink "LowWaterModel" 212 yX12_ranBody ∈ zT := zT_t (i := 1180) (by decide +kernel) (by decide +kernel)
theorem zw_1182 : Cond.instanceMethod yX12_ranBody ∈ zT := zT_t (i := 1182) (by decide +kernel) (by decide +kernel)
theorem zw_s48 : Cond.selects "LowWaterModel" yX12_ranBody yX12_ranBody ∈ zT := zT_s (i := 48) (by decide +kernel) (by decide +kernel)
theorem k_X12_212 : Cond.methodLink "LowWaterModel" 212 yX12_ranBody ∈ zT ∧ Cond.instanceMethod yX12_ranBody ∈ zT ∧ Cond.selects yX12_ranBody.cls yX12_ranBody yX12_ranBody ∈ zT := ⟨zw_1180, zw_1182, zw_s48⟩
theorem zw_871 : Cond.fieldLink "LowWaterModel" 215 "LowWaterModel" "number" "I" ∈ zT := zT_t (i := 871) (by decide +kernel) (by decide +kernel)
theorem f_X12_215 : zFL "LowWaterModel" 215 12 22 false true .int := ⟨RX12, "LowWaterModel", TX12, 24, tyX12, rfl, by decide, in_X12, tyX12_ok, nmX12, rfl, rfl, (fun _ => rfl), Or.inl zw_871, Or.inl rfl⟩
theorem zw_870 : Cond.fieldLink "LowWaterModel" 218 "LowWaterModel" "kind" "I" ∈ zT := zT_t (i := 870) (by decide +kernel) (by decide +kernel)
theorem f_X12_218 : zFL "LowWaterModel" 218 12 21 false true .int := ⟨RX12, "LowWaterModel", TX12, 24, tyX12, rfl, by decide, in_X12, tyX12_ok, nmX12, rfl, rfl, (fun _ => rfl), Or.inl zw_870, Or.inl rfl⟩
theorem zw_1179 : Cond.code yX12_isUnder cX12_isUnder 2 (some .boolean) ∈ zT := zT_t (i := 1179) (by decide +kernel) (by decide +kernel)
theorem co_X12_isUnder : zCo yX12_isUnder cX12_isUnder 2 (some .boolean) 2 := ⟨zw_1179, zw_6, by decide +kernel, by decide +kernel, by decide +kernel⟩
theorem zw_1177 : Cond.methodLink "LowWaterModel" 221 yX12_isUnder ∈ zT := zT_t (i := 1177) (by decide +kernel) (by decide +kernel)
theorem zw_1178 : Cond.static yX12_isUnder ∈ zT := zT_t (i := 1178) (by decide +kernel) (by decide +kernel)
theorem k_X12_221 : Cond.methodLink "LowWaterModel" 221 yX12_isUnder ∈ zT ∧ Cond.static yX12_isUnder ∈ zT := ⟨zw_1177, zw_1178⟩
theorem zw_1187 : Cond.code yX12_plainReads cX12_plainReads 2 (some .int) ∈ zT := zT_t (i := 1187) (by decide +kernel) (by decide +kernel)
theorem co_X12_plainReads : zCo yX12_plainReads cX12_plainReads 2 (some .int) 1 := ⟨zw_1187, zw_6, by decide +kernel, by decide +kernel, by decide +kernel⟩
theorem zw_1184 : Cond.methodLink "LowWaterModel" 224 yX12_plainReads ∈ zT := zT_t (i := 1184) (by decide +kernel) (by decide +kernel)
theorem zw_1186 : Cond.instanceMethod yX12_plainReads ∈ zT := zT_t (i := 1186) (by decide +kernel) (by decide +kernel)
theorem zw_s49 : Cond.selects "LowWaterModel" yX12_plainReads yX12_plainReads ∈ zT := zT_s (i := 49) (by decide +kernel) (by decide +kernel)
theorem k_X12_224 : Cond.methodLink "LowWaterModel" 224 yX12_plainReads ∈ zT ∧ Cond.instanceMethod yX12_plainReads ∈ zT ∧ Cond.selects yX12_plainReads.cls yX12_plainReads yX12_plainReads ∈ zT := ⟨zw_1184, zw_1186, zw_s49⟩
theorem zw_1176 : Cond.code yX12_readsActs cX12_readsActs 2 (some .int) ∈ zT := zT_t (i := 1176) (by decide +kernel) (by decide +kernel)
theorem co_X12_readsActs : zCo yX12_readsActs cX12_readsActs 2 (some .int) 1 := ⟨zw_1176, zw_6, by decide +kernel, by decide +kernel, by decide +kernel⟩
theorem zw_1173 : Cond.methodLink "LowWaterModel" 227 yX12_readsActs ∈ zT := zT_t (i := 1173) (by decide +kernel) (by decide +kernel)
theorem zw_1175 : Cond.instanceMethod yX12_readsActs ∈ zT := zT_t (i := 1175) (by decide +kernel) (by decide +kernel)
theorem zw_s47 : Cond.selects "LowWaterModel" yX12_readsActs yX12_readsActs ∈ zT := zT_s (i := 47) (by decide +kernel) (by decide +kernel)
theorem k_X12_227 : Cond.methodLink "LowWaterModel" 227 yX12_readsActs ∈ zT ∧ Cond.instanceMethod yX12_readsActs ∈ zT ∧ Cond.selects yX12_readsActs.cls yX12_readsActs yX12_readsActs ∈ zT := ⟨zw_1173, zw_1175, zw_s47⟩
theorem zw_872 : Cond.fieldLink "LowWaterModel" 230 "LowWaterModel" "tellsV" "I" ∈ zT := zT_t (i := 872) (by decide +kernel) (by decide +kernel)
theorem f_X12_230 : zFL "LowWaterModel" 230 12 23 false true .int := ⟨RX12, "LowWaterModel", TX12, 24, tyX12, rfl, by decide, in_X12, tyX12_ok, nmX12, rfl, rfl, (fun _ => rfl), Or.inl zw_872, Or.inl rfl⟩
theorem zw_1195 : Cond.code yX12_plainWaits cX12_plainWaits 2 (some .int) ∈ zT := zT_t (i := 1195) (by decide +kernel) (by decide +kernel)
theorem co_X12_plainWaits : zCo yX12_plainWaits cX12_plainWaits 2 (some .int) 1 := ⟨zw_1195, zw_6, by decide +kernel, by decide +kernel, by decide +kernel⟩
theorem zw_1192 : Cond.methodLink "LowWaterModel" 233 yX12_plainWaits ∈ zT := zT_t (i := 1192) (by decide +kernel) (by decide +kernel)
theorem zw_1194 : Cond.instanceMethod yX12_plainWaits ∈ zT := zT_t (i := 1194) (by decide +kernel) (by decide +kernel)
theorem zw_s51 : Cond.selects "LowWaterModel" yX12_plainWaits yX12_plainWaits ∈ zT := zT_s (i := 51) (by decide +kernel) (by decide +kernel)
theorem k_X12_233 : Cond.methodLink "LowWaterModel" 233 yX12_plainWaits ∈ zT ∧ Cond.instanceMethod yX12_plainWaits ∈ zT ∧ Cond.selects yX12_plainWaits.cls yX12_plainWaits yX12_plainWaits ∈ zT := ⟨zw_1192, zw_1194, zw_s51⟩
theorem zw_1191 : Cond.code yX12_waitsActs cX12_waitsActs 2 (some .int) ∈ zT := zT_t (i := 1191) (by decide +kernel) (by decide +kernel)
theorem co_X12_waitsActs : zCo yX12_waitsActs cX12_waitsActs 2 (some .int) 1 := ⟨zw_1191, zw_6, by decide +kernel, by decide +kernel, by decide +kernel⟩
theorem zw_1188 : Cond.methodLink "LowWaterModel" 236 yX12_waitsActs ∈ zT := zT_t (i := 1188) (by decide +kernel) (by decide +kernel)
theorem zw_1190 : Cond.instanceMethod yX12_waitsActs ∈ zT := zT_t (i := 1190) (by decide +kernel) (by decide +kernel)
theorem zw_s50 : Cond.selects "LowWaterModel" yX12_waitsActs yX12_waitsActs ∈ zT := zT_s (i := 50) (by decide +kernel) (by decide +kernel)
theorem k_X12_236 : Cond.methodLink "LowWaterModel" 236 yX12_waitsActs ∈ zT ∧ Cond.instanceMethod yX12_waitsActs ∈ zT ∧ Cond.selects yX12_waitsActs.cls yX12_waitsActs yX12_waitsActs ∈ zT := ⟨zw_1188, zw_1190, zw_s50⟩
theorem zw_1203 : Cond.code yX12_plainTells cX12_plainTells 2 (some .int) ∈ zT := zT_t (i := 1203) (by decide +kernel) (by decide +kernel)
theorem co_X12_plainTells : zCo yX12_plainTells cX12_plainTells 2 (some .int) 1 := ⟨zw_1203, zw_6, by decide +kernel, by decide +kernel, by decide +kernel⟩
theorem zw_1200 : Cond.methodLink "LowWaterModel" 239 yX12_plainTells ∈ zT := zT_t (i := 1200) (by decide +kernel) (by decide +kernel)
theorem zw_1202 : Cond.instanceMethod yX12_plainTells ∈ zT := zT_t (i := 1202) (by decide +kernel) (by decide +kernel)
theorem zw_s53 : Cond.selects "LowWaterModel" yX12_plainTells yX12_plainTells ∈ zT := zT_s (i := 53) (by decide +kernel) (by decide +kernel)
theorem k_X12_239 : Cond.methodLink "LowWaterModel" 239 yX12_plainTells ∈ zT ∧ Cond.instanceMethod yX12_plainTells ∈ zT ∧ Cond.selects yX12_plainTells.cls yX12_plainTells yX12_plainTells ∈ zT := ⟨zw_1200, zw_1202, zw_s53⟩
theorem zw_1199 : Cond.code yX12_tellsActs cX12_tellsActs 3 (some .int) ∈ zT := zT_t (i := 1199) (by decide +kernel) (by decide +kernel)
theorem co_X12_tellsActs : zCo yX12_tellsActs cX12_tellsActs 3 (some .int) 1 := ⟨zw_1199, zw_6, by decide +kernel, by decide +kernel, by decide +kernel⟩
theorem zw_1196 : Cond.methodLink "LowWaterModel" 242 yX12_tellsActs ∈ zT := zT_t (i := 1196) (by decide +kernel) (by decide +kernel)
theorem zw_1198 : Cond.instanceMethod yX12_tellsActs ∈ zT := zT_t (i := 1198) (by decide +kernel) (by decide +kernel)
theorem zw_s52 : Cond.selects "LowWaterModel" yX12_tellsActs yX12_tellsActs ∈ zT := zT_s (i := 52) (by decide +kernel) (by decide +kernel)
theorem k_X12_242 : Cond.methodLink "LowWaterModel" 242 yX12_tellsActs ∈ zT ∧ Cond.instanceMethod yX12_tellsActs ∈ zT ∧ Cond.selects yX12_tellsActs.cls yX12_tellsActs yX12_tellsActs ∈ zT := ⟨zw_1196, zw_1198, zw_s52⟩
theorem zw_852 : Cond.fieldLink "LowWaterModel" 245 "LowWaterModel" "hasImage" "Z" ∈ zT := zT_t (i := 852) (by decide +kernel) (by decide +kernel)
theorem f_X12_245 : zFL "LowWaterModel" 245 12 3 false true .boolean := ⟨RX12, "LowWaterModel", TX12, 24, tyX12, rfl, by decide, in_X12, tyX12_ok, nmX12, rfl, rfl, (fun _ => rfl), Or.inl zw_852, Or.inl rfl⟩
theorem zw_601 : Cond.constant "java/lang/Integer" 265 1431655765 ∈ zT := zT_t (i := 601) (by decide +kernel) (by decide +kernel)
theorem cn_J6_265 : Cond.constant "java/lang/Integer" 265 1431655765 ∈ zT := zw_601
theorem zw_602 : Cond.constant "java/lang/Integer" 266 858993459 ∈ zT := zT_t (i := 602) (by decide +kernel) (by decide +kernel)
theorem cn_J6_266 : Cond.constant "java/lang/Integer" 266 858993459 ∈ zT := zw_602
theorem zw_603 : Cond.constant "java/lang/Integer" 267 252645135 ∈ zT := zT_t (i := 603) (by decide +kernel) (by decide +kernel)
theorem cn_J6_267 : Cond.constant "java/lang/Integer" 267 252645135 ∈ zT := zw_603
theorem zw_230 : Cond.code yJ0_coder_7d493 cJ0_coder_7d493 1 (some .byte) ∈ zT := zT_t (i := 230) (by decide +kernel) (by decide +kernel)
theorem co_J0_coder_7d493 : zCo yJ0_coder_7d493 cJ0_coder_7d493 1 (some .byte) 0 := ⟨zw_230, zw_8, by decide +kernel, by decide +kernel, by decide +kernel⟩
theorem zw_227 : Cond.methodLink "java/lang/String" 335 yJ0_coder_7d493 ∈ zT := zT_t (i := 227) (by decide +kernel) (by decide +kernel)
theorem zw_228 : Cond.instanceMethod yJ0_coder_7d493 ∈ zT := zT_t (i := 228) (by decide +kernel) (by decide +kernel)
theorem zw_229 : Cond.selects "java/lang/String" yJ0_coder_7d493 yJ0_coder_7d493 ∈ zT := zT_t (i := 229) (by decide +kernel) (by decide +kernel)
theorem k_J0_335 : Cond.methodLink "java/lang/String" 335 yJ0_coder_7d493 ∈ zT ∧ Cond.instanceMethod yJ0_coder_7d493 ∈ zT ∧ Cond.selects yJ0_coder_7d493.cls yJ0_coder_7d493 yJ0_coder_7d493 ∈ zT := ⟨zw_227, zw_228, zw_229⟩
theorem zw_240 : Cond.code yJ0_isLatin1_aae02 cJ0_isLatin1_aae02 1 (some .boolean) ∈ zT := zT_t (i := 240) (by decide +kernel) (by decide +kernel)
theorem co_J0_isLatin1_aae02 : zCo yJ0_isLatin1_aae02 cJ0_isLatin1_aae02 1 (some .boolean) 0 := ⟨zw_240, zw_8, by decide +kernel, by decide +kernel, by decide +kernel⟩
theorem zw_237 : Cond.methodLink "java/lang/String" 492 yJ0_isLatin1_aae02 ∈ zT := zT_t (i := 237) (by decide +kernel) (by decide +kernel)
theorem zw_238 : Cond.instanceMethod yJ0_isLatin1_aae02 ∈ zT := zT_t (i := 238) (by decide +kernel) (by decide +kernel)
theorem zw_239 : Cond.selects "java/lang/String" yJ0_isLatin1_aae02 yJ0_isLatin1_aae02 ∈ zT := zT_t (i := 239) (by decide +kernel) (by decide +kernel)
theorem k_J0_492 : Cond.methodLink "java/lang/String" 492 yJ0_isLatin1_aae02 ∈ zT ∧ Cond.instanceMethod yJ0_isLatin1_aae02 ∈ zT ∧ Cond.selects yJ0_isLatin1_aae02.cls yJ0_isLatin1_aae02 yJ0_isLatin1_aae02 ∈ zT := ⟨zw_237, zw_238, zw_239⟩
theorem zw_243 : Cond.code yJ1_charAt_3b067 cJ1_charAt_3b067 2 (some .char) ∈ zT := zT_t (i := 243) (by decide +kernel) (by decide +kernel)
theorem zw_9 : Cond.initialized "java/lang/StringLatin1" ∈ zT := zT_t (i := 9) (by decide +kernel) (by decide +kernel)
theorem co_J1_charAt_3b067 : zCo yJ1_charAt_3b067 cJ1_charAt_3b067 2 (some .char) 2 := ⟨zw_243, zw_9, by decide +kernel, by decide +kernel, by decide +kernel⟩
theorem zw_241 : Cond.methodLink "java/lang/String" 495 yJ1_charAt_3b067 ∈ zT := zT_t (i := 241) (by decide +kernel) (by decide +kernel)
theorem zw_242 : Cond.static yJ1_charAt_3b067 ∈ zT := zT_t (i := 242) (by decide +kernel) (by decide +kernel)
theorem k_J0_495 : Cond.methodLink "java/lang/String" 495 yJ1_charAt_3b067 ∈ zT ∧ Cond.static yJ1_charAt_3b067 ∈ zT := ⟨zw_241, zw_242⟩
theorem zw_254 : Cond.code yJ2_charAt_3b067 cJ2_charAt_3b067 2 (some .char) ∈ zT := zT_t (i := 254) (by decide +kernel) (by decide +kernel)
theorem zw_11 : Cond.initialized "java/lang/StringUTF16" ∈ zT := zT_t (i := 11) (by decide +kernel) (by decide +kernel)
theorem co_J2_charAt_3b067 : zCo yJ2_charAt_3b067 cJ2_charAt_3b067 2 (some .char) 2 := ⟨zw_254, zw_11, by decide +kernel, by decide +kernel, by decide +kernel⟩
theorem zw_252 : Cond.methodLink "java/lang/String" 498 yJ2_charAt_3b067 ∈ zT := zT_t (i := 252) (by decide +kernel) (by decide +kernel)
theorem zw_253 : Cond.static yJ2_charAt_3b067 ∈ zT := zT_t (i := 253) (by decide +kernel) (by decide +kernel)
theorem k_J0_498 : Cond.methodLink "java/lang/String" 498 yJ2_charAt_3b067 ∈ zT ∧ Cond.static yJ2_charAt_3b067 ∈ zT := ⟨zw_252, zw_253⟩
theorem zw_251 : Cond.code yJ3_checkIndex_8e157 cJ3_checkIndex_8e157 3 (some .int) ∈ zT := zT_t (i := 251) (by decide +kernel) (by decide +kernel)
theorem zw_10 : Cond.initialized "jdk/internal/util/Preconditions" ∈ zT := zT_t (i := 10) (by decide +kernel) (by decide +kernel)
theorem co_J3_checkIndex_8e157 : zCo yJ3_checkIndex_8e157 cJ3_checkIndex_8e157 3 (some .int) 3 := ⟨zw_251, zw_10, by decide +kernel, by decide +kernel, by decide +kernel⟩
theorem zw_249 : Cond.methodLink "java/lang/String" 1059 yJ3_checkIndex_8e157 ∈ zT := zT_t (i := 249) (by decide +kernel) (by decide +kernel)
theorem zw_250 : Cond.static yJ3_checkIndex_8e157 ∈ zT := zT_t (i := 250) (by decide +kernel) (by decide +kernel)
theorem k_J0_1059 : Cond.methodLink "java/lang/String" 1059 yJ3_checkIndex_8e157 ∈ zT ∧ Cond.static yJ3_checkIndex_8e157 ∈ zT := ⟨zw_249, zw_250⟩
theorem zw_246 : Cond.code yJ0_checkIndex_df160 cJ0_checkIndex_df160 2 none ∈ zT := zT_t (i := 246) (by decide +kernel) (by decide +kernel)
theorem co_J0_checkIndex_df160 : zCo yJ0_checkIndex_df160 cJ0_checkIndex_df160 2 none 2 := ⟨zw_246, zw_8, by decide +kernel, by decide +kernel, by decide +kernel⟩
theorem zw_244 : Cond.methodLink "java/lang/StringLatin1" 9 yJ0_checkIndex_df160 ∈ zT := zT_t (i := 244) (by decide +kernel) (by decide +kernel)
theorem zw_245 : Cond.static yJ0_checkIndex_df160 ∈ zT := zT_t (i := 245) (by decide +kernel) (by decide +kernel)
theorem k_J1_9 : Cond.methodLink "java/lang/StringLatin1" 9 yJ0_checkIndex_df160 ∈ zT ∧ Cond.static yJ0_checkIndex_df160 ∈ zT := ⟨zw_244, zw_245⟩
theorem zw_260 : Cond.code yJ2_length_9d52b cJ2_length_9d52b 1 (some .int) ∈ zT := zT_t (i := 260) (by decide +kernel) (by decide +kernel)
theorem co_J2_length_9d52b : zCo yJ2_length_9d52b cJ2_length_9d52b 1 (some .int) 1 := ⟨zw_260, zw_11, by decide +kernel, by decide +kernel, by decide +kernel⟩
theorem zw_258 : Cond.methodLink "java/lang/StringUTF16" 48 yJ2_length_9d52b ∈ zT := zT_t (i := 258) (by decide +kernel) (by decide +kernel)
theorem zw_259 : Cond.static yJ2_length_9d52b ∈ zT := zT_t (i := 259) (by decide +kernel) (by decide +kernel)
theorem k_J2_48 : Cond.methodLink "java/lang/StringUTF16" 48 yJ2_length_9d52b ∈ zT ∧ Cond.static yJ2_length_9d52b ∈ zT := ⟨zw_258, zw_259⟩
theorem zw_257 : Cond.code yJ2_checkIndex_2214a cJ2_checkIndex_2214a 2 none ∈ zT := zT_t (i := 257) (by decide +kernel) (by decide +kernel)
theorem co_J2_checkIndex_2214a : zCo yJ2_checkIndex_2214a cJ2_checkIndex_2214a 2 none 2 := ⟨zw_257, zw_11, by decide +kernel, by decide +kernel, by decide +kernel⟩
theorem zw_255 : Cond.methodLink "java/lang/StringUTF16" 67 yJ2_checkIndex_2214a ∈ zT := zT_t (i := 255) (by decide +kernel) (by decide +kernel)
theorem zw_256 : Cond.static yJ2_checkIndex_2214a ∈ zT := zT_t (i := 256) (by decide +kernel) (by decide +kernel)
theorem k_J2_67 : Cond.methodLink "java/lang/StringUTF16" 67 yJ2_checkIndex_2214a ∈ zT ∧ Cond.static yJ2_checkIndex_2214a ∈ zT := ⟨zw_255, zw_256⟩
theorem zw_264 : Cond.code yJ2_getChar_3b067 cJ2_getChar_3b067 2 (some .char) ∈ zT := zT_t (i := 264) (by decide +kernel) (by decide +kernel)
theorem co_J2_getChar_3b067 : zCo yJ2_getChar_3b067 cJ2_getChar_3b067 2 (some .char) 2 := ⟨zw_264, zw_11, by decide +kernel, by decide +kernel, by decide +kernel⟩
theorem zw_262 : Cond.methodLink "java/lang/StringUTF16" 71 yJ2_getChar_3b067 ∈ zT := zT_t (i := 262) (by decide +kernel) (by decide +kernel)
theorem zw_263 : Cond.static yJ2_getChar_3b067 ∈ zT := zT_t (i := 263) (by decide +kernel) (by decide +kernel)
theorem k_J2_71 : Cond.methodLink "java/lang/StringUTF16" 71 yJ2_getChar_3b067 ∈ zT ∧ Cond.static yJ2_getChar_3b067 ∈ zT := ⟨zw_262, zw_263⟩
theorem zw_261 : Cond.methodLink "java/lang/StringUTF16" 414 yJ0_checkIndex_df160 ∈ zT := zT_t (i := 261) (by decide +kernel) (by decide +kernel)
theorem k_J2_414 : Cond.methodLink "java/lang/StringUTF16" 414 yJ0_checkIndex_df160 ∈ zT ∧ Cond.static yJ0_checkIndex_df160 ∈ zT := ⟨zw_261, zw_245⟩
theorem zw_22 : Cond.classLink "LowWaterLaw" 7 "LowWater" ∈ zT := zT_t (i := 22) (by decide +kernel) (by decide +kernel)
theorem zw_23 : Cond.instantiable "LowWater" 8 ∈ zT := zT_t (i := 23) (by decide +kernel) (by decide +kernel)
theorem nw_L_7 : zNW "LowWaterLaw" 7 11 8 [.null, .null, .int 0, .null, .null, .null, .null, .null] := ⟨RX11, TX11, tyX11, rfl, in_X11, tyX11_ok, zw_22, zw_23, zw_1, by decide +kernel⟩
theorem zw_26 : Cond.code yX11_init cX11_init 1 none ∈ zT := zT_t (i := 26) (by decide +kernel) (by decide +kernel)
theorem co_X11_init : zCo yX11_init cX11_init 1 none 0 := ⟨zw_26, zw_1, by decide +kernel, by decide +kernel, by decide +kernel⟩
theorem zw_24 : Cond.methodLink "LowWaterLaw" 9 yX11_init ∈ zT := zT_t (i := 24) (by decide +kernel) (by decide +kernel)
theorem zw_25 : Cond.instanceMethod yX11_init ∈ zT := zT_t (i := 25) (by decide +kernel) (by decide +kernel)
theorem k_L_9 : Cond.methodLink "LowWaterLaw" 9 yX11_init ∈ zT ∧ Cond.instanceMethod yX11_init ∈ zT := ⟨zw_24, zw_25⟩
theorem zw_844 : Cond.classLink "LowWaterLaw" 10 "LowWaterModel" ∈ zT := zT_t (i := 844) (by decide +kernel) (by decide +kernel)
theorem zw_845 : Cond.instantiable "LowWaterModel" 24 ∈ zT := zT_t (i := 845) (by decide +kernel) (by decide +kernel)
theorem nw_L_10 : zNW "LowWaterLaw" 10 12 24 [.int 0, .null, .null, .int 0, .int 0, .int 0, .int 0, .int 0, .int 0, .null, .null, .int 0, .int 0, .null, .int 0, .null, .null, .null, .int 0, .null, .int 0, .int 0, .int 0, .int 0] := ⟨RX12, TX12, tyX12, rfl, in_X12, tyX12_ok, zw_844, zw_845, zw_6, by decide +kernel⟩
theorem zw_848 : Cond.code yX12_init cX12_init 1 none ∈ zT := zT_t (i := 848) (by decide +kernel) (by decide +kernel)
theorem co_X12_init : zCo yX12_init cX12_init 1 none 0 := ⟨zw_848, zw_6, by decide +kernel, by decide +kernel, by decide +kernel⟩
theorem zw_846 : Cond.methodLink "LowWaterLaw" 12 yX12_init ∈ zT := zT_t (i := 846) (by decide +kernel) (by decide +kernel)
theorem zw_847 : Cond.instanceMethod yX12_init ∈ zT := zT_t (i := 847) (by decide +kernel) (by decide +kernel)
theorem k_L_12 : Cond.methodLink "LowWaterLaw" 12 yX12_init ∈ zT ∧ Cond.instanceMethod yX12_init ∈ zT := ⟨zw_846, zw_847⟩
theorem zw_192 : Cond.code yX11_feed cX11_feed 2 (some .int) ∈ zT := zT_t (i := 192) (by decide +kernel) (by decide +kernel)
theorem co_X11_feed : zCo yX11_feed cX11_feed 2 (some .int) 1 := ⟨zw_192, zw_1, by decide +kernel, by decide +kernel, by decide +kernel⟩
theorem zw_189 : Cond.methodLink "LowWaterLaw" 13 yX11_feed ∈ zT := zT_t (i := 189) (by decide +kernel) (by decide +kernel)
theorem zw_190 : Cond.instanceMethod yX11_feed ∈ zT := zT_t (i := 190) (by decide +kernel) (by decide +kernel)
theorem zw_191 : Cond.selects "LowWater" yX11_feed yX11_feed ∈ zT := zT_t (i := 191) (by decide +kernel) (by decide +kernel)
theorem k_L_13 : Cond.methodLink "LowWaterLaw" 13 yX11_feed ∈ zT ∧ Cond.instanceMethod yX11_feed ∈ zT ∧ Cond.selects yX11_feed.cls yX11_feed yX11_feed ∈ zT := ⟨zw_189, zw_190, zw_191⟩
theorem zw_926 : Cond.code yX12_feed cX12_feed 2 (some .int) ∈ zT := zT_t (i := 926) (by decide +kernel) (by decide +kernel)
theorem co_X12_feed : zCo yX12_feed cX12_feed 2 (some .int) 1 := ⟨zw_926, zw_6, by decide +kernel, by decide +kernel, by decide +kernel⟩
theorem zw_923 : Cond.methodLink "LowWaterLaw" 17 yX12_feed ∈ zT := zT_t (i := 923) (by decide +kernel) (by decide +kernel)
theorem zw_924 : Cond.instanceMethod yX12_feed ∈ zT := zT_t (i := 924) (by decide +kernel) (by decide +kernel)
theorem zw_925 : Cond.selects "LowWaterModel" yX12_feed yX12_feed ∈ zT := zT_t (i := 925) (by decide +kernel) (by decide +kernel)
theorem k_L_17 : Cond.methodLink "LowWaterLaw" 17 yX12_feed ∈ zT ∧ Cond.instanceMethod yX12_feed ∈ zT ∧ Cond.selects yX12_feed.cls yX12_feed yX12_feed ∈ zT := ⟨zw_923, zw_924, zw_925⟩
theorem zw_204 : Cond.code yX11_cave cX11_cave 3 (some .int) ∈ zT := zT_t (i := 204) (by decide +kernel) (by decide +kernel)
theorem co_X11_cave : zCo yX11_cave cX11_cave 3 (some .int) 0 := ⟨zw_204, zw_1, by decide +kernel, by decide +kernel, by decide +kernel⟩
theorem zw_201 : Cond.methodLink "LowWaterLaw" 18 yX11_cave ∈ zT := zT_t (i := 201) (by decide +kernel) (by decide +kernel)
theorem zw_202 : Cond.instanceMethod yX11_cave ∈ zT := zT_t (i := 202) (by decide +kernel) (by decide +kernel)
theorem zw_203 : Cond.selects "LowWater" yX11_cave yX11_cave ∈ zT := zT_t (i := 203) (by decide +kernel) (by decide +kernel)
theorem k_L_18 : Cond.methodLink "LowWaterLaw" 18 yX11_cave ∈ zT ∧ Cond.instanceMethod yX11_cave ∈ zT ∧ Cond.selects yX11_cave.cls yX11_cave yX11_cave ∈ zT := ⟨zw_201, zw_202, zw_203⟩
theorem zw_933 : Cond.code yX12_cave cX12_cave 2 (some .int) ∈ zT := zT_t (i := 933) (by decide +kernel) (by decide +kernel)
theorem co_X12_cave : zCo yX12_cave cX12_cave 2 (some .int) 0 := ⟨zw_933, zw_6, by decide +kernel, by decide +kernel, by decide +kernel⟩
theorem zw_930 : Cond.methodLink "LowWaterLaw" 22 yX12_cave ∈ zT := zT_t (i := 930) (by decide +kernel) (by decide +kernel)
theorem zw_931 : Cond.instanceMethod yX12_cave ∈ zT := zT_t (i := 931) (by decide +kernel) (by decide +kernel)
theorem zw_932 : Cond.selects "LowWaterModel" yX12_cave yX12_cave ∈ zT := zT_t (i := 932) (by decide +kernel) (by decide +kernel)
theorem k_L_22 : Cond.methodLink "LowWaterLaw" 22 yX12_cave ∈ zT ∧ Cond.instanceMethod yX12_cave ∈ zT ∧ Cond.selects yX12_cave.cls yX12_cave yX12_cave ∈ zT := ⟨zw_930, zw_931, zw_932⟩
theorem zw_303 : Cond.code yX11_slate cX11_slate 3 (some .int) ∈ zT := zT_t (i := 303) (by decide +kernel) (by decide +kernel)
theorem co_X11_slate : zCo yX11_slate cX11_slate 3 (some .int) 2 := ⟨zw_303, zw_1, by decide +kernel, by decide +kernel, by decide +kernel⟩
theorem zw_300 : Cond.methodLink "LowWaterLaw" 23 yX11_slate ∈ zT := zT_t (i := 300) (by decide +kernel) (by decide +kernel)
theorem zw_301 : Cond.instanceMethod yX11_slate ∈ zT := zT_t (i := 301) (by decide +kernel) (by decide +kernel)
theorem zw_302 : Cond.selects "LowWater" yX11_slate yX11_slate ∈ zT := zT_t (i := 302) (by decide +kernel) (by decide +kernel)
theorem k_L_23 : Cond.methodLink "LowWaterLaw" 23 yX11_slate ∈ zT ∧ Cond.instanceMethod yX11_slate ∈ zT ∧ Cond.selects yX11_slate.cls yX11_slate yX11_slate ∈ zT := ⟨zw_300, zw_301, zw_302⟩
theorem zw_988 : Cond.code yX12_slate cX12_slate 4 (some .int) ∈ zT := zT_t (i := 988) (by decide +kernel) (by decide +kernel)
theorem co_X12_slate : zCo yX12_slate cX12_slate 4 (some .int) 2 := ⟨zw_988, zw_6, by decide +kernel, by decide +kernel, by decide +kernel⟩
theorem zw_985 : Cond.methodLink "LowWaterLaw" 27 yX12_slate ∈ zT := zT_t (i := 985) (by decide +kernel) (by decide +kernel)
theorem zw_986 : Cond.instanceMethod yX12_slate ∈ zT := zT_t (i := 986) (by decide +kernel) (by decide +kernel)
theorem zw_987 : Cond.selects "LowWaterModel" yX12_slate yX12_slate ∈ zT := zT_t (i := 987) (by decide +kernel) (by decide +kernel)
theorem k_L_27 : Cond.methodLink "LowWaterLaw" 27 yX12_slate ∈ zT ∧ Cond.instanceMethod yX12_slate ∈ zT ∧ Cond.selects yX12_slate.cls yX12_slate yX12_slate ∈ zT := ⟨zw_985, zw_986, zw_987⟩
theorem zw_310 : Cond.code yX11_of cX11_of 3 (some .int) ∈ zT := zT_t (i := 310) (by decide +kernel) (by decide +kernel)
theorem co_X11_of : zCo yX11_of cX11_of 3 (some .int) 2 := ⟨zw_310, zw_1, by decide +kernel, by decide +kernel, by decide +kernel⟩
theorem zw_307 : Cond.methodLink "LowWaterLaw" 28 yX11_of ∈ zT := zT_t (i := 307) (by decide +kernel) (by decide +kernel)
theorem zw_308 : Cond.instanceMethod yX11_of ∈ zT := zT_t (i := 308) (by decide +kernel) (by decide +kernel)
theorem zw_309 : Cond.selects "LowWater" yX11_of yX11_of ∈ zT := zT_t (i := 309) (by decide +kernel) (by decide +kernel)
theorem k_L_28 : Cond.methodLink "LowWaterLaw" 28 yX11_of ∈ zT ∧ Cond.instanceMethod yX11_of ∈ zT ∧ Cond.selects yX11_of.cls yX11_of yX11_of ∈ zT := ⟨zw_307, zw_308, zw_309⟩
theorem zw_995 : Cond.code yX12_of cX12_of 3 (some .int) ∈ zT := zT_t (i := 995) (by decide +kernel) (by decide +kernel)
theorem co_X12_of : zCo yX12_of cX12_of 3 (some .int) 2 := ⟨zw_995, zw_6, by decide +kernel, by decide +kernel, by decide +kernel⟩
theorem zw_992 : Cond.methodLink "LowWaterLaw" 31 yX12_of ∈ zT := zT_t (i := 992) (by decide +kernel) (by decide +kernel)
theorem zw_993 : Cond.instanceMethod yX12_of ∈ zT := zT_t (i := 993) (by decide +kernel) (by decide +kernel)
theorem zw_994 : Cond.selects "LowWaterModel" yX12_of yX12_of ∈ zT := zT_t (i := 994) (by decide +kernel) (by decide +kernel)
theorem k_L_31 : Cond.methodLink "LowWaterLaw" 31 yX12_of ∈ zT ∧ Cond.instanceMethod yX12_of ∈ zT ∧ Cond.selects yX12_of.cls yX12_of yX12_of ∈ zT := ⟨zw_992, zw_993, zw_994⟩
theorem zw_325 : Cond.code yX11_put cX11_put 4 (some .int) ∈ zT := zT_t (i := 325) (by decide +kernel) (by decide +kernel)
theorem co_X11_put : zCo yX11_put cX11_put 4 (some .int) 2 := ⟨zw_325, zw_1, by decide +kernel, by decide +kernel, by decide +kernel⟩
theorem zw_322 : Cond.methodLink "LowWaterLaw" 32 yX11_put ∈ zT := zT_t (i := 322) (by decide +kernel) (by decide +kernel)
theorem zw_323 : Cond.instanceMethod yX11_put ∈ zT := zT_t (i := 323) (by decide +kernel) (by decide +kernel)
theorem zw_324 : Cond.selects "LowWater" yX11_put yX11_put ∈ zT := zT_t (i := 324) (by decide +kernel) (by decide +kernel)
theorem k_L_32 : Cond.methodLink "LowWaterLaw" 32 yX11_put ∈ zT ∧ Cond.instanceMethod yX11_put ∈ zT ∧ Cond.selects yX11_put.cls yX11_put yX11_put ∈ zT := ⟨zw_322, zw_323, zw_324⟩
theorem zw_1003 : Cond.code yX12_put cX12_put 4 (some .int) ∈ zT := zT_t (i := 1003) (by decide +kernel) (by decide +kernel)
theorem co_X12_put : zCo yX12_put cX12_put 4 (some .int) 2 := ⟨zw_1003, zw_6, by decide +kernel, by decide +kernel, by decide +kernel⟩
theorem zw_1000 : Cond.methodLink "LowWaterLaw" 35 yX12_put ∈ zT := zT_t (i := 1000) (by decide +kernel) (by decide +kernel)
theorem zw_1001 : Cond.instanceMethod yX12_put ∈ zT := zT_t (i := 1001) (by decide +kernel) (by decide +kernel)
theorem zw_1002 : Cond.selects "LowWaterModel" yX12_put yX12_put ∈ zT := zT_t (i := 1002) (by decide +kernel) (by decide +kernel)
theorem k_L_35 : Cond.methodLink "LowWaterLaw" 35 yX12_put ∈ zT ∧ Cond.instanceMethod yX12_put ∈ zT ∧ Cond.selects yX12_put.cls yX12_put yX12_put ∈ zT := ⟨zw_1000, zw_1001, zw_1002⟩
theorem zw_333 : Cond.code yX11_reader cX11_reader 4 (some .int) ∈ zT := zT_t (i := 333) (by decide +kernel) (by decide +kernel)
theorem co_X11_reader : zCo yX11_reader cX11_reader 4 (some .int) 2 := ⟨zw_333, zw_1, by decide +kernel, by decide +kernel, by decide +kernel⟩
theorem zw_330 : Cond.methodLink "LowWaterLaw" 36 yX11_reader ∈ zT := zT_t (i := 330) (by decide +kernel) (by decide +kernel)
theorem zw_331 : Cond.instanceMethod yX11_reader ∈ zT := zT_t (i := 331) (by decide +kernel) (by decide +kernel)
theorem zw_332 : Cond.selects "LowWater" yX11_reader yX11_reader ∈ zT := zT_t (i := 332) (by decide +kernel) (by decide +kernel)
theorem k_L_36 : Cond.methodLink "LowWaterLaw" 36 yX11_reader ∈ zT ∧ Cond.instanceMethod yX11_reader ∈ zT ∧ Cond.selects yX11_reader.cls yX11_reader yX11_reader ∈ zT := ⟨zw_330, zw_331, zw_332⟩
theorem zw_1007 : Cond.code yX12_reader cX12_reader 4 (some .int) ∈ zT := zT_t (i := 1007) (by decide +kernel) (by decide +kernel)
theorem co_X12_reader : zCo yX12_reader cX12_reader 4 (some .int) 2 := ⟨zw_1007, zw_6, by decide +kernel, by decide +kernel, by decide +kernel⟩
theorem zw_1004 : Cond.methodLink "LowWaterLaw" 39 yX12_reader ∈ zT := zT_t (i := 1004) (by decide +kernel) (by decide +kernel)
theorem zw_1005 : Cond.instanceMethod yX12_reader ∈ zT := zT_t (i := 1005) (by decide +kernel) (by decide +kernel)
theorem zw_1006 : Cond.selects "LowWaterModel" yX12_reader yX12_reader ∈ zT := zT_t (i := 1006) (by decide +kernel) (by decide +kernel)
theorem k_L_39 : Cond.methodLink "LowWaterLaw" 39 yX12_reader ∈ zT ∧ Cond.instanceMethod yX12_reader ∈ zT ∧ Cond.selects yX12_reader.cls yX12_reader yX12_reader ∈ zT := ⟨zw_1004, zw_1005, zw_1006⟩
theorem zw_418 : Cond.code yX11_at cX11_at 4 (some .int) ∈ zT := zT_t (i := 418) (by decide +kernel) (by decide +kernel)
theorem co_X11_at : zCo yX11_at cX11_at 4 (some .int) 2 := ⟨zw_418, zw_1, by decide +kernel, by decide +kernel, by decide +kernel⟩
theorem zw_415 : Cond.methodLink "LowWaterLaw" 40 yX11_at ∈ zT := zT_t (i := 415) (by decide +kernel) (by decide +kernel)
theorem zw_416 : Cond.instanceMethod yX11_at ∈ zT := zT_t (i := 416) (by decide +kernel) (by decide +kernel)
theorem zw_417 : Cond.selects "LowWater" yX11_at yX11_at ∈ zT := zT_t (i := 417) (by decide +kernel) (by decide +kernel)
theorem k_L_40 : Cond.methodLink "LowWaterLaw" 40 yX11_at ∈ zT ∧ Cond.instanceMethod yX11_at ∈ zT ∧ Cond.selects yX11_at.cls yX11_at yX11_at ∈ zT := ⟨zw_415, zw_416, zw_417⟩
theorem zw_1011 : Cond.code yX12_at cX12_at 3 (some .int) ∈ zT := zT_t (i := 1011) (by decide +kernel) (by decide +kernel)
theorem co_X12_at : zCo yX12_at cX12_at 3 (some .int) 2 := ⟨zw_1011, zw_6, by decide +kernel, by decide +kernel, by decide +kernel⟩
theorem zw_1008 : Cond.methodLink "LowWaterLaw" 43 yX12_at ∈ zT := zT_t (i := 1008) (by decide +kernel) (by decide +kernel)
theorem zw_1009 : Cond.instanceMethod yX12_at ∈ zT := zT_t (i := 1009) (by decide +kernel) (by decide +kernel)
theorem zw_1010 : Cond.selects "LowWaterModel" yX12_at yX12_at ∈ zT := zT_t (i := 1010) (by decide +kernel) (by decide +kernel)
theorem k_L_43 : Cond.methodLink "LowWaterLaw" 43 yX12_at ∈ zT ∧ Cond.instanceMethod yX12_at ∈ zT ∧ Cond.selects yX12_at.cls yX12_at yX12_at ∈ zT := ⟨zw_1008, zw_1009, zw_1010⟩
theorem zw_449 : Cond.code yX11_needs cX11_needs 4 (some .int) ∈ zT := zT_t (i := 449) (by decide +kernel) (by decide +kernel)
theorem co_X11_needs : zCo yX11_needs cX11_needs 4 (some .int) 2 := ⟨zw_449, zw_1, by decide +kernel, by decide +kernel, by decide +kernel⟩
theorem zw_446 : Cond.methodLink "LowWaterLaw" 44 yX11_needs ∈ zT := zT_t (i := 446) (by decide +kernel) (by decide +kernel)
theorem zw_447 : Cond.instanceMethod yX11_needs ∈ zT := zT_t (i := 447) (by decide +kernel) (by decide +kernel)
theorem zw_448 : Cond.selects "LowWater" yX11_needs yX11_needs ∈ zT := zT_t (i := 448) (by decide +kernel) (by decide +kernel)
theorem k_L_44 : Cond.methodLink "LowWaterLaw" 44 yX11_needs ∈ zT ∧ Cond.instanceMethod yX11_needs ∈ zT ∧ Cond.selects yX11_needs.cls yX11_needs yX11_needs ∈ zT := ⟨zw_446, zw_447, zw_448⟩
theorem zw_1019 : Cond.code yX12_needs cX12_needs 3 (some .int) ∈ zT := zT_t (i := 1019) (by decide +kernel) (by decide +kernel)
theorem co_X12_needs : zCo yX12_needs cX12_needs 3 (some .int) 2 := ⟨zw_1019, zw_6, by decide +kernel, by decide +kernel, by decide +kernel⟩
theorem zw_1016 : Cond.methodLink "LowWaterLaw" 47 yX12_needs ∈ zT := zT_t (i := 1016) (by decide +kernel) (by decide +kernel)
theorem zw_1017 : Cond.instanceMethod yX12_needs ∈ zT := zT_t (i := 1017) (by decide +kernel) (by decide +kernel)
theorem zw_1018 : Cond.selects "LowWaterModel" yX12_needs yX12_needs ∈ zT := zT_t (i := 1018) (by decide +kernel) (by decide +kernel)
theorem k_L_47 : Cond.methodLink "LowWaterLaw" 47 yX12_needs ∈ zT ∧ Cond.instanceMethod yX12_needs ∈ zT ∧ Cond.selects yX12_needs.cls yX12_needs yX12_needs ∈ zT := ⟨zw_1016, zw_1017, zw_1018⟩
theorem zw_474 : Cond.code yX11_hours cX11_hours 2 (some .int) ∈ zT := zT_t (i := 474) (by decide +kernel) (by decide +kernel)
theorem co_X11_hours : zCo yX11_hours cX11_hours 2 (some .int) 1 := ⟨zw_474, zw_1, by decide +kernel, by decide +kernel, by decide +kernel⟩
theorem zw_471 : Cond.methodLink "LowWaterLaw" 48 yX11_hours ∈ zT := zT_t (i := 471) (by decide +kernel) (by decide +kernel)
theorem zw_472 : Cond.instanceMethod yX11_hours ∈ zT := zT_t (i := 472) (by decide +kernel) (by decide +kernel)
theorem zw_473 : Cond.selects "LowWater" yX11_hours yX11_hours ∈ zT := zT_t (i := 473) (by decide +kernel) (by decide +kernel)
theorem k_L_48 : Cond.methodLink "LowWaterLaw" 48 yX11_hours ∈ zT ∧ Cond.instanceMethod yX11_hours ∈ zT ∧ Cond.selects yX11_hours.cls yX11_hours yX11_hours ∈ zT := ⟨zw_471, zw_472, zw_473⟩
theorem zw_1027 : Cond.code yX12_hours cX12_hours 2 (some .int) ∈ zT := zT_t (i := 1027) (by decide +kernel) (by decide +kernel)
theorem co_X12_hours : zCo yX12_hours cX12_hours 2 (some .int) 1 := ⟨zw_1027, zw_6, by decide +kernel, by decide +kernel, by decide +kernel⟩
theorem zw_1024 : Cond.methodLink "LowWaterLaw" 51 yX12_hours ∈ zT := zT_t (i := 1024) (by decide +kernel) (by decide +kernel)
theorem zw_1025 : Cond.instanceMethod yX12_hours ∈ zT := zT_t (i := 1025) (by decide +kernel) (by decide +kernel)
theorem zw_1026 : Cond.selects "LowWaterModel" yX12_hours yX12_hours ∈ zT := zT_t (i := 1026) (by decide +kernel) (by decide +kernel)
theorem k_L_51 : Cond.methodLink "LowWaterLaw" 51 yX12_hours ∈ zT ∧ Cond.instanceMethod yX12_hours ∈ zT ∧ Cond.selects yX12_hours.cls yX12_hours yX12_hours ∈ zT := ⟨zw_1024, zw_1025, zw_1026⟩
theorem zw_481 : Cond.code yX11_told cX11_told 2 (some .int) ∈ zT := zT_t (i := 481) (by decide +kernel) (by decide +kernel)
theorem co_X11_told : zCo yX11_told cX11_told 2 (some .int) 1 := ⟨zw_481, zw_1, by decide +kernel, by decide +kernel, by decide +kernel⟩
theorem zw_478 : Cond.methodLink "LowWaterLaw" 52 yX11_told ∈ zT := zT_t (i := 478) (by decide +kernel) (by decide +kernel)
theorem zw_479 : Cond.instanceMethod yX11_told ∈ zT := zT_t (i := 479) (by decide +kernel) (by decide +kernel)
theorem zw_480 : Cond.selects "LowWater" yX11_told yX11_told ∈ zT := zT_t (i := 480) (by decide +kernel) (by decide +kernel)
theorem k_L_52 : Cond.methodLink "LowWaterLaw" 52 yX11_told ∈ zT ∧ Cond.instanceMethod yX11_told ∈ zT ∧ Cond.selects yX11_told.cls yX11_told yX11_told ∈ zT := ⟨zw_478, zw_479, zw_480⟩
theorem zw_1031 : Cond.code yX12_told cX12_told 3 (some .int) ∈ zT := zT_t (i := 1031) (by decide +kernel) (by decide +kernel)
theorem co_X12_told : zCo yX12_told cX12_told 3 (some .int) 1 := ⟨zw_1031, zw_6, by decide +kernel, by decide +kernel, by decide +kernel⟩
theorem zw_1028 : Cond.methodLink "LowWaterLaw" 55 yX12_told ∈ zT := zT_t (i := 1028) (by decide +kernel) (by decide +kernel)
theorem zw_1029 : Cond.instanceMethod yX12_told ∈ zT := zT_t (i := 1029) (by decide +kernel) (by decide +kernel)
theorem zw_1030 : Cond.selects "LowWaterModel" yX12_told yX12_told ∈ zT := zT_t (i := 1030) (by decide +kernel) (by decide +kernel)
theorem k_L_55 : Cond.methodLink "LowWaterLaw" 55 yX12_told ∈ zT ∧ Cond.instanceMethod yX12_told ∈ zT ∧ Cond.selects yX12_told.cls yX12_told yX12_told ∈ zT := ⟨zw_1028, zw_1029, zw_1030⟩
theorem zw_514 : Cond.code yX11_level cX11_level 2 (some .int) ∈ zT := zT_t (i := 514) (by decide +kernel) (by decide +kernel)
theorem co_X11_level : zCo yX11_level cX11_level 2 (some .int) 1 := ⟨zw_514, zw_1, by decide +kernel, by decide +kernel, by decide +kernel⟩
theorem zw_511 : Cond.methodLink "LowWaterLaw" 56 yX11_level ∈ zT := zT_t (i := 511) (by decide +kernel) (by decide +kernel)
theorem zw_512 : Cond.instanceMethod yX11_level ∈ zT := zT_t (i := 512) (by decide +kernel) (by decide +kernel)
theorem zw_513 : Cond.selects "LowWater" yX11_level yX11_level ∈ zT := zT_t (i := 513) (by decide +kernel) (by decide +kernel)
theorem k_L_56 : Cond.methodLink "LowWaterLaw" 56 yX11_level ∈ zT ∧ Cond.instanceMethod yX11_level ∈ zT ∧ Cond.selects yX11_level.cls yX11_level yX11_level ∈ zT := ⟨zw_511, zw_512, zw_513⟩
theorem zw_1043 : Cond.code yX12_level cX12_level 2 (some .int) ∈ zT := zT_t (i := 1043) (by decide +kernel) (by decide +kernel)
theorem co_X12_level : zCo yX12_level cX12_level 2 (some .int) 1 := ⟨zw_1043, zw_6, by decide +kernel, by decide +kernel, by decide +kernel⟩
theorem zw_1040 : Cond.methodLink "LowWaterLaw" 59 yX12_level ∈ zT := zT_t (i := 1040) (by decide +kernel) (by decide +kernel)
theorem zw_1041 : Cond.instanceMethod yX12_level ∈ zT := zT_t (i := 1041) (by decide +kernel) (by decide +kernel)
theorem zw_1042 : Cond.selects "LowWaterModel" yX12_level yX12_level ∈ zT := zT_t (i := 1042) (by decide +kernel) (by decide +kernel)
theorem k_L_59 : Cond.methodLink "LowWaterLaw" 59 yX12_level ∈ zT ∧ Cond.instanceMethod yX12_level ∈ zT ∧ Cond.selects yX12_level.cls yX12_level yX12_level ∈ zT := ⟨zw_1040, zw_1041, zw_1042⟩
theorem zw_518 : Cond.code yX11_soon cX11_soon 4 (some .int) ∈ zT := zT_t (i := 518) (by decide +kernel) (by decide +kernel)
theorem co_X11_soon : zCo yX11_soon cX11_soon 4 (some .int) 2 := ⟨zw_518, zw_1, by decide +kernel, by decide +kernel, by decide +kernel⟩
theorem zw_515 : Cond.methodLink "LowWaterLaw" 60 yX11_soon ∈ zT := zT_t (i := 515) (by decide +kernel) (by decide +kernel)
theorem zw_516 : Cond.instanceMethod yX11_soon ∈ zT := zT_t (i := 516) (by decide +kernel) (by decide +kernel)
theorem zw_517 : Cond.selects "LowWater" yX11_soon yX11_soon ∈ zT := zT_t (i := 517) (by decide +kernel) (by decide +kernel)
theorem k_L_60 : Cond.methodLink "LowWaterLaw" 60 yX11_soon ∈ zT ∧ Cond.instanceMethod yX11_soon ∈ zT ∧ Cond.selects yX11_soon.cls yX11_soon yX11_soon ∈ zT := ⟨zw_515, zw_516, zw_517⟩
theorem zw_1047 : Cond.code yX12_soon cX12_soon 3 (some .int) ∈ zT := zT_t (i := 1047) (by decide +kernel) (by decide +kernel)
theorem co_X12_soon : zCo yX12_soon cX12_soon 3 (some .int) 2 := ⟨zw_1047, zw_6, by decide +kernel, by decide +kernel, by decide +kernel⟩
theorem zw_1044 : Cond.methodLink "LowWaterLaw" 63 yX12_soon ∈ zT := zT_t (i := 1044) (by decide +kernel) (by decide +kernel)
theorem zw_1045 : Cond.instanceMethod yX12_soon ∈ zT := zT_t (i := 1045) (by decide +kernel) (by decide +kernel)
theorem zw_1046 : Cond.selects "LowWaterModel" yX12_soon yX12_soon ∈ zT := zT_t (i := 1046) (by decide +kernel) (by decide +kernel)
theorem k_L_63 : Cond.methodLink "LowWaterLaw" 63 yX12_soon ∈ zT ∧ Cond.instanceMethod yX12_soon ∈ zT ∧ Cond.selects yX12_soon.cls yX12_soon yX12_soon ∈ zT := ⟨zw_1044, zw_1045, zw_1046⟩
theorem zw_567 : Cond.code yX11_set cX11_set 5 (some .int) ∈ zT := zT_t (i := 567) (by decide +kernel) (by decide +kernel)
theorem co_X11_set : zCo yX11_set cX11_set 5 (some .int) 3 := ⟨zw_567, zw_1, by decide +kernel, by decide +kernel, by decide +kernel⟩
theorem zw_564 : Cond.methodLink "LowWaterLaw" 64 yX11_set ∈ zT := zT_t (i := 564) (by decide +kernel) (by decide +kernel)
theorem zw_565 : Cond.instanceMethod yX11_set ∈ zT := zT_t (i := 565) (by decide +kernel) (by decide +kernel)
theorem zw_566 : Cond.selects "LowWater" yX11_set yX11_set ∈ zT := zT_t (i := 566) (by decide +kernel) (by decide +kernel)
theorem k_L_64 : Cond.methodLink "LowWaterLaw" 64 yX11_set ∈ zT ∧ Cond.instanceMethod yX11_set ∈ zT ∧ Cond.selects yX11_set.cls yX11_set yX11_set ∈ zT := ⟨zw_564, zw_565, zw_566⟩
theorem zw_1079 : Cond.code yX12_set cX12_set 5 (some .int) ∈ zT := zT_t (i := 1079) (by decide +kernel) (by decide +kernel)
theorem co_X12_set : zCo yX12_set cX12_set 5 (some .int) 3 := ⟨zw_1079, zw_6, by decide +kernel, by decide +kernel, by decide +kernel⟩
theorem zw_1076 : Cond.methodLink "LowWaterLaw" 68 yX12_set ∈ zT := zT_t (i := 1076) (by decide +kernel) (by decide +kernel)
theorem zw_1077 : Cond.instanceMethod yX12_set ∈ zT := zT_t (i := 1077) (by decide +kernel) (by decide +kernel)
theorem zw_1078 : Cond.selects "LowWaterModel" yX12_set yX12_set ∈ zT := zT_t (i := 1078) (by decide +kernel) (by decide +kernel)
theorem k_L_68 : Cond.methodLink "LowWaterLaw" 68 yX12_set ∈ zT ∧ Cond.instanceMethod yX12_set ∈ zT ∧ Cond.selects yX12_set.cls yX12_set yX12_set ∈ zT := ⟨zw_1076, zw_1077, zw_1078⟩
theorem zw_608 : Cond.code yX11_two cX11_two 11 (some .int) ∈ zT := zT_t (i := 608) (by decide +kernel) (by decide +kernel)
theorem co_X11_two : zCo yX11_two cX11_two 11 (some .int) 4 := ⟨zw_608, zw_1, by decide +kernel, by decide +kernel, by decide +kernel⟩
theorem zw_605 : Cond.methodLink "LowWaterLaw" 69 yX11_two ∈ zT := zT_t (i := 605) (by decide +kernel) (by decide +kernel)
theorem zw_606 : Cond.instanceMethod yX11_two ∈ zT := zT_t (i := 606) (by decide +kernel) (by decide +kernel)
theorem zw_607 : Cond.selects "LowWater" yX11_two yX11_two ∈ zT := zT_t (i := 607) (by decide +kernel) (by decide +kernel)
theorem k_L_69 : Cond.methodLink "LowWaterLaw" 69 yX11_two ∈ zT ∧ Cond.instanceMethod yX11_two ∈ zT ∧ Cond.selects yX11_two.cls yX11_two yX11_two ∈ zT := ⟨zw_605, zw_606, zw_607⟩
theorem zw_1103 : Cond.code yX12_two cX12_two 11 (some .int) ∈ zT := zT_t (i := 1103) (by decide +kernel) (by decide +kernel)
theorem co_X12_two : zCo yX12_two cX12_two 11 (some .int) 4 := ⟨zw_1103, zw_6, by decide +kernel, by decide +kernel, by decide +kernel⟩
theorem zw_1100 : Cond.methodLink "LowWaterLaw" 73 yX12_two ∈ zT := zT_t (i := 1100) (by decide +kernel) (by decide +kernel)
theorem zw_1101 : Cond.instanceMethod yX12_two ∈ zT := zT_t (i := 1101) (by decide +kernel) (by decide +kernel)
theorem zw_1102 : Cond.selects "LowWaterModel" yX12_two yX12_two ∈ zT := zT_t (i := 1102) (by decide +kernel) (by decide +kernel)
theorem k_L_73 : Cond.methodLink "LowWaterLaw" 73 yX12_two ∈ zT ∧ Cond.instanceMethod yX12_two ∈ zT ∧ Cond.selects yX12_two.cls yX12_two yX12_two ∈ zT := ⟨zw_1100, zw_1101, zw_1102⟩
theorem zw_617 : Cond.code yX11_ask cX11_ask 4 (some .int) ∈ zT := zT_t (i := 617) (by decide +kernel) (by decide +kernel)
theorem co_X11_ask : zCo yX11_ask cX11_ask 4 (some .int) 3 := ⟨zw_617, zw_1, by decide +kernel, by decide +kernel, by decide +kernel⟩
theorem zw_614 : Cond.methodLink "LowWaterLaw" 74 yX11_ask ∈ zT := zT_t (i := 614) (by decide +kernel) (by decide +kernel)
theorem zw_615 : Cond.instanceMethod yX11_ask ∈ zT := zT_t (i := 615) (by decide +kernel) (by decide +kernel)
theorem zw_616 : Cond.selects "LowWater" yX11_ask yX11_ask ∈ zT := zT_t (i := 616) (by decide +kernel) (by decide +kernel)
theorem k_L_74 : Cond.methodLink "LowWaterLaw" 74 yX11_ask ∈ zT ∧ Cond.instanceMethod yX11_ask ∈ zT ∧ Cond.selects yX11_ask.cls yX11_ask yX11_ask ∈ zT := ⟨zw_614, zw_615, zw_616⟩
theorem zw_1107 : Cond.code yX12_ask cX12_ask 4 (some .int) ∈ zT := zT_t (i := 1107) (by decide +kernel) (by decide +kernel)
theorem co_X12_ask : zCo yX12_ask cX12_ask 4 (some .int) 3 := ⟨zw_1107, zw_6, by decide +kernel, by decide +kernel, by decide +kernel⟩
theorem zw_1104 : Cond.methodLink "LowWaterLaw" 77 yX12_ask ∈ zT := zT_t (i := 1104) (by decide +kernel) (by decide +kernel)
theorem zw_1105 : Cond.instanceMethod yX12_ask ∈ zT := zT_t (i := 1105) (by decide +kernel) (by decide +kernel)
theorem zw_1106 : Cond.selects "LowWaterModel" yX12_ask yX12_ask ∈ zT := zT_t (i := 1106) (by decide +kernel) (by decide +kernel)
theorem k_L_77 : Cond.methodLink "LowWaterLaw" 77 yX12_ask ∈ zT ∧ Cond.instanceMethod yX12_ask ∈ zT ∧ Cond.selects yX12_ask.cls yX12_ask yX12_ask ∈ zT := ⟨zw_1104, zw_1105, zw_1106⟩
theorem zw_625 : Cond.code yX11_waits cX11_waits 1 (some .int) ∈ zT := zT_t (i := 625) (by decide +kernel) (by decide +kernel)
theorem co_X11_waits : zCo yX11_waits cX11_waits 1 (some .int) 0 := ⟨zw_625, zw_1, by decide +kernel, by decide +kernel, by decide +kernel⟩
theorem zw_622 : Cond.methodLink "LowWaterLaw" 78 yX11_waits ∈ zT := zT_t (i := 622) (by decide +kernel) (by decide +kernel)
theorem zw_623 : Cond.instanceMethod yX11_waits ∈ zT := zT_t (i := 623) (by decide +kernel) (by decide +kernel)
theorem zw_624 : Cond.selects "LowWater" yX11_waits yX11_waits ∈ zT := zT_t (i := 624) (by decide +kernel) (by decide +kernel)
theorem k_L_78 : Cond.methodLink "LowWaterLaw" 78 yX11_waits ∈ zT ∧ Cond.instanceMethod yX11_waits ∈ zT ∧ Cond.selects yX11_waits.cls yX11_waits yX11_waits ∈ zT := ⟨zw_622, zw_623, zw_624⟩
theorem zw_1111 : Cond.code yX12_waits cX12_waits 1 (some .int) ∈ zT := zT_t (i := 1111) (by decide +kernel) (by decide +kernel)
theorem co_X12_waits : zCo yX12_waits cX12_waits 1 (some .int) 0 := ⟨zw_1111, zw_6, by decide +kernel, by decide +kernel, by decide +kernel⟩
theorem zw_1108 : Cond.methodLink "LowWaterLaw" 81 yX12_waits ∈ zT := zT_t (i := 1108) (by decide +kernel) (by decide +kernel)
theorem zw_1109 : Cond.instanceMethod yX12_waits ∈ zT := zT_t (i := 1109) (by decide +kernel) (by decide +kernel)
theorem zw_1110 : Cond.selects "LowWaterModel" yX12_waits yX12_waits ∈ zT := zT_t (i := 1110) (by decide +kernel) (by decide +kernel)
theorem k_L_81 : Cond.methodLink "LowWaterLaw" 81 yX12_waits ∈ zT ∧ Cond.instanceMethod yX12_waits ∈ zT ∧ Cond.selects yX12_waits.cls yX12_waits yX12_waits ∈ zT := ⟨zw_1108, zw_1109, zw_1110⟩
theorem zw_646 : Cond.code yX11_shelve cX11_shelve 7 (some .int) ∈ zT := zT_t (i := 646) (by decide +kernel) (by decide +kernel)
theorem co_X11_shelve : zCo yX11_shelve cX11_shelve 7 (some .int) 2 := ⟨zw_646, zw_1, by decide +kernel, by decide +kernel, by decide +kernel⟩
theorem zw_643 : Cond.methodLink "LowWaterLaw" 82 yX11_shelve ∈ zT := zT_t (i := 643) (by decide +kernel) (by decide +kernel)
theorem zw_644 : Cond.instanceMethod yX11_shelve ∈ zT := zT_t (i := 644) (by decide +kernel) (by decide +kernel)
theorem zw_645 : Cond.selects "LowWater" yX11_shelve yX11_shelve ∈ zT := zT_t (i := 645) (by decide +kernel) (by decide +kernel)
theorem k_L_82 : Cond.methodLink "LowWaterLaw" 82 yX11_shelve ∈ zT ∧ Cond.instanceMethod yX11_shelve ∈ zT ∧ Cond.selects yX11_shelve.cls yX11_shelve yX11_shelve ∈ zT := ⟨zw_643, zw_644, zw_645⟩
theorem zw_1119 : Cond.code yX12_shelve cX12_shelve 8 (some .int) ∈ zT := zT_t (i := 1119) (by decide +kernel) (by decide +kernel)
theorem co_X12_shelve : zCo yX12_shelve cX12_shelve 8 (some .int) 2 := ⟨zw_1119, zw_6, by decide +kernel, by decide +kernel, by decide +kernel⟩
theorem zw_1116 : Cond.methodLink "LowWaterLaw" 85 yX12_shelve ∈ zT := zT_t (i := 1116) (by decide +kernel) (by decide +kernel)
theorem zw_1117 : Cond.instanceMethod yX12_shelve ∈ zT := zT_t (i := 1117) (by decide +kernel) (by decide +kernel)
theorem zw_1118 : Cond.selects "LowWaterModel" yX12_shelve yX12_shelve ∈ zT := zT_t (i := 1118) (by decide +kernel) (by decide +kernel)
theorem k_L_85 : Cond.methodLink "LowWaterLaw" 85 yX12_shelve ∈ zT ∧ Cond.instanceMethod yX12_shelve ∈ zT ∧ Cond.selects yX12_shelve.cls yX12_shelve yX12_shelve ∈ zT := ⟨zw_1116, zw_1117, zw_1118⟩
theorem zw_654 : Cond.code yX11_change cX11_change 6 (some .int) ∈ zT := zT_t (i := 654) (by decide +kernel) (by decide +kernel)
theorem co_X11_change : zCo yX11_change cX11_change 6 (some .int) 0 := ⟨zw_654, zw_1, by decide +kernel, by decide +kernel, by decide +kernel⟩
theorem zw_651 : Cond.methodLink "LowWaterLaw" 86 yX11_change ∈ zT := zT_t (i := 651) (by decide +kernel) (by decide +kernel)
theorem zw_652 : Cond.instanceMethod yX11_change ∈ zT := zT_t (i := 652) (by decide +kernel) (by decide +kernel)
theorem zw_653 : Cond.selects "LowWater" yX11_change yX11_change ∈ zT := zT_t (i := 653) (by decide +kernel) (by decide +kernel)
theorem k_L_86 : Cond.methodLink "LowWaterLaw" 86 yX11_change ∈ zT ∧ Cond.instanceMethod yX11_change ∈ zT ∧ Cond.selects yX11_change.cls yX11_change yX11_change ∈ zT := ⟨zw_651, zw_652, zw_653⟩
theorem zw_1123 : Cond.code yX12_change cX12_change 6 (some .int) ∈ zT := zT_t (i := 1123) (by decide +kernel) (by decide +kernel)
theorem co_X12_change : zCo yX12_change cX12_change 6 (some .int) 0 := ⟨zw_1123, zw_6, by decide +kernel, by decide +kernel, by decide +kernel⟩
theorem zw_1120 : Cond.methodLink "LowWaterLaw" 89 yX12_change ∈ zT := zT_t (i := 1120) (by decide +kernel) (by decide +kernel)
theorem zw_1121 : Cond.instanceMethod yX12_change ∈ zT := zT_t (i := 1121) (by decide +kernel) (by decide +kernel)
theorem zw_1122 : Cond.selects "LowWaterModel" yX12_change yX12_change ∈ zT := zT_t (i := 1122) (by decide +kernel) (by decide +kernel)
theorem k_L_89 : Cond.methodLink "LowWaterLaw" 89 yX12_change ∈ zT ∧ Cond.instanceMethod yX12_change ∈ zT ∧ Cond.selects yX12_change.cls yX12_change yX12_change ∈ zT := ⟨zw_1120, zw_1121, zw_1122⟩
theorem zw_658 : Cond.code yX11_force cX11_force 5 (some .int) ∈ zT := zT_t (i := 658) (by decide +kernel) (by decide +kernel)
theorem co_X11_force : zCo yX11_force cX11_force 5 (some .int) 1 := ⟨zw_658, zw_1, by decide +kernel, by decide +kernel, by decide +kernel⟩
theorem zw_655 : Cond.methodLink "LowWaterLaw" 90 yX11_force ∈ zT := zT_t (i := 655) (by decide +kernel) (by decide +kernel)
theorem zw_656 : Cond.instanceMethod yX11_force ∈ zT := zT_t (i := 656) (by decide +kernel) (by decide +kernel)
theorem zw_657 : Cond.selects "LowWater" yX11_force yX11_force ∈ zT := zT_t (i := 657) (by decide +kernel) (by decide +kernel)
theorem k_L_90 : Cond.methodLink "LowWaterLaw" 90 yX11_force ∈ zT ∧ Cond.instanceMethod yX11_force ∈ zT ∧ Cond.selects yX11_force.cls yX11_force yX11_force ∈ zT := ⟨zw_655, zw_656, zw_657⟩
theorem zw_1131 : Cond.code yX12_force cX12_force 5 (some .int) ∈ zT := zT_t (i := 1131) (by decide +kernel) (by decide +kernel)
theorem co_X12_force : zCo yX12_force cX12_force 5 (some .int) 1 := ⟨zw_1131, zw_6, by decide +kernel, by decide +kernel, by decide +kernel⟩
theorem zw_1128 : Cond.methodLink "LowWaterLaw" 93 yX12_force ∈ zT := zT_t (i := 1128) (by decide +kernel) (by decide +kernel)
theorem zw_1129 : Cond.instanceMethod yX12_force ∈ zT := zT_t (i := 1129) (by decide +kernel) (by decide +kernel)
theorem zw_1130 : Cond.selects "LowWaterModel" yX12_force yX12_force ∈ zT := zT_t (i := 1130) (by decide +kernel) (by decide +kernel)
theorem k_L_93 : Cond.methodLink "LowWaterLaw" 93 yX12_force ∈ zT ∧ Cond.instanceMethod yX12_force ∈ zT ∧ Cond.selects yX12_force.cls yX12_force yX12_force ∈ zT := ⟨zw_1128, zw_1129, zw_1130⟩
theorem zw_662 : Cond.code yX11_open cX11_open 8 (some .int) ∈ zT := zT_t (i := 662) (by decide +kernel) (by decide +kernel)
theorem co_X11_open : zCo yX11_open cX11_open 8 (some .int) 3 := ⟨zw_662, zw_1, by decide +kernel, by decide +kernel, by decide +kernel⟩
theorem zw_659 : Cond.methodLink "LowWaterLaw" 94 yX11_open ∈ zT := zT_t (i := 659) (by decide +kernel) (by decide +kernel)
theorem zw_660 : Cond.instanceMethod yX11_open ∈ zT := zT_t (i := 660) (by decide +kernel) (by decide +kernel)
theorem zw_661 : Cond.selects "LowWater" yX11_open yX11_open ∈ zT := zT_t (i := 661) (by decide +kernel) (by decide +kernel)
theorem k_L_94 : Cond.methodLink "LowWaterLaw" 94 yX11_open ∈ zT ∧ Cond.instanceMethod yX11_open ∈ zT ∧ Cond.selects yX11_open.cls yX11_open yX11_open ∈ zT := ⟨zw_659, zw_660, zw_661⟩
theorem zw_1135 : Cond.code yX12_open cX12_open 9 (some .int) ∈ zT := zT_t (i := 1135) (by decide +kernel) (by decide +kernel)
theorem co_X12_open : zCo yX12_open cX12_open 9 (some .int) 3 := ⟨zw_1135, zw_6, by decide +kernel, by decide +kernel, by decide +kernel⟩
theorem zw_1132 : Cond.methodLink "LowWaterLaw" 97 yX12_open ∈ zT := zT_t (i := 1132) (by decide +kernel) (by decide +kernel)
theorem zw_1133 : Cond.instanceMethod yX12_open ∈ zT := zT_t (i := 1133) (by decide +kernel) (by decide +kernel)
theorem zw_1134 : Cond.selects "LowWaterModel" yX12_open yX12_open ∈ zT := zT_t (i := 1134) (by decide +kernel) (by decide +kernel)
theorem k_L_97 : Cond.methodLink "LowWaterLaw" 97 yX12_open ∈ zT ∧ Cond.instanceMethod yX12_open ∈ zT ∧ Cond.selects yX12_open.cls yX12_open yX12_open ∈ zT := ⟨zw_1132, zw_1133, zw_1134⟩
theorem zw_666 : Cond.code yX11_next cX11_next 3 (some .int) ∈ zT := zT_t (i := 666) (by decide +kernel) (by decide +kernel)
theorem co_X11_next : zCo yX11_next cX11_next 3 (some .int) 1 := ⟨zw_666, zw_1, by decide +kernel, by decide +kernel, by decide +kernel⟩
theorem zw_663 : Cond.methodLink "LowWaterLaw" 98 yX11_next ∈ zT := zT_t (i := 663) (by decide +kernel) (by decide +kernel)
theorem zw_664 : Cond.instanceMethod yX11_next ∈ zT := zT_t (i := 664) (by decide +kernel) (by decide +kernel)
theorem zw_665 : Cond.selects "LowWater" yX11_next yX11_next ∈ zT := zT_t (i := 665) (by decide +kernel) (by decide +kernel)
theorem k_L_98 : Cond.methodLink "LowWaterLaw" 98 yX11_next ∈ zT ∧ Cond.instanceMethod yX11_next ∈ zT ∧ Cond.selects yX11_next.cls yX11_next yX11_next ∈ zT := ⟨zw_663, zw_664, zw_665⟩
theorem zw_1139 : Cond.code yX12_next cX12_next 3 (some .int) ∈ zT := zT_t (i := 1139) (by decide +kernel) (by decide +kernel)
theorem co_X12_next : zCo yX12_next cX12_next 3 (some .int) 1 := ⟨zw_1139, zw_6, by decide +kernel, by decide +kernel, by decide +kernel⟩
theorem zw_1136 : Cond.methodLink "LowWaterLaw" 101 yX12_next ∈ zT := zT_t (i := 1136) (by decide +kernel) (by decide +kernel)
theorem zw_1137 : Cond.instanceMethod yX12_next ∈ zT := zT_t (i := 1137) (by decide +kernel) (by decide +kernel)
theorem zw_1138 : Cond.selects "LowWaterModel" yX12_next yX12_next ∈ zT := zT_t (i := 1138) (by decide +kernel) (by decide +kernel)
theorem k_L_101 : Cond.methodLink "LowWaterLaw" 101 yX12_next ∈ zT ∧ Cond.instanceMethod yX12_next ∈ zT ∧ Cond.selects yX12_next.cls yX12_next yX12_next ∈ zT := ⟨zw_1136, zw_1137, zw_1138⟩
theorem zw_670 : Cond.code yX11_safe cX11_safe 10 (some .long) ∈ zT := zT_t (i := 670) (by decide +kernel) (by decide +kernel)
theorem co_X11_safe : zCo yX11_safe cX11_safe 10 (some .long) 3 := ⟨zw_670, zw_1, by decide +kernel, by decide +kernel, by decide +kernel⟩
theorem zw_667 : Cond.methodLink "LowWaterLaw" 102 yX11_safe ∈ zT := zT_t (i := 667) (by decide +kernel) (by decide +kernel)
theorem zw_668 : Cond.instanceMethod yX11_safe ∈ zT := zT_t (i := 668) (by decide +kernel) (by decide +kernel)
theorem zw_669 : Cond.selects "LowWater" yX11_safe yX11_safe ∈ zT := zT_t (i := 669) (by decide +kernel) (by decide +kernel)
theorem k_L_102 : Cond.methodLink "LowWaterLaw" 102 yX11_safe ∈ zT ∧ Cond.instanceMethod yX11_safe ∈ zT ∧ Cond.selects yX11_safe.cls yX11_safe yX11_safe ∈ zT := ⟨zw_667, zw_668, zw_669⟩
theorem zw_1143 : Cond.code yX12_safe cX12_safe 10 (some .long) ∈ zT := zT_t (i := 1143) (by decide +kernel) (by decide +kernel)
theorem co_X12_safe : zCo yX12_safe cX12_safe 10 (some .long) 3 := ⟨zw_1143, zw_6, by decide +kernel, by decide +kernel, by decide +kernel⟩
theorem zw_1140 : Cond.methodLink "LowWaterLaw" 106 yX12_safe ∈ zT := zT_t (i := 1140) (by decide +kernel) (by decide +kernel)
theorem zw_1141 : Cond.instanceMethod yX12_safe ∈ zT := zT_t (i := 1141) (by decide +kernel) (by decide +kernel)
theorem zw_1142 : Cond.selects "LowWaterModel" yX12_safe yX12_safe ∈ zT := zT_t (i := 1142) (by decide +kernel) (by decide +kernel)
theorem k_L_106 : Cond.methodLink "LowWaterLaw" 106 yX12_safe ∈ zT ∧ Cond.instanceMethod yX12_safe ∈ zT ∧ Cond.selects yX12_safe.cls yX12_safe yX12_safe ∈ zT := ⟨zw_1140, zw_1141, zw_1142⟩
theorem zw_679 : Cond.code yX11_mean cX11_mean 6 (some .long) ∈ zT := zT_t (i := 679) (by decide +kernel) (by decide +kernel)
theorem co_X11_mean : zCo yX11_mean cX11_mean 6 (some .long) 2 := ⟨zw_679, zw_1, by decide +kernel, by decide +kernel, by decide +kernel⟩
theorem zw_676 : Cond.methodLink "LowWaterLaw" 107 yX11_mean ∈ zT := zT_t (i := 676) (by decide +kernel) (by decide +kernel)
theorem zw_677 : Cond.instanceMethod yX11_mean ∈ zT := zT_t (i := 677) (by decide +kernel) (by decide +kernel)
theorem zw_678 : Cond.selects "LowWater" yX11_mean yX11_mean ∈ zT := zT_t (i := 678) (by decide +kernel) (by decide +kernel)
theorem k_L_107 : Cond.methodLink "LowWaterLaw" 107 yX11_mean ∈ zT ∧ Cond.instanceMethod yX11_mean ∈ zT ∧ Cond.selects yX11_mean.cls yX11_mean yX11_mean ∈ zT := ⟨zw_676, zw_677, zw_678⟩
theorem zw_1152 : Cond.code yX12_mean cX12_mean 6 (some .long) ∈ zT := zT_t (i := 1152) (by decide +kernel) (by decide +kernel)
theorem co_X12_mean : zCo yX12_mean cX12_mean 6 (some .long) 2 := ⟨zw_1152, zw_6, by decide +kernel, by decide +kernel, by decide +kernel⟩
theorem zw_1149 : Cond.methodLink "LowWaterLaw" 111 yX12_mean ∈ zT := zT_t (i := 1149) (by decide +kernel) (by decide +kernel)
theorem zw_1150 : Cond.instanceMethod yX12_mean ∈ zT := zT_t (i := 1150) (by decide +kernel) (by decide +kernel)
theorem zw_1151 : Cond.selects "LowWaterModel" yX12_mean yX12_mean ∈ zT := zT_t (i := 1151) (by decide +kernel) (by decide +kernel)
theorem k_L_111 : Cond.methodLink "LowWaterLaw" 111 yX12_mean ∈ zT ∧ Cond.instanceMethod yX12_mean ∈ zT ∧ Cond.selects yX12_mean.cls yX12_mean yX12_mean ∈ zT := ⟨zw_1149, zw_1150, zw_1151⟩
theorem zw_683 : Cond.code yX11_see cX11_see 3 (some .int) ∈ zT := zT_t (i := 683) (by decide +kernel) (by decide +kernel)
theorem co_X11_see : zCo yX11_see cX11_see 3 (some .int) 2 := ⟨zw_683, zw_1, by decide +kernel, by decide +kernel, by decide +kernel⟩
theorem zw_680 : Cond.methodLink "LowWaterLaw" 112 yX11_see ∈ zT := zT_t (i := 680) (by decide +kernel) (by decide +kernel)
theorem zw_681 : Cond.instanceMethod yX11_see ∈ zT := zT_t (i := 681) (by decide +kernel) (by decide +kernel)
theorem zw_682 : Cond.selects "LowWater" yX11_see yX11_see ∈ zT := zT_t (i := 682) (by decide +kernel) (by decide +kernel)
theorem k_L_112 : Cond.methodLink "LowWaterLaw" 112 yX11_see ∈ zT ∧ Cond.instanceMethod yX11_see ∈ zT ∧ Cond.selects yX11_see.cls yX11_see yX11_see ∈ zT := ⟨zw_680, zw_681, zw_682⟩
theorem zw_1156 : Cond.code yX12_see cX12_see 3 (some .int) ∈ zT := zT_t (i := 1156) (by decide +kernel) (by decide +kernel)
theorem co_X12_see : zCo yX12_see cX12_see 3 (some .int) 2 := ⟨zw_1156, zw_6, by decide +kernel, by decide +kernel, by decide +kernel⟩
theorem zw_1153 : Cond.methodLink "LowWaterLaw" 116 yX12_see ∈ zT := zT_t (i := 1153) (by decide +kernel) (by decide +kernel)
theorem zw_1154 : Cond.instanceMethod yX12_see ∈ zT := zT_t (i := 1154) (by decide +kernel) (by decide +kernel)
theorem zw_1155 : Cond.selects "LowWaterModel" yX12_see yX12_see ∈ zT := zT_t (i := 1155) (by decide +kernel) (by decide +kernel)
theorem k_L_116 : Cond.methodLink "LowWaterLaw" 116 yX12_see ∈ zT ∧ Cond.instanceMethod yX12_see ∈ zT ∧ Cond.selects yX12_see.cls yX12_see yX12_see ∈ zT := ⟨zw_1153, zw_1154, zw_1155⟩
theorem zw_687 : Cond.code yX11_stood cX11_stood 6 (some .int) ∈ zT := zT_t (i := 687) (by decide +kernel) (by decide +kernel)
theorem co_X11_stood : zCo yX11_stood cX11_stood 6 (some .int) 0 := ⟨zw_687, zw_1, by decide +kernel, by decide +kernel, by decide +kernel⟩
theorem zw_684 : Cond.methodLink "LowWaterLaw" 117 yX11_stood ∈ zT := zT_t (i := 684) (by decide +kernel) (by decide +kernel)
theorem zw_685 : Cond.instanceMethod yX11_stood ∈ zT := zT_t (i := 685) (by decide +kernel) (by decide +kernel)
theorem zw_686 : Cond.selects "LowWater" yX11_stood yX11_stood ∈ zT := zT_t (i := 686) (by decide +kernel) (by decide +kernel)
theorem k_L_117 : Cond.methodLink "LowWaterLaw" 117 yX11_stood ∈ zT ∧ Cond.instanceMethod yX11_stood ∈ zT ∧ Cond.selects yX11_stood.cls yX11_stood yX11_stood ∈ zT := ⟨zw_684, zw_685, zw_686⟩
theorem zw_1160 : Cond.code yX12_stood cX12_stood 5 (some .int) ∈ zT := zT_t (i := 1160) (by decide +kernel) (by decide +kernel)
theorem co_X12_stood : zCo yX12_stood cX12_stood 5 (some .int) 0 := ⟨zw_1160, zw_6, by decide +kernel, by decide +kernel, by decide +kernel⟩
theorem zw_1157 : Cond.methodLink "LowWaterLaw" 120 yX12_stood ∈ zT := zT_t (i := 1157) (by decide +kernel) (by decide +kernel)
theorem zw_1158 : Cond.instanceMethod yX12_stood ∈ zT := zT_t (i := 1158) (by decide +kernel) (by decide +kernel)
theorem zw_1159 : Cond.selects "LowWaterModel" yX12_stood yX12_stood ∈ zT := zT_t (i := 1159) (by decide +kernel) (by decide +kernel)
theorem k_L_120 : Cond.methodLink "LowWaterLaw" 120 yX12_stood ∈ zT ∧ Cond.instanceMethod yX12_stood ∈ zT ∧ Cond.selects yX12_stood.cls yX12_stood yX12_stood ∈ zT := ⟨zw_1157, zw_1158, zw_1159⟩
theorem zw_692 : Cond.code yX11_tale cX11_tale 4 (some .int) ∈ zT := zT_t (i := 692) (by decide +kernel) (by decide +kernel)
theorem co_X11_tale : zCo yX11_tale cX11_tale 4 (some .int) 3 := ⟨zw_692, zw_1, by decide +kernel, by decide +kernel, by decide +kernel⟩
theorem zw_689 : Cond.methodLink "LowWaterLaw" 121 yX11_tale ∈ zT := zT_t (i := 689) (by decide +kernel) (by decide +kernel)
theorem zw_690 : Cond.instanceMethod yX11_tale ∈ zT := zT_t (i := 690) (by decide +kernel) (by decide +kernel)
theorem zw_691 : Cond.selects "LowWater" yX11_tale yX11_tale ∈ zT := zT_t (i := 691) (by decide +kernel) (by decide +kernel)
theorem k_L_121 : Cond.methodLink "LowWaterLaw" 121 yX11_tale ∈ zT ∧ Cond.instanceMethod yX11_tale ∈ zT ∧ Cond.selects yX11_tale.cls yX11_tale yX11_tale ∈ zT := ⟨zw_689, zw_690, zw_691⟩
theorem zw_1164 : Cond.code yX12_tale cX12_tale 4 (some .int) ∈ zT := zT_t (i := 1164) (by decide +kernel) (by decide +kernel)
theorem co_X12_tale : zCo yX12_tale cX12_tale 4 (some .int) 3 := ⟨zw_1164, zw_6, by decide +kernel, by decide +kernel, by decide +kernel⟩
theorem zw_1161 : Cond.methodLink "LowWaterLaw" 124 yX12_tale ∈ zT := zT_t (i := 1161) (by decide +kernel) (by decide +kernel)
theorem zw_1162 : Cond.instanceMethod yX12_tale ∈ zT := zT_t (i := 1162) (by decide +kernel) (by decide +kernel)
theorem zw_1163 : Cond.selects "LowWaterModel" yX12_tale yX12_tale ∈ zT := zT_t (i := 1163) (by decide +kernel) (by decide +kernel)
theorem k_L_124 : Cond.methodLink "LowWaterLaw" 124 yX12_tale ∈ zT ∧ Cond.instanceMethod yX12_tale ∈ zT ∧ Cond.selects yX12_tale.cls yX12_tale yX12_tale ∈ zT := ⟨zw_1161, zw_1162, zw_1163⟩
theorem zw_696 : Cond.code yX11_looked cX11_looked 6 (some .int) ∈ zT := zT_t (i := 696) (by decide +kernel) (by decide +kernel)
theorem co_X11_looked : zCo yX11_looked cX11_looked 6 (some .int) 0 := ⟨zw_696, zw_1, by decide +kernel, by decide +kernel, by decide +kernel⟩
theorem zw_693 : Cond.methodLink "LowWaterLaw" 125 yX11_looked ∈ zT := zT_t (i := 693) (by decide +kernel) (by decide +kernel)
theorem zw_694 : Cond.instanceMethod yX11_looked ∈ zT := zT_t (i := 694) (by decide +kernel) (by decide +kernel)
theorem zw_695 : Cond.selects "LowWater" yX11_looked yX11_looked ∈ zT := zT_t (i := 695) (by decide +kernel) (by decide +kernel)
theorem k_L_125 : Cond.methodLink "LowWaterLaw" 125 yX11_looked ∈ zT ∧ Cond.instanceMethod yX11_looked ∈ zT ∧ Cond.selects yX11_looked.cls yX11_looked yX11_looked ∈ zT := ⟨zw_693, zw_694, zw_695⟩
theorem zw_1168 : Cond.code yX12_looked cX12_looked 2 (some .int) ∈ zT := zT_t (i := 1168) (by decide +kernel) (by decide +kernel)
theorem co_X12_looked : zCo yX12_looked cX12_looked 2 (some .int) 0 := ⟨zw_1168, zw_6, by decide +kernel, by decide +kernel, by decide +kernel⟩
theorem zw_1165 : Cond.methodLink "LowWaterLaw" 128 yX12_looked ∈ zT := zT_t (i := 1165) (by decide +kernel) (by decide +kernel)
theorem zw_1166 : Cond.instanceMethod yX12_looked ∈ zT := zT_t (i := 1166) (by decide +kernel) (by decide +kernel)
theorem zw_1167 : Cond.selects "LowWaterModel" yX12_looked yX12_looked ∈ zT := zT_t (i := 1167) (by decide +kernel) (by decide +kernel)
theorem k_L_128 : Cond.methodLink "LowWaterLaw" 128 yX12_looked ∈ zT ∧ Cond.instanceMethod yX12_looked ∈ zT ∧ Cond.selects yX12_looked.cls yX12_looked yX12_looked ∈ zT := ⟨zw_1165, zw_1166, zw_1167⟩
theorem zw_711 : Cond.code yX11_act cX11_act 5 (some .int) ∈ zT := zT_t (i := 711) (by decide +kernel) (by decide +kernel)
theorem co_X11_act : zCo yX11_act cX11_act 5 (some .int) 3 := ⟨zw_711, zw_1, by decide +kernel, by decide +kernel, by decide +kernel⟩
theorem zw_708 : Cond.methodLink "LowWaterLaw" 129 yX11_act ∈ zT := zT_t (i := 708) (by decide +kernel) (by decide +kernel)
theorem zw_709 : Cond.instanceMethod yX11_act ∈ zT := zT_t (i := 709) (by decide +kernel) (by decide +kernel)
theorem zw_710 : Cond.selects "LowWater" yX11_act yX11_act ∈ zT := zT_t (i := 710) (by decide +kernel) (by decide +kernel)
theorem k_L_129 : Cond.methodLink "LowWaterLaw" 129 yX11_act ∈ zT ∧ Cond.instanceMethod yX11_act ∈ zT ∧ Cond.selects yX11_act.cls yX11_act yX11_act ∈ zT := ⟨zw_708, zw_709, zw_710⟩
theorem zw_1172 : Cond.code yX12_act cX12_act 4 (some .int) ∈ zT := zT_t (i := 1172) (by decide +kernel) (by decide +kernel)
theorem co_X12_act : zCo yX12_act cX12_act 4 (some .int) 3 := ⟨zw_1172, zw_6, by decide +kernel, by decide +kernel, by decide +kernel⟩
theorem zw_1169 : Cond.methodLink "LowWaterLaw" 132 yX12_act ∈ zT := zT_t (i := 1169) (by decide +kernel) (by decide +kernel)
theorem zw_1170 : Cond.instanceMethod yX12_act ∈ zT := zT_t (i := 1170) (by decide +kernel) (by decide +kernel)
theorem zw_1171 : Cond.selects "LowWaterModel" yX12_act yX12_act ∈ zT := zT_t (i := 1171) (by decide +kernel) (by decide +kernel)
theorem k_L_132 : Cond.methodLink "LowWaterLaw" 132 yX12_act ∈ zT ∧ Cond.instanceMethod yX12_act ∈ zT ∧ Cond.selects yX12_act.cls yX12_act yX12_act ∈ zT := ⟨zw_1169, zw_1170, zw_1171⟩
theorem zw_785 : Cond.code yX11_trace cX11_trace 2 (some .int) ∈ zT := zT_t (i := 785) (by decide +kernel) (by decide +kernel)
theorem co_X11_trace : zCo yX11_trace cX11_trace 2 (some .int) 1 := ⟨zw_785, zw_1, by decide +kernel, by decide +kernel, by decide +kernel⟩
theorem zw_782 : Cond.methodLink "LowWaterLaw" 133 yX11_trace ∈ zT := zT_t (i := 782) (by decide +kernel) (by decide +kernel)
theorem zw_783 : Cond.instanceMethod yX11_trace ∈ zT := zT_t (i := 783) (by decide +kernel) (by decide +kernel)
theorem zw_784 : Cond.selects "LowWater" yX11_trace yX11_trace ∈ zT := zT_t (i := 784) (by decide +kernel) (by decide +kernel)
theorem k_L_133 : Cond.methodLink "LowWaterLaw" 133 yX11_trace ∈ zT ∧ Cond.instanceMethod yX11_trace ∈ zT ∧ Cond.selects yX11_trace.cls yX11_trace yX11_trace ∈ zT := ⟨zw_782, zw_783, zw_784⟩
theorem zw_1207 : Cond.code yX12_trace cX12_trace 2 (some .int) ∈ zT := zT_t (i := 1207) (by decide +kernel) (by decide +kernel)
theorem co_X12_trace : zCo yX12_trace cX12_trace 2 (some .int) 1 := ⟨zw_1207, zw_6, by decide +kernel, by decide +kernel, by decide +kernel⟩
theorem zw_1204 : Cond.methodLink "LowWaterLaw" 136 yX12_trace ∈ zT := zT_t (i := 1204) (by decide +kernel) (by decide +kernel)
theorem zw_1205 : Cond.instanceMethod yX12_trace ∈ zT := zT_t (i := 1205) (by decide +kernel) (by decide +kernel)
theorem zw_1206 : Cond.selects "LowWaterModel" yX12_trace yX12_trace ∈ zT := zT_t (i := 1206) (by decide +kernel) (by decide +kernel)
theorem k_L_136 : Cond.methodLink "LowWaterLaw" 136 yX12_trace ∈ zT ∧ Cond.instanceMethod yX12_trace ∈ zT ∧ Cond.selects yX12_trace.cls yX12_trace yX12_trace ∈ zT := ⟨zw_1204, zw_1205, zw_1206⟩
theorem zw_789 : Cond.code yX11_as cX11_as 4 (some .int) ∈ zT := zT_t (i := 789) (by decide +kernel) (by decide +kernel)
theorem co_X11_as : zCo yX11_as cX11_as 4 (some .int) 2 := ⟨zw_789, zw_1, by decide +kernel, by decide +kernel, by decide +kernel⟩
theorem zw_786 : Cond.methodLink "LowWaterLaw" 137 yX11_as ∈ zT := zT_t (i := 786) (by decide +kernel) (by decide +kernel)
theorem zw_787 : Cond.instanceMethod yX11_as ∈ zT := zT_t (i := 787) (by decide +kernel) (by decide +kernel)
theorem zw_788 : Cond.selects "LowWater" yX11_as yX11_as ∈ zT := zT_t (i := 788) (by decide +kernel) (by decide +kernel)
theorem k_L_137 : Cond.methodLink "LowWaterLaw" 137 yX11_as ∈ zT ∧ Cond.instanceMethod yX11_as ∈ zT ∧ Cond.selects yX11_as.cls yX11_as yX11_as ∈ zT := ⟨zw_786, zw_787, zw_788⟩
theorem zw_1211 : Cond.code yX12_as cX12_as 3 (some .int) ∈ zT := zT_t (i := 1211) (by decide +kernel) (by decide +kernel)
theorem co_X12_as : zCo yX12_as cX12_as 3 (some .int) 2 := ⟨zw_1211, zw_6, by decide +kernel, by decide +kernel, by decide +kernel⟩
theorem zw_1208 : Cond.methodLink "LowWaterLaw" 140 yX12_as ∈ zT := zT_t (i := 1208) (by decide +kernel) (by decide +kernel)
theorem zw_1209 : Cond.instanceMethod yX12_as ∈ zT := zT_t (i := 1209) (by decide +kernel) (by decide +kernel)
theorem zw_1210 : Cond.selects "LowWaterModel" yX12_as yX12_as ∈ zT := zT_t (i := 1210) (by decide +kernel) (by decide +kernel)
theorem k_L_140 : Cond.methodLink "LowWaterLaw" 140 yX12_as ∈ zT ∧ Cond.instanceMethod yX12_as ∈ zT ∧ Cond.selects yX12_as.cls yX12_as yX12_as ∈ zT := ⟨zw_1208, zw_1209, zw_1210⟩
theorem zw_822 : Cond.code yX11_image cX11_image 1 (some .int) ∈ zT := zT_t (i := 822) (by decide +kernel) (by decide +kernel)
theorem co_X11_image : zCo yX11_image cX11_image 1 (some .int) 0 := ⟨zw_822, zw_1, by decide +kernel, by decide +kernel, by decide +kernel⟩
theorem zw_819 : Cond.methodLink "LowWaterLaw" 141 yX11_image ∈ zT := zT_t (i := 819) (by decide +kernel) (by decide +kernel)
theorem zw_820 : Cond.instanceMethod yX11_image ∈ zT := zT_t (i := 820) (by decide +kernel) (by decide +kernel)
theorem zw_821 : Cond.selects "LowWater" yX11_image yX11_image ∈ zT := zT_t (i := 821) (by decide +kernel) (by decide +kernel)
theorem k_L_141 : Cond.methodLink "LowWaterLaw" 141 yX11_image ∈ zT ∧ Cond.instanceMethod yX11_image ∈ zT ∧ Cond.selects yX11_image.cls yX11_image yX11_image ∈ zT := ⟨zw_819, zw_820, zw_821⟩
theorem zw_1215 : Cond.code yX12_image cX12_image 2 (some .int) ∈ zT := zT_t (i := 1215) (by decide +kernel) (by decide +kernel)
theorem co_X12_image : zCo yX12_image cX12_image 2 (some .int) 0 := ⟨zw_1215, zw_6, by decide +kernel, by decide +kernel, by decide +kernel⟩
theorem zw_1212 : Cond.methodLink "LowWaterLaw" 144 yX12_image ∈ zT := zT_t (i := 1212) (by decide +kernel) (by decide +kernel)
theorem zw_1213 : Cond.instanceMethod yX12_image ∈ zT := zT_t (i := 1213) (by decide +kernel) (by decide +kernel)
theorem zw_1214 : Cond.selects "LowWaterModel" yX12_image yX12_image ∈ zT := zT_t (i := 1214) (by decide +kernel) (by decide +kernel)
theorem k_L_144 : Cond.methodLink "LowWaterLaw" 144 yX12_image ∈ zT ∧ Cond.instanceMethod yX12_image ∈ zT ∧ Cond.selects yX12_image.cls yX12_image yX12_image ∈ zT := ⟨zw_1212, zw_1213, zw_1214⟩
theorem zw_839 : Cond.code yX11_undo cX11_undo 1 (some .int) ∈ zT := zT_t (i := 839) (by decide +kernel) (by decide +kernel)
theorem co_X11_undo : zCo yX11_undo cX11_undo 1 (some .int) 0 := ⟨zw_839, zw_1, by decide +kernel, by decide +kernel, by decide +kernel⟩
theorem zw_836 : Cond.methodLink "LowWaterLaw" 145 yX11_undo ∈ zT := zT_t (i := 836) (by decide +kernel) (by decide +kernel)
theorem zw_837 : Cond.instanceMethod yX11_undo ∈ zT := zT_t (i := 837) (by decide +kernel) (by decide +kernel)
theorem zw_838 : Cond.selects "LowWater" yX11_undo yX11_undo ∈ zT := zT_t (i := 838) (by decide +kernel) (by decide +kernel)
theorem k_L_145 : Cond.methodLink "LowWaterLaw" 145 yX11_undo ∈ zT ∧ Cond.instanceMethod yX11_undo ∈ zT ∧ Cond.selects yX11_undo.cls yX11_undo yX11_undo ∈ zT := ⟨zw_836, zw_837, zw_838⟩
theorem zw_1219 : Cond.code yX12_undo cX12_undo 2 (some .int) ∈ zT := zT_t (i := 1219) (by decide +kernel) (by decide +kernel)
theorem co_X12_undo : zCo yX12_undo cX12_undo 2 (some .int) 0 := ⟨zw_1219, zw_6, by decide +kernel, by decide +kernel, by decide +kernel⟩
theorem zw_1216 : Cond.methodLink "LowWaterLaw" 148 yX12_undo ∈ zT := zT_t (i := 1216) (by decide +kernel) (by decide +kernel)
theorem zw_1217 : Cond.instanceMethod yX12_undo ∈ zT := zT_t (i := 1217) (by decide +kernel) (by decide +kernel)
theorem zw_1218 : Cond.selects "LowWaterModel" yX12_undo yX12_undo ∈ zT := zT_t (i := 1218) (by decide +kernel) (by decide +kernel)
theorem k_L_148 : Cond.methodLink "LowWaterLaw" 148 yX12_undo ∈ zT ∧ Cond.instanceMethod yX12_undo ∈ zT ∧ Cond.selects yX12_undo.cls yX12_undo yX12_undo ∈ zT := ⟨zw_1216, zw_1217, zw_1218⟩
theorem zw_843 : Cond.code yX11_count cX11_count 2 (some .int) ∈ zT := zT_t (i := 843) (by decide +kernel) (by decide +kernel)
theorem co_X11_count : zCo yX11_count cX11_count 2 (some .int) 1 := ⟨zw_843, zw_1, by decide +kernel, by decide +kernel, by decide +kernel⟩
theorem zw_840 : Cond.methodLink "LowWaterLaw" 149 yX11_count ∈ zT := zT_t (i := 840) (by decide +kernel) (by decide +kernel)
theorem zw_841 : Cond.instanceMethod yX11_count ∈ zT := zT_t (i := 841) (by decide +kernel) (by decide +kernel)
theorem zw_842 : Cond.selects "LowWater" yX11_count yX11_count ∈ zT := zT_t (i := 842) (by decide +kernel) (by decide +kernel)
theorem k_L_149 : Cond.methodLink "LowWaterLaw" 149 yX11_count ∈ zT ∧ Cond.instanceMethod yX11_count ∈ zT ∧ Cond.selects yX11_count.cls yX11_count yX11_count ∈ zT := ⟨zw_840, zw_841, zw_842⟩
theorem zw_1223 : Cond.code yX12_count cX12_count 2 (some .int) ∈ zT := zT_t (i := 1223) (by decide +kernel) (by decide +kernel)
theorem co_X12_count : zCo yX12_count cX12_count 2 (some .int) 1 := ⟨zw_1223, zw_6, by decide +kernel, by decide +kernel, by decide +kernel⟩
theorem zw_1220 : Cond.methodLink "LowWaterLaw" 152 yX12_count ∈ zT := zT_t (i := 1220) (by decide +kernel) (by decide +kernel)
theorem zw_1221 : Cond.instanceMethod yX12_count ∈ zT := zT_t (i := 1221) (by decide +kernel) (by decide +kernel)
theorem zw_1222 : Cond.selects "LowWaterModel" yX12_count yX12_count ∈ zT := zT_t (i := 1222) (by decide +kernel) (by decide +kernel)
theorem k_L_152 : Cond.methodLink "LowWaterLaw" 152 yX12_count ∈ zT ∧ Cond.instanceMethod yX12_count ∈ zT ∧ Cond.selects yX12_count.cls yX12_count yX12_count ∈ zT := ⟨zw_1220, zw_1221, zw_1222⟩
theorem zw_61 : Cond.arrayClass .int ∈ zT := zT_t (i := 61) (by decide +kernel) (by decide +kernel)
theorem ar_int : Cond.arrayClass .int ∈ zT := zw_61
theorem zw_299 : Cond.arrayClass .byte ∈ zT := zT_t (i := 299) (by decide +kernel) (by decide +kernel)
theorem ar_byte : Cond.arrayClass .byte ∈ zT := zw_299
theorem zw_922 : Cond.arrayClass .boolean ∈ zT := zT_t (i := 922) (by decide +kernel) (by decide +kernel)
theorem ar_boolean : Cond.arrayClass .boolean ∈ zT := zw_922
