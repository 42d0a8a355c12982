/-! the law's loop -/
theorem lI.le {g : zG} {h : Hp} {x M M' : Nat} (p : lI g h x M) (q : M ≤ M') : lI g h x M' := by
  obtain ⟨ca, cs, N, T, Q, n, S2, T2, Q2, n2, tn, F, A, hc, eM, hz, hN, h2, h20, ht⟩ := p
  exact ⟨ca, cs, N, T, Q, n, S2, T2, Q2, n2, tn, F, A, hc, eM, hz, by omega, h2, h20, ht⟩
theorem any_nI (z : Int32) : ∃ n : Nat, n < 2 ^ 32 ∧ z = nI n := by
  refine ⟨z.toBitVec.toNat, z.toBitVec.isLt, ?_⟩
  apply Int32.toBitVec_inj.mp
  apply BitVec.eq_of_toNat_eq
  show z.toBitVec.toNat = z.toBitVec.toNat % 2 ^ 32
  exact (Nat.mod_eq_of_lt z.toBitVec.isLt).symm
theorem and_63 (z : Int32) : ∃ k : Nat, k < 64 ∧ z &&& 63 = nI k := by
  obtain ⟨n, hn, rfl⟩ := any_nI z
  exact ⟨n % 2 ^ 6, Nat.mod_lt _ (by decide), pk_andN hn 6 (by decide)⟩
theorem lt_m5 {i L : Nat} (hi : i < 2 ^ 30) (hL : L < 2 ^ 30) : nI L - 5 < nI i ↔ L < i + 5 := by
  rw [Int32.lt_iff_toInt_lt, show (nI L - 5).toInt = (L : Int) - (5 : Nat) from pk_sub_toInt (a := L) (b := 5) hL (by decide), nI_toInt (by omega)]
  omega
set_option maxRecDepth 100000 in
set_option maxHeartbeats 4000000 in
theorem law_lp {X : zX} {nm : String} {b L x : Nat} {xs : Nat → Int32} (B : zB X cL_law 4 "LowWaterLaw" nm ret) (hX : lX X b L xs) (hr : zXr X = room_1) (hL : L ≤ 2560) : ∀ (fu i M : Nat) (h : Hp), L < i + 5 * fu + 5 → i ≤ L → M + 4 * fu ≤ 2 ^ 18 → lI (zXg X) h x M → AW X fu (2 * fu) 18 [some (.ref b), some (.ref x), some (.ref (x + 54)), some (.int (nI i))] [] h (fun v _ => v = some (.int 1)) := by
  have hex : ∀ (rc rs i : Nat) (h : Hp), AW X rc rs 1153 [some (.ref b), some (.ref x), some (.ref (x + 54)), some (.int (nI i))] [] h (fun v _ => v = some (.int 1)) := by
    intro rc rs i h
    refine aw_iconst B 1 (by decide) dL_law_1153 ?_
    refine aw_iret B rfl rfl dL_law_1154 ?_
    rfl
  intro fu
  induction fu with
  | zero =>
    intro i M h h1 h2 h3 hI
    refine aw_iload_n B 3 rfl dL_law_18 rfl ?_
    refine aw_aload_n B 0 rfl dL_law_19 rfl ?_
    refine aw_slen B hX dL_law_20 ?_
    refine aw_iconst B 5 (by decide) dL_law_21 ?_
    refine aw_isub B dL_law_22 ?_
    refine aw_icmp_gt B 1153 dL_law_23 (fun _ => hex _ _ _ _) (fun c23 => absurd ((lt_m5 (by omega) (by omega)).mpr (by omega)) c23)
  | succ fu ih =>
    intro i M h h1 h2 h3 hI
    refine aw_iload_n B 3 rfl dL_law_18 rfl ?_
    refine aw_aload_n B 0 rfl dL_law_19 rfl ?_
    refine aw_slen B hX dL_law_20 ?_
    refine aw_iconst B 5 (by decide) dL_law_21 ?_
    refine aw_isub B dL_law_22 ?_
    refine aw_icmp_gt B 1153 dL_law_23 (fun _ => hex _ _ _ _) (fun c23 => ?_)
    have hi : i + 5 ≤ L := by
      rcases Nat.lt_or_ge L (i + 5) with z | z
      · exact absurd ((lt_m5 (by omega) (by omega)).mpr z) c23
      · exact z
    have kk : ∀ h', lI (zXg X) h' x (M + 4) → AW X fu (2 * fu) 1147 [some (.ref b), some (.ref x), some (.ref (x + 54)), some (.int (nI i))] [] h' (fun v _ => v = some (.int 1)) := by
      intro h' hI'
      refine aw_iinc3 B 5 (by decide) dL_law_1147 ?_
      refine aw_goto B 18 dL_law_1150 ?_
      rw [show nI i + 5 = nI (i + 5) from nI_add (a := i) (b := 5)]
      exact ih (i + 5) (M + 4) h' (by omega) hi (by omega) hI'
    refine aw_aload_n B 0 rfl dL_law_26 rfl ?_
    refine aw_iload_n B 3 rfl dL_law_27 rfl ?_
    refine aw_sld B hX (j := i) (by omega) (by omega) dL_law_28 ?_
    refine aw_bipush B 63 (by decide) dL_law_29 ?_
    refine aw_iand B dL_law_31 ?_
    obtain ⟨k, hk, ek⟩ := and_63 (xs i)
    rw [ek]
    have hM : M ≤ 2 ^ 18 := by omega
    rcases (show k = 0 ∨ k = 1 ∨ k = 2 ∨ k = 3 ∨ k = 4 ∨ k = 5 ∨ k = 6 ∨ k = 7 ∨ k = 8 ∨ k = 9 ∨ k = 10 ∨ k = 11 ∨ k = 12 ∨ k = 13 ∨ k = 14 ∨ k = 15 ∨ k = 16 ∨ k = 17 ∨ k = 18 ∨ k = 19 ∨ k = 20 ∨ k = 21 ∨ k = 22 ∨ k = 23 ∨ k = 24 ∨ k = 25 ∨ k = 26 ∨ k = 27 ∨ k = 28 ∨ k = 29 ∨ k = 30 ∨ k = 31 ∨ k = 32 ∨ 33 ≤ k by omega) with rfl | rfl | rfl | rfl | rfl | rfl | rfl | rfl | rfl | rfl | rfl | rfl | rfl | rfl | rfl | rfl | rfl | rfl | rfl | rfl | rfl | rfl | rfl | rfl | rfl | rfl | rfl | rfl | rfl | rfl | rfl | rfl | rfl | hk33
    · exact aw_tableIn (off := 148) B 180 dL_law_32 (by decide) (by decide) (by decide) (law_0 B hX hr hi hL hM hI kk)
    · exact aw_tableIn (off := 171) B 203 dL_law_32 (by decide) (by decide) (by decide) (law_1 B hX hr hi hL hM hI kk)
    · exact aw_tableIn (off := 184) B 216 dL_law_32 (by decide) (by decide) (by decide) (law_2 B hX hr hi hL hM hI kk)
    · exact aw_tableIn (off := 217) B 249 dL_law_32 (by decide) (by decide) (by decide) (law_3 B hX hr hi hL hM hI kk)
    · exact aw_tableIn (off := 250) B 282 dL_law_32 (by decide) (by decide) (by decide) (law_4 B hX hr hi hL hM hI kk)
    · exact aw_tableIn (off := 283) B 315 dL_law_32 (by decide) (by decide) (by decide) (law_5 B hX hr hi hL hM hI kk)
    · exact aw_tableIn (off := 316) B 348 dL_law_32 (by decide) (by decide) (by decide) (law_6 B hX hr hi hL hM hI kk)
    · exact aw_tableIn (off := 349) B 381 dL_law_32 (by decide) (by decide) (by decide) (law_7 B hX hr hi hL hM hI kk)
    · exact aw_tableIn (off := 382) B 414 dL_law_32 (by decide) (by decide) (by decide) (law_8 B hX hr hi hL hM hI kk)
    · exact aw_tableIn (off := 405) B 437 dL_law_32 (by decide) (by decide) (by decide) (law_9 B hX hr hi hL hM hI kk)
    · exact aw_tableIn (off := 428) B 460 dL_law_32 (by decide) (by decide) (by decide) (law_10 B hX hr hi hL hM hI kk)
    · exact aw_tableIn (off := 451) B 483 dL_law_32 (by decide) (by decide) (by decide) (law_11 B hX hr hi hL hM hI kk)
    · exact aw_tableIn (off := 484) B 516 dL_law_32 (by decide) (by decide) (by decide) (law_12 B hX hr hi hL hM hI kk)
    · exact aw_tableIn (off := 527) B 559 dL_law_32 (by decide) (by decide) (by decide) (law_13 B hX hr hi hL hM hI kk)
    · exact aw_tableIn (off := 580) B 612 dL_law_32 (by decide) (by decide) (by decide) (law_14 B hX hr hi hL hM hI kk)
    · exact aw_tableIn (off := 623) B 655 dL_law_32 (by decide) (by decide) (by decide) (law_15 B hX hr hi hL hM hI kk)
    · exact aw_tableIn (off := 636) B 668 dL_law_32 (by decide) (by decide) (by decide) (law_16 B hX hr hi hL hM hI kk)
    · exact aw_tableIn (off := 669) B 701 dL_law_32 (by decide) (by decide) (by decide) (law_17 B hX hr hi hL hM hI kk)
    · exact aw_tableIn (off := 682) B 714 dL_law_32 (by decide) (by decide) (by decide) (law_18 B hX hr hi hL hM hI kk)
    · exact aw_tableIn (off := 705) B 737 dL_law_32 (by decide) (by decide) (by decide) (law_19 B hX hr hi hL hM hI kk)
    · exact aw_tableIn (off := 748) B 780 dL_law_32 (by decide) (by decide) (by decide) (law_20 B hX hr hi hL hM hI kk)
    · exact aw_tableIn (off := 771) B 803 dL_law_32 (by decide) (by decide) (by decide) (law_21 B hX hr hi hL hM hI kk)
    · exact aw_tableIn (off := 815) B 847 dL_law_32 (by decide) (by decide) (by decide) (law_22 B hX hr hi hL hM hI kk)
    · exact aw_tableIn (off := 849) B 881 dL_law_32 (by decide) (by decide) (by decide) (law_23 B hX hr hi hL hM hI kk)
    · exact aw_tableIn (off := 898) B 930 dL_law_32 (by decide) (by decide) (by decide) (law_24 B hX hr hi hL hM hI kk)
    · exact aw_tableIn (off := 911) B 943 dL_law_32 (by decide) (by decide) (by decide) (law_25 B hX hr hi hL hM hI kk)
    · exact aw_tableIn (off := 954) B 986 dL_law_32 (by decide) (by decide) (by decide) (law_26 B hX hr hi hL hM hI kk)
    · exact aw_tableIn (off := 967) B 999 dL_law_32 (by decide) (by decide) (by decide) (law_27 B hX hr hi hL hM hI kk)
    · exact aw_tableIn (off := 1010) B 1042 dL_law_32 (by decide) (by decide) (by decide) (law_28 B hX hr hi hL hM hI kk)
    · exact aw_tableIn (off := 1033) B 1065 dL_law_32 (by decide) (by decide) (by decide) (law_29 B hX hr hi hL hM hI kk)
    · exact aw_tableIn (off := 1066) B 1098 dL_law_32 (by decide) (by decide) (by decide) (law_30 B hX hr hi hL hM hI kk)
    · exact aw_tableIn (off := 1079) B 1111 dL_law_32 (by decide) (by decide) (by decide) (law_31 B hX hr hi hL hM hI kk)
    · exact aw_tableIn (off := 1092) B 1124 dL_law_32 (by decide) (by decide) (by decide) (law_32 B hX hr hi hL hM hI kk)
    · exact aw_tableOut B 1147 dL_law_32 (Or.inr (by rw [nI_toInt (by omega)]; omega)) (aw_le (kk h (hI.le (Nat.le_add_right _ _))) (Nat.le_succ _) (by omega))
/-! the strings of the claim -/
def tmS : Nat → Term := fun i => if i = 0 then .string "LowWater$Cave" 84 else if i = 1 then .string "LowWater$Cave" 86 else if i = 2 then .string "LowWater$Cave" 88 else if i = 3 then .string "LowWaterModel" 90 else .string "LowWaterModel" 96
def gv1 : List Cond := flatC (Jvm.Cond.and given_1 narrow_1)
theorem gv_ex : ∀ i, i < 5 → Cond.exactly (tmS i) "java/lang/String" ∈ gv1 := by decide +kernel
theorem gv_co : ∀ i, i < 5 → Cond.eq (.field (tmS i) "java/lang/String" "coder" "B") (.int 0) ∈ gv1 := by decide +kernel
theorem gv_ar : ∀ i, i < 5 → Cond.arrayOf (.field (tmS i) "java/lang/String" "value" "[B") .byte ∈ gv1 := by decide +kernel
theorem gv_le : ∀ i, i < 5 → Cond.eq (.length (.field (tmS i) "java/lang/String" "value" "[B")) (.int (Int32.ofNat (zLen.getD i 0))) ∈ gv1 := by decide +kernel
theorem gv_el : ∀ i, i < 5 → ∀ j, j < zLen.getD i 0 → Cond.eq (.elem (.field (tmS i) "java/lang/String" "value" "[B") (.int (Int32.ofNat j))) (.int ((zByt.getD i []).getD j 0)) ∈ gv1 := by decide +kernel
theorem gv_ne : ∀ i, i < 5 → ∀ j, j < 5 → i < j → Cond.not (Cond.eq (tmS i) (tmS j)) ∈ gv1 := by decide +kernel
theorem eqR {args : Array Value} {s : State} {t u : Term} {a b : Nat} (h : (Cond.eq t u).before args s = true) (ht : t.eval args s none [] s = some (.ref a)) (hu : u.eval args s none [] s = some (.ref b)) : a = b := by
  simpa [Cond.before, Cond.holds, Cond.value, ht, hu] using h
set_option maxRecDepth 100000 in
set_option maxHeartbeats 4000000 in
theorem zN_of {s : State} {A : Array Value} (hts : ∀ w ∈ lw_tbl, w.before A s = true) : zN s := by
  refine ⟨?_, ?_⟩
  · show ∀ q ∈ zNF, _
    unfold zNF
    exact List.forall_mem_cons.mpr ⟨va_Nw.of rfl (hts _ (List.mem_append_right _ (List.mem_of_getElem? (i := 71) (by decide +kernel)))), List.forall_mem_cons.mpr ⟨va_Nw.of rfl (hts _ (List.mem_append_right _ (List.mem_of_getElem? (i := 73) (by decide +kernel)))), List.forall_mem_cons.mpr ⟨va_Nw.of rfl (hts _ (List.mem_append_right _ (List.mem_of_getElem? (i := 74) (by decide +kernel)))), List.forall_mem_cons.mpr ⟨va_Nw.of rfl (hts _ (List.mem_append_right _ (List.mem_of_getElem? (i := 81) (by decide +kernel)))), List.forall_mem_cons.mpr ⟨va_Nw.of rfl (hts _ (List.mem_append_right _ (List.mem_of_getElem? (i := 82) (by decide +kernel)))), List.forall_mem_cons.mpr ⟨va_Nw.of rfl (hts _ (List.mem_append_right _ (List.mem_of_getElem? (i := 84) (by decide +kernel)))), List.forall_mem_cons.mpr ⟨va_Nw.of rfl (hts _ (List.mem_append_right _ (List.mem_of_getElem? (i := 86) (by decide +kernel)))), List.forall_mem_cons.mpr ⟨va_Nw.of rfl (hts _ (List.mem_append_right _ (List.mem_of_getElem? (i := 88) (by decide +kernel)))), List.forall_mem_cons.mpr ⟨va_Nw.of rfl (hts _ (List.mem_append_right _ (List.mem_of_getElem? (i := 89) (by decide +kernel)))), List.forall_mem_cons.mpr ⟨va_Nw.of rfl (hts _ (List.mem_append_right _ (List.mem_of_getElem? (i := 91) (by decide +kernel)))), List.forall_mem_cons.mpr ⟨va_Nw.of rfl (hts _ (List.mem_append_right _ (List.mem_of_getElem? (i := 93) (by decide +kernel)))), List.forall_mem_cons.mpr ⟨va_Nw.of rfl (hts _ (List.mem_append_right _ (List.mem_of_getElem? (i := 95) (by decide +kernel)))), List.forall_mem_cons.mpr ⟨va_Nw.of rfl (hts _ (List.mem_append_right _ (List.mem_of_getElem? (i := 96) (by decide +kernel)))), List.forall_mem_cons.mpr ⟨va_Nw.of rfl (hts _ (List.mem_append_right _ (List.mem_of_getElem? (i := 98) (by decide +kernel)))), List.forall_mem_cons.mpr ⟨va_Nw.of rfl (hts _ (List.mem_append_right _ (List.mem_of_getElem? (i := 99) (by decide +kernel)))), List.forall_mem_cons.mpr ⟨va_Nw.of rfl (hts _ (List.mem_append_right _ (List.mem_of_getElem? (i := 101) (by decide +kernel)))), List.forall_mem_cons.mpr ⟨va_Nw.of rfl (hts _ (List.mem_append_right _ (List.mem_of_getElem? (i := 103) (by decide +kernel)))), List.forall_mem_cons.mpr ⟨va_Nw.of rfl (hts _ (List.mem_append_right _ (List.mem_of_getElem? (i := 105) (by decide +kernel)))), List.forall_mem_nil _⟩⟩⟩⟩⟩⟩⟩⟩⟩⟩⟩⟩⟩⟩⟩⟩⟩⟩
  · show ∀ q ∈ zNM, _
    unfold zNM
    exact List.forall_mem_cons.mpr ⟨va_Nw.of rfl (hts _ (List.mem_append_right _ (List.mem_of_getElem? (i := 32) (by decide +kernel)))), List.forall_mem_cons.mpr ⟨va_Nw.of rfl (hts _ (List.mem_append_right _ (List.mem_of_getElem? (i := 38) (by decide +kernel)))), List.forall_mem_cons.mpr ⟨va_Nw.of rfl (hts _ (List.mem_append_right _ (List.mem_of_getElem? (i := 130) (by decide +kernel)))), List.forall_mem_cons.mpr ⟨va_Nw.of rfl (hts _ (List.mem_append_right _ (List.mem_of_getElem? (i := 135) (by decide +kernel)))), List.forall_mem_cons.mpr ⟨va_Nw.of rfl (hts _ (List.mem_append_right _ (List.mem_of_getElem? (i := 577) (by decide +kernel)))), List.forall_mem_nil _⟩⟩⟩⟩⟩
set_option maxRecDepth 100000 in
set_option maxHeartbeats 4000000 in
theorem zStr_of {s : State} {A : Array Value} (g0 : va_G) (gc : ClassId × ClassId × ClassId) (hts : ∀ w ∈ lw_tbl, w.before A s = true) (hgv : (Jvm.Cond.and given_1 narrow_1).before A s = true) : ∃ adK adV : Nat → Nat, zStr (g0, s.heap, gc, adK, adV) s := by
  have hs : ∀ w ∈ gv1, w.before A s = true := flat_of_before _ hgv
  have hA : ∀ a : Nat, a < s.heap.size → ¬ s.heap.size ≤ a := fun a h => Nat.not_le.mpr h
  obtain ⟨adK, adV, hS, ev⟩ := vk_Sof (args := A) (s := s) (N := 5) (tm := tmS) (len := zLen) (byt := zByt) (A := fun q => s.heap.size ≤ q) (by decide) (fun i hi => hs _ (gv_ex i hi)) (fun i hi => hs _ (gv_co i hi)) (fun i hi => hs _ (gv_ar i hi)) (fun i hi => hs _ (gv_le i hi)) (fun i hi j hj => hs _ (gv_el i hi j hj)) (fun i j hi hj hij => by
    rcases Nat.lt_or_gt_of_ne hij with z | z
    · exact Or.inl (hs _ (gv_ne i hi j hj z))
    · exact Or.inr (hs _ (gv_ne j hj i hi z))) hA
  have oth : ∀ (k j : Nat), j < 5 → (Cond.exactly (.string "LowWaterModel" k) "java/lang/String").before A s = true → (Cond.eq (tmS j) (.string "LowWaterModel" k)).before A s = true → (Term.string "LowWaterModel" k).eval A s none [] s = some (.ref (adK j)) := by
    intro k j hj h1 h2
    obtain ⟨a, c, cA, kA, q1, -⟩ := Cond.exactly_spec (args := A) (first := s) (o := none) (s := s) (idx := []) (t := .string "LowWaterModel" k) (cls := "java/lang/String") h1
    rw [q1, eqR h2 (ev j hj) q1]
  have e108 := oth 108 0 (by decide) (hs _ (by decide +kernel)) (hs _ (by decide +kernel))
  have e114 := oth 114 1 (by decide) (hs _ (by decide +kernel)) (hs _ (by decide +kernel))
  have e116 := oth 116 2 (by decide) (hs _ (by decide +kernel)) (hs _ (by decide +kernel))
  refine ⟨adK, adV, hS, ?_, ?_, ?_⟩
  · show ∀ q ∈ zSR, _
    unfold zSR
    exact List.forall_mem_cons.mpr ⟨vk_R.of (hts _ (List.mem_append_right _ (List.mem_of_getElem? (i := 220) (by decide +kernel)))) (ev 0 (by decide)), List.forall_mem_cons.mpr ⟨vk_R.of (hts _ (List.mem_append_right _ (List.mem_of_getElem? (i := 221) (by decide +kernel)))) (ev 1 (by decide)), List.forall_mem_cons.mpr ⟨vk_R.of (hts _ (List.mem_append_right _ (List.mem_of_getElem? (i := 222) (by decide +kernel)))) (ev 2 (by decide)), List.forall_mem_cons.mpr ⟨vk_R.of (hts _ (List.mem_append_right _ (List.mem_of_getElem? (i := 942) (by decide +kernel)))) (e108), List.forall_mem_cons.mpr ⟨vk_R.of (hts _ (List.mem_append_right _ (List.mem_of_getElem? (i := 983) (by decide +kernel)))) (e114), List.forall_mem_cons.mpr ⟨vk_R.of (hts _ (List.mem_append_right _ (List.mem_of_getElem? (i := 984) (by decide +kernel)))) (e116), List.forall_mem_cons.mpr ⟨vk_R.of (hts _ (List.mem_append_right _ (List.mem_of_getElem? (i := 977) (by decide +kernel)))) (ev 3 (by decide)), List.forall_mem_cons.mpr ⟨vk_R.of (hts _ (List.mem_append_right _ (List.mem_of_getElem? (i := 982) (by decide +kernel)))) (ev 4 (by decide)), List.forall_mem_nil _⟩⟩⟩⟩⟩⟩⟩⟩
  · exact va_Zof (hts _ (List.mem_append_right _ (List.mem_of_getElem? (i := 232) (by decide +kernel)))) (hts _ (List.mem_append_right _ (List.mem_of_getElem? (i := 8) (by decide +kernel)))) (va_eqt (hs _ (by decide +kernel))) hA
  · obtain ⟨v, hv, hvr⟩ := Cond.isRef_spec (hs (Cond.isRef (.static "jdk/internal/util/Preconditions" "SIOOBE_FORMATTER" "Ljava/util/function/BiFunction;")) (by decide +kernel))
    cases v with
    | null => exact Or.inl (va_Zof (hts _ (List.mem_append_right _ (List.mem_of_getElem? (i := 248) (by decide +kernel)))) (hts _ (List.mem_append_right _ (List.mem_of_getElem? (i := 10) (by decide +kernel)))) hv hA)
    | ref t => exact Or.inr ⟨t, va_Zof (hts _ (List.mem_append_right _ (List.mem_of_getElem? (i := 248) (by decide +kernel)))) (hts _ (List.mem_append_right _ (List.mem_of_getElem? (i := 10) (by decide +kernel)))) hv hA⟩
    | _ => exact absurd hvr (by simp [Value.isRef])
set_option maxRecDepth 100000 in
set_option maxHeartbeats 4000000 in
theorem zKn {s : State} {A : Array Value} (hts : ∀ w ∈ zT, w.before A s = true) : ∃ (dC : Nat → ClassId) (dI : Nat → Nat → Nat), ∀ (k : Nat) (q : vw_C), vwCl[k]? = some q → u_Kn s q.1 q.2.1 q.2.2 (dC k) (dI k) := by
  obtain ⟨c0, i0, hK0⟩ := u_known (C := RX0) (T := TX0) (N := 2) (n := 2) hts in_X0 (hts _ zw_392)
  obtain ⟨c1, i1, hK1⟩ := u_known (C := RX1) (T := TX1) (N := 6) (n := 6) hts in_X1 (hts _ zw_37)
  obtain ⟨c2, i2, hK2⟩ := u_known (C := RX2) (T := TX2) (N := 2) (n := 2) hts in_X2 (hts _ zw_365)
  obtain ⟨c3, i3, hK3⟩ := u_known (C := RX3) (T := TX3) (N := 2) (n := 2) hts in_X3 (hts _ zw_338)
  obtain ⟨c4, i4, hK4⟩ := u_known (C := RX4) (T := TX4) (N := 8) (n := 8) hts in_X4 (hts _ zw_134)
  obtain ⟨c5, i5, hK5⟩ := u_known (C := RX5) (T := TX5) (N := 2) (n := 2) hts in_X5 (hts _ zw_383)
  obtain ⟨c6, i6, hK6⟩ := u_known (C := RX6) (T := TX6) (N := 2) (n := 2) hts in_X6 (hts _ zw_410)
  obtain ⟨c7, i7, hK7⟩ := u_known (C := RX7) (T := TX7) (N := 2) (n := 2) hts in_X7 (hts _ zw_65)
  obtain ⟨c8, i8, hK8⟩ := u_known (C := RX8) (T := TX8) (N := 2) (n := 2) hts in_X8 (hts _ zw_374)
  obtain ⟨c9, i9, hK9⟩ := u_known (C := RX9) (T := TX9) (N := 11) (n := 11) hts in_X9 (hts _ zw_31)
  obtain ⟨c10, i10, hK10⟩ := u_known (C := RX10) (T := TX10) (N := 2) (n := 2) hts in_X10 (hts _ zw_401)
  obtain ⟨c11, i11, hK11⟩ := u_known (C := RX11) (T := TX11) (N := 8) (n := 8) hts in_X11 (hts _ zw_23)
  obtain ⟨c12, i12, hK12⟩ := u_known (C := RX12) (T := TX12) (N := 24) (n := 24) hts in_X12 (hts _ zw_845)
  refine ⟨fun k => if k = 0 then c0 else if k = 1 then c1 else if k = 2 then c2 else if k = 3 then c3 else if k = 4 then c4 else if k = 5 then c5 else if k = 6 then c6 else if k = 7 then c7 else if k = 8 then c8 else if k = 9 then c9 else if k = 10 then c10 else if k = 11 then c11 else c12, fun k => if k = 0 then i0 else if k = 1 then i1 else if k = 2 then i2 else if k = 3 then i3 else if k = 4 then i4 else if k = 5 then i5 else if k = 6 then i6 else if k = 7 then i7 else if k = 8 then i8 else if k = 9 then i9 else if k = 10 then i10 else if k = 11 then i11 else i12, ?_⟩
  intro k q hq
  match k, hq with
  | 0, hq => cases hq; exact hK0
  | 1, hq => cases hq; exact hK1
  | 2, hq => cases hq; exact hK2
  | 3, hq => cases hq; exact hK3
  | 4, hq => cases hq; exact hK4
  | 5, hq => cases hq; exact hK5
  | 6, hq => cases hq; exact hK6
  | 7, hq => cases hq; exact hK7
  | 8, hq => cases hq; exact hK8
  | 9, hq => cases hq; exact hK9
  | 10, hq => cases hq; exact hK10
  | 11, hq => cases hq; exact hK11
  | 12, hq => cases hq; exact hK12
  | k + 13, hq => simp [vwCl] at hq
set_option maxRecDepth 100000 in
set_option maxHeartbeats 4000000 in
theorem zK_of {s : State} {A : Array Value} (hts : ∀ w ∈ lw_tbl, w.before A s = true) (hgv : (Jvm.Cond.and given_1 narrow_1).before A s = true) : ∃ g : zG, g.2.1 = s.heap ∧ zK g s := by
  have htz : ∀ w ∈ zT, w.before A s = true := fun w hw => hts w (List.mem_filter.mp hw).1
  obtain ⟨dC, dI, hKc⟩ := zKn htz
  obtain ⟨cI, kI, pI, a1, a2, a3⟩ := Cond.arrayClass_spec (htz _ ar_int)
  obtain ⟨cZ, kZ, pZ, b1, b2, b3⟩ := Cond.arrayClass_spec (htz _ ar_boolean)
  have hov : (Cond.arrayOver (.object "LowWater$Reader")).before A s = true := hts _ (List.mem_append_right _ (List.mem_of_getElem? (i := 63) (by decide +kernel)))
  obtain ⟨pR, cR, kR, d1, d2, d3, d4, d5⟩ := Cond.arrayOver_spec (n := "LowWater$Reader") hov
  obtain ⟨adK, adV, hStr⟩ := zStr_of (dC, dI) (cI, cZ, cR) hts hgv
  refine ⟨((dC, dI), s.heap, (cI, cZ, cR), adK, adV), rfl, ⟨hKc, ?_⟩, zN_of hts, hStr, va_AO.of hov⟩
  intro k q hq
  match k, hq with
  | 0, hq => cases hq; exact ⟨fun n z => ⟨fun k h => (by cases h), kI, a2, pI, a3⟩, a1⟩
  | 1, hq => cases hq; exact ⟨fun n z => ⟨fun k h => (by cases h), kZ, b2, pZ, b3⟩, b1⟩
  | 2, hq => cases hq; exact ⟨fun n z => ⟨fun k h => (by cases h), kR, d3, pR, d4⟩, kR, pR, d3, d4, d1, d5⟩
  | k + 3, hq => simp at hq
