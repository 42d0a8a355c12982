set_option maxRecDepth 100000 in
set_option maxHeartbeats 4000000 in
theorem vc_X11_122 {X : zX} {cc : ByteArray} {nL pc : Nat} {nm : String} {ret : Option FieldType} {lv : List (Option Value)} {rest : List Value} {h : Hp} {Ko : Option Value → Hp → Prop} (B : zB X cc nL "LowWater" nm ret) {d k : Nat} {a : Nat} {num v : Int32} (hr : zXr X = rmz d) (hdp : 2 ≤ d) (hk : k ≤ 6) (hR : h.2 a = some (.inr (kc k, [.int num, .int v]))) (hd : decode cc pc = .ok (.invokevirtual 122, 3)) (hw : (rest.map fun v => v.category).sum ≤ 8) (kk : AW X 0 0 (pc + 3) lv (.int (nI k) :: rest) h Ko) : AW X 0 0 pc lv (.ref a :: rest) (h) Ko := by
  rcases (show k = 0 ∨ k = 1 ∨ k = 2 ∨ k = 3 ∨ k = 4 ∨ k = 5 ∨ k = 6 by omega) with rfl | rfl | rfl | rfl | rfl | rfl | rfl
  · refine aw_callU B 0 0 (s_kind0 _ _ h a) co_X6_kind ku_X11_122_X6 hd hR rfl rfl rfl rfl hw (zrm hr (by omega)) (Nat.le_refl _) (Nat.le_refl _) (kI fun r9 h9 hp => ?_)
    obtain ⟨rfl, e9⟩ := hp
    rw [e9]
    exact kk
  · refine aw_callU B 0 0 (s_kind1 _ _ h a) co_X3_kind ku_X11_122_X3 hd hR rfl rfl rfl rfl hw (zrm hr (by omega)) (Nat.le_refl _) (Nat.le_refl _) (kI fun r9 h9 hp => ?_)
    obtain ⟨rfl, e9⟩ := hp
    rw [e9]
    exact kk
  · refine aw_callU B 0 0 (s_kind2 _ _ h a) co_X2_kind ku_X11_122_X2 hd hR rfl rfl rfl rfl hw (zrm hr (by omega)) (Nat.le_refl _) (Nat.le_refl _) (kI fun r9 h9 hp => ?_)
    obtain ⟨rfl, e9⟩ := hp
    rw [e9]
    exact kk
  · refine aw_callU B 0 0 (s_kind3 _ _ h a) co_X8_kind ku_X11_122_X8 hd hR rfl rfl rfl rfl hw (zrm hr (by omega)) (Nat.le_refl _) (Nat.le_refl _) (kI fun r9 h9 hp => ?_)
    obtain ⟨rfl, e9⟩ := hp
    rw [e9]
    exact kk
  · refine aw_callU B 0 0 (s_kind4 _ _ h a) co_X5_kind ku_X11_122_X5 hd hR rfl rfl rfl rfl hw (zrm hr (by omega)) (Nat.le_refl _) (Nat.le_refl _) (kI fun r9 h9 hp => ?_)
    obtain ⟨rfl, e9⟩ := hp
    rw [e9]
    exact kk
  · refine aw_callU B 0 0 (s_kind5 _ _ h a) co_X0_kind ku_X11_122_X0 hd hR rfl rfl rfl rfl hw (zrm hr (by omega)) (Nat.le_refl _) (Nat.le_refl _) (kI fun r9 h9 hp => ?_)
    obtain ⟨rfl, e9⟩ := hp
    rw [e9]
    exact kk
  · refine aw_callU B 0 0 (s_kind6 _ _ h a) co_X10_kind ku_X11_122_X10 hd hR rfl rfl rfl rfl hw (zrm hr (by omega)) (Nat.le_refl _) (Nat.le_refl _) (kI fun r9 h9 hp => ?_)
    obtain ⟨rfl, e9⟩ := hp
    rw [e9]
    exact kk
set_option maxRecDepth 100000 in
set_option maxHeartbeats 4000000 in
theorem vc_X11_131 {X : zX} {cc : ByteArray} {nL pc : Nat} {nm : String} {ret : Option FieldType} {lv : List (Option Value)} {rest : List Value} {h : Hp} {Ko : Option Value → Hp → Prop} (B : zB X cc nL "LowWater" nm ret) {d k : Nat} {a v n : Nat} {num : Int32} (hr : zXr X = rmz d) (hdp : 3 ≤ d) (hk : k ≤ 6) (hv : v ≤ 9) (hR : h.2 a = some (.inr (kc k, [.int num, .int (nI v)]))) (h1 : 1 ≤ n) (h4 : n ≤ 4) (hd : decode cc pc = .ok (.invokevirtual 131, 3)) (hw : (rest.map fun v => v.category).sum ≤ 8) (kk : AW X 0 0 (pc + 3) lv (.int (nI (p_needs k v n)) :: rest) h Ko) : AW X 0 0 pc lv (.int (nI n) :: .ref a :: rest) (h) Ko := by
  rcases (show k = 0 ∨ k = 1 ∨ k = 2 ∨ k = 3 ∨ k = 4 ∨ k = 5 ∨ k = 6 by omega) with rfl | rfl | rfl | rfl | rfl | rfl | rfl
  · refine aw_callU B 0 0 (s_hf0 _ _ h a n) co_X6_hoursFor ku_X11_131_X6 hd hR rfl rfl rfl rfl hw (zrm hr (by omega)) (Nat.le_refl _) (Nat.le_refl _) (kI fun r9 h9 hp => ?_)
    obtain ⟨rfl, e9⟩ := hp
    rw [e9]
    exact kk
  · refine aw_callU B 0 0 (s_hf1 _ _ h a n h1 h4) co_X3_hoursFor ku_X11_131_X3 hd hR rfl rfl rfl rfl hw (zrm hr (by omega)) (Nat.le_refl _) (Nat.le_refl _) (kI fun r9 h9 hp => ?_)
    obtain ⟨rfl, e9⟩ := hp
    rw [e9]
    exact kk
  · refine aw_callU B 0 0 (s_hf0 _ _ h a n) co_X6_hoursFor ku_X11_131_X2 hd hR rfl rfl rfl rfl hw (zrm hr (by omega)) (Nat.le_refl _) (Nat.le_refl _) (kI fun r9 h9 hp => ?_)
    obtain ⟨rfl, e9⟩ := hp
    rw [e9]
    exact kk
  · refine aw_callU B 0 0 (s_hf0 _ _ h a n) co_X6_hoursFor ku_X11_131_X8 hd hR rfl rfl rfl rfl hw (zrm hr (by omega)) (Nat.le_refl _) (Nat.le_refl _) (kI fun r9 h9 hp => ?_)
    obtain ⟨rfl, e9⟩ := hp
    rw [e9]
    exact kk
  · refine aw_callU B 0 0 (s_hf4 _ _ h a n v num hR hv h1 h4) co_X5_hoursFor ku_X11_131_X5 hd hR rfl rfl rfl rfl hw (zrm hr (by omega)) (Nat.le_refl _) (Nat.le_refl _) (kI fun r9 h9 hp => ?_)
    obtain ⟨rfl, e9⟩ := hp
    rw [e9]
    exact kk
  · refine aw_callU B 0 0 (s_hf5 _ _ h a n) co_X0_hoursFor ku_X11_131_X0 hd hR rfl rfl rfl rfl hw (zrm hr (by omega)) (Nat.le_refl _) (Nat.le_refl _) (kI fun r9 h9 hp => ?_)
    obtain ⟨rfl, e9⟩ := hp
    rw [e9]
    exact kk
  · refine aw_callU B 0 0 (s_hf0 _ _ h a n) co_X6_hoursFor ku_X11_131_X10 hd hR rfl rfl rfl rfl hw (zrm hr (by omega)) (Nat.le_refl _) (Nat.le_refl _) (kI fun r9 h9 hp => ?_)
    obtain ⟨rfl, e9⟩ := hp
    rw [e9]
    exact kk
set_option maxRecDepth 100000 in
set_option maxHeartbeats 4000000 in
theorem vc_X11_146 {X : zX} {cc : ByteArray} {nL pc : Nat} {nm : String} {ret : Option FieldType} {lv : List (Option Value)} {rest : List Value} {h : Hp} {Ko : Option Value → Hp → Prop} (B : zB X cc nL "LowWater" nm ret) {d k : Nat} {a v w sh n T a0 : Nat} {num : Int32} {Q : pP} (hr : zXr X = rmz d) (hdp : 6 ≤ d) (hk : k ≤ 6) (hv : v ≤ 9) (hR : h.2 a = some (.inr (kc k, [.int num, .int (nI v)]))) (hsh : sh ≤ 8) (h1 : 1 ≤ n) (h4 : n ≤ 4) (hT : T + a0 ≤ 20000) (ha : ¬ (w ≤ a ∧ a < w + 4)) (hC : caveI (zXg X) h w Q) (hd : decode cc pc = .ok (.invokevirtual 146, 3)) (hw : (rest.map fun v => v.category).sum ≤ 8) (kk : ∀ h', caveI (zXg X) h' w Q → only w (w + 4) h h' → AW X 0 0 (pc + 3) lv (.int (orN (sF T Q k v sh (p_needs k v n) a0)) :: rest) h' Ko) : AW X 0 0 pc lv (.int (nI (T + a0)) :: .int (nI n) :: .int (nI sh) :: .ref w :: .ref a :: rest) (h) Ko := by
  rcases (show k = 0 ∨ k = 1 ∨ k = 2 ∨ k = 3 ∨ k = 4 ∨ k = 5 ∨ k = 6 by omega) with rfl | rfl | rfl | rfl | rfl | rfl | rfl
  · refine aw_callU B 0 0 (s_soonest _ _ h a w 0 v sh n T a0 num Q hk hv hsh h1 h4 hT hR ha hC) co_X6_soonest ku_X11_146_X6 hd hR rfl rfl rfl rfl hw (zrm hr (by omega)) (Nat.le_refl _) (Nat.le_refl _) (kI fun r9 h9 hp => ?_)
    obtain ⟨rfl, C9, O9⟩ := hp
    exact kk h9 C9 O9
  · refine aw_callU B 0 0 (s_soonest _ _ h a w 1 v sh n T a0 num Q hk hv hsh h1 h4 hT hR ha hC) co_X6_soonest ku_X11_146_X3 hd hR rfl rfl rfl rfl hw (zrm hr (by omega)) (Nat.le_refl _) (Nat.le_refl _) (kI fun r9 h9 hp => ?_)
    obtain ⟨rfl, C9, O9⟩ := hp
    exact kk h9 C9 O9
  · refine aw_callU B 0 0 (s_soonest _ _ h a w 2 v sh n T a0 num Q hk hv hsh h1 h4 hT hR ha hC) co_X6_soonest ku_X11_146_X2 hd hR rfl rfl rfl rfl hw (zrm hr (by omega)) (Nat.le_refl _) (Nat.le_refl _) (kI fun r9 h9 hp => ?_)
    obtain ⟨rfl, C9, O9⟩ := hp
    exact kk h9 C9 O9
  · refine aw_callU B 0 0 (s_soonest _ _ h a w 3 v sh n T a0 num Q hk hv hsh h1 h4 hT hR ha hC) co_X6_soonest ku_X11_146_X8 hd hR rfl rfl rfl rfl hw (zrm hr (by omega)) (Nat.le_refl _) (Nat.le_refl _) (kI fun r9 h9 hp => ?_)
    obtain ⟨rfl, C9, O9⟩ := hp
    exact kk h9 C9 O9
  · refine aw_callU B 0 0 (s_soonest _ _ h a w 4 v sh n T a0 num Q hk hv hsh h1 h4 hT hR ha hC) co_X6_soonest ku_X11_146_X5 hd hR rfl rfl rfl rfl hw (zrm hr (by omega)) (Nat.le_refl _) (Nat.le_refl _) (kI fun r9 h9 hp => ?_)
    obtain ⟨rfl, C9, O9⟩ := hp
    exact kk h9 C9 O9
  · refine aw_callU B 0 0 (s_soonest _ _ h a w 5 v sh n T a0 num Q hk hv hsh h1 h4 hT hR ha hC) co_X6_soonest ku_X11_146_X0 hd hR rfl rfl rfl rfl hw (zrm hr (by omega)) (Nat.le_refl _) (Nat.le_refl _) (kI fun r9 h9 hp => ?_)
    obtain ⟨rfl, C9, O9⟩ := hp
    exact kk h9 C9 O9
  · refine aw_callU B 0 0 (s_soonest _ _ h a w 6 v sh n T a0 num Q hk hv hsh h1 h4 hT hR ha hC) co_X6_soonest ku_X11_146_X10 hd hR rfl rfl rfl rfl hw (zrm hr (by omega)) (Nat.le_refl _) (Nat.le_refl _) (kI fun r9 h9 hp => ?_)
    obtain ⟨rfl, C9, O9⟩ := hp
    exact kk h9 C9 O9
theorem fr_X11_128_0 : zFL "LowWater" 128 0 1 true false .int := ⟨RX0, "LowWater$Reader", TX0, 2, tyX0, rfl, by decide, in_X0, tyX0_ok, nmX0, rfl, rfl, (fun h => Bool.noConfusion h), Or.inl zw_358, Or.inl rfl⟩
theorem fr_X11_128_2 : zFL "LowWater" 128 2 1 true false .int := ⟨RX2, "LowWater$Reader", TX2, 2, tyX2, rfl, by decide, in_X2, tyX2_ok, nmX2, rfl, rfl, (fun h => Bool.noConfusion h), Or.inl zw_358, Or.inl rfl⟩
theorem fr_X11_128_3 : zFL "LowWater" 128 3 1 true false .int := ⟨RX3, "LowWater$Reader", TX3, 2, tyX3, rfl, by decide, in_X3, tyX3_ok, nmX3, rfl, rfl, (fun h => Bool.noConfusion h), Or.inl zw_358, Or.inl rfl⟩
theorem fr_X11_128_5 : zFL "LowWater" 128 5 1 true false .int := ⟨RX5, "LowWater$Reader", TX5, 2, tyX5, rfl, by decide, in_X5, tyX5_ok, nmX5, rfl, rfl, (fun h => Bool.noConfusion h), Or.inl zw_358, Or.inl rfl⟩
theorem fr_X11_128_6 : zFL "LowWater" 128 6 1 true false .int := ⟨RX6, "LowWater$Reader", TX6, 2, tyX6, rfl, by decide, in_X6, tyX6_ok, nmX6, rfl, rfl, (fun h => Bool.noConfusion h), Or.inl zw_358, Or.inl rfl⟩
theorem fr_X11_128_8 : zFL "LowWater" 128 8 1 true false .int := ⟨RX8, "LowWater$Reader", TX8, 2, tyX8, rfl, by decide, in_X8, tyX8_ok, nmX8, rfl, rfl, (fun h => Bool.noConfusion h), Or.inl zw_358, Or.inl rfl⟩
theorem fr_X11_128_10 : zFL "LowWater" 128 10 1 true false .int := ⟨RX10, "LowWater$Reader", TX10, 2, tyX10, rfl, by decide, in_X10, tyX10_ok, nmX10, rfl, rfl, (fun h => Bool.noConfusion h), Or.inl zw_358, Or.inl rfl⟩
theorem aw_getv {X : zX} {cc : ByteArray} {nL pc rc rs : Nat} {nm : String} {ret : Option FieldType} {lv : List (Option Value)} {st : List Value} {h : Hp} {Ko : Option Value → Hp → Prop} (B : zB X cc nL "LowWater" nm ret) {k a : Nat} {num v : Int32} (hk : k ≤ 6) (hd : decode cc pc = .ok (.getfield 128, 3)) (hR : h.2 a = some (.inr (kc k, [.int num, .int v]))) (kk : AW X rc rs (pc + 3) lv (.int v :: st) h Ko) : AW X rc rs pc lv (.ref a :: st) h Ko := by
  rcases (show k = 0 ∨ k = 1 ∨ k = 2 ∨ k = 3 ∨ k = 4 ∨ k = 5 ∨ k = 6 by omega) with rfl | rfl | rfl | rfl | rfl | rfl | rfl
  · exact aw_get B fr_X11_128_6 hd hR rfl kk
  · exact aw_get B fr_X11_128_3 hd hR rfl kk
  · exact aw_get B fr_X11_128_2 hd hR rfl kk
  · exact aw_get B fr_X11_128_8 hd hR rfl kk
  · exact aw_get B fr_X11_128_5 hd hR rfl kk
  · exact aw_get B fr_X11_128_0 hd hR rfl kk
  · exact aw_get B fr_X11_128_10 hd hR rfl kk
theorem bI_n {p : Prop} [Decidable p] (h : ¬ bI p = 0) : p := by
  by_cases c : p
  · exact c
  · exact absurd (bI_f c) h
theorem bI_z {p : Prop} [Decidable p] (h : bI p = 0) : ¬ p := fun c => by rw [bI_t c] at h; exact absurd h (by decide)
theorem in_nI {k : Nat} (hk : k < 2 ^ 30) {i : Int32} (h : 0 ≤ i ∧ i ≤ nI k - 1) : ∃ j, j < k ∧ i = nI j := by
  obtain ⟨j, hj, rfl⟩ := nI_of (Int32.not_lt.mpr h.1)
  exact ⟨j, (nI_ltI hj (by omega)).mp ((lt_le1 hk _).mpr h.2), rfl⟩
theorem in_le {k : Nat} (hk : k < 2 ^ 30) {i : Int32} (h : 0 ≤ i ∧ i ≤ nI k) : ∃ j, j ≤ k ∧ i = nI j := by
  obtain ⟨j, hj, rfl⟩ := nI_of (Int32.not_lt.mpr h.1)
  exact ⟨j, (nI_leI hj (by omega)).mp h.2, rfl⟩
theorem dX11_of_0 : decode cX11_of 0 = .ok (.aload_n 0, 1) := by decide +kernel
theorem dX11_of_1 : decode cX11_of 1 = .ok (.iload_n 1, 1) := by decide +kernel
theorem dX11_of_2 : decode cX11_of 2 = .ok (.invokevirtual 93, 3) := by decide +kernel
theorem dX11_of_5 : decode cX11_of 5 = .ok (.ifCond .eq 10, 3) := by decide +kernel
theorem dX11_of_8 : decode cX11_of 8 = .ok (.iload_n 2, 1) := by decide +kernel
theorem dX11_of_9 : decode cX11_of 9 = .ok (.invokestatic 96, 3) := by decide +kernel
theorem dX11_of_12 : decode cX11_of 12 = .ok (.ifCond .ne 5, 3) := by decide +kernel
theorem dX11_of_15 : decode cX11_of 15 = .ok (.iconst (-1), 1) := by decide +kernel
theorem dX11_of_16 : decode cX11_of 16 = .ok (.ireturn, 1) := by decide +kernel
theorem dX11_of_17 : decode cX11_of 17 = .ok (.iload_n 2, 1) := by decide +kernel
theorem dX11_of_18 : decode cX11_of 18 = .ok (.ifCond .ne 17, 3) := by decide +kernel
theorem dX11_of_21 : decode cX11_of 21 = .ok (.aload_n 0, 1) := by decide +kernel
theorem dX11_of_22 : decode cX11_of 22 = .ok (.getfield 12, 3) := by decide +kernel
theorem dX11_of_25 : decode cX11_of 25 = .ok (.getfield 87, 3) := by decide +kernel
theorem dX11_of_28 : decode cX11_of 28 = .ok (.iload_n 1, 1) := by decide +kernel
theorem dX11_of_29 : decode cX11_of 29 = .ok (.invokevirtual 99, 3) := by decide +kernel
theorem dX11_of_32 : decode cX11_of 32 = .ok (.goto 14, 3) := by decide +kernel
theorem dX11_of_35 : decode cX11_of 35 = .ok (.aload_n 0, 1) := by decide +kernel
theorem dX11_of_36 : decode cX11_of 36 = .ok (.getfield 12, 3) := by decide +kernel
theorem dX11_of_39 : decode cX11_of 39 = .ok (.getfield 90, 3) := by decide +kernel
theorem dX11_of_42 : decode cX11_of 42 = .ok (.iload_n 1, 1) := by decide +kernel
theorem dX11_of_43 : decode cX11_of 43 = .ok (.invokevirtual 99, 3) := by decide +kernel
theorem dX11_of_46 : decode cX11_of 46 = .ok (.ireturn, 1) := by decide +kernel
set_option maxRecDepth 100000 in
set_option maxHeartbeats 4000000 in
theorem x_of (l : Launch) (g : zG) {h : Hp} {x ca cs N T T2 tn : Nat} {S S2 Bt : Nat → Int32} {Q Q2 : pP} {n n2 : Nat → Nat} {im : Int32} (i y : Int32) (hc : cH g h x ca cs N S T Q n S2 T2 Q2 n2 im Bt tn) : Sp l g yX11_of cX11_of 3 (some .int) (rmz 3) [.ref x, .int i, .int y] (h) (zI fun r h' => r = (q_of S i y).1 ∧ h' = h) := by
  refine Sp.of [some (.ref x), some (.int i), some (.int y)] (by decide) (Nat.le_of_ble_eq_true rfl) rfl rfl ?_
  rintro X rfl hr rfl B
  show AW X 0 0 0 _ _ _ _
  obtain ⟨vS, vR, vC, vA, vE, vL, vT, vH⟩ := hc.v
  have e0 := vS.2.1
  have e1 := vR.2.1
  have e2 := vC.2.1
  have e3 := vA.2.1
  have e4 := vE.2.1
  have e5 := vL.2.1
  have e6 := vT.2
  have e8 := vH.1
  have b0 := vS.1
  have b1 := vR.1
  have b2' := vC.1
  have b3 := vA.1
  have b4 := vE.1
  have b5 := vL.1
  have b6 := vT.1
  have b8 := vH.2.1
  have O : only x (x + 54) h h := only.rf
  refine aw_aload_n B 0 rfl dX11_of_0 rfl ?_
  refine aw_iload_n B 1 rfl dX11_of_1 rfl ?_
  refine aw_callV B 0 0 (x_isSlate _ _ i hc) co_X11_isSlate k_X11_93 dX11_of_2 hc.ox rfl rfl rfl rfl (Nat.le_of_ble_eq_true rfl) (zrm hr (by omega)) (Nat.le_refl _) (Nat.le_refl _) (kI fun r2 h2 hp2 => ?_)
  obtain ⟨rfl, eh2⟩ := hp2
  rw [eh2]
  refine aw_if_eq B 15 dX11_of_5 (fun c5 => ?_) (fun c5 => ?_)
  · refine aw_iconst B (-1) (by decide) dX11_of_15 ?_
    refine aw_iret B rfl rfl dX11_of_16 ?_
    exact ⟨_, rfl, by unfold q_of; show _ = if _ then _ else _; rw [if_pos c5], rfl⟩
  · refine aw_iload_n B 2 rfl dX11_of_8 rfl ?_
    refine aw_callS B 0 0 (x_isWhat _ _ _ y) co_X11_isWhat k_X11_96 dX11_of_9 rfl rfl (Nat.le_of_ble_eq_true rfl) (zrm hr (by omega)) (Nat.le_refl _) (Nat.le_refl _) (kI fun r9 h9 hp9 => ?_)
    obtain ⟨rfl, eh9⟩ := hp9
    rw [eh9]
    refine aw_if_ne B 17 dX11_of_12 (fun c12 => ?_) (fun c12 => ?_)
    · have hsj : 0 ≤ i ∧ i ≤ S 0 - 1 := bI_n c5
      rw [e0] at hsj
      obtain ⟨j, hj, rfl⟩ := in_nI (by omega) hsj
      refine aw_iload_n B 2 rfl dX11_of_17 rfl ?_
      refine aw_if_ne B 35 dX11_of_18 (fun c18 => ?_) (fun c18 => ?_)
      · refine aw_aload_n B 0 rfl dX11_of_35 rfl ?_
        refine aw_get B f_X11_12 dX11_of_36 hc.ox rfl ?_
        refine aw_get B f_X11_90 dX11_of_39 hc.s rfl ?_
        refine aw_iload_n B 1 rfl dX11_of_42 rfl ?_
        refine aw_callV B 0 0 (t_get _ _ _ _ 6 _ _ j (by decide) (by omega) (by omega) hc.lines) co_X7_get k_X11_99 dX11_of_43 hc.lines.o rfl rfl rfl rfl (Nat.le_of_ble_eq_true rfl) (zrm hr (by omega)) (Nat.le_refl _) (Nat.le_refl _) (kI fun r43 h43 hp43 => ?_)
        obtain ⟨rfl, eh43⟩ := hp43
        rw [eh43]
        refine aw_iret B rfl rfl dX11_of_46 ?_
        exact ⟨_, rfl, by unfold q_of; show _ = if _ then _ else _; rw [if_neg c5, if_neg c12, nI_clamp (by omega)]; obtain rfl := (is01 y).mp (bI_n c12) |>.resolve_left c18; rfl, rfl⟩
      · refine aw_aload_n B 0 rfl dX11_of_21 rfl ?_
        refine aw_get B f_X11_12 dX11_of_22 hc.ox rfl ?_
        refine aw_get B f_X11_87 dX11_of_25 hc.s rfl ?_
        refine aw_iload_n B 1 rfl dX11_of_28 rfl ?_
        refine aw_callV B 0 0 (t_get _ _ _ _ 6 _ _ j (by decide) (by omega) (by omega) hc.shelves) co_X7_get k_X11_99 dX11_of_29 hc.shelves.o rfl rfl rfl rfl (Nat.le_of_ble_eq_true rfl) (zrm hr (by omega)) (Nat.le_refl _) (Nat.le_refl _) (kI fun r29 h29 hp29 => ?_)
        obtain ⟨rfl, eh29⟩ := hp29
        rw [eh29]
        refine aw_goto B 46 dX11_of_32 ?_
        refine aw_iret B rfl rfl dX11_of_46 ?_
        exact ⟨_, rfl, by unfold q_of; show _ = if _ then _ else _; rw [if_neg c5, if_neg c12, nI_clamp (by omega)]; rw [c18]; rfl, rfl⟩
    · refine aw_iconst B (-1) (by decide) dX11_of_15 ?_
      refine aw_iret B rfl rfl dX11_of_16 ?_
      exact ⟨_, rfl, by unfold q_of; show _ = if _ then _ else _; rw [if_neg c5, if_pos c12], rfl⟩
theorem dX11_at_0 : decode cX11_at 0 = .ok (.aload_n 0, 1) := by decide +kernel
theorem dX11_at_1 : decode cX11_at 1 = .ok (.getfield 12, 3) := by decide +kernel
theorem dX11_at_4 : decode cX11_at 4 = .ok (.iload_n 1, 1) := by decide +kernel
theorem dX11_at_5 : decode cX11_at 5 = .ok (.invokevirtual 118, 3) := by decide +kernel
theorem dX11_at_8 : decode cX11_at 8 = .ok (.astore_n 3, 1) := by decide +kernel
theorem dX11_at_9 : decode cX11_at 9 = .ok (.aload_n 3, 1) := by decide +kernel
theorem dX11_at_10 : decode cX11_at 10 = .ok (.ifnull 10, 3) := by decide +kernel
theorem dX11_at_13 : decode cX11_at 13 = .ok (.iload_n 2, 1) := by decide +kernel
theorem dX11_at_14 : decode cX11_at 14 = .ok (.invokestatic 96, 3) := by decide +kernel
theorem dX11_at_17 : decode cX11_at 17 = .ok (.ifCond .ne 5, 3) := by decide +kernel
theorem dX11_at_20 : decode cX11_at 20 = .ok (.iconst (-1), 1) := by decide +kernel
theorem dX11_at_21 : decode cX11_at 21 = .ok (.ireturn, 1) := by decide +kernel
theorem dX11_at_22 : decode cX11_at 22 = .ok (.iload_n 2, 1) := by decide +kernel
theorem dX11_at_23 : decode cX11_at 23 = .ok (.ifCond .ne 10, 3) := by decide +kernel
theorem dX11_at_26 : decode cX11_at 26 = .ok (.aload_n 3, 1) := by decide +kernel
theorem dX11_at_27 : decode cX11_at 27 = .ok (.invokevirtual 122, 3) := by decide +kernel
theorem dX11_at_30 : decode cX11_at 30 = .ok (.goto 7, 3) := by decide +kernel
theorem dX11_at_33 : decode cX11_at 33 = .ok (.aload_n 3, 1) := by decide +kernel
theorem dX11_at_34 : decode cX11_at 34 = .ok (.getfield 128, 3) := by decide +kernel
theorem dX11_at_37 : decode cX11_at 37 = .ok (.ireturn, 1) := by decide +kernel
set_option maxRecDepth 100000 in
set_option maxHeartbeats 4000000 in
theorem x_at (l : Launch) (g : zG) {h : Hp} {x ca cs N T T2 tn : Nat} {S S2 Bt : Nat → Int32} {Q Q2 : pP} {n n2 : Nat → Nat} {im : Int32} (i y : Int32) (hc : cH g h x ca cs N S T Q n S2 T2 Q2 n2 im Bt tn) : Sp l g yX11_at cX11_at 4 (some .int) (rmz 3) [.ref x, .int i, .int y] (h) (zI fun r h' => r = (q_at S i y).1 ∧ h' = h) := by
  refine Sp.of [some (.ref x), some (.int i), some (.int y), none] (by decide) (Nat.le_of_ble_eq_true rfl) rfl rfl ?_
  rintro X rfl hr rfl B
  show AW X 0 0 0 _ _ _ _
  obtain ⟨vS, vR, vC, vA, vE, vL, vT, vH⟩ := hc.v
  have e0 := vS.2.1
  have e1 := vR.2.1
  have e2 := vC.2.1
  have e3 := vA.2.1
  have e4 := vE.2.1
  have e5 := vL.2.1
  have e6 := vT.2
  have e8 := vH.1
  have b0 := vS.1
  have b1 := vR.1
  have b2' := vC.1
  have b3 := vA.1
  have b4 := vE.1
  have b5 := vL.1
  have b6 := vT.1
  have b8 := vH.2.1
  have O : only x (x + 54) h h := only.rf
  refine aw_aload_n B 0 rfl dX11_at_0 rfl ?_
  refine aw_get B f_X11_12 dX11_at_1 hc.ox rfl ?_
  refine aw_iload_n B 1 rfl dX11_at_4 rfl ?_
  refine aw_callV B 0 0 (x_readerAt _ _ i hc) co_X9_readerAt k_X11_118 dX11_at_5 hc.s rfl rfl rfl rfl (Nat.le_of_ble_eq_true rfl) (zrm hr (by omega)) (Nat.le_refl _) (Nat.le_refl _) (kO fun r5 h5 hp5 => ?_)
  obtain ⟨eh5, hv5⟩ := hp5
  rw [eh5]
  by_cases hA5 : 0 ≤ i ∧ i ≤ S 1 - 1
  · rw [if_pos hA5] at hv5
    obtain ⟨a, q, k, v, rfl, Ra⟩ := hv5
    have hqk := Ra.2.1
    refine aw_astore3 B dX11_at_8 ?_
    refine aw_aload_n B 3 rfl dX11_at_9 rfl ?_
    refine aw_ifnull B dX11_at_10 ?_
    refine aw_iload_n B 2 rfl dX11_at_13 rfl ?_
    refine aw_callS B 0 0 (x_isWhat _ _ _ y) co_X11_isWhat k_X11_96 dX11_at_14 rfl rfl (Nat.le_of_ble_eq_true rfl) (zrm hr (by omega)) (Nat.le_refl _) (Nat.le_refl _) (kI fun r14 h14 hp14 => ?_)
    obtain ⟨rfl, eh14⟩ := hp14
    rw [eh14]
    refine aw_if_ne B 22 dX11_at_17 (fun c17 => ?_) (fun c17 => ?_)
    · refine aw_iload_n B 2 rfl dX11_at_22 rfl ?_
      refine aw_if_ne B 33 dX11_at_23 (fun c23 => ?_) (fun c23 => ?_)
      · refine aw_aload_n B 3 rfl dX11_at_33 rfl ?_
        refine aw_getv B Ra.2.2.2.1 dX11_at_34 Ra.2.2.2.2.2.2.2 ?_
        refine aw_iret B rfl rfl dX11_at_37 ?_
        exact ⟨_, rfl, by unfold q_at; show _ = if _ then _ else _; rw [if_neg (by rw [bI_t hA5]; decide), if_neg c17, Ra.1, nI_clamp (by omega), (is01 y).mp (bI_n c17) |>.resolve_left c23]; exact Ra.2.2.2.2.2.2.1.symm, rfl⟩
      · refine aw_aload_n B 3 rfl dX11_at_26 rfl ?_
        refine vc_X11_122 B hr (by omega) Ra.2.2.2.1 Ra.2.2.2.2.2.2.2 dX11_at_27 (Nat.le_of_ble_eq_true rfl) ?_
        refine aw_goto B 37 dX11_at_30 ?_
        refine aw_iret B rfl rfl dX11_at_37 ?_
        exact ⟨_, rfl, by unfold q_at; show _ = if _ then _ else _; rw [if_neg (by rw [bI_t hA5]; decide), if_neg c17, Ra.1, nI_clamp (by omega), c23]; exact Ra.2.2.2.2.2.1.symm, rfl⟩
    · refine aw_iconst B (-1) (by decide) dX11_at_20 ?_
      refine aw_iret B rfl rfl dX11_at_21 ?_
      exact ⟨_, rfl, by unfold q_at; show _ = if _ then _ else _; rw [if_neg (by rw [bI_t hA5]; decide), if_pos c17], rfl⟩
  · rw [if_neg hA5] at hv5
    obtain rfl := hv5
    refine aw_astore_nN B 3 rfl dX11_at_8 (by decide) rfl ?_
    refine aw_aload_nN B 3 rfl dX11_at_9 rfl ?_
    refine aw_ifnullN B 20 dX11_at_10 ?_
    refine aw_iconst B (-1) (by decide) dX11_at_20 ?_
    refine aw_iret B rfl rfl dX11_at_21 ?_
    exact ⟨_, rfl, by unfold q_at; show _ = if _ then _ else _; rw [bI_f hA5, if_pos rfl], rfl⟩
theorem dX11_needs_0 : decode cX11_needs 0 = .ok (.aload_n 0, 1) := by decide +kernel
theorem dX11_needs_1 : decode cX11_needs 1 = .ok (.getfield 12, 3) := by decide +kernel
theorem dX11_needs_4 : decode cX11_needs 4 = .ok (.iload_n 1, 1) := by decide +kernel
theorem dX11_needs_5 : decode cX11_needs 5 = .ok (.invokevirtual 118, 3) := by decide +kernel
theorem dX11_needs_8 : decode cX11_needs 8 = .ok (.astore_n 3, 1) := by decide +kernel
theorem dX11_needs_9 : decode cX11_needs 9 = .ok (.aload_n 3, 1) := by decide +kernel
theorem dX11_needs_10 : decode cX11_needs 10 = .ok (.ifnull 11, 3) := by decide +kernel
theorem dX11_needs_13 : decode cX11_needs 13 = .ok (.aload_n 0, 1) := by decide +kernel
theorem dX11_needs_14 : decode cX11_needs 14 = .ok (.iload_n 2, 1) := by decide +kernel
theorem dX11_needs_15 : decode cX11_needs 15 = .ok (.invokevirtual 93, 3) := by decide +kernel
theorem dX11_needs_18 : decode cX11_needs 18 = .ok (.ifCond .ne 5, 3) := by decide +kernel
theorem dX11_needs_21 : decode cX11_needs 21 = .ok (.iconst (-1), 1) := by decide +kernel
theorem dX11_needs_22 : decode cX11_needs 22 = .ok (.ireturn, 1) := by decide +kernel
theorem dX11_needs_23 : decode cX11_needs 23 = .ok (.aload_n 3, 1) := by decide +kernel
theorem dX11_needs_24 : decode cX11_needs 24 = .ok (.aload_n 0, 1) := by decide +kernel
theorem dX11_needs_25 : decode cX11_needs 25 = .ok (.getfield 12, 3) := by decide +kernel
theorem dX11_needs_28 : decode cX11_needs 28 = .ok (.getfield 90, 3) := by decide +kernel
theorem dX11_needs_31 : decode cX11_needs 31 = .ok (.iload_n 2, 1) := by decide +kernel
theorem dX11_needs_32 : decode cX11_needs 32 = .ok (.invokevirtual 99, 3) := by decide +kernel
theorem dX11_needs_35 : decode cX11_needs 35 = .ok (.invokevirtual 131, 3) := by decide +kernel
theorem dX11_needs_38 : decode cX11_needs 38 = .ok (.ireturn, 1) := by decide +kernel
set_option maxRecDepth 100000 in
set_option maxHeartbeats 4000000 in
theorem x_needs (l : Launch) (g : zG) {h : Hp} {x ca cs N T T2 tn : Nat} {S S2 Bt : Nat → Int32} {Q Q2 : pP} {n n2 : Nat → Nat} {im : Int32} (i y : Int32) (hc : cH g h x ca cs N S T Q n S2 T2 Q2 n2 im Bt tn) : Sp l g yX11_needs cX11_needs 4 (some .int) (rmz 4) [.ref x, .int i, .int y] (h) (zI fun r h' => r = (q_needs S i y).1 ∧ h' = h) := by
  refine Sp.of [some (.ref x), some (.int i), some (.int y), none] (by decide) (Nat.le_of_ble_eq_true rfl) rfl rfl ?_
  rintro X rfl hr rfl B
  show AW X 0 0 0 _ _ _ _
  obtain ⟨vS, vR, vC, vA, vE, vL, vT, vH⟩ := hc.v
  have e0 := vS.2.1
  have e1 := vR.2.1
  have e2 := vC.2.1
  have e3 := vA.2.1
  have e4 := vE.2.1
  have e5 := vL.2.1
  have e6 := vT.2
  have e8 := vH.1
  have b0 := vS.1
  have b1 := vR.1
  have b2' := vC.1
  have b3 := vA.1
  have b4 := vE.1
  have b5 := vL.1
  have b6 := vT.1
  have b8 := vH.2.1
  have O : only x (x + 54) h h := only.rf
  refine aw_aload_n B 0 rfl dX11_needs_0 rfl ?_
  refine aw_get B f_X11_12 dX11_needs_1 hc.ox rfl ?_
  refine aw_iload_n B 1 rfl dX11_needs_4 rfl ?_
  refine aw_callV B 0 0 (x_readerAt _ _ i hc) co_X9_readerAt k_X11_118 dX11_needs_5 hc.s rfl rfl rfl rfl (Nat.le_of_ble_eq_true rfl) (zrm hr (by omega)) (Nat.le_refl _) (Nat.le_refl _) (kO fun r5 h5 hp5 => ?_)
  obtain ⟨eh5, hv5⟩ := hp5
  rw [eh5]
  by_cases hA5 : 0 ≤ i ∧ i ≤ S 1 - 1
  · rw [if_pos hA5] at hv5
    obtain ⟨a, q, k, v, rfl, Ra⟩ := hv5
    have hqk := Ra.2.1
    have hk6 := Ra.2.2.2.1
    have hv9 := Ra.2.2.2.2.1
    refine aw_astore3 B dX11_needs_8 ?_
    refine aw_aload_n B 3 rfl dX11_needs_9 rfl ?_
    refine aw_ifnull B dX11_needs_10 ?_
    refine aw_aload_n B 0 rfl dX11_needs_13 rfl ?_
    refine aw_iload_n B 2 rfl dX11_needs_14 rfl ?_
    refine aw_callV B 0 0 (x_isSlate _ _ y hc) co_X11_isSlate k_X11_93 dX11_needs_15 hc.ox rfl rfl rfl rfl (Nat.le_of_ble_eq_true rfl) (zrm hr (by omega)) (Nat.le_refl _) (Nat.le_refl _) (kI fun r15 h15 hp15 => ?_)
    obtain ⟨rfl, eh15⟩ := hp15
    rw [eh15]
    refine aw_if_ne B 23 dX11_needs_18 (fun c18 => ?_) (fun c18 => ?_)
    · have hsj : 0 ≤ y ∧ y ≤ S 0 - 1 := bI_n c18
      rw [e0] at hsj
      obtain ⟨j, hj, rfl⟩ := in_nI (by omega) hsj
      refine aw_aload_n B 3 rfl dX11_needs_23 rfl ?_
      refine aw_aload_n B 0 rfl dX11_needs_24 rfl ?_
      refine aw_get B f_X11_12 dX11_needs_25 hc.ox rfl ?_
      refine aw_get B f_X11_90 dX11_needs_28 hc.s rfl ?_
      refine aw_iload_n B 2 rfl dX11_needs_31 rfl ?_
      refine aw_callV B 0 0 (t_get _ _ _ _ 6 _ _ j (by decide) (by omega) (by omega) hc.lines) co_X7_get k_X11_99 dX11_needs_32 hc.lines.o rfl rfl rfl rfl (Nat.le_of_ble_eq_true rfl) (zrm hr (by omega)) (Nat.le_refl _) (Nat.le_refl _) (kI fun r32 h32 hp32 => ?_)
      obtain ⟨rfl, eh32⟩ := hp32
      rw [eh32]
      obtain ⟨ln, l1, l4, el⟩ := (vS.2.2 j hj).2
      rw [el]
      refine vc_X11_131 B hr (by omega) Ra.2.2.2.1 Ra.2.2.2.2.1 Ra.2.2.2.2.2.2.2 l1 l4 dX11_needs_35 (Nat.le_of_ble_eq_true rfl) ?_
      refine aw_iret B rfl rfl dX11_needs_38 ?_
      exact ⟨_, rfl, by unfold q_needs; show _ = if _ then _ else _; rw [if_neg (by rw [bI_t hA5]; decide), if_neg c18, Ra.1, nI_clamp (by omega), nI_clamp (by omega), Ra.2.2.2.2.2.1, Ra.2.2.2.2.2.2.1, el, nI_clamp (by omega), nI_clamp (by omega), nI_clamp (by omega)], rfl⟩
    · refine aw_iconst B (-1) (by decide) dX11_needs_21 ?_
      refine aw_iret B rfl rfl dX11_needs_22 ?_
      exact ⟨_, rfl, by unfold q_needs; rw [if_neg (by rw [bI_t hA5]; decide), if_pos c18], rfl⟩
  · rw [if_neg hA5] at hv5
    obtain rfl := hv5
    refine aw_astore_nN B 3 rfl dX11_needs_8 (by decide) rfl ?_
    refine aw_aload_nN B 3 rfl dX11_needs_9 rfl ?_
    refine aw_ifnullN B 21 dX11_needs_10 ?_
    refine aw_iconst B (-1) (by decide) dX11_needs_21 ?_
    refine aw_iret B rfl rfl dX11_needs_22 ?_
    exact ⟨_, rfl, by unfold q_needs; rw [bI_f hA5, if_pos rfl], rfl⟩
theorem dX11_soon_0 : decode cX11_soon 0 = .ok (.aload_n 0, 1) := by decide +kernel
theorem dX11_soon_1 : decode cX11_soon 1 = .ok (.getfield 12, 3) := by decide +kernel
theorem dX11_soon_4 : decode cX11_soon 4 = .ok (.iload_n 1, 1) := by decide +kernel
theorem dX11_soon_5 : decode cX11_soon 5 = .ok (.invokevirtual 118, 3) := by decide +kernel
theorem dX11_soon_8 : decode cX11_soon 8 = .ok (.astore_n 3, 1) := by decide +kernel
theorem dX11_soon_9 : decode cX11_soon 9 = .ok (.aload_n 3, 1) := by decide +kernel
theorem dX11_soon_10 : decode cX11_soon 10 = .ok (.ifnull 11, 3) := by decide +kernel
theorem dX11_soon_13 : decode cX11_soon 13 = .ok (.aload_n 0, 1) := by decide +kernel
theorem dX11_soon_14 : decode cX11_soon 14 = .ok (.iload_n 2, 1) := by decide +kernel
theorem dX11_soon_15 : decode cX11_soon 15 = .ok (.invokevirtual 93, 3) := by decide +kernel
theorem dX11_soon_18 : decode cX11_soon 18 = .ok (.ifCond .ne 5, 3) := by decide +kernel
theorem dX11_soon_21 : decode cX11_soon 21 = .ok (.iconst (-1), 1) := by decide +kernel
theorem dX11_soon_22 : decode cX11_soon 22 = .ok (.ireturn, 1) := by decide +kernel
theorem dX11_soon_23 : decode cX11_soon 23 = .ok (.aload_n 3, 1) := by decide +kernel
theorem dX11_soon_24 : decode cX11_soon 24 = .ok (.aload_n 0, 1) := by decide +kernel
theorem dX11_soon_25 : decode cX11_soon 25 = .ok (.getfield 12, 3) := by decide +kernel
theorem dX11_soon_28 : decode cX11_soon 28 = .ok (.getfield 80, 3) := by decide +kernel
theorem dX11_soon_31 : decode cX11_soon 31 = .ok (.aload_n 0, 1) := by decide +kernel
theorem dX11_soon_32 : decode cX11_soon 32 = .ok (.getfield 12, 3) := by decide +kernel
theorem dX11_soon_35 : decode cX11_soon 35 = .ok (.getfield 87, 3) := by decide +kernel
theorem dX11_soon_38 : decode cX11_soon 38 = .ok (.iload_n 2, 1) := by decide +kernel
theorem dX11_soon_39 : decode cX11_soon 39 = .ok (.invokevirtual 99, 3) := by decide +kernel
theorem dX11_soon_42 : decode cX11_soon 42 = .ok (.aload_n 0, 1) := by decide +kernel
theorem dX11_soon_43 : decode cX11_soon 43 = .ok (.getfield 12, 3) := by decide +kernel
theorem dX11_soon_46 : decode cX11_soon 46 = .ok (.getfield 90, 3) := by decide +kernel
theorem dX11_soon_49 : decode cX11_soon 49 = .ok (.iload_n 2, 1) := by decide +kernel
theorem dX11_soon_50 : decode cX11_soon 50 = .ok (.invokevirtual 99, 3) := by decide +kernel
theorem dX11_soon_53 : decode cX11_soon 53 = .ok (.aload_n 0, 1) := by decide +kernel
theorem dX11_soon_54 : decode cX11_soon 54 = .ok (.getfield 12, 3) := by decide +kernel
theorem dX11_soon_57 : decode cX11_soon 57 = .ok (.getfield 137, 3) := by decide +kernel
theorem dX11_soon_60 : decode cX11_soon 60 = .ok (.invokevirtual 146, 3) := by decide +kernel
theorem dX11_soon_63 : decode cX11_soon 63 = .ok (.ireturn, 1) := by decide +kernel
set_option maxRecDepth 100000 in
set_option maxHeartbeats 4000000 in
theorem x_soon (l : Launch) (g : zG) {h : Hp} {x ca cs N T T2 tn : Nat} {S S2 Bt : Nat → Int32} {Q Q2 : pP} {n n2 : Nat → Nat} {im : Int32} (i y : Int32) (hc : cH g h x ca cs N S T Q n S2 T2 Q2 n2 im Bt tn) : Sp l g yX11_soon cX11_soon 4 (some .int) (rmz 7) [.ref x, .int i, .int y] (h) (zI fun r h' => r = q_soon S T Q i y ∧ cH g h' x ca cs N S T Q n S2 T2 Q2 n2 im Bt tn ∧ only x (x + 54) h h') := by
  refine Sp.of [some (.ref x), some (.int i), some (.int y), none] (by decide) (Nat.le_of_ble_eq_true rfl) rfl rfl ?_
  rintro X rfl hr rfl B
  show AW X 0 0 0 _ _ _ _
  obtain ⟨vS, vR, vC, vA, vE, vL, vT, vH⟩ := hc.v
  have e0 := vS.2.1
  have e1 := vR.2.1
  have e2 := vC.2.1
  have e3 := vA.2.1
  have e4 := vE.2.1
  have e5 := vL.2.1
  have e6 := vT.2
  have e8 := vH.1
  have b0 := vS.1
  have b1 := vR.1
  have b2' := vC.1
  have b3 := vA.1
  have b4 := vE.1
  have b5 := vL.1
  have b6 := vT.1
  have b8 := vH.2.1
  have O : only x (x + 54) h h := only.rf
  refine aw_aload_n B 0 rfl dX11_soon_0 rfl ?_
  refine aw_get B f_X11_12 dX11_soon_1 hc.ox rfl ?_
  refine aw_iload_n B 1 rfl dX11_soon_4 rfl ?_
  refine aw_callV B 0 0 (x_readerAt _ _ i hc) co_X9_readerAt k_X11_118 dX11_soon_5 hc.s rfl rfl rfl rfl (Nat.le_of_ble_eq_true rfl) (zrm hr (by omega)) (Nat.le_refl _) (Nat.le_refl _) (kO fun r5 h5 hp5 => ?_)
  obtain ⟨eh5, hv5⟩ := hp5
  rw [eh5]
  by_cases hA5 : 0 ≤ i ∧ i ≤ S 1 - 1
  · rw [if_pos hA5] at hv5
    obtain ⟨a, q, k, v, rfl, Ra⟩ := hv5
    have hqk := Ra.2.1
    have hk6 := Ra.2.2.2.1
    have hv9 := Ra.2.2.2.2.1
    refine aw_astore3 B dX11_soon_8 ?_
    refine aw_aload_n B 3 rfl dX11_soon_9 rfl ?_
    refine aw_ifnull B dX11_soon_10 ?_
    refine aw_aload_n B 0 rfl dX11_soon_13 rfl ?_
    refine aw_iload_n B 2 rfl dX11_soon_14 rfl ?_
    refine aw_callV B 0 0 (x_isSlate _ _ y hc) co_X11_isSlate k_X11_93 dX11_soon_15 hc.ox rfl rfl rfl rfl (Nat.le_of_ble_eq_true rfl) (zrm hr (by omega)) (Nat.le_refl _) (Nat.le_refl _) (kI fun r15 h15 hp15 => ?_)
    obtain ⟨rfl, eh15⟩ := hp15
    rw [eh15]
    refine aw_if_ne B 23 dX11_soon_18 (fun c18 => ?_) (fun c18 => ?_)
    · have hsj : 0 ≤ y ∧ y ≤ S 0 - 1 := bI_n c18
      rw [e0] at hsj
      obtain ⟨j, hj, rfl⟩ := in_nI (by omega) hsj
      refine aw_aload_n B 3 rfl dX11_soon_23 rfl ?_
      refine aw_aload_n B 0 rfl dX11_soon_24 rfl ?_
      refine aw_get B f_X11_12 dX11_soon_25 hc.ox rfl ?_
      refine aw_get B f_X11_80 dX11_soon_28 hc.s rfl ?_
      refine aw_aload_n B 0 rfl dX11_soon_31 rfl ?_
      refine aw_get B f_X11_12 dX11_soon_32 hc.ox rfl ?_
      refine aw_get B f_X11_87 dX11_soon_35 hc.s rfl ?_
      refine aw_iload_n B 2 rfl dX11_soon_38 rfl ?_
      refine aw_callV B 0 0 (t_get _ _ _ _ 6 _ _ j (by decide) (by omega) (by omega) hc.shelves) co_X7_get k_X11_99 dX11_soon_39 hc.shelves.o rfl rfl rfl rfl (Nat.le_of_ble_eq_true rfl) (zrm hr (by omega)) (Nat.le_refl _) (Nat.le_refl _) (kI fun r39 h39 hp39 => ?_)
      obtain ⟨rfl, eh39⟩ := hp39
      rw [eh39]
      refine aw_aload_n B 0 rfl dX11_soon_42 rfl ?_
      refine aw_get B f_X11_12 dX11_soon_43 hc.ox rfl ?_
      refine aw_get B f_X11_90 dX11_soon_46 hc.s rfl ?_
      refine aw_iload_n B 2 rfl dX11_soon_49 rfl ?_
      refine aw_callV B 0 0 (t_get _ _ _ _ 6 _ _ j (by decide) (by omega) (by omega) hc.lines) co_X7_get k_X11_99 dX11_soon_50 hc.lines.o rfl rfl rfl rfl (Nat.le_of_ble_eq_true rfl) (zrm hr (by omega)) (Nat.le_refl _) (Nat.le_refl _) (kI fun r50 h50 hp50 => ?_)
      obtain ⟨rfl, eh50⟩ := hp50
      rw [eh50]
      refine aw_aload_n B 0 rfl dX11_soon_53 rfl ?_
      refine aw_get B f_X11_12 dX11_soon_54 hc.ox rfl ?_
      refine aw_get B f_X11_137 dX11_soon_57 hc.s rfl ?_
      obtain ⟨ln, l1, l4, el⟩ := (vS.2.2 j hj).2
      obtain ⟨sh, -, s8, es⟩ := (vS.2.2 j hj).1
      rw [el, es, e8]
      refine vc_X11_146 (T := T) (a0 := 0) B hr (by omega) Ra.2.2.2.1 Ra.2.2.2.2.1 Ra.2.2.2.2.2.2.2 s8 l1 l4 (by omega) (by have := hc.d; have := Ra.2.2.1; omega) hc.c dX11_soon_60 (Nat.le_of_ble_eq_true rfl) (fun h60 C60 O60 => ?_)
      have O := O.tr (hc.o O60)
      have hc := hc.cv O60 C60
      refine aw_iret B rfl rfl dX11_soon_63 ?_
      exact ⟨_, rfl, by unfold q_soon; rw [if_neg (by rw [bI_t hA5]; decide), if_neg c18]; unfold soS; rw [Ra.1, kN_nI (by omega), kN_nI (by omega), Ra.2.2.2.2.2.1, Ra.2.2.2.2.2.2.1, es, el, kN_nI (by omega), kN_nI (by omega), kN_nI (by omega), kN_nI (by omega)], hc, O⟩
    · refine aw_iconst B (-1) (by decide) dX11_soon_21 ?_
      refine aw_iret B rfl rfl dX11_soon_22 ?_
      exact ⟨_, rfl, by unfold q_soon; rw [if_neg (by rw [bI_t hA5]; decide), if_pos c18], hc, O⟩
  · rw [if_neg hA5] at hv5
    obtain rfl := hv5
    refine aw_astore_nN B 3 rfl dX11_soon_8 (by decide) rfl ?_
    refine aw_aload_nN B 3 rfl dX11_soon_9 rfl ?_
    refine aw_ifnullN B 21 dX11_soon_10 ?_
    refine aw_iconst B (-1) (by decide) dX11_soon_21 ?_
    refine aw_iret B rfl rfl dX11_soon_22 ?_
    exact ⟨_, rfl, by unfold q_soon; rw [bI_f hA5, if_pos rfl], hc, O⟩
theorem dX11_level_0 : decode cX11_level 0 = .ok (.iload_n 1, 1) := by decide +kernel
theorem dX11_level_1 : decode cX11_level 1 = .ok (.invokestatic 134, 3) := by decide +kernel
theorem dX11_level_4 : decode cX11_level 4 = .ok (.ifCond .eq 11, 3) := by decide +kernel
theorem dX11_level_7 : decode cX11_level 7 = .ok (.aload_n 0, 1) := by decide +kernel
theorem dX11_level_8 : decode cX11_level 8 = .ok (.iload_n 1, 1) := by decide +kernel
theorem dX11_level_9 : decode cX11_level 9 = .ok (.invokevirtual 140, 3) := by decide +kernel
theorem dX11_level_12 : decode cX11_level 12 = .ok (.goto 5, 3) := by decide +kernel
theorem dX11_level_15 : decode cX11_level 15 = .ok (.bipush (-2), 2) := by decide +kernel
theorem dX11_level_17 : decode cX11_level 17 = .ok (.ireturn, 1) := by decide +kernel
set_option maxRecDepth 100000 in
set_option maxHeartbeats 4000000 in
theorem x_level (l : Launch) (g : zG) {h : Hp} {x ca cs N T T2 tn : Nat} {S S2 Bt : Nat → Int32} {Q Q2 : pP} {n n2 : Nat → Nat} {im : Int32} (i : Int32) (hc : cH g h x ca cs N S T Q n S2 T2 Q2 n2 im Bt tn) : Sp l g yX11_level cX11_level 2 (some .int) (rmz 5) [.ref x, .int i] (h) (zI fun r h' => r = q_level T Q i ∧ cH g h' x ca cs N S T Q n S2 T2 Q2 n2 im Bt tn ∧ only x (x + 54) h h') := by
  refine Sp.of [some (.ref x), some (.int i)] (by decide) (Nat.le_of_ble_eq_true rfl) rfl rfl ?_
  rintro X rfl hr rfl B
  show AW X 0 0 0 _ _ _ _
  obtain ⟨vS, vR, vC, vA, vE, vL, vT, vH⟩ := hc.v
  have e0 := vS.2.1
  have e1 := vR.2.1
  have e2 := vC.2.1
  have e3 := vA.2.1
  have e4 := vE.2.1
  have e5 := vL.2.1
  have e6 := vT.2
  have e8 := vH.1
  have b0 := vS.1
  have b1 := vR.1
  have b2' := vC.1
  have b3 := vA.1
  have b4 := vE.1
  have b5 := vL.1
  have b6 := vT.1
  have b8 := vH.2.1
  have O : only x (x + 54) h h := only.rf
  refine aw_iload_n B 1 rfl dX11_level_0 rfl ?_
  refine aw_callS B 0 0 (x_isNear _ _ _ i) co_X11_isNear k_X11_134 dX11_level_1 rfl rfl (Nat.le_of_ble_eq_true rfl) (zrm hr (by omega)) (Nat.le_refl _) (Nat.le_refl _) (kI fun r1 h1 hp1 => ?_)
  obtain ⟨rfl, eh1⟩ := hp1
  rw [eh1]
  refine aw_if_eq B 15 dX11_level_4 (fun c4 => ?_) (fun c4 => ?_)
  · refine aw_bipush B (-2) (by decide) dX11_level_15 ?_
    refine aw_iret B rfl rfl dX11_level_17 ?_
    exact ⟨_, rfl, by unfold q_level; rw [if_pos c4], hc, O⟩
  · obtain ⟨j, hj, rfl⟩ := in_le (k := 60) (by omega) (show 0 ≤ i ∧ i ≤ nI 60 from bI_n c4)
    refine aw_aload_n B 0 rfl dX11_level_7 rfl ?_
    refine aw_iload_n B 1 rfl dX11_level_8 rfl ?_
    refine aw_callV B 0 0 (x_levelIn _ _ j hc (by omega)) co_X11_levelIn k_X11_140 dX11_level_9 hc.ox rfl rfl rfl rfl (Nat.le_of_ble_eq_true rfl) (zrm hr (by omega)) (Nat.le_refl _) (Nat.le_refl _) (kI fun r9 h9 hp9 => ?_)
    obtain ⟨rfl, hc, o9⟩ := hp9
    have O := O.tr o9
    refine aw_goto B 17 dX11_level_12 ?_
    refine aw_iret B rfl rfl dX11_level_17 ?_
    exact ⟨_, rfl, by unfold q_level; rw [if_neg c4, kN_nI (by omega)], hc, O⟩
theorem sw3 (i : Int32) : i = 0 ∨ i = 1 ∨ i = 2 ∨ (i.toInt < 0 ∨ 2 < i.toInt) := by
  by_cases h0 : i = 0
  · exact Or.inl h0
  by_cases h1 : i = 1
  · exact Or.inr (Or.inl h1)
  by_cases h2 : i = 2
  · exact Or.inr (Or.inr (Or.inl h2))
  refine Or.inr (Or.inr (Or.inr (?_)))
  have g0 : ¬ i.toInt = 0 := fun z => h0 (Int32.toInt_inj.mp (by rw [z]; decide))
  have g1 : ¬ i.toInt = 1 := fun z => h1 (Int32.toInt_inj.mp (by rw [z]; decide))
  have g2 : ¬ i.toInt = 2 := fun z => h2 (Int32.toInt_inj.mp (by rw [z]; decide))
  omega
theorem dX11_told_0 : decode cX11_told 0 = .ok (.iload_n 1, 1) := by decide +kernel
theorem dX11_told_1 : decode cX11_told 1 = .ok (.tableswitch 59 0 2 #[27, 35, 41], 27) := by decide +kernel
theorem dX11_told_28 : decode cX11_told 28 = .ok (.aload_n 0, 1) := by decide +kernel
theorem dX11_told_29 : decode cX11_told 29 = .ok (.getfield 12, 3) := by decide +kernel
theorem dX11_told_32 : decode cX11_told 32 = .ok (.getfield 137, 3) := by decide +kernel
theorem dX11_told_35 : decode cX11_told 35 = .ok (.ireturn, 1) := by decide +kernel
theorem dX11_told_36 : decode cX11_told 36 = .ok (.aload_n 0, 1) := by decide +kernel
theorem dX11_told_37 : decode cX11_told 37 = .ok (.iconst 0, 1) := by decide +kernel
theorem dX11_told_38 : decode cX11_told 38 = .ok (.invokevirtual 140, 3) := by decide +kernel
theorem dX11_told_41 : decode cX11_told 41 = .ok (.ireturn, 1) := by decide +kernel
theorem dX11_told_42 : decode cX11_told 42 = .ok (.aload_n 0, 1) := by decide +kernel
theorem dX11_told_43 : decode cX11_told 43 = .ok (.getfield 12, 3) := by decide +kernel
theorem dX11_told_46 : decode cX11_told 46 = .ok (.getfield 80, 3) := by decide +kernel
theorem dX11_told_49 : decode cX11_told 49 = .ok (.aload_n 0, 1) := by decide +kernel
theorem dX11_told_50 : decode cX11_told 50 = .ok (.getfield 12, 3) := by decide +kernel
theorem dX11_told_53 : decode cX11_told 53 = .ok (.getfield 137, 3) := by decide +kernel
theorem dX11_told_56 : decode cX11_told 56 = .ok (.invokevirtual 143, 3) := by decide +kernel
theorem dX11_told_59 : decode cX11_told 59 = .ok (.ireturn, 1) := by decide +kernel
theorem dX11_told_60 : decode cX11_told 60 = .ok (.iconst (-1), 1) := by decide +kernel
theorem dX11_told_61 : decode cX11_told 61 = .ok (.ireturn, 1) := by decide +kernel
set_option maxRecDepth 100000 in
set_option maxHeartbeats 4000000 in
theorem x_told (l : Launch) (g : zG) {h : Hp} {x ca cs N T T2 tn : Nat} {S S2 Bt : Nat → Int32} {Q Q2 : pP} {n n2 : Nat → Nat} {im : Int32} (i : Int32) (hc : cH g h x ca cs N S T Q n S2 T2 Q2 n2 im Bt tn) : Sp l g yX11_told cX11_told 2 (some .int) (rmz 5) [.ref x, .int i] (h) (zI fun r h' => r = q_told T Q i ∧ cH g h' x ca cs N S T Q n S2 T2 Q2 n2 im Bt tn ∧ only x (x + 54) h h') := by
  refine Sp.of [some (.ref x), some (.int i)] (by decide) (Nat.le_of_ble_eq_true rfl) rfl rfl ?_
  rintro X rfl hr rfl B
  show AW X 0 0 0 _ _ _ _
  obtain ⟨vS, vR, vC, vA, vE, vL, vT, vH⟩ := hc.v
  have e0 := vS.2.1
  have e1 := vR.2.1
  have e2 := vC.2.1
  have e3 := vA.2.1
  have e4 := vE.2.1
  have e5 := vL.2.1
  have e6 := vT.2
  have e8 := vH.1
  have b0 := vS.1
  have b1 := vR.1
  have b2' := vC.1
  have b3 := vA.1
  have b4 := vE.1
  have b5 := vL.1
  have b6 := vT.1
  have b8 := vH.2.1
  have O : only x (x + 54) h h := only.rf
  refine aw_iload_n B 1 rfl dX11_told_0 rfl ?_
  rcases sw3 i with rfl | rfl | rfl | hz
  · 
    refine aw_tableIn (off := 27) B 28 dX11_told_1 (by decide) (by decide) (by decide) ?_
    refine aw_aload_n B 0 rfl dX11_told_28 rfl ?_
    refine aw_get B f_X11_12 dX11_told_29 hc.ox rfl ?_
    refine aw_get B f_X11_137 dX11_told_32 hc.s rfl ?_
    refine aw_iret B rfl rfl dX11_told_35 ?_
    exact ⟨_, rfl, by unfold q_told; rw [if_pos rfl]; exact e8, hc, O⟩
  · 
    refine aw_tableIn (off := 35) B 36 dX11_told_1 (by decide) (by decide) (by decide) ?_
    refine aw_aload_n B 0 rfl dX11_told_36 rfl ?_
    refine aw_iconst B 0 (by decide) dX11_told_37 ?_
    refine aw_callV B 0 0 (x_levelIn _ _ 0 hc (by omega)) co_X11_levelIn k_X11_140 dX11_told_38 hc.ox rfl rfl rfl rfl (Nat.le_of_ble_eq_true rfl) (zrm hr (by omega)) (Nat.le_refl _) (Nat.le_refl _) (kI fun r38 h38 hp38 => ?_)
    obtain ⟨rfl, hc, o38⟩ := hp38
    have O := O.tr o38
    refine aw_iret B rfl rfl dX11_told_41 ?_
    exact ⟨_, rfl, by unfold q_told; rw [if_neg (by decide), if_pos rfl]; rfl, hc, O⟩
  · 
    refine aw_tableIn (off := 41) B 42 dX11_told_1 (by decide) (by decide) (by decide) ?_
    refine aw_aload_n B 0 rfl dX11_told_42 rfl ?_
    refine aw_get B f_X11_12 dX11_told_43 hc.ox rfl ?_
    refine aw_get B f_X11_80 dX11_told_46 hc.s rfl ?_
    refine aw_aload_n B 0 rfl dX11_told_49 rfl ?_
    refine aw_get B f_X11_12 dX11_told_50 hc.ox rfl ?_
    refine aw_get B f_X11_137 dX11_told_53 hc.s rfl ?_
    rw [e8]
    refine aw_callV B 0 0 (s_cwaveAt _ _ _ ca T Q (by omega) hc.c) co_X1_waveAt k_X11_143 dX11_told_56 hc.c.o.choose_spec rfl rfl rfl rfl (Nat.le_of_ble_eq_true rfl) (zrm hr (by omega)) (Nat.le_refl _) (Nat.le_refl _) (kI fun r56 h56 hp56 => ?_)
    obtain ⟨rfl, c56, o56⟩ := hp56
    have O := O.tr (hc.o o56)
    have hc := hc.cv o56 c56
    refine aw_iret B rfl rfl dX11_told_59 ?_
    exact ⟨_, rfl, by unfold q_told; rw [if_neg (by decide), if_neg (by decide), if_pos rfl]; rfl, hc, O⟩
  · 
    refine aw_tableOut B 60 dX11_told_1 hz ?_
    refine aw_iconst B (-1) (by decide) dX11_told_60 ?_
    refine aw_iret B rfl rfl dX11_told_61 ?_
    exact ⟨_, rfl, by unfold q_told; rw [if_neg (fun z => by subst z; exact absurd hz (by decide)), if_neg (fun z => by subst z; exact absurd hz (by decide)), if_neg (fun z => by subst z; exact absurd hz (by decide))], hc, O⟩
