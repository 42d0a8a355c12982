theorem dX6_bodyOfReads_0 : decode cX6_bodyOfReads 0 = .ok (.aload_n 2, 1) := by decide +kernel
theorem dX6_bodyOfReads_1 : decode cX6_bodyOfReads 1 = .ok (.iconst 1, 1) := by decide +kernel
theorem dX6_bodyOfReads_2 : decode cX6_bodyOfReads 2 = .ok (.invokevirtual 35, 3) := by decide +kernel
theorem dX6_bodyOfReads_5 : decode cX6_bodyOfReads 5 = .ok (.iload_n 1, 1) := by decide +kernel
theorem dX6_bodyOfReads_6 : decode cX6_bodyOfReads 6 = .ok (.aload_n 0, 1) := by decide +kernel
theorem dX6_bodyOfReads_7 : decode cX6_bodyOfReads 7 = .ok (.getfield 9, 3) := by decide +kernel
theorem dX6_bodyOfReads_10 : decode cX6_bodyOfReads 10 = .ok (.iadd, 1) := by decide +kernel
theorem dX6_bodyOfReads_11 : decode cX6_bodyOfReads 11 = .ok (.ireturn, 1) := by decide +kernel
set_option maxRecDepth 100000 in
set_option maxHeartbeats 4000000 in
theorem s_bR0 (l : Launch) (g : zG) (h : Hp) (a c t n : Nat) (f : Nat → Int32) (num v x : Int32) (Fl : zFL "LowWater$Reader" 9 c 0 true true .int) (hR : h.2 a = some (.inr (c, [.int num, .int v]))) (ha : ¬ (t ≤ a ∧ a < t + 2)) (hn : n < 2 ^ 20) : Sp l g yX6_bodyOfReads cX6_bodyOfReads 3 (some .int) (rmz 2) [.ref a, .int x, .ref t] (hW g h t 20 f (nI n)) (zI fun r h' => r = (ac_plain num x).1 ∧ h' = hW g h t 20 (p_log n f (ac_plain num x).2) (nI (n + (ac_plain num x).2.length))) := by
  refine Sp.of [some (.ref a), some (.int x), some (.ref t)] (by decide) (Nat.le_of_ble_eq_true rfl) rfl rfl ?_
  rintro X rfl hr rfl B
  show AW X 0 0 0 _ _ _ _
  refine aw_aload_n B 2 rfl dX6_bodyOfReads_0 rfl ?_
  refine aw_iconst B 1 (by decide) dX6_bodyOfReads_1 ?_
  refine aw_callV B 0 0 (s_rowAdd _ _ h t 20 n f _ (by decide) (by omega)) co_X7_add k_X6_35 dX6_bodyOfReads_2 hW_o rfl rfl rfl rfl (Nat.le_of_ble_eq_true rfl) (zrm hr (by omega)) (Nat.le_refl _) (Nat.le_refl _) (kV fun h2 hp2 => ?_)
  subst hp2
  show AW X 0 0 _ _ _ (hW (zXg X) h t 20 (p_ran n f 1) (nI (n + 1))) _
  refine aw_iload_n B 1 rfl dX6_bodyOfReads_5 rfl ?_
  refine aw_aload_n B 0 rfl dX6_bodyOfReads_6 rfl ?_
  refine aw_get B Fl dX6_bodyOfReads_7 ((hW_n ha).trans hR) rfl ?_
  refine aw_iadd B dX6_bodyOfReads_10 ?_
  refine aw_iret B rfl rfl dX6_bodyOfReads_11 ?_
  exact ⟨_, rfl, rfl, rfl⟩
theorem dX3_bodyOfReads_0 : decode cX3_bodyOfReads 0 = .ok (.aload_n 2, 1) := by decide +kernel
theorem dX3_bodyOfReads_1 : decode cX3_bodyOfReads 1 = .ok (.bipush 11, 2) := by decide +kernel
theorem dX3_bodyOfReads_3 : decode cX3_bodyOfReads 3 = .ok (.invokevirtual 11, 3) := by decide +kernel
theorem dX3_bodyOfReads_6 : decode cX3_bodyOfReads 6 = .ok (.aload_n 0, 1) := by decide +kernel
theorem dX3_bodyOfReads_7 : decode cX3_bodyOfReads 7 = .ok (.iload_n 1, 1) := by decide +kernel
theorem dX3_bodyOfReads_8 : decode cX3_bodyOfReads 8 = .ok (.iconst 3, 1) := by decide +kernel
theorem dX3_bodyOfReads_9 : decode cX3_bodyOfReads 9 = .ok (.imul, 1) := by decide +kernel
theorem dX3_bodyOfReads_10 : decode cX3_bodyOfReads 10 = .ok (.aload_n 2, 1) := by decide +kernel
theorem dX3_bodyOfReads_11 : decode cX3_bodyOfReads 11 = .ok (.invokespecial 17, 3) := by decide +kernel
theorem dX3_bodyOfReads_14 : decode cX3_bodyOfReads 14 = .ok (.ireturn, 1) := by decide +kernel
set_option maxRecDepth 100000 in
set_option maxHeartbeats 4000000 in
theorem s_bR1 (l : Launch) (g : zG) (h : Hp) (a c t n : Nat) (f : Nat → Int32) (num v x : Int32) (rr : vw_C) (Fl : zFL "LowWater$Reader" 9 c 0 true true .int) (hR : h.2 a = some (.inr (c, [.int num, .int v]))) (hcl : vwCl[c]? = some rr) (ha : ¬ (t ≤ a ∧ a < t + 2)) (hn : n < 2 ^ 19) : Sp l g yX3_bodyOfReads cX3_bodyOfReads 3 (some .int) (rmz 3) [.ref a, .int x, .ref t] (hW g h t 20 f (nI n)) (zI fun r h' => r = (((ac_plain num (x * 3)).1, 11 :: (ac_plain num (x * 3)).2)).1 ∧ h' = hW g h t 20 (p_log n f (((ac_plain num (x * 3)).1, 11 :: (ac_plain num (x * 3)).2)).2) (nI (n + (((ac_plain num (x * 3)).1, 11 :: (ac_plain num (x * 3)).2)).2.length))) := by
  refine Sp.of [some (.ref a), some (.int x), some (.ref t)] (by decide) (Nat.le_of_ble_eq_true rfl) rfl rfl ?_
  rintro X rfl hr rfl B
  show AW X 0 0 0 _ _ _ _
  refine aw_aload_n B 2 rfl dX3_bodyOfReads_0 rfl ?_
  refine aw_bipush B 11 (by decide) dX3_bodyOfReads_1 ?_
  refine aw_callV B 0 0 (s_rowAdd _ _ h t 20 n f _ (by decide) (by omega)) co_X7_add k_X3_11 dX3_bodyOfReads_3 hW_o rfl rfl rfl rfl (Nat.le_of_ble_eq_true rfl) (zrm hr (by omega)) (Nat.le_refl _) (Nat.le_refl _) (kV fun h3 hp3 => ?_)
  subst hp3
  show AW X 0 0 _ _ _ (hW (zXg X) h t 20 (p_ran n f 11) (nI (n + 1))) _
  refine aw_aload_n B 0 rfl dX3_bodyOfReads_6 rfl ?_
  refine aw_iload_n B 1 rfl dX3_bodyOfReads_7 rfl ?_
  refine aw_iconst B 3 (by decide) dX3_bodyOfReads_8 ?_
  refine aw_imul B dX3_bodyOfReads_9 ?_
  refine aw_aload_n B 2 rfl dX3_bodyOfReads_10 rfl ?_
  refine aw_callSU B 0 0 (s_bR0 _ _ h a c t (n + 1) (p_ran n f 11) num v (x * 3) Fl hR ha (by omega)) co_X6_bodyOfReads k_X3_17 dX3_bodyOfReads_11 ((hW_n ha).trans hR) hcl rfl rfl (Nat.le_of_ble_eq_true rfl) (zrm hr (by omega)) (Nat.le_refl _) (Nat.le_refl _) (kI fun r11 h11 hp11 => ?_)
  obtain ⟨rfl, rfl⟩ := hp11
  refine aw_iret B rfl rfl dX3_bodyOfReads_14 ?_
  refine ⟨_, rfl, rfl, ?_⟩
  show _ = hW (zXg X) h t 20 (p_log (n + 1) (p_ran n f 11) ((ac_plain num (x * 3)).2)) (nI (n + (((ac_plain num (x * 3)).2).length + 1)))
  rw [show n + (((ac_plain num (x * 3)).2).length + 1) = n + 1 + ((ac_plain num (x * 3)).2).length by omega]
theorem dX0_bodyOfReads_0 : decode cX0_bodyOfReads 0 = .ok (.aload_n 2, 1) := by decide +kernel
theorem dX0_bodyOfReads_1 : decode cX0_bodyOfReads 1 = .ok (.bipush 51, 2) := by decide +kernel
theorem dX0_bodyOfReads_3 : decode cX0_bodyOfReads 3 = .ok (.invokevirtual 11, 3) := by decide +kernel
theorem dX0_bodyOfReads_6 : decode cX0_bodyOfReads 6 = .ok (.aload_n 0, 1) := by decide +kernel
theorem dX0_bodyOfReads_7 : decode cX0_bodyOfReads 7 = .ok (.iload_n 1, 1) := by decide +kernel
theorem dX0_bodyOfReads_8 : decode cX0_bodyOfReads 8 = .ok (.aload_n 2, 1) := by decide +kernel
theorem dX0_bodyOfReads_9 : decode cX0_bodyOfReads 9 = .ok (.invokespecial 17, 3) := by decide +kernel
theorem dX0_bodyOfReads_12 : decode cX0_bodyOfReads 12 = .ok (.aload_n 0, 1) := by decide +kernel
theorem dX0_bodyOfReads_13 : decode cX0_bodyOfReads 13 = .ok (.getfield 21, 3) := by decide +kernel
theorem dX0_bodyOfReads_16 : decode cX0_bodyOfReads 16 = .ok (.ixor, 1) := by decide +kernel
theorem dX0_bodyOfReads_17 : decode cX0_bodyOfReads 17 = .ok (.ireturn, 1) := by decide +kernel
set_option maxRecDepth 100000 in
set_option maxHeartbeats 4000000 in
theorem s_bR5 (l : Launch) (g : zG) (h : Hp) (a t n : Nat) (f : Nat → Int32) (num v x : Int32) (hR : h.2 a = some (.inr (0, [.int num, .int v]))) (ha : ¬ (t ≤ a ∧ a < t + 2)) (hn : n < 2 ^ 19) : Sp l g yX0_bodyOfReads cX0_bodyOfReads 3 (some .int) (rmz 3) [.ref a, .int x, .ref t] (hW g h t 20 f (nI n)) (zI fun r h' => r = (((ac_plain num x).1 ^^^ num, 51 :: (ac_plain num x).2)).1 ∧ h' = hW g h t 20 (p_log n f (((ac_plain num x).1 ^^^ num, 51 :: (ac_plain num x).2)).2) (nI (n + (((ac_plain num x).1 ^^^ num, 51 :: (ac_plain num x).2)).2.length))) := by
  refine Sp.of [some (.ref a), some (.int x), some (.ref t)] (by decide) (Nat.le_of_ble_eq_true rfl) rfl rfl ?_
  rintro X rfl hr rfl B
  show AW X 0 0 0 _ _ _ _
  have hcl : vwCl[0]? = some _ := rfl
  refine aw_aload_n B 2 rfl dX0_bodyOfReads_0 rfl ?_
  refine aw_bipush B 51 (by decide) dX0_bodyOfReads_1 ?_
  refine aw_callV B 0 0 (s_rowAdd _ _ h t 20 n f _ (by decide) (by omega)) co_X7_add k_X0_11 dX0_bodyOfReads_3 hW_o rfl rfl rfl rfl (Nat.le_of_ble_eq_true rfl) (zrm hr (by omega)) (Nat.le_refl _) (Nat.le_refl _) (kV fun h3 hp3 => ?_)
  subst hp3
  show AW X 0 0 _ _ _ (hW (zXg X) h t 20 (p_ran n f 51) (nI (n + 1))) _
  refine aw_aload_n B 0 rfl dX0_bodyOfReads_6 rfl ?_
  refine aw_iload_n B 1 rfl dX0_bodyOfReads_7 rfl ?_
  refine aw_aload_n B 2 rfl dX0_bodyOfReads_8 rfl ?_
  refine aw_callSG B 0 0 (s_bR0 _ _ h a 0 t (n + 1) (p_ran n f 51) num v x fr_X6_9_0 hR ha (by omega)) co_X6_bodyOfReads kg_X0_17 dX0_bodyOfReads_9 ((hW_n ha).trans hR) hcl rfl rfl (Nat.le_of_ble_eq_true rfl) (zrm hr (by omega)) (Nat.le_refl _) (Nat.le_refl _) (kI fun r9 h9 hp9 => ?_)
  obtain ⟨rfl, rfl⟩ := hp9
  refine aw_aload_n B 0 rfl dX0_bodyOfReads_12 rfl ?_
  refine aw_get B f_X0_21 dX0_bodyOfReads_13 ((hW_n ha).trans hR) rfl ?_
  refine aw_ixor B dX0_bodyOfReads_16 ?_
  refine aw_iret B rfl rfl dX0_bodyOfReads_17 ?_
  refine ⟨_, rfl, rfl, ?_⟩
  show _ = hW (zXg X) h t 20 (p_log (n + 1) (p_ran n f 51) ((ac_plain num x).2)) (nI (n + (((ac_plain num x).2).length + 1)))
  rw [show n + (((ac_plain num x).2).length + 1) = n + 1 + ((ac_plain num x).2).length by omega]
