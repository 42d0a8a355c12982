set_option maxRecDepth 100000 in
set_option maxHeartbeats 4000000 in
theorem vc_X6_41 {X : zX} {cc : ByteArray} {nL pc : Nat} {nm : String} {ret : Option FieldType} {lv : List (Option Value)} {rest : List Value} {h : Hp} {Ko : Option Value → Hp → Prop} (B : zB X cc nL "LowWater$Reader" nm ret) {d k : Nat} {a t n : Nat} {f : Nat → Int32} {num v x : Int32} (hr : zXr X = rmz d) (hdp : 4 ≤ d) (hk : k ≤ 6) (hR : h.2 a = some (.inr (kc k, [.int num, .int v]))) (ha : ¬ (t ≤ a ∧ a < t + 2)) (hn : n < 2 ^ 19) (hd : decode cc pc = .ok (.invokevirtual 41, 3)) (hw : (rest.map fun v => v.category).sum ≤ 8) (kk : AW X 0 0 (pc + 3) lv (.int (ac_reads (nI k) num x).1 :: rest) (hW (zXg X) h t 20 (p_log n f (ac_reads (nI k) num x).2) (nI (n + (ac_reads (nI k) num x).2.length))) Ko) : AW X 0 0 pc lv (.ref t :: .int x :: .ref a :: rest) (hW (zXg X) h t 20 f (nI n)) Ko := by
  rcases (show k = 0 ∨ k = 1 ∨ k = 2 ∨ k = 3 ∨ k = 4 ∨ k = 5 ∨ k = 6 by omega) with rfl | rfl | rfl | rfl | rfl | rfl | rfl
  · refine aw_callU B 0 0 (s_bR0 _ _ h a 6 t n f num v x fr_X6_9_6 hR ha (by omega)) co_X6_bodyOfReads ku_X6_41_X6 hd ((hW_n ha).trans hR) rfl rfl rfl rfl hw (zrm hr (by omega)) (Nat.le_refl _) (Nat.le_refl _) (kI fun r9 h9 hp => ?_)
    obtain ⟨rfl, rfl⟩ := hp
    rw [show ac_reads (nI 0) num x = ac_plain num x from by unfold ac_reads; rw [if_pos (by decide), if_neg (by decide)]] at kk
    exact kk
  · refine aw_callU B 0 0 (s_bR1 _ _ h a 3 t n f num v x _ fr_X6_9_3 hR rfl ha hn) co_X3_bodyOfReads ku_X6_41_X3 hd ((hW_n ha).trans hR) rfl rfl rfl rfl hw (zrm hr (by omega)) (Nat.le_refl _) (Nat.le_refl _) (kI fun r9 h9 hp => ?_)
    obtain ⟨rfl, rfl⟩ := hp
    rw [show ac_reads (nI 1) num x = ((ac_plain num (x * 3)).1, 11 :: (ac_plain num (x * 3)).2) from by unfold ac_reads; rw [if_neg (by decide)]] at kk
    exact kk
  · refine aw_callU B 0 0 (s_bR0 _ _ h a 2 t n f num v x fr_X6_9_2 hR ha (by omega)) co_X6_bodyOfReads ku_X6_41_X2 hd ((hW_n ha).trans hR) rfl rfl rfl rfl hw (zrm hr (by omega)) (Nat.le_refl _) (Nat.le_refl _) (kI fun r9 h9 hp => ?_)
    obtain ⟨rfl, rfl⟩ := hp
    rw [show ac_reads (nI 2) num x = ac_plain num x from by unfold ac_reads; rw [if_pos (by decide), if_neg (by decide)]] at kk
    exact kk
  · refine aw_callU B 0 0 (s_bR0 _ _ h a 8 t n f num v x fr_X6_9_8 hR ha (by omega)) co_X6_bodyOfReads ku_X6_41_X8 hd ((hW_n ha).trans hR) rfl rfl rfl rfl hw (zrm hr (by omega)) (Nat.le_refl _) (Nat.le_refl _) (kI fun r9 h9 hp => ?_)
    obtain ⟨rfl, rfl⟩ := hp
    rw [show ac_reads (nI 3) num x = ac_plain num x from by unfold ac_reads; rw [if_pos (by decide), if_neg (by decide)]] at kk
    exact kk
  · refine aw_callU B 0 0 (s_bR1 _ _ h a 5 t n f num v x _ fr_X6_9_5 hR rfl ha hn) co_X3_bodyOfReads ku_X6_41_X5 hd ((hW_n ha).trans hR) rfl rfl rfl rfl hw (zrm hr (by omega)) (Nat.le_refl _) (Nat.le_refl _) (kI fun r9 h9 hp => ?_)
    obtain ⟨rfl, rfl⟩ := hp
    rw [show ac_reads (nI 4) num x = ((ac_plain num (x * 3)).1, 11 :: (ac_plain num (x * 3)).2) from by unfold ac_reads; rw [if_neg (by decide)]] at kk
    exact kk
  · refine aw_callU B 0 0 (s_bR5 _ _ h a t n f num v x hR ha hn) co_X0_bodyOfReads ku_X6_41_X0 hd ((hW_n ha).trans hR) rfl rfl rfl rfl hw (zrm hr (by omega)) (Nat.le_refl _) (Nat.le_refl _) (kI fun r9 h9 hp => ?_)
    obtain ⟨rfl, rfl⟩ := hp
    rw [show ac_reads (nI 5) num x = ((ac_plain num x).1 ^^^ num, 51 :: (ac_plain num x).2) from by unfold ac_reads; rw [if_pos (by decide), if_pos (by decide)]] at kk
    exact kk
  · refine aw_callU B 0 0 (s_bR0 _ _ h a 10 t n f num v x fr_X6_9_10 hR ha (by omega)) co_X6_bodyOfReads ku_X6_41_X10 hd ((hW_n ha).trans hR) rfl rfl rfl rfl hw (zrm hr (by omega)) (Nat.le_refl _) (Nat.le_refl _) (kI fun r9 h9 hp => ?_)
    obtain ⟨rfl, rfl⟩ := hp
    rw [show ac_reads (nI 6) num x = ac_plain num x from by unfold ac_reads; rw [if_pos (by decide), if_neg (by decide)]] at kk
    exact kk
theorem dX6_bodyOfWaits_0 : decode cX6_bodyOfWaits 0 = .ok (.aload_n 2, 1) := by decide +kernel
theorem dX6_bodyOfWaits_1 : decode cX6_bodyOfWaits 1 = .ok (.iconst 2, 1) := by decide +kernel
theorem dX6_bodyOfWaits_2 : decode cX6_bodyOfWaits 2 = .ok (.invokevirtual 35, 3) := by decide +kernel
theorem dX6_bodyOfWaits_5 : decode cX6_bodyOfWaits 5 = .ok (.aload_n 0, 1) := by decide +kernel
theorem dX6_bodyOfWaits_6 : decode cX6_bodyOfWaits 6 = .ok (.iload_n 1, 1) := by decide +kernel
theorem dX6_bodyOfWaits_7 : decode cX6_bodyOfWaits 7 = .ok (.aload_n 2, 1) := by decide +kernel
theorem dX6_bodyOfWaits_8 : decode cX6_bodyOfWaits 8 = .ok (.invokevirtual 41, 3) := by decide +kernel
theorem dX6_bodyOfWaits_11 : decode cX6_bodyOfWaits 11 = .ok (.aload_n 0, 1) := by decide +kernel
theorem dX6_bodyOfWaits_12 : decode cX6_bodyOfWaits 12 = .ok (.getfield 15, 3) := by decide +kernel
theorem dX6_bodyOfWaits_15 : decode cX6_bodyOfWaits 15 = .ok (.isub, 1) := by decide +kernel
theorem dX6_bodyOfWaits_16 : decode cX6_bodyOfWaits 16 = .ok (.ireturn, 1) := by decide +kernel
set_option maxRecDepth 100000 in
set_option maxHeartbeats 4000000 in
theorem s_bW0 (l : Launch) (g : zG) (h : Hp) (a k t n : Nat) (f : Nat → Int32) (num v x : Int32) (hk : k ≤ 6) (hR : h.2 a = some (.inr (kc k, [.int num, .int v]))) (ha : ¬ (t ≤ a ∧ a < t + 2)) (hn : n < 2 ^ 18) : Sp l g yX6_bodyOfWaits cX6_bodyOfWaits 3 (some .int) (rmz 5) [.ref a, .int x, .ref t] (hW g h t 20 f (nI n)) (zI fun r h' => r = (ac_waitsP (nI k) num v x).1 ∧ h' = hW g h t 20 (p_log n f (ac_waitsP (nI k) num v x).2) (nI (n + (ac_waitsP (nI k) num v x).2.length))) := by
  refine Sp.of [some (.ref a), some (.int x), some (.ref t)] (by decide) (Nat.le_of_ble_eq_true rfl) rfl rfl ?_
  rintro X rfl hr rfl B
  show AW X 0 0 0 _ _ _ _
  refine aw_aload_n B 2 rfl dX6_bodyOfWaits_0 rfl ?_
  refine aw_iconst B 2 (by decide) dX6_bodyOfWaits_1 ?_
  refine aw_callV B 0 0 (s_rowAdd _ _ h t 20 n f _ (by decide) (by omega)) co_X7_add k_X6_35 dX6_bodyOfWaits_2 hW_o rfl rfl rfl rfl (Nat.le_of_ble_eq_true rfl) (zrm hr (by omega)) (Nat.le_refl _) (Nat.le_refl _) (kV fun h2 hp2 => ?_)
  subst hp2
  show AW X 0 0 _ _ _ (hW (zXg X) h t 20 (p_ran n f 2) (nI (n + 1))) _
  refine aw_aload_n B 0 rfl dX6_bodyOfWaits_5 rfl ?_
  refine aw_iload_n B 1 rfl dX6_bodyOfWaits_6 rfl ?_
  refine aw_aload_n B 2 rfl dX6_bodyOfWaits_7 rfl ?_
  refine vc_X6_41 B hr (by omega) hk hR ha (by omega) dX6_bodyOfWaits_8 (Nat.le_of_ble_eq_true rfl) ?_
  refine aw_aload_n B 0 rfl dX6_bodyOfWaits_11 rfl ?_
  refine aw_get B (fR_15 hk) dX6_bodyOfWaits_12 ((hW_n ha).trans hR) rfl ?_
  refine aw_isub B dX6_bodyOfWaits_15 ?_
  refine aw_iret B rfl rfl dX6_bodyOfWaits_16 ?_
  refine ⟨_, rfl, rfl, ?_⟩
  show _ = hW (zXg X) h t 20 (p_log (n + 1) (p_ran n f 2) ((ac_reads (nI k) num x).2)) (nI (n + (((ac_reads (nI k) num x).2).length + 1)))
  rw [show n + (((ac_reads (nI k) num x).2).length + 1) = n + 1 + ((ac_reads (nI k) num x).2).length by omega]
theorem dX2_bodyOfWaits_0 : decode cX2_bodyOfWaits 0 = .ok (.aload_n 2, 1) := by decide +kernel
theorem dX2_bodyOfWaits_1 : decode cX2_bodyOfWaits 1 = .ok (.bipush 21, 2) := by decide +kernel
theorem dX2_bodyOfWaits_3 : decode cX2_bodyOfWaits 3 = .ok (.invokevirtual 17, 3) := by decide +kernel
theorem dX2_bodyOfWaits_6 : decode cX2_bodyOfWaits 6 = .ok (.aload_n 0, 1) := by decide +kernel
theorem dX2_bodyOfWaits_7 : decode cX2_bodyOfWaits 7 = .ok (.iload_n 1, 1) := by decide +kernel
theorem dX2_bodyOfWaits_8 : decode cX2_bodyOfWaits 8 = .ok (.aload_n 2, 1) := by decide +kernel
theorem dX2_bodyOfWaits_9 : decode cX2_bodyOfWaits 9 = .ok (.invokespecial 23, 3) := by decide +kernel
theorem dX2_bodyOfWaits_12 : decode cX2_bodyOfWaits 12 = .ok (.ineg, 1) := by decide +kernel
theorem dX2_bodyOfWaits_13 : decode cX2_bodyOfWaits 13 = .ok (.ireturn, 1) := by decide +kernel
set_option maxRecDepth 100000 in
set_option maxHeartbeats 4000000 in
theorem s_bW2 (l : Launch) (g : zG) (h : Hp) (a k t n : Nat) (f : Nat → Int32) (num v x : Int32) (rr : vw_C) (hk : k ≤ 6) (hR : h.2 a = some (.inr (kc k, [.int num, .int v]))) (hcl : vwCl[kc k]? = some rr) (ha : ¬ (t ≤ a ∧ a < t + 2)) (hn : n < 2 ^ 17) : Sp l g yX2_bodyOfWaits cX2_bodyOfWaits 3 (some .int) (rmz 6) [.ref a, .int x, .ref t] (hW g h t 20 f (nI n)) (zI fun r h' => r = ((-(ac_waitsP (nI k) num v x).1, 21 :: (ac_waitsP (nI k) num v x).2)).1 ∧ h' = hW g h t 20 (p_log n f ((-(ac_waitsP (nI k) num v x).1, 21 :: (ac_waitsP (nI k) num v x).2)).2) (nI (n + ((-(ac_waitsP (nI k) num v x).1, 21 :: (ac_waitsP (nI k) num v x).2)).2.length))) := by
  refine Sp.of [some (.ref a), some (.int x), some (.ref t)] (by decide) (Nat.le_of_ble_eq_true rfl) rfl rfl ?_
  rintro X rfl hr rfl B
  show AW X 0 0 0 _ _ _ _
  refine aw_aload_n B 2 rfl dX2_bodyOfWaits_0 rfl ?_
  refine aw_bipush B 21 (by decide) dX2_bodyOfWaits_1 ?_
  refine aw_callV B 0 0 (s_rowAdd _ _ h t 20 n f _ (by decide) (by omega)) co_X7_add k_X2_17 dX2_bodyOfWaits_3 hW_o rfl rfl rfl rfl (Nat.le_of_ble_eq_true rfl) (zrm hr (by omega)) (Nat.le_refl _) (Nat.le_refl _) (kV fun h3 hp3 => ?_)
  subst hp3
  show AW X 0 0 _ _ _ (hW (zXg X) h t 20 (p_ran n f 21) (nI (n + 1))) _
  refine aw_aload_n B 0 rfl dX2_bodyOfWaits_6 rfl ?_
  refine aw_iload_n B 1 rfl dX2_bodyOfWaits_7 rfl ?_
  refine aw_aload_n B 2 rfl dX2_bodyOfWaits_8 rfl ?_
  refine aw_callSU B 0 0 (s_bW0 _ _ h a k t (n + 1) (p_ran n f 21) num v x hk hR ha (by omega)) co_X6_bodyOfWaits k_X2_23 dX2_bodyOfWaits_9 ((hW_n ha).trans hR) hcl rfl rfl (Nat.le_of_ble_eq_true rfl) (zrm hr (by omega)) (Nat.le_refl _) (Nat.le_refl _) (kI fun r9 h9 hp9 => ?_)
  obtain ⟨rfl, rfl⟩ := hp9
  refine aw_ineg B dX2_bodyOfWaits_12 ?_
  refine aw_iret B rfl rfl dX2_bodyOfWaits_13 ?_
  refine ⟨_, rfl, rfl, ?_⟩
  show _ = hW (zXg X) h t 20 (p_log (n + 1) (p_ran n f 21) ((ac_waitsP (nI k) num v x).2)) (nI (n + (((ac_waitsP (nI k) num v x).2).length + 1)))
  rw [show n + (((ac_waitsP (nI k) num v x).2).length + 1) = n + 1 + ((ac_waitsP (nI k) num v x).2).length by omega]
theorem dX10_bodyOfWaits_0 : decode cX10_bodyOfWaits 0 = .ok (.aload_n 2, 1) := by decide +kernel
theorem dX10_bodyOfWaits_1 : decode cX10_bodyOfWaits 1 = .ok (.bipush 61, 2) := by decide +kernel
theorem dX10_bodyOfWaits_3 : decode cX10_bodyOfWaits 3 = .ok (.invokevirtual 21, 3) := by decide +kernel
theorem dX10_bodyOfWaits_6 : decode cX10_bodyOfWaits 6 = .ok (.aload_n 0, 1) := by decide +kernel
theorem dX10_bodyOfWaits_7 : decode cX10_bodyOfWaits 7 = .ok (.iload_n 1, 1) := by decide +kernel
theorem dX10_bodyOfWaits_8 : decode cX10_bodyOfWaits 8 = .ok (.aload_n 2, 1) := by decide +kernel
theorem dX10_bodyOfWaits_9 : decode cX10_bodyOfWaits 9 = .ok (.invokespecial 27, 3) := by decide +kernel
theorem dX10_bodyOfWaits_12 : decode cX10_bodyOfWaits 12 = .ok (.aload_n 0, 1) := by decide +kernel
theorem dX10_bodyOfWaits_13 : decode cX10_bodyOfWaits 13 = .ok (.getfield 31, 3) := by decide +kernel
theorem dX10_bodyOfWaits_16 : decode cX10_bodyOfWaits 16 = .ok (.iadd, 1) := by decide +kernel
theorem dX10_bodyOfWaits_17 : decode cX10_bodyOfWaits 17 = .ok (.ireturn, 1) := by decide +kernel
set_option maxRecDepth 100000 in
set_option maxHeartbeats 4000000 in
theorem s_bW6 (l : Launch) (g : zG) (h : Hp) (a t n : Nat) (f : Nat → Int32) (num v x : Int32) (hR : h.2 a = some (.inr (kc 6, [.int num, .int v]))) (ha : ¬ (t ≤ a ∧ a < t + 2)) (hn : n < 2 ^ 17) : Sp l g yX10_bodyOfWaits cX10_bodyOfWaits 3 (some .int) (rmz 6) [.ref a, .int x, .ref t] (hW g h t 20 f (nI n)) (zI fun r h' => r = (((ac_waitsP (nI 6) num v x).1 + v, 61 :: (ac_waitsP (nI 6) num v x).2)).1 ∧ h' = hW g h t 20 (p_log n f (((ac_waitsP (nI 6) num v x).1 + v, 61 :: (ac_waitsP (nI 6) num v x).2)).2) (nI (n + (((ac_waitsP (nI 6) num v x).1 + v, 61 :: (ac_waitsP (nI 6) num v x).2)).2.length))) := by
  refine Sp.of [some (.ref a), some (.int x), some (.ref t)] (by decide) (Nat.le_of_ble_eq_true rfl) rfl rfl ?_
  rintro X rfl hr rfl B
  show AW X 0 0 0 _ _ _ _
  have hcl : vwCl[kc 6]? = some _ := rfl
  refine aw_aload_n B 2 rfl dX10_bodyOfWaits_0 rfl ?_
  refine aw_bipush B 61 (by decide) dX10_bodyOfWaits_1 ?_
  refine aw_callV B 0 0 (s_rowAdd _ _ h t 20 n f _ (by decide) (by omega)) co_X7_add k_X10_21 dX10_bodyOfWaits_3 hW_o rfl rfl rfl rfl (Nat.le_of_ble_eq_true rfl) (zrm hr (by omega)) (Nat.le_refl _) (Nat.le_refl _) (kV fun h3 hp3 => ?_)
  subst hp3
  show AW X 0 0 _ _ _ (hW (zXg X) h t 20 (p_ran n f 61) (nI (n + 1))) _
  refine aw_aload_n B 0 rfl dX10_bodyOfWaits_6 rfl ?_
  refine aw_iload_n B 1 rfl dX10_bodyOfWaits_7 rfl ?_
  refine aw_aload_n B 2 rfl dX10_bodyOfWaits_8 rfl ?_
  refine aw_callSG B 0 0 (s_bW0 _ _ h a 6 t (n + 1) (p_ran n f 61) num v x (by decide) hR ha (by omega)) co_X6_bodyOfWaits kg_X10_27 dX10_bodyOfWaits_9 ((hW_n ha).trans hR) hcl rfl rfl (Nat.le_of_ble_eq_true rfl) (zrm hr (by omega)) (Nat.le_refl _) (Nat.le_refl _) (kI fun r9 h9 hp9 => ?_)
  obtain ⟨rfl, rfl⟩ := hp9
  refine aw_aload_n B 0 rfl dX10_bodyOfWaits_12 rfl ?_
  refine aw_get B f_X10_31 dX10_bodyOfWaits_13 ((hW_n ha).trans hR) rfl ?_
  refine aw_iadd B dX10_bodyOfWaits_16 ?_
  refine aw_iret B rfl rfl dX10_bodyOfWaits_17 ?_
  refine ⟨_, rfl, rfl, ?_⟩
  show _ = hW (zXg X) h t 20 (p_log (n + 1) (p_ran n f 61) ((ac_waitsP (nI 6) num v x).2)) (nI (n + (((ac_waitsP (nI 6) num v x).2).length + 1)))
  rw [show n + (((ac_waitsP (nI 6) num v x).2).length + 1) = n + 1 + ((ac_waitsP (nI 6) num v x).2).length by omega]
set_option maxRecDepth 100000 in
set_option maxHeartbeats 4000000 in
theorem vc_X6_45 {X : zX} {cc : ByteArray} {nL pc : Nat} {nm : String} {ret : Option FieldType} {lv : List (Option Value)} {rest : List Value} {h : Hp} {Ko : Option Value → Hp → Prop} (B : zB X cc nL "LowWater$Reader" nm ret) {d k : Nat} {a t n : Nat} {f : Nat → Int32} {num v x : Int32} (hr : zXr X = rmz d) (hdp : 7 ≤ d) (hk : k ≤ 6) (hR : h.2 a = some (.inr (kc k, [.int num, .int v]))) (ha : ¬ (t ≤ a ∧ a < t + 2)) (hn : n < 2 ^ 17) (hd : decode cc pc = .ok (.invokevirtual 45, 3)) (hw : (rest.map fun v => v.category).sum ≤ 8) (kk : AW X 0 0 (pc + 3) lv (.int (ac_waits (nI k) num v x).1 :: rest) (hW (zXg X) h t 20 (p_log n f (ac_waits (nI k) num v x).2) (nI (n + (ac_waits (nI k) num v x).2.length))) Ko) : AW X 0 0 pc lv (.ref t :: .int x :: .ref a :: rest) (hW (zXg X) h t 20 f (nI n)) Ko := by
  rcases (show k = 0 ∨ k = 1 ∨ k = 2 ∨ k = 3 ∨ k = 4 ∨ k = 5 ∨ k = 6 by omega) with rfl | rfl | rfl | rfl | rfl | rfl | rfl
  · refine aw_callU B 0 0 (s_bW0 _ _ h a 0 t n f num v x hk hR ha (by omega)) co_X6_bodyOfWaits ku_X6_45_X6 hd ((hW_n ha).trans hR) rfl rfl rfl rfl hw (zrm hr (by omega)) (Nat.le_refl _) (Nat.le_refl _) (kI fun r9 h9 hp => ?_)
    obtain ⟨rfl, rfl⟩ := hp
    rw [show ac_waits (nI 0) num v x = ac_waitsP (nI 0) num v x from by unfold ac_waits; rw [if_pos (by decide), if_neg (by decide)]] at kk
    exact kk
  · refine aw_callU B 0 0 (s_bW0 _ _ h a 1 t n f num v x hk hR ha (by omega)) co_X6_bodyOfWaits ku_X6_45_X3 hd ((hW_n ha).trans hR) rfl rfl rfl rfl hw (zrm hr (by omega)) (Nat.le_refl _) (Nat.le_refl _) (kI fun r9 h9 hp => ?_)
    obtain ⟨rfl, rfl⟩ := hp
    rw [show ac_waits (nI 1) num v x = ac_waitsP (nI 1) num v x from by unfold ac_waits; rw [if_pos (by decide), if_neg (by decide)]] at kk
    exact kk
  · refine aw_callU B 0 0 (s_bW2 _ _ h a 2 t n f num v x _ hk hR rfl ha (by omega)) co_X2_bodyOfWaits ku_X6_45_X2 hd ((hW_n ha).trans hR) rfl rfl rfl rfl hw (zrm hr (by omega)) (Nat.le_refl _) (Nat.le_refl _) (kI fun r9 h9 hp => ?_)
    obtain ⟨rfl, rfl⟩ := hp
    rw [show ac_waits (nI 2) num v x = (-(ac_waitsP (nI 2) num v x).1, 21 :: (ac_waitsP (nI 2) num v x).2) from by unfold ac_waits; rw [if_neg (by decide)]] at kk
    exact kk
  · refine aw_callU B 0 0 (s_bW0 _ _ h a 3 t n f num v x hk hR ha (by omega)) co_X6_bodyOfWaits ku_X6_45_X8 hd ((hW_n ha).trans hR) rfl rfl rfl rfl hw (zrm hr (by omega)) (Nat.le_refl _) (Nat.le_refl _) (kI fun r9 h9 hp => ?_)
    obtain ⟨rfl, rfl⟩ := hp
    rw [show ac_waits (nI 3) num v x = ac_waitsP (nI 3) num v x from by unfold ac_waits; rw [if_pos (by decide), if_neg (by decide)]] at kk
    exact kk
  · refine aw_callU B 0 0 (s_bW0 _ _ h a 4 t n f num v x hk hR ha (by omega)) co_X6_bodyOfWaits ku_X6_45_X5 hd ((hW_n ha).trans hR) rfl rfl rfl rfl hw (zrm hr (by omega)) (Nat.le_refl _) (Nat.le_refl _) (kI fun r9 h9 hp => ?_)
    obtain ⟨rfl, rfl⟩ := hp
    rw [show ac_waits (nI 4) num v x = ac_waitsP (nI 4) num v x from by unfold ac_waits; rw [if_pos (by decide), if_neg (by decide)]] at kk
    exact kk
  · refine aw_callU B 0 0 (s_bW2 _ _ h a 5 t n f num v x _ hk hR rfl ha (by omega)) co_X2_bodyOfWaits ku_X6_45_X0 hd ((hW_n ha).trans hR) rfl rfl rfl rfl hw (zrm hr (by omega)) (Nat.le_refl _) (Nat.le_refl _) (kI fun r9 h9 hp => ?_)
    obtain ⟨rfl, rfl⟩ := hp
    rw [show ac_waits (nI 5) num v x = (-(ac_waitsP (nI 5) num v x).1, 21 :: (ac_waitsP (nI 5) num v x).2) from by unfold ac_waits; rw [if_neg (by decide)]] at kk
    exact kk
  · refine aw_callU B 0 0 (s_bW6 _ _ h a t n f num v x hR ha (by omega)) co_X10_bodyOfWaits ku_X6_45_X10 hd ((hW_n ha).trans hR) rfl rfl rfl rfl hw (zrm hr (by omega)) (Nat.le_refl _) (Nat.le_refl _) (kI fun r9 h9 hp => ?_)
    obtain ⟨rfl, rfl⟩ := hp
    rw [show ac_waits (nI 6) num v x = ((ac_waitsP (nI 6) num v x).1 + v, 61 :: (ac_waitsP (nI 6) num v x).2) from by unfold ac_waits; rw [if_pos (by decide), if_pos (by decide)]] at kk
    exact kk
theorem dX6_bodyOfTells_0 : decode cX6_bodyOfTells 0 = .ok (.aload_n 2, 1) := by decide +kernel
theorem dX6_bodyOfTells_1 : decode cX6_bodyOfTells 1 = .ok (.iconst 3, 1) := by decide +kernel
theorem dX6_bodyOfTells_2 : decode cX6_bodyOfTells 2 = .ok (.invokevirtual 35, 3) := by decide +kernel
theorem dX6_bodyOfTells_5 : decode cX6_bodyOfTells 5 = .ok (.aload_n 0, 1) := by decide +kernel
theorem dX6_bodyOfTells_6 : decode cX6_bodyOfTells 6 = .ok (.iload_n 1, 1) := by decide +kernel
theorem dX6_bodyOfTells_7 : decode cX6_bodyOfTells 7 = .ok (.aload_n 2, 1) := by decide +kernel
theorem dX6_bodyOfTells_8 : decode cX6_bodyOfTells 8 = .ok (.invokevirtual 45, 3) := by decide +kernel
theorem dX6_bodyOfTells_11 : decode cX6_bodyOfTells 11 = .ok (.iconst 2, 1) := by decide +kernel
theorem dX6_bodyOfTells_12 : decode cX6_bodyOfTells 12 = .ok (.imul, 1) := by decide +kernel
theorem dX6_bodyOfTells_13 : decode cX6_bodyOfTells 13 = .ok (.ireturn, 1) := by decide +kernel
set_option maxRecDepth 100000 in
set_option maxHeartbeats 4000000 in
theorem s_bT0 (l : Launch) (g : zG) (h : Hp) (a k t n : Nat) (f : Nat → Int32) (num v x : Int32) (hk : k ≤ 6) (hR : h.2 a = some (.inr (kc k, [.int num, .int v]))) (ha : ¬ (t ≤ a ∧ a < t + 2)) (hn : n < 2 ^ 16) : Sp l g yX6_bodyOfTells cX6_bodyOfTells 3 (some .int) (rmz 7) [.ref a, .int x, .ref t] (hW g h t 20 f (nI n)) (zI fun r h' => r = (ac_tellsP (nI k) num v x).1 ∧ h' = hW g h t 20 (p_log n f (ac_tellsP (nI k) num v x).2) (nI (n + (ac_tellsP (nI k) num v x).2.length))) := by
  refine Sp.of [some (.ref a), some (.int x), some (.ref t)] (by decide) (Nat.le_of_ble_eq_true rfl) rfl rfl ?_
  rintro X rfl hr rfl B
  show AW X 0 0 0 _ _ _ _
  refine aw_aload_n B 2 rfl dX6_bodyOfTells_0 rfl ?_
  refine aw_iconst B 3 (by decide) dX6_bodyOfTells_1 ?_
  refine aw_callV B 0 0 (s_rowAdd _ _ h t 20 n f _ (by decide) (by omega)) co_X7_add k_X6_35 dX6_bodyOfTells_2 hW_o rfl rfl rfl rfl (Nat.le_of_ble_eq_true rfl) (zrm hr (by omega)) (Nat.le_refl _) (Nat.le_refl _) (kV fun h2 hp2 => ?_)
  subst hp2
  show AW X 0 0 _ _ _ (hW (zXg X) h t 20 (p_ran n f 3) (nI (n + 1))) _
  refine aw_aload_n B 0 rfl dX6_bodyOfTells_5 rfl ?_
  refine aw_iload_n B 1 rfl dX6_bodyOfTells_6 rfl ?_
  refine aw_aload_n B 2 rfl dX6_bodyOfTells_7 rfl ?_
  refine vc_X6_45 B hr (by omega) hk hR ha (by omega) dX6_bodyOfTells_8 (Nat.le_of_ble_eq_true rfl) ?_
  refine aw_iconst B 2 (by decide) dX6_bodyOfTells_11 ?_
  refine aw_imul B dX6_bodyOfTells_12 ?_
  refine aw_iret B rfl rfl dX6_bodyOfTells_13 ?_
  refine ⟨_, rfl, rfl, ?_⟩
  show _ = hW (zXg X) h t 20 (p_log (n + 1) (p_ran n f 3) ((ac_waits (nI k) num v x).2)) (nI (n + (((ac_waits (nI k) num v x).2).length + 1)))
  rw [show n + (((ac_waits (nI k) num v x).2).length + 1) = n + 1 + ((ac_waits (nI k) num v x).2).length by omega]
theorem dX8_bodyOfTells_0 : decode cX8_bodyOfTells 0 = .ok (.aload_n 2, 1) := by decide +kernel
theorem dX8_bodyOfTells_1 : decode cX8_bodyOfTells 1 = .ok (.bipush 31, 2) := by decide +kernel
theorem dX8_bodyOfTells_3 : decode cX8_bodyOfTells 3 = .ok (.invokevirtual 26, 3) := by decide +kernel
theorem dX8_bodyOfTells_6 : decode cX8_bodyOfTells 6 = .ok (.aload_n 0, 1) := by decide +kernel
theorem dX8_bodyOfTells_7 : decode cX8_bodyOfTells 7 = .ok (.iload_n 1, 1) := by decide +kernel
theorem dX8_bodyOfTells_8 : decode cX8_bodyOfTells 8 = .ok (.aload_n 2, 1) := by decide +kernel
theorem dX8_bodyOfTells_9 : decode cX8_bodyOfTells 9 = .ok (.invokespecial 32, 3) := by decide +kernel
theorem dX8_bodyOfTells_12 : decode cX8_bodyOfTells 12 = .ok (.bipush 7, 2) := by decide +kernel
theorem dX8_bodyOfTells_14 : decode cX8_bodyOfTells 14 = .ok (.ixor, 1) := by decide +kernel
theorem dX8_bodyOfTells_15 : decode cX8_bodyOfTells 15 = .ok (.ireturn, 1) := by decide +kernel
set_option maxRecDepth 100000 in
set_option maxHeartbeats 4000000 in
theorem s_bT3 (l : Launch) (g : zG) (h : Hp) (a k t n : Nat) (f : Nat → Int32) (num v x : Int32) (rr : vw_C) (hk : k ≤ 6) (hR : h.2 a = some (.inr (kc k, [.int num, .int v]))) (hcl : vwCl[kc k]? = some rr) (ha : ¬ (t ≤ a ∧ a < t + 2)) (hn : n < 2 ^ 15) : Sp l g yX8_bodyOfTells cX8_bodyOfTells 3 (some .int) (rmz 8) [.ref a, .int x, .ref t] (hW g h t 20 f (nI n)) (zI fun r h' => r = (((ac_tellsP (nI k) num v x).1 ^^^ 7, 31 :: (ac_tellsP (nI k) num v x).2)).1 ∧ h' = hW g h t 20 (p_log n f (((ac_tellsP (nI k) num v x).1 ^^^ 7, 31 :: (ac_tellsP (nI k) num v x).2)).2) (nI (n + (((ac_tellsP (nI k) num v x).1 ^^^ 7, 31 :: (ac_tellsP (nI k) num v x).2)).2.length))) := by
  refine Sp.of [some (.ref a), some (.int x), some (.ref t)] (by decide) (Nat.le_of_ble_eq_true rfl) rfl rfl ?_
  rintro X rfl hr rfl B
  show AW X 0 0 0 _ _ _ _
  refine aw_aload_n B 2 rfl dX8_bodyOfTells_0 rfl ?_
  refine aw_bipush B 31 (by decide) dX8_bodyOfTells_1 ?_
  refine aw_callV B 0 0 (s_rowAdd _ _ h t 20 n f _ (by decide) (by omega)) co_X7_add k_X8_26 dX8_bodyOfTells_3 hW_o rfl rfl rfl rfl (Nat.le_of_ble_eq_true rfl) (zrm hr (by omega)) (Nat.le_refl _) (Nat.le_refl _) (kV fun h3 hp3 => ?_)
  subst hp3
  show AW X 0 0 _ _ _ (hW (zXg X) h t 20 (p_ran n f 31) (nI (n + 1))) _
  refine aw_aload_n B 0 rfl dX8_bodyOfTells_6 rfl ?_
  refine aw_iload_n B 1 rfl dX8_bodyOfTells_7 rfl ?_
  refine aw_aload_n B 2 rfl dX8_bodyOfTells_8 rfl ?_
  refine aw_callSU B 0 0 (s_bT0 _ _ h a k t (n + 1) (p_ran n f 31) num v x hk hR ha (by omega)) co_X6_bodyOfTells k_X8_32 dX8_bodyOfTells_9 ((hW_n ha).trans hR) hcl rfl rfl (Nat.le_of_ble_eq_true rfl) (zrm hr (by omega)) (Nat.le_refl _) (Nat.le_refl _) (kI fun r9 h9 hp9 => ?_)
  obtain ⟨rfl, rfl⟩ := hp9
  refine aw_bipush B 7 (by decide) dX8_bodyOfTells_12 ?_
  refine aw_ixor B dX8_bodyOfTells_14 ?_
  refine aw_iret B rfl rfl dX8_bodyOfTells_15 ?_
  refine ⟨_, rfl, rfl, ?_⟩
  show _ = hW (zXg X) h t 20 (p_log (n + 1) (p_ran n f 31) ((ac_tellsP (nI k) num v x).2)) (nI (n + (((ac_tellsP (nI k) num v x).2).length + 1)))
  rw [show n + (((ac_tellsP (nI k) num v x).2).length + 1) = n + 1 + ((ac_tellsP (nI k) num v x).2).length by omega]
theorem dX5_bodyOfTells_0 : decode cX5_bodyOfTells 0 = .ok (.aload_n 2, 1) := by decide +kernel
theorem dX5_bodyOfTells_1 : decode cX5_bodyOfTells 1 = .ok (.bipush 41, 2) := by decide +kernel
theorem dX5_bodyOfTells_3 : decode cX5_bodyOfTells 3 = .ok (.invokevirtual 27, 3) := by decide +kernel
theorem dX5_bodyOfTells_6 : decode cX5_bodyOfTells 6 = .ok (.aload_n 0, 1) := by decide +kernel
theorem dX5_bodyOfTells_7 : decode cX5_bodyOfTells 7 = .ok (.iload_n 1, 1) := by decide +kernel
theorem dX5_bodyOfTells_8 : decode cX5_bodyOfTells 8 = .ok (.iconst 1, 1) := by decide +kernel
theorem dX5_bodyOfTells_9 : decode cX5_bodyOfTells 9 = .ok (.isub, 1) := by decide +kernel
theorem dX5_bodyOfTells_10 : decode cX5_bodyOfTells 10 = .ok (.aload_n 2, 1) := by decide +kernel
theorem dX5_bodyOfTells_11 : decode cX5_bodyOfTells 11 = .ok (.invokespecial 33, 3) := by decide +kernel
theorem dX5_bodyOfTells_14 : decode cX5_bodyOfTells 14 = .ok (.aload_n 0, 1) := by decide +kernel
theorem dX5_bodyOfTells_15 : decode cX5_bodyOfTells 15 = .ok (.iconst 2, 1) := by decide +kernel
theorem dX5_bodyOfTells_16 : decode cX5_bodyOfTells 16 = .ok (.aload_n 2, 1) := by decide +kernel
theorem dX5_bodyOfTells_17 : decode cX5_bodyOfTells 17 = .ok (.invokevirtual 37, 3) := by decide +kernel
theorem dX5_bodyOfTells_20 : decode cX5_bodyOfTells 20 = .ok (.iadd, 1) := by decide +kernel
theorem dX5_bodyOfTells_21 : decode cX5_bodyOfTells 21 = .ok (.ireturn, 1) := by decide +kernel
set_option maxRecDepth 100000 in
set_option maxHeartbeats 4000000 in
theorem s_bT4 (l : Launch) (g : zG) (h : Hp) (a t n : Nat) (f : Nat → Int32) (num v x : Int32) (hR : h.2 a = some (.inr (kc 4, [.int num, .int v]))) (ha : ¬ (t ≤ a ∧ a < t + 2)) (hn : n < 2 ^ 15) : Sp l g yX5_bodyOfTells cX5_bodyOfTells 3 (some .int) (rmz 8) [.ref a, .int x, .ref t] (hW g h t 20 f (nI n)) (zI fun r h' => r = (((ac_tellsP (nI 4) num v (x - 1)).1 + (ac_reads (nI 4) num 2).1, 41 :: ((ac_tellsP (nI 4) num v (x - 1)).2 ++ (ac_reads (nI 4) num 2).2))).1 ∧ h' = hW g h t 20 (p_log n f (((ac_tellsP (nI 4) num v (x - 1)).1 + (ac_reads (nI 4) num 2).1, 41 :: ((ac_tellsP (nI 4) num v (x - 1)).2 ++ (ac_reads (nI 4) num 2).2))).2) (nI (n + (((ac_tellsP (nI 4) num v (x - 1)).1 + (ac_reads (nI 4) num 2).1, 41 :: ((ac_tellsP (nI 4) num v (x - 1)).2 ++ (ac_reads (nI 4) num 2).2))).2.length))) := by
  refine Sp.of [some (.ref a), some (.int x), some (.ref t)] (by decide) (Nat.le_of_ble_eq_true rfl) rfl rfl ?_
  rintro X rfl hr rfl B
  show AW X 0 0 0 _ _ _ _
  have hcl : vwCl[kc 4]? = some _ := rfl
  refine aw_aload_n B 2 rfl dX5_bodyOfTells_0 rfl ?_
  refine aw_bipush B 41 (by decide) dX5_bodyOfTells_1 ?_
  refine aw_callV B 0 0 (s_rowAdd _ _ h t 20 n f _ (by decide) (by omega)) co_X7_add k_X5_27 dX5_bodyOfTells_3 hW_o rfl rfl rfl rfl (Nat.le_of_ble_eq_true rfl) (zrm hr (by omega)) (Nat.le_refl _) (Nat.le_refl _) (kV fun h3 hp3 => ?_)
  subst hp3
  show AW X 0 0 _ _ _ (hW (zXg X) h t 20 (p_ran n f 41) (nI (n + 1))) _
  refine aw_aload_n B 0 rfl dX5_bodyOfTells_6 rfl ?_
  refine aw_iload_n B 1 rfl dX5_bodyOfTells_7 rfl ?_
  refine aw_iconst B 1 (by decide) dX5_bodyOfTells_8 ?_
  refine aw_isub B dX5_bodyOfTells_9 ?_
  refine aw_aload_n B 2 rfl dX5_bodyOfTells_10 rfl ?_
  refine aw_callSG B 0 0 (s_bT0 _ _ h a 4 t (n + 1) (p_ran n f 41) num v (x - 1) (by decide) hR ha (by omega)) co_X6_bodyOfTells kg_X5_33 dX5_bodyOfTells_11 ((hW_n ha).trans hR) hcl rfl rfl (Nat.le_of_ble_eq_true rfl) (zrm hr (by omega)) (Nat.le_refl _) (Nat.le_refl _) (kI fun r11 h11 hp11 => ?_)
  obtain ⟨rfl, rfl⟩ := hp11
  refine aw_aload_n B 0 rfl dX5_bodyOfTells_14 rfl ?_
  refine aw_iconst B 2 (by decide) dX5_bodyOfTells_15 ?_
  refine aw_aload_n B 2 rfl dX5_bodyOfTells_16 rfl ?_
  have hlen := len_tellsP (nI 4) num v (x - 1)
  refine aw_callU B 0 0 (s_bR1 _ _ h a 5 t (n + 1 + (ac_tellsP (nI 4) num v (x - 1)).2.length) (p_log (n + 1) (p_ran n f 41) (ac_tellsP (nI 4) num v (x - 1)).2) num v 2 _ fr_X6_9_5 hR rfl ha (by omega)) co_X3_bodyOfReads ku_X5_37_X5 dX5_bodyOfTells_17 ((hW_n ha).trans hR) rfl rfl rfl rfl (Nat.le_of_ble_eq_true rfl) (zrm hr (by omega)) (Nat.le_refl _) (Nat.le_refl _) (kI fun r17 h17 hp17 => ?_)
  obtain ⟨rfl, rfl⟩ := hp17
  refine aw_iadd B dX5_bodyOfTells_20 ?_
  refine aw_iret B rfl rfl dX5_bodyOfTells_21 ?_
  rw [show ac_reads (nI 4) num 2 = ((ac_plain num (2 * 3)).1, 11 :: (ac_plain num (2 * 3)).2) from by unfold ac_reads; rw [if_neg (by decide)]]
  refine ⟨_, rfl, rfl, ?_⟩
  show _ = hW (zXg X) h t 20 (p_log (n + 1) (p_ran n f 41) ((ac_tellsP (nI 4) num v (x - 1)).2 ++ (((ac_plain num (2 * 3)).1, 11 :: (ac_plain num (2 * 3)).2)).2)) (nI (n + (((ac_tellsP (nI 4) num v (x - 1)).2 ++ (((ac_plain num (2 * 3)).1, 11 :: (ac_plain num (2 * 3)).2)).2).length + 1)))
  rw [p_log_app, List.length_append, show n + ((ac_tellsP (nI 4) num v (x - 1)).2.length + (((ac_plain num (2 * 3)).1, 11 :: (ac_plain num (2 * 3)).2)).2.length + 1) = n + 1 + (ac_tellsP (nI 4) num v (x - 1)).2.length + (((ac_plain num (2 * 3)).1, 11 :: (ac_plain num (2 * 3)).2)).2.length by omega]
