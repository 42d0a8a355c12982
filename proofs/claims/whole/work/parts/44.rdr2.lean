theorem dX6_hoursFor_0 : decode cX6_hoursFor 0 = .ok (.iload_n 1, 1) := by decide +kernel
theorem dX6_hoursFor_1 : decode cX6_hoursFor 1 = .ok (.ireturn, 1) := by decide +kernel
set_option maxRecDepth 100000 in
set_option maxHeartbeats 4000000 in
theorem s_hf0 (l : Launch) (g : zG) (h : Hp) (a n : Nat) : Sp l g yX6_hoursFor cX6_hoursFor 2 (some .int) (rmz 1) [.ref a, .int (nI n)] (h) (zI fun r h' => r = nI (n) ∧ h' = h) := by
  refine Sp.of [some (.ref a), some (.int (nI n))] (by decide) (Nat.le_of_ble_eq_true rfl) rfl rfl ?_
  rintro X rfl hr rfl B
  show AW X 0 0 0 _ _ _ _
  refine aw_iload_n B 1 rfl dX6_hoursFor_0 rfl ?_
  refine aw_iret B rfl rfl dX6_hoursFor_1 ?_
  exact ⟨_, rfl, rfl, rfl⟩
theorem dX3_hoursFor_0 : decode cX3_hoursFor 0 = .ok (.iload_n 1, 1) := by decide +kernel
theorem dX3_hoursFor_1 : decode cX3_hoursFor 1 = .ok (.iconst 1, 1) := by decide +kernel
theorem dX3_hoursFor_2 : decode cX3_hoursFor 2 = .ok (.iadd, 1) := by decide +kernel
theorem dX3_hoursFor_3 : decode cX3_hoursFor 3 = .ok (.iconst 2, 1) := by decide +kernel
theorem dX3_hoursFor_4 : decode cX3_hoursFor 4 = .ok (.idiv, 1) := by decide +kernel
theorem dX3_hoursFor_5 : decode cX3_hoursFor 5 = .ok (.ireturn, 1) := by decide +kernel
set_option maxRecDepth 100000 in
set_option maxHeartbeats 4000000 in
theorem s_hf1 (l : Launch) (g : zG) (h : Hp) (a n : Nat) (h1 : 1 ≤ n) (h4 : n ≤ 4) : Sp l g yX3_hoursFor cX3_hoursFor 2 (some .int) (rmz 1) [.ref a, .int (nI n)] (h) (zI fun r h' => r = nI ((n + 1) / 2) ∧ h' = h) := by
  refine Sp.of [some (.ref a), some (.int (nI n))] (by decide) (Nat.le_of_ble_eq_true rfl) rfl rfl ?_
  rintro X rfl hr rfl B
  show AW X 0 0 0 _ _ _ _
  refine aw_iload_n B 1 rfl dX3_hoursFor_0 rfl ?_
  refine aw_iconst B 1 (by decide) dX3_hoursFor_1 ?_
  refine aw_iadd B dX3_hoursFor_2 ?_
  refine aw_iconst B 2 (by decide) dX3_hoursFor_3 ?_
  rw [nI_1]
  refine aw_idiv B (by decide) dX3_hoursFor_4 ?_
  refine aw_iret B rfl rfl dX3_hoursFor_5 ?_
  exact ⟨_, rfl, (show nI (n + 1) / nI 2 = _ from pk_div (by omega) (by decide) (by decide)), rfl⟩
theorem dX0_hoursFor_0 : decode cX0_hoursFor 0 = .ok (.iconst 2, 1) := by decide +kernel
theorem dX0_hoursFor_1 : decode cX0_hoursFor 1 = .ok (.iload_n 1, 1) := by decide +kernel
theorem dX0_hoursFor_2 : decode cX0_hoursFor 2 = .ok (.imul, 1) := by decide +kernel
theorem dX0_hoursFor_3 : decode cX0_hoursFor 3 = .ok (.ireturn, 1) := by decide +kernel
set_option maxRecDepth 100000 in
set_option maxHeartbeats 4000000 in
theorem s_hf5 (l : Launch) (g : zG) (h : Hp) (a n : Nat) : Sp l g yX0_hoursFor cX0_hoursFor 2 (some .int) (rmz 1) [.ref a, .int (nI n)] (h) (zI fun r h' => r = nI (2 * n) ∧ h' = h) := by
  refine Sp.of [some (.ref a), some (.int (nI n))] (by decide) (Nat.le_of_ble_eq_true rfl) rfl rfl ?_
  rintro X rfl hr rfl B
  show AW X 0 0 0 _ _ _ _
  refine aw_iconst B 2 (by decide) dX0_hoursFor_0 ?_
  refine aw_iload_n B 1 rfl dX0_hoursFor_1 rfl ?_
  refine aw_imul B dX0_hoursFor_2 ?_
  refine aw_iret B rfl rfl dX0_hoursFor_3 ?_
  exact ⟨_, rfl, (show nI 2 * nI n = _ from pk_mul 2 n), rfl⟩
theorem dX5_hoursFor_0 : decode cX5_hoursFor 0 = .ok (.aload_n 0, 1) := by decide +kernel
theorem dX5_hoursFor_1 : decode cX5_hoursFor 1 = .ok (.iload_n 1, 1) := by decide +kernel
theorem dX5_hoursFor_2 : decode cX5_hoursFor 2 = .ok (.invokespecial 11, 3) := by decide +kernel
theorem dX5_hoursFor_5 : decode cX5_hoursFor 5 = .ok (.istore_n 2, 1) := by decide +kernel
theorem dX5_hoursFor_6 : decode cX5_hoursFor 6 = .ok (.aload_n 0, 1) := by decide +kernel
theorem dX5_hoursFor_7 : decode cX5_hoursFor 7 = .ok (.getfield 15, 3) := by decide +kernel
theorem dX5_hoursFor_10 : decode cX5_hoursFor 10 = .ok (.iconst 4, 1) := by decide +kernel
theorem dX5_hoursFor_11 : decode cX5_hoursFor 11 = .ok (.if_icmp .le 13, 3) := by decide +kernel
theorem dX5_hoursFor_14 : decode cX5_hoursFor 14 = .ok (.iconst 1, 1) := by decide +kernel
theorem dX5_hoursFor_15 : decode cX5_hoursFor 15 = .ok (.iload_n 2, 1) := by decide +kernel
theorem dX5_hoursFor_16 : decode cX5_hoursFor 16 = .ok (.iconst 1, 1) := by decide +kernel
theorem dX5_hoursFor_17 : decode cX5_hoursFor 17 = .ok (.isub, 1) := by decide +kernel
theorem dX5_hoursFor_18 : decode cX5_hoursFor 18 = .ok (.invokestatic 21, 3) := by decide +kernel
theorem dX5_hoursFor_21 : decode cX5_hoursFor 21 = .ok (.goto 4, 3) := by decide +kernel
theorem dX5_hoursFor_24 : decode cX5_hoursFor 24 = .ok (.iload_n 2, 1) := by decide +kernel
theorem dX5_hoursFor_25 : decode cX5_hoursFor 25 = .ok (.ireturn, 1) := by decide +kernel
set_option maxRecDepth 100000 in
set_option maxHeartbeats 4000000 in
theorem s_hf4 (l : Launch) (g : zG) (h : Hp) (a n v : Nat) (num : Int32) (hR : h.2 a = some (.inr (5, [.int num, .int (nI v)]))) (hv : v ≤ 9) (h1 : 1 ≤ n) (h4 : n ≤ 4) : Sp l g yX5_hoursFor cX5_hoursFor 3 (some .int) (rmz 2) [.ref a, .int (nI n)] (h) (zI fun r h' => r = nI (p_needs 4 v n) ∧ h' = h) := by
  refine Sp.of [some (.ref a), some (.int (nI n)), none] (by decide) (Nat.le_of_ble_eq_true rfl) rfl rfl ?_
  rintro X rfl hr rfl B
  show AW X 0 0 0 _ _ _ _
  have hcl : vwCl[5]? = some _ := rfl
  refine aw_aload_n B 0 rfl dX5_hoursFor_0 rfl ?_
  refine aw_iload_n B 1 rfl dX5_hoursFor_1 rfl ?_
  refine aw_callSU B 0 0 (s_hf1 _ _ _ a n h1 h4) co_X3_hoursFor k_X5_11 dX5_hoursFor_2 hR hcl rfl rfl (Nat.le_of_ble_eq_true rfl) (zrm hr (by omega)) (Nat.le_refl _) (Nat.le_refl _) (kI fun r2 h2 hp2 => ?_)
  obtain ⟨rfl, rfl⟩ := hp2
  refine aw_istore2 B dX5_hoursFor_5 ?_
  refine aw_aload_n B 0 rfl dX5_hoursFor_6 rfl ?_
  refine aw_get B f_X5_15 dX5_hoursFor_7 hR rfl ?_
  refine aw_iconst B 4 (by decide) dX5_hoursFor_10 ?_
  refine aw_icmp_le B 24 dX5_hoursFor_11 (fun c11 => ?_) (fun c11 => ?_)
  · refine aw_iload_n B 2 rfl dX5_hoursFor_24 rfl ?_
    refine aw_iret B rfl rfl dX5_hoursFor_25 ?_
    exact ⟨_, rfl, by unfold p_needs; rw [if_neg (by decide), if_pos rfl, if_neg (fun z => absurd ((nI_leI (b := 4) (by omega) (by decide)).mp c11) (Nat.not_le.mpr z.1))], rfl⟩
  · refine aw_iconst B 1 (by decide) dX5_hoursFor_14 ?_
    refine aw_iload_n B 2 rfl dX5_hoursFor_15 rfl ?_
    refine aw_iconst B 1 (by decide) dX5_hoursFor_16 ?_
    refine aw_isub B dX5_hoursFor_17 ?_
    refine aw_mmax B ma_X5_21 dX5_hoursFor_18 (Nat.le_of_ble_eq_true rfl) (mR2 hr (by omega)) ?_
    rw [show (if (1 : Int32) < nI ((n + 1) / 2) - 1 then nI ((n + 1) / 2) - 1 else 1) = nI 1 from by
      rcases (show (n + 1) / 2 = 1 ∨ (n + 1) / 2 = 2 by omega) with e | e <;> rw [e] <;> decide]
    refine aw_goto B 25 dX5_hoursFor_21 ?_
    refine aw_iret B rfl rfl dX5_hoursFor_25 ?_
    have hv4 : 4 < v := Nat.not_le.mp fun z => c11 (nI_le (b := 4) z (by decide))
    refine ⟨_, rfl, ?_, rfl⟩
    unfold p_needs
    rw [if_neg (by decide), if_pos rfl]
    by_cases hq : 1 < (n + 1) / 2
    · rw [if_pos ⟨hv4, hq⟩, show (n + 1) / 2 - 1 = 1 by omega]
    · rw [if_neg (fun z => hq z.2), show (n + 1) / 2 = 1 by omega]
theorem dX6_reaches_0 : decode cX6_reaches 0 = .ok (.iload_n 2, 1) := by decide +kernel
theorem dX6_reaches_1 : decode cX6_reaches 1 = .ok (.iload_n 1, 1) := by decide +kernel
theorem dX6_reaches_2 : decode cX6_reaches 2 = .ok (.if_icmp .gt 7, 3) := by decide +kernel
theorem dX6_reaches_5 : decode cX6_reaches 5 = .ok (.iconst 1, 1) := by decide +kernel
theorem dX6_reaches_6 : decode cX6_reaches 6 = .ok (.goto 4, 3) := by decide +kernel
theorem dX6_reaches_9 : decode cX6_reaches 9 = .ok (.iconst 0, 1) := by decide +kernel
theorem dX6_reaches_10 : decode cX6_reaches 10 = .ok (.ireturn, 1) := by decide +kernel
set_option maxRecDepth 100000 in
set_option maxHeartbeats 4000000 in
theorem s_re0 (l : Launch) (g : zG) (h : Hp) (a : Nat) (sh lev : Int32) : Sp l g yX6_reaches cX6_reaches 3 (some .boolean) (rmz 1) [.ref a, .int sh, .int lev] (h) (zI fun r h' => r = b2 (decide (lev ≤ sh)) ∧ h' = h) := by
  refine Sp.of [some (.ref a), some (.int sh), some (.int lev)] (by decide) (Nat.le_of_ble_eq_true rfl) rfl rfl ?_
  rintro X rfl hr rfl B
  show AW X 0 0 0 _ _ _ _
  refine aw_iload_n B 2 rfl dX6_reaches_0 rfl ?_
  refine aw_iload_n B 1 rfl dX6_reaches_1 rfl ?_
  refine aw_icmp_gt B 9 dX6_reaches_2 (fun c2 => ?_) (fun c2 => ?_)
  · refine aw_iconst B 0 (by decide) dX6_reaches_9 ?_
    refine aw_iret B rfl rfl dX6_reaches_10 ?_
    exact ⟨_, rfl, (b2f (Int32.not_le.mpr c2)).symm, rfl⟩
  · refine aw_iconst B 1 (by decide) dX6_reaches_5 ?_
    refine aw_goto B 10 dX6_reaches_6 ?_
    refine aw_iret B rfl rfl dX6_reaches_10 ?_
    exact ⟨_, rfl, (b2t (Int32.not_lt.mp c2)).symm, rfl⟩
theorem dX2_reaches_0 : decode cX2_reaches 0 = .ok (.iload_n 2, 1) := by decide +kernel
theorem dX2_reaches_1 : decode cX2_reaches 1 = .ok (.iload_n 1, 1) := by decide +kernel
theorem dX2_reaches_2 : decode cX2_reaches 2 = .ok (.aload_n 0, 1) := by decide +kernel
theorem dX2_reaches_3 : decode cX2_reaches 3 = .ok (.getfield 11, 3) := by decide +kernel
theorem dX2_reaches_6 : decode cX2_reaches 6 = .ok (.iconst 3, 1) := by decide +kernel
theorem dX2_reaches_7 : decode cX2_reaches 7 = .ok (.irem, 1) := by decide +kernel
theorem dX2_reaches_8 : decode cX2_reaches 8 = .ok (.iadd, 1) := by decide +kernel
theorem dX2_reaches_9 : decode cX2_reaches 9 = .ok (.if_icmp .gt 7, 3) := by decide +kernel
theorem dX2_reaches_12 : decode cX2_reaches 12 = .ok (.iconst 1, 1) := by decide +kernel
theorem dX2_reaches_13 : decode cX2_reaches 13 = .ok (.goto 4, 3) := by decide +kernel
theorem dX2_reaches_16 : decode cX2_reaches 16 = .ok (.iconst 0, 1) := by decide +kernel
theorem dX2_reaches_17 : decode cX2_reaches 17 = .ok (.ireturn, 1) := by decide +kernel
set_option maxRecDepth 100000 in
set_option maxHeartbeats 4000000 in
theorem s_re2 (l : Launch) (g : zG) (h : Hp) (a c sh v : Nat) (lev num : Int32) (Fl : zFL "LowWater$Diver" 11 c 1 true false .int) (hR : h.2 a = some (.inr (c, [.int num, .int (nI v)]))) (hv : v ≤ 9) : Sp l g yX2_reaches cX2_reaches 3 (some .boolean) (rmz 1) [.ref a, .int (nI sh), .int lev] (h) (zI fun r h' => r = b2 (decide (lev ≤ nI (sh + v % 3))) ∧ h' = h) := by
  refine Sp.of [some (.ref a), some (.int (nI sh)), some (.int lev)] (by decide) (Nat.le_of_ble_eq_true rfl) rfl rfl ?_
  rintro X rfl hr rfl B
  show AW X 0 0 0 _ _ _ _
  refine aw_iload_n B 2 rfl dX2_reaches_0 rfl ?_
  refine aw_iload_n B 1 rfl dX2_reaches_1 rfl ?_
  refine aw_aload_n B 0 rfl dX2_reaches_2 rfl ?_
  refine aw_get B Fl dX2_reaches_3 hR rfl ?_
  refine aw_iconst B 3 (by decide) dX2_reaches_6 ?_
  refine aw_irem B (by decide) dX2_reaches_7 ?_
  rw [show nI v - nI v / 3 * 3 = nI (v % 3) from pk_rem (by omega) (by decide) (by decide)]
  refine aw_iadd B dX2_reaches_8 ?_
  rw [nI_add]
  refine aw_icmp_gt B 16 dX2_reaches_9 (fun c9 => ?_) (fun c9 => ?_)
  · refine aw_iconst B 0 (by decide) dX2_reaches_16 ?_
    refine aw_iret B rfl rfl dX2_reaches_17 ?_
    exact ⟨_, rfl, (b2f (Int32.not_le.mpr c9)).symm, rfl⟩
  · refine aw_iconst B 1 (by decide) dX2_reaches_12 ?_
    refine aw_goto B 17 dX2_reaches_13 ?_
    refine aw_iret B rfl rfl dX2_reaches_17 ?_
    exact ⟨_, rfl, (b2t (Int32.not_lt.mp c9)).symm, rfl⟩
