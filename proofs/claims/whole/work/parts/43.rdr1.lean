/-- the class of a kind of readers, by its place -/
def kc (k : Nat) : Nat := if k = 0 then 6 else if k = 1 then 3 else if k = 2 then 2 else if k = 3 then 8 else if k = 4 then 5 else if k = 5 then 0 else 10
theorem kc_cl {k : Nat} (hk : k ≤ 6) : ∃ r, vwCl[kc k]? = some r := by
  rcases (show k = 0 ∨ k = 1 ∨ k = 2 ∨ k = 3 ∨ k = 4 ∨ k = 5 ∨ k = 6 by omega) with rfl | rfl | rfl | rfl | rfl | rfl | rfl <;> exact ⟨_, rfl⟩
theorem fR_9 {k : Nat} (hk : k ≤ 6) : zFL "LowWater$Reader" 9 (kc k) 0 true true .int := by
  rcases (show k = 0 ∨ k = 1 ∨ k = 2 ∨ k = 3 ∨ k = 4 ∨ k = 5 ∨ k = 6 by omega) with rfl | rfl | rfl | rfl | rfl | rfl | rfl
  · exact fr_X6_9_6
  · exact fr_X6_9_3
  · exact fr_X6_9_2
  · exact fr_X6_9_8
  · exact fr_X6_9_5
  · exact fr_X6_9_0
  · exact fr_X6_9_10
theorem fR_15 {k : Nat} (hk : k ≤ 6) : zFL "LowWater$Reader" 15 (kc k) 1 true true .int := by
  rcases (show k = 0 ∨ k = 1 ∨ k = 2 ∨ k = 3 ∨ k = 4 ∨ k = 5 ∨ k = 6 by omega) with rfl | rfl | rfl | rfl | rfl | rfl | rfl
  · exact fr_X6_15_6
  · exact fr_X6_15_3
  · exact fr_X6_15_2
  · exact fr_X6_15_8
  · exact fr_X6_15_5
  · exact fr_X6_15_0
  · exact fr_X6_15_10
def u0 (j : Int32) : Int32 := if j = 0 then 1 else 0
def u1 (c j : Int32) : Int32 := if j = c then 1 else u0 j
def u2 (c c' j : Int32) : Int32 := if j = c then 1 else u1 c' j
theorem u0_1 {j : Int32} (h : ¬ u0 j = 0) : u0 j = 1 := by
  unfold u0 at h ⊢
  split
  · rfl
  · rename_i z; rw [if_neg z] at h; exact absurd rfl h
theorem u1_1 {c j : Int32} (h : ¬ u1 c j = 0) : u1 c j = 1 := by
  unfold u1 at h ⊢
  by_cases z : j = c
  · rw [if_pos z]
  · rw [if_neg z] at h ⊢; exact u0_1 h
/-- may a reader begin at an hour -/
def mBh (Q : pP) (k v tm : Nat) : Bool := if k = 3 then decide (tm % (v % 3 + 1) = 0) else if k = 6 then (decide (tm % (v % 3 + 1) = 0) && decide (lvl tm Q ≤ lvl (if tm = 0 then 11 else tm - 1) Q)) else true
theorem mB_h {T : Nat} {Q : pP} {k v a : Nat} : mB T Q k v a = mBh Q k v (T + a) := rfl
theorem caveI.o {g : zG} {h : Hp} {k : Nat} {Q : pP} (p : caveI g h k Q) : ∃ fs, h.2 k = some (.inr (1, fs)) := by
  obtain ⟨tx, sf, nf, tf, pl, p1, -⟩ := p
  exact ⟨_, p1 0 (by decide)⟩
theorem dX6_kind_0 : decode cX6_kind 0 = .ok (.iconst 0, 1) := by decide +kernel
theorem dX6_kind_1 : decode cX6_kind 1 = .ok (.ireturn, 1) := by decide +kernel
set_option maxRecDepth 100000 in
set_option maxHeartbeats 4000000 in
theorem s_kind0 (l : Launch) (g : zG) (h : Hp) (a : Nat) : Sp l g yX6_kind cX6_kind 1 (some .int) (rmz 1) [.ref a] (h) (zI fun r h' => r = nI 0 ∧ h' = h) := by
  refine Sp.of [some (.ref a)] (by decide) (Nat.le_of_ble_eq_true rfl) rfl rfl ?_
  rintro X rfl hr rfl B
  show AW X 0 0 0 _ _ _ _
  refine aw_iconst B 0 (by decide) dX6_kind_0 ?_
  refine aw_iret B rfl rfl dX6_kind_1 ?_
  exact ⟨_, rfl, rfl, rfl⟩
theorem dX3_kind_0 : decode cX3_kind 0 = .ok (.iconst 1, 1) := by decide +kernel
theorem dX3_kind_1 : decode cX3_kind 1 = .ok (.ireturn, 1) := by decide +kernel
set_option maxRecDepth 100000 in
set_option maxHeartbeats 4000000 in
theorem s_kind1 (l : Launch) (g : zG) (h : Hp) (a : Nat) : Sp l g yX3_kind cX3_kind 1 (some .int) (rmz 1) [.ref a] (h) (zI fun r h' => r = nI 1 ∧ h' = h) := by
  refine Sp.of [some (.ref a)] (by decide) (Nat.le_of_ble_eq_true rfl) rfl rfl ?_
  rintro X rfl hr rfl B
  show AW X 0 0 0 _ _ _ _
  refine aw_iconst B 1 (by decide) dX3_kind_0 ?_
  refine aw_iret B rfl rfl dX3_kind_1 ?_
  exact ⟨_, rfl, rfl, rfl⟩
theorem dX2_kind_0 : decode cX2_kind 0 = .ok (.iconst 2, 1) := by decide +kernel
theorem dX2_kind_1 : decode cX2_kind 1 = .ok (.ireturn, 1) := by decide +kernel
set_option maxRecDepth 100000 in
set_option maxHeartbeats 4000000 in
theorem s_kind2 (l : Launch) (g : zG) (h : Hp) (a : Nat) : Sp l g yX2_kind cX2_kind 1 (some .int) (rmz 1) [.ref a] (h) (zI fun r h' => r = nI 2 ∧ h' = h) := by
  refine Sp.of [some (.ref a)] (by decide) (Nat.le_of_ble_eq_true rfl) rfl rfl ?_
  rintro X rfl hr rfl B
  show AW X 0 0 0 _ _ _ _
  refine aw_iconst B 2 (by decide) dX2_kind_0 ?_
  refine aw_iret B rfl rfl dX2_kind_1 ?_
  exact ⟨_, rfl, rfl, rfl⟩
theorem dX8_kind_0 : decode cX8_kind 0 = .ok (.iconst 3, 1) := by decide +kernel
theorem dX8_kind_1 : decode cX8_kind 1 = .ok (.ireturn, 1) := by decide +kernel
set_option maxRecDepth 100000 in
set_option maxHeartbeats 4000000 in
theorem s_kind3 (l : Launch) (g : zG) (h : Hp) (a : Nat) : Sp l g yX8_kind cX8_kind 1 (some .int) (rmz 1) [.ref a] (h) (zI fun r h' => r = nI 3 ∧ h' = h) := by
  refine Sp.of [some (.ref a)] (by decide) (Nat.le_of_ble_eq_true rfl) rfl rfl ?_
  rintro X rfl hr rfl B
  show AW X 0 0 0 _ _ _ _
  refine aw_iconst B 3 (by decide) dX8_kind_0 ?_
  refine aw_iret B rfl rfl dX8_kind_1 ?_
  exact ⟨_, rfl, rfl, rfl⟩
theorem dX5_kind_0 : decode cX5_kind 0 = .ok (.iconst 4, 1) := by decide +kernel
theorem dX5_kind_1 : decode cX5_kind 1 = .ok (.ireturn, 1) := by decide +kernel
set_option maxRecDepth 100000 in
set_option maxHeartbeats 4000000 in
theorem s_kind4 (l : Launch) (g : zG) (h : Hp) (a : Nat) : Sp l g yX5_kind cX5_kind 1 (some .int) (rmz 1) [.ref a] (h) (zI fun r h' => r = nI 4 ∧ h' = h) := by
  refine Sp.of [some (.ref a)] (by decide) (Nat.le_of_ble_eq_true rfl) rfl rfl ?_
  rintro X rfl hr rfl B
  show AW X 0 0 0 _ _ _ _
  refine aw_iconst B 4 (by decide) dX5_kind_0 ?_
  refine aw_iret B rfl rfl dX5_kind_1 ?_
  exact ⟨_, rfl, rfl, rfl⟩
theorem dX0_kind_0 : decode cX0_kind 0 = .ok (.iconst 5, 1) := by decide +kernel
theorem dX0_kind_1 : decode cX0_kind 1 = .ok (.ireturn, 1) := by decide +kernel
set_option maxRecDepth 100000 in
set_option maxHeartbeats 4000000 in
theorem s_kind5 (l : Launch) (g : zG) (h : Hp) (a : Nat) : Sp l g yX0_kind cX0_kind 1 (some .int) (rmz 1) [.ref a] (h) (zI fun r h' => r = nI 5 ∧ h' = h) := by
  refine Sp.of [some (.ref a)] (by decide) (Nat.le_of_ble_eq_true rfl) rfl rfl ?_
  rintro X rfl hr rfl B
  show AW X 0 0 0 _ _ _ _
  refine aw_iconst B 5 (by decide) dX0_kind_0 ?_
  refine aw_iret B rfl rfl dX0_kind_1 ?_
  exact ⟨_, rfl, rfl, rfl⟩
theorem dX10_kind_0 : decode cX10_kind 0 = .ok (.bipush 6, 2) := by decide +kernel
theorem dX10_kind_2 : decode cX10_kind 2 = .ok (.ireturn, 1) := by decide +kernel
set_option maxRecDepth 100000 in
set_option maxHeartbeats 4000000 in
theorem s_kind6 (l : Launch) (g : zG) (h : Hp) (a : Nat) : Sp l g yX10_kind cX10_kind 1 (some .int) (rmz 1) [.ref a] (h) (zI fun r h' => r = nI 6 ∧ h' = h) := by
  refine Sp.of [some (.ref a)] (by decide) (Nat.le_of_ble_eq_true rfl) rfl rfl ?_
  rintro X rfl hr rfl B
  show AW X 0 0 0 _ _ _ _
  refine aw_bipush B 6 (by decide) dX10_kind_0 ?_
  refine aw_iret B rfl rfl dX10_kind_2 ?_
  exact ⟨_, rfl, rfl, rfl⟩
theorem dX6_isA_0 : decode cX6_isA 0 = .ok (.iload_n 1, 1) := by decide +kernel
theorem dX6_isA_1 : decode cX6_isA 1 = .ok (.ifCond .ne 7, 3) := by decide +kernel
theorem dX6_isA_4 : decode cX6_isA 4 = .ok (.iconst 1, 1) := by decide +kernel
theorem dX6_isA_5 : decode cX6_isA 5 = .ok (.goto 4, 3) := by decide +kernel
theorem dX6_isA_8 : decode cX6_isA 8 = .ok (.iconst 0, 1) := by decide +kernel
theorem dX6_isA_9 : decode cX6_isA 9 = .ok (.ireturn, 1) := by decide +kernel
set_option maxRecDepth 100000 in
set_option maxHeartbeats 4000000 in
theorem s_isA0 (l : Launch) (g : zG) (h : Hp) (a : Nat) (j : Int32) : Sp l g yX6_isA cX6_isA 2 (some .boolean) (rmz 1) [.ref a, .int j] (h) (zI fun r h' => r = u0 j ∧ h' = h) := by
  refine Sp.of [some (.ref a), some (.int j)] (by decide) (Nat.le_of_ble_eq_true rfl) rfl rfl ?_
  rintro X rfl hr rfl B
  show AW X 0 0 0 _ _ _ _
  refine aw_iload_n B 1 rfl dX6_isA_0 rfl ?_
  refine aw_if_ne B 8 dX6_isA_1 (fun c1 => ?_) (fun c1 => ?_)
  · refine aw_iconst B 0 (by decide) dX6_isA_8 ?_
    refine aw_iret B rfl rfl dX6_isA_9 ?_
    exact ⟨_, rfl, by unfold u0; rw [if_neg c1], rfl⟩
  · refine aw_iconst B 1 (by decide) dX6_isA_4 ?_
    refine aw_goto B 9 dX6_isA_5 ?_
    refine aw_iret B rfl rfl dX6_isA_9 ?_
    exact ⟨_, rfl, by unfold u0; rw [if_pos c1], rfl⟩
theorem dX3_isA_0 : decode cX3_isA 0 = .ok (.iload_n 1, 1) := by decide +kernel
theorem dX3_isA_1 : decode cX3_isA 1 = .ok (.iconst 1, 1) := by decide +kernel
theorem dX3_isA_2 : decode cX3_isA 2 = .ok (.if_icmp .eq 11, 3) := by decide +kernel
theorem dX3_isA_5 : decode cX3_isA 5 = .ok (.aload_n 0, 1) := by decide +kernel
theorem dX3_isA_6 : decode cX3_isA 6 = .ok (.iload_n 1, 1) := by decide +kernel
theorem dX3_isA_7 : decode cX3_isA 7 = .ok (.invokespecial 7, 3) := by decide +kernel
theorem dX3_isA_10 : decode cX3_isA 10 = .ok (.ifCond .eq 7, 3) := by decide +kernel
theorem dX3_isA_13 : decode cX3_isA 13 = .ok (.iconst 1, 1) := by decide +kernel
theorem dX3_isA_14 : decode cX3_isA 14 = .ok (.goto 4, 3) := by decide +kernel
theorem dX3_isA_17 : decode cX3_isA 17 = .ok (.iconst 0, 1) := by decide +kernel
theorem dX3_isA_18 : decode cX3_isA 18 = .ok (.ireturn, 1) := by decide +kernel
set_option maxRecDepth 100000 in
set_option maxHeartbeats 4000000 in
theorem s_isA1 (l : Launch) (g : zG) (h : Hp) (a : Nat) (j : Int32) (c : Nat) (fs : List Value) (rr : vw_C) (hR : h.2 a = some (.inr (c, fs))) (hcl : vwCl[c]? = some rr) : Sp l g yX3_isA cX3_isA 2 (some .boolean) (rmz 2) [.ref a, .int j] (h) (zI fun r h' => r = u1 1 j ∧ h' = h) := by
  refine Sp.of [some (.ref a), some (.int j)] (by decide) (Nat.le_of_ble_eq_true rfl) rfl rfl ?_
  rintro X rfl hr rfl B
  show AW X 0 0 0 _ _ _ _
  refine aw_iload_n B 1 rfl dX3_isA_0 rfl ?_
  refine aw_iconst B 1 (by decide) dX3_isA_1 ?_
  refine aw_icmp_eq B 13 dX3_isA_2 (fun c2 => ?_) (fun c2 => ?_)
  · refine aw_iconst B 1 (by decide) dX3_isA_13 ?_
    refine aw_goto B 18 dX3_isA_14 ?_
    refine aw_iret B rfl rfl dX3_isA_18 ?_
    exact ⟨_, rfl, by unfold u1; rw [if_pos c2], rfl⟩
  · refine aw_aload_n B 0 rfl dX3_isA_5 rfl ?_
    refine aw_iload_n B 1 rfl dX3_isA_6 rfl ?_
    refine aw_callSU B 0 0 (s_isA0 _ _ _ a j) co_X6_isA k_X3_7 dX3_isA_7 hR hcl rfl rfl (Nat.le_of_ble_eq_true rfl) (zrm hr (by omega)) (Nat.le_refl _) (Nat.le_refl _) (kI fun r7 h7 hp7 => ?_)
    obtain ⟨rfl, rfl⟩ := hp7
    refine aw_if_eq B 17 dX3_isA_10 (fun c10 => ?_) (fun c10 => ?_)
    · refine aw_iconst B 0 (by decide) dX3_isA_17 ?_
      refine aw_iret B rfl rfl dX3_isA_18 ?_
      exact ⟨_, rfl, by unfold u1; rw [if_neg c2]; exact c10.symm, rfl⟩
    · refine aw_iconst B 1 (by decide) dX3_isA_13 ?_
      refine aw_goto B 18 dX3_isA_14 ?_
      refine aw_iret B rfl rfl dX3_isA_18 ?_
      exact ⟨_, rfl, by unfold u1; rw [if_neg c2]; exact (u0_1 c10).symm, rfl⟩
theorem dX2_isA_0 : decode cX2_isA 0 = .ok (.iload_n 1, 1) := by decide +kernel
theorem dX2_isA_1 : decode cX2_isA 1 = .ok (.iconst 2, 1) := by decide +kernel
theorem dX2_isA_2 : decode cX2_isA 2 = .ok (.if_icmp .eq 11, 3) := by decide +kernel
theorem dX2_isA_5 : decode cX2_isA 5 = .ok (.aload_n 0, 1) := by decide +kernel
theorem dX2_isA_6 : decode cX2_isA 6 = .ok (.iload_n 1, 1) := by decide +kernel
theorem dX2_isA_7 : decode cX2_isA 7 = .ok (.invokespecial 7, 3) := by decide +kernel
theorem dX2_isA_10 : decode cX2_isA 10 = .ok (.ifCond .eq 7, 3) := by decide +kernel
theorem dX2_isA_13 : decode cX2_isA 13 = .ok (.iconst 1, 1) := by decide +kernel
theorem dX2_isA_14 : decode cX2_isA 14 = .ok (.goto 4, 3) := by decide +kernel
theorem dX2_isA_17 : decode cX2_isA 17 = .ok (.iconst 0, 1) := by decide +kernel
theorem dX2_isA_18 : decode cX2_isA 18 = .ok (.ireturn, 1) := by decide +kernel
set_option maxRecDepth 100000 in
set_option maxHeartbeats 4000000 in
theorem s_isA2 (l : Launch) (g : zG) (h : Hp) (a : Nat) (j : Int32) (c : Nat) (fs : List Value) (rr : vw_C) (hR : h.2 a = some (.inr (c, fs))) (hcl : vwCl[c]? = some rr) : Sp l g yX2_isA cX2_isA 2 (some .boolean) (rmz 2) [.ref a, .int j] (h) (zI fun r h' => r = u1 2 j ∧ h' = h) := by
  refine Sp.of [some (.ref a), some (.int j)] (by decide) (Nat.le_of_ble_eq_true rfl) rfl rfl ?_
  rintro X rfl hr rfl B
  show AW X 0 0 0 _ _ _ _
  refine aw_iload_n B 1 rfl dX2_isA_0 rfl ?_
  refine aw_iconst B 2 (by decide) dX2_isA_1 ?_
  refine aw_icmp_eq B 13 dX2_isA_2 (fun c2 => ?_) (fun c2 => ?_)
  · refine aw_iconst B 1 (by decide) dX2_isA_13 ?_
    refine aw_goto B 18 dX2_isA_14 ?_
    refine aw_iret B rfl rfl dX2_isA_18 ?_
    exact ⟨_, rfl, by unfold u1; rw [if_pos c2], rfl⟩
  · refine aw_aload_n B 0 rfl dX2_isA_5 rfl ?_
    refine aw_iload_n B 1 rfl dX2_isA_6 rfl ?_
    refine aw_callSU B 0 0 (s_isA0 _ _ _ a j) co_X6_isA k_X2_7 dX2_isA_7 hR hcl rfl rfl (Nat.le_of_ble_eq_true rfl) (zrm hr (by omega)) (Nat.le_refl _) (Nat.le_refl _) (kI fun r7 h7 hp7 => ?_)
    obtain ⟨rfl, rfl⟩ := hp7
    refine aw_if_eq B 17 dX2_isA_10 (fun c10 => ?_) (fun c10 => ?_)
    · refine aw_iconst B 0 (by decide) dX2_isA_17 ?_
      refine aw_iret B rfl rfl dX2_isA_18 ?_
      exact ⟨_, rfl, by unfold u1; rw [if_neg c2]; exact c10.symm, rfl⟩
    · refine aw_iconst B 1 (by decide) dX2_isA_13 ?_
      refine aw_goto B 18 dX2_isA_14 ?_
      refine aw_iret B rfl rfl dX2_isA_18 ?_
      exact ⟨_, rfl, by unfold u1; rw [if_neg c2]; exact (u0_1 c10).symm, rfl⟩
theorem dX8_isA_0 : decode cX8_isA 0 = .ok (.iload_n 1, 1) := by decide +kernel
theorem dX8_isA_1 : decode cX8_isA 1 = .ok (.iconst 3, 1) := by decide +kernel
theorem dX8_isA_2 : decode cX8_isA 2 = .ok (.if_icmp .eq 11, 3) := by decide +kernel
theorem dX8_isA_5 : decode cX8_isA 5 = .ok (.aload_n 0, 1) := by decide +kernel
theorem dX8_isA_6 : decode cX8_isA 6 = .ok (.iload_n 1, 1) := by decide +kernel
theorem dX8_isA_7 : decode cX8_isA 7 = .ok (.invokespecial 7, 3) := by decide +kernel
theorem dX8_isA_10 : decode cX8_isA 10 = .ok (.ifCond .eq 7, 3) := by decide +kernel
theorem dX8_isA_13 : decode cX8_isA 13 = .ok (.iconst 1, 1) := by decide +kernel
theorem dX8_isA_14 : decode cX8_isA 14 = .ok (.goto 4, 3) := by decide +kernel
theorem dX8_isA_17 : decode cX8_isA 17 = .ok (.iconst 0, 1) := by decide +kernel
theorem dX8_isA_18 : decode cX8_isA 18 = .ok (.ireturn, 1) := by decide +kernel
set_option maxRecDepth 100000 in
set_option maxHeartbeats 4000000 in
theorem s_isA3 (l : Launch) (g : zG) (h : Hp) (a : Nat) (j : Int32) (c : Nat) (fs : List Value) (rr : vw_C) (hR : h.2 a = some (.inr (c, fs))) (hcl : vwCl[c]? = some rr) : Sp l g yX8_isA cX8_isA 2 (some .boolean) (rmz 2) [.ref a, .int j] (h) (zI fun r h' => r = u1 3 j ∧ h' = h) := by
  refine Sp.of [some (.ref a), some (.int j)] (by decide) (Nat.le_of_ble_eq_true rfl) rfl rfl ?_
  rintro X rfl hr rfl B
  show AW X 0 0 0 _ _ _ _
  refine aw_iload_n B 1 rfl dX8_isA_0 rfl ?_
  refine aw_iconst B 3 (by decide) dX8_isA_1 ?_
  refine aw_icmp_eq B 13 dX8_isA_2 (fun c2 => ?_) (fun c2 => ?_)
  · refine aw_iconst B 1 (by decide) dX8_isA_13 ?_
    refine aw_goto B 18 dX8_isA_14 ?_
    refine aw_iret B rfl rfl dX8_isA_18 ?_
    exact ⟨_, rfl, by unfold u1; rw [if_pos c2], rfl⟩
  · refine aw_aload_n B 0 rfl dX8_isA_5 rfl ?_
    refine aw_iload_n B 1 rfl dX8_isA_6 rfl ?_
    refine aw_callSU B 0 0 (s_isA0 _ _ _ a j) co_X6_isA k_X8_7 dX8_isA_7 hR hcl rfl rfl (Nat.le_of_ble_eq_true rfl) (zrm hr (by omega)) (Nat.le_refl _) (Nat.le_refl _) (kI fun r7 h7 hp7 => ?_)
    obtain ⟨rfl, rfl⟩ := hp7
    refine aw_if_eq B 17 dX8_isA_10 (fun c10 => ?_) (fun c10 => ?_)
    · refine aw_iconst B 0 (by decide) dX8_isA_17 ?_
      refine aw_iret B rfl rfl dX8_isA_18 ?_
      exact ⟨_, rfl, by unfold u1; rw [if_neg c2]; exact c10.symm, rfl⟩
    · refine aw_iconst B 1 (by decide) dX8_isA_13 ?_
      refine aw_goto B 18 dX8_isA_14 ?_
      refine aw_iret B rfl rfl dX8_isA_18 ?_
      exact ⟨_, rfl, by unfold u1; rw [if_neg c2]; exact (u0_1 c10).symm, rfl⟩
theorem dX5_isA_0 : decode cX5_isA 0 = .ok (.iload_n 1, 1) := by decide +kernel
theorem dX5_isA_1 : decode cX5_isA 1 = .ok (.iconst 4, 1) := by decide +kernel
theorem dX5_isA_2 : decode cX5_isA 2 = .ok (.if_icmp .eq 11, 3) := by decide +kernel
theorem dX5_isA_5 : decode cX5_isA 5 = .ok (.aload_n 0, 1) := by decide +kernel
theorem dX5_isA_6 : decode cX5_isA 6 = .ok (.iload_n 1, 1) := by decide +kernel
theorem dX5_isA_7 : decode cX5_isA 7 = .ok (.invokespecial 7, 3) := by decide +kernel
theorem dX5_isA_10 : decode cX5_isA 10 = .ok (.ifCond .eq 7, 3) := by decide +kernel
theorem dX5_isA_13 : decode cX5_isA 13 = .ok (.iconst 1, 1) := by decide +kernel
theorem dX5_isA_14 : decode cX5_isA 14 = .ok (.goto 4, 3) := by decide +kernel
theorem dX5_isA_17 : decode cX5_isA 17 = .ok (.iconst 0, 1) := by decide +kernel
theorem dX5_isA_18 : decode cX5_isA 18 = .ok (.ireturn, 1) := by decide +kernel
set_option maxRecDepth 100000 in
set_option maxHeartbeats 4000000 in
theorem s_isA4 (l : Launch) (g : zG) (h : Hp) (a : Nat) (j : Int32) (c : Nat) (fs : List Value) (rr : vw_C) (hR : h.2 a = some (.inr (c, fs))) (hcl : vwCl[c]? = some rr) : Sp l g yX5_isA cX5_isA 2 (some .boolean) (rmz 3) [.ref a, .int j] (h) (zI fun r h' => r = u2 4 1 j ∧ h' = h) := by
  refine Sp.of [some (.ref a), some (.int j)] (by decide) (Nat.le_of_ble_eq_true rfl) rfl rfl ?_
  rintro X rfl hr rfl B
  show AW X 0 0 0 _ _ _ _
  refine aw_iload_n B 1 rfl dX5_isA_0 rfl ?_
  refine aw_iconst B 4 (by decide) dX5_isA_1 ?_
  refine aw_icmp_eq B 13 dX5_isA_2 (fun c2 => ?_) (fun c2 => ?_)
  · refine aw_iconst B 1 (by decide) dX5_isA_13 ?_
    refine aw_goto B 18 dX5_isA_14 ?_
    refine aw_iret B rfl rfl dX5_isA_18 ?_
    exact ⟨_, rfl, by unfold u2; rw [if_pos c2], rfl⟩
  · refine aw_aload_n B 0 rfl dX5_isA_5 rfl ?_
    refine aw_iload_n B 1 rfl dX5_isA_6 rfl ?_
    refine aw_callSU B 0 0 (s_isA1 _ _ _ a j c fs rr hR hcl) co_X3_isA k_X5_7 dX5_isA_7 hR hcl rfl rfl (Nat.le_of_ble_eq_true rfl) (zrm hr (by omega)) (Nat.le_refl _) (Nat.le_refl _) (kI fun r7 h7 hp7 => ?_)
    obtain ⟨rfl, rfl⟩ := hp7
    refine aw_if_eq B 17 dX5_isA_10 (fun c10 => ?_) (fun c10 => ?_)
    · refine aw_iconst B 0 (by decide) dX5_isA_17 ?_
      refine aw_iret B rfl rfl dX5_isA_18 ?_
      exact ⟨_, rfl, by unfold u2; rw [if_neg c2]; exact c10.symm, rfl⟩
    · refine aw_iconst B 1 (by decide) dX5_isA_13 ?_
      refine aw_goto B 18 dX5_isA_14 ?_
      refine aw_iret B rfl rfl dX5_isA_18 ?_
      exact ⟨_, rfl, by unfold u2; rw [if_neg c2]; exact (u1_1 c10).symm, rfl⟩
theorem dX0_isA_0 : decode cX0_isA 0 = .ok (.iload_n 1, 1) := by decide +kernel
theorem dX0_isA_1 : decode cX0_isA 1 = .ok (.iconst 5, 1) := by decide +kernel
theorem dX0_isA_2 : decode cX0_isA 2 = .ok (.if_icmp .eq 11, 3) := by decide +kernel
theorem dX0_isA_5 : decode cX0_isA 5 = .ok (.aload_n 0, 1) := by decide +kernel
theorem dX0_isA_6 : decode cX0_isA 6 = .ok (.iload_n 1, 1) := by decide +kernel
theorem dX0_isA_7 : decode cX0_isA 7 = .ok (.invokespecial 7, 3) := by decide +kernel
theorem dX0_isA_10 : decode cX0_isA 10 = .ok (.ifCond .eq 7, 3) := by decide +kernel
theorem dX0_isA_13 : decode cX0_isA 13 = .ok (.iconst 1, 1) := by decide +kernel
theorem dX0_isA_14 : decode cX0_isA 14 = .ok (.goto 4, 3) := by decide +kernel
theorem dX0_isA_17 : decode cX0_isA 17 = .ok (.iconst 0, 1) := by decide +kernel
theorem dX0_isA_18 : decode cX0_isA 18 = .ok (.ireturn, 1) := by decide +kernel
set_option maxRecDepth 100000 in
set_option maxHeartbeats 4000000 in
theorem s_isA5 (l : Launch) (g : zG) (h : Hp) (a : Nat) (j : Int32) (c : Nat) (fs : List Value) (rr : vw_C) (hR : h.2 a = some (.inr (c, fs))) (hcl : vwCl[c]? = some rr) : Sp l g yX0_isA cX0_isA 2 (some .boolean) (rmz 3) [.ref a, .int j] (h) (zI fun r h' => r = u2 5 2 j ∧ h' = h) := by
  refine Sp.of [some (.ref a), some (.int j)] (by decide) (Nat.le_of_ble_eq_true rfl) rfl rfl ?_
  rintro X rfl hr rfl B
  show AW X 0 0 0 _ _ _ _
  refine aw_iload_n B 1 rfl dX0_isA_0 rfl ?_
  refine aw_iconst B 5 (by decide) dX0_isA_1 ?_
  refine aw_icmp_eq B 13 dX0_isA_2 (fun c2 => ?_) (fun c2 => ?_)
  · refine aw_iconst B 1 (by decide) dX0_isA_13 ?_
    refine aw_goto B 18 dX0_isA_14 ?_
    refine aw_iret B rfl rfl dX0_isA_18 ?_
    exact ⟨_, rfl, by unfold u2; rw [if_pos c2], rfl⟩
  · refine aw_aload_n B 0 rfl dX0_isA_5 rfl ?_
    refine aw_iload_n B 1 rfl dX0_isA_6 rfl ?_
    refine aw_callSU B 0 0 (s_isA2 _ _ _ a j c fs rr hR hcl) co_X2_isA k_X0_7 dX0_isA_7 hR hcl rfl rfl (Nat.le_of_ble_eq_true rfl) (zrm hr (by omega)) (Nat.le_refl _) (Nat.le_refl _) (kI fun r7 h7 hp7 => ?_)
    obtain ⟨rfl, rfl⟩ := hp7
    refine aw_if_eq B 17 dX0_isA_10 (fun c10 => ?_) (fun c10 => ?_)
    · refine aw_iconst B 0 (by decide) dX0_isA_17 ?_
      refine aw_iret B rfl rfl dX0_isA_18 ?_
      exact ⟨_, rfl, by unfold u2; rw [if_neg c2]; exact c10.symm, rfl⟩
    · refine aw_iconst B 1 (by decide) dX0_isA_13 ?_
      refine aw_goto B 18 dX0_isA_14 ?_
      refine aw_iret B rfl rfl dX0_isA_18 ?_
      exact ⟨_, rfl, by unfold u2; rw [if_neg c2]; exact (u1_1 c10).symm, rfl⟩
theorem dX10_isA_0 : decode cX10_isA 0 = .ok (.iload_n 1, 1) := by decide +kernel
theorem dX10_isA_1 : decode cX10_isA 1 = .ok (.bipush 6, 2) := by decide +kernel
theorem dX10_isA_3 : decode cX10_isA 3 = .ok (.if_icmp .eq 11, 3) := by decide +kernel
theorem dX10_isA_6 : decode cX10_isA 6 = .ok (.aload_n 0, 1) := by decide +kernel
theorem dX10_isA_7 : decode cX10_isA 7 = .ok (.iload_n 1, 1) := by decide +kernel
theorem dX10_isA_8 : decode cX10_isA 8 = .ok (.invokespecial 7, 3) := by decide +kernel
theorem dX10_isA_11 : decode cX10_isA 11 = .ok (.ifCond .eq 7, 3) := by decide +kernel
theorem dX10_isA_14 : decode cX10_isA 14 = .ok (.iconst 1, 1) := by decide +kernel
theorem dX10_isA_15 : decode cX10_isA 15 = .ok (.goto 4, 3) := by decide +kernel
theorem dX10_isA_18 : decode cX10_isA 18 = .ok (.iconst 0, 1) := by decide +kernel
theorem dX10_isA_19 : decode cX10_isA 19 = .ok (.ireturn, 1) := by decide +kernel
set_option maxRecDepth 100000 in
set_option maxHeartbeats 4000000 in
theorem s_isA6 (l : Launch) (g : zG) (h : Hp) (a : Nat) (j : Int32) (c : Nat) (fs : List Value) (rr : vw_C) (hR : h.2 a = some (.inr (c, fs))) (hcl : vwCl[c]? = some rr) : Sp l g yX10_isA cX10_isA 2 (some .boolean) (rmz 3) [.ref a, .int j] (h) (zI fun r h' => r = u2 6 3 j ∧ h' = h) := by
  refine Sp.of [some (.ref a), some (.int j)] (by decide) (Nat.le_of_ble_eq_true rfl) rfl rfl ?_
  rintro X rfl hr rfl B
  show AW X 0 0 0 _ _ _ _
  refine aw_iload_n B 1 rfl dX10_isA_0 rfl ?_
  refine aw_bipush B 6 (by decide) dX10_isA_1 ?_
  refine aw_icmp_eq B 14 dX10_isA_3 (fun c3 => ?_) (fun c3 => ?_)
  · refine aw_iconst B 1 (by decide) dX10_isA_14 ?_
    refine aw_goto B 19 dX10_isA_15 ?_
    refine aw_iret B rfl rfl dX10_isA_19 ?_
    exact ⟨_, rfl, by unfold u2; rw [if_pos c3], rfl⟩
  · refine aw_aload_n B 0 rfl dX10_isA_6 rfl ?_
    refine aw_iload_n B 1 rfl dX10_isA_7 rfl ?_
    refine aw_callSU B 0 0 (s_isA3 _ _ _ a j c fs rr hR hcl) co_X8_isA k_X10_7 dX10_isA_8 hR hcl rfl rfl (Nat.le_of_ble_eq_true rfl) (zrm hr (by omega)) (Nat.le_refl _) (Nat.le_refl _) (kI fun r8 h8 hp8 => ?_)
    obtain ⟨rfl, rfl⟩ := hp8
    refine aw_if_eq B 18 dX10_isA_11 (fun c11 => ?_) (fun c11 => ?_)
    · refine aw_iconst B 0 (by decide) dX10_isA_18 ?_
      refine aw_iret B rfl rfl dX10_isA_19 ?_
      exact ⟨_, rfl, by unfold u2; rw [if_neg c3]; exact c11.symm, rfl⟩
    · refine aw_iconst B 1 (by decide) dX10_isA_14 ?_
      refine aw_goto B 19 dX10_isA_15 ?_
      refine aw_iret B rfl rfl dX10_isA_19 ?_
      exact ⟨_, rfl, by unfold u2; rw [if_neg c3]; exact (u1_1 c11).symm, rfl⟩
