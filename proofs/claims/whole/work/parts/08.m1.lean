def bI (p : Prop) [Decidable p] : Int32 := if p then 1 else 0
theorem bI0 {p : Prop} [Decidable p] : bI p = 0 ↔ ¬ p := by unfold bI; by_cases h : p <;> simp [h]
theorem bI01 {p : Prop} [Decidable p] : bI p = 0 ∨ bI p = 1 := by unfold bI; by_cases h : p <;> simp [h]
theorem bIn {p : Prop} [Decidable p] : narrow .boolean (.int (bI p)) = .int (bI p) := by unfold bI; by_cases h : p <;> simp [h] <;> rfl
theorem dX12_in_0 : decode cX12_in 0 = .ok (.iload_n 0, 1) := by decide +kernel
theorem dX12_in_1 : decode cX12_in 1 = .ok (.iload_n 1, 1) := by decide +kernel
theorem dX12_in_2 : decode cX12_in 2 = .ok (.if_icmp .lt 12, 3) := by decide +kernel
theorem dX12_in_5 : decode cX12_in 5 = .ok (.iload_n 0, 1) := by decide +kernel
theorem dX12_in_6 : decode cX12_in 6 = .ok (.iload_n 2, 1) := by decide +kernel
theorem dX12_in_7 : decode cX12_in 7 = .ok (.if_icmp .gt 7, 3) := by decide +kernel
theorem dX12_in_10 : decode cX12_in 10 = .ok (.iconst 1, 1) := by decide +kernel
theorem dX12_in_11 : decode cX12_in 11 = .ok (.goto 4, 3) := by decide +kernel
theorem dX12_in_14 : decode cX12_in 14 = .ok (.iconst 0, 1) := by decide +kernel
theorem dX12_in_15 : decode cX12_in 15 = .ok (.ireturn, 1) := by decide +kernel
set_option maxRecDepth 100000 in
set_option maxHeartbeats 4000000 in
theorem s_in (l : Launch) (g : zG) (h : Hp) (v lo hi : Int32) : Sp l g yX12_in cX12_in 3 (some .boolean) (rmz 1) [.int v, .int lo, .int hi] (h) (zI fun r h' => r = bI (lo ≤ v ∧ v ≤ hi) ∧ h' = h) := by
  refine Sp.of [some (.int v), some (.int lo), some (.int hi)] (by decide) (Nat.le_of_ble_eq_true rfl) rfl rfl ?_
  rintro X rfl hr rfl B
  show AW X 0 0 0 _ _ _ _
  refine aw_iload_n B 0 rfl dX12_in_0 rfl ?_
  refine aw_iload_n B 1 rfl dX12_in_1 rfl ?_
  refine aw_icmp_lt B 14 dX12_in_2 (fun c2 => ?_) (fun c2 => ?_)
  · refine aw_iconst B 0 (by decide) dX12_in_14 ?_
    refine aw_iret B rfl rfl dX12_in_15 ?_
    exact ⟨_, rfl, by unfold bI; simp only [Int32.lt_iff_toInt_lt, Int32.le_iff_toInt_le] at *; split <;> first | rfl | (exfalso; omega), rfl⟩
  · refine aw_iload_n B 0 rfl dX12_in_5 rfl ?_
    refine aw_iload_n B 2 rfl dX12_in_6 rfl ?_
    refine aw_icmp_gt B 14 dX12_in_7 (fun c7 => ?_) (fun c7 => ?_)
    · refine aw_iconst B 0 (by decide) dX12_in_14 ?_
      refine aw_iret B rfl rfl dX12_in_15 ?_
      exact ⟨_, rfl, by unfold bI; simp only [Int32.lt_iff_toInt_lt, Int32.le_iff_toInt_le] at *; split <;> first | rfl | (exfalso; omega), rfl⟩
    · refine aw_iconst B 1 (by decide) dX12_in_10 ?_
      refine aw_goto B 15 dX12_in_11 ?_
      refine aw_iret B rfl rfl dX12_in_15 ?_
      exact ⟨_, rfl, by unfold bI; simp only [Int32.lt_iff_toInt_lt, Int32.le_iff_toInt_le] at *; split <;> first | rfl | (exfalso; omega), rfl⟩
theorem dX12_isShelf_0 : decode cX12_isShelf 0 = .ok (.iload_n 0, 1) := by decide +kernel
theorem dX12_isShelf_1 : decode cX12_isShelf 1 = .ok (.iconst 0, 1) := by decide +kernel
theorem dX12_isShelf_2 : decode cX12_isShelf 2 = .ok (.bipush 8, 2) := by decide +kernel
theorem dX12_isShelf_4 : decode cX12_isShelf 4 = .ok (.invokestatic 44, 3) := by decide +kernel
theorem dX12_isShelf_7 : decode cX12_isShelf 7 = .ok (.ireturn, 1) := by decide +kernel
set_option maxRecDepth 100000 in
set_option maxHeartbeats 4000000 in
theorem s_isShelf (l : Launch) (g : zG) (h : Hp) (v : Int32) : Sp l g yX12_isShelf cX12_isShelf 1 (some .boolean) (rmz 2) [.int v] (h) (zI fun r h' => r = bI (0 ≤ v ∧ v ≤ 8) ∧ h' = h) := by
  refine Sp.of [some (.int v)] (by decide) (Nat.le_of_ble_eq_true rfl) rfl rfl ?_
  rintro X rfl hr rfl B
  show AW X 0 0 0 _ _ _ _
  refine aw_iload_n B 0 rfl dX12_isShelf_0 rfl ?_
  refine aw_iconst B 0 (by decide) dX12_isShelf_1 ?_
  refine aw_bipush B 8 (by decide) dX12_isShelf_2 ?_
  refine aw_callS B 0 0 (s_in _ _ _ _ _ _) co_X12_in k_X12_44 dX12_isShelf_4 rfl rfl (Nat.le_of_ble_eq_true rfl) (zrm hr (by decide)) (Nat.le_refl _) (Nat.le_refl _) (kI fun r4 h4 hp4 => ?_)
  obtain ⟨rfl, rfl⟩ := hp4
  refine aw_iret B rfl bIn dX12_isShelf_7 ?_
  exact ⟨_, rfl, rfl, rfl⟩
theorem dX12_isSlate_0 : decode cX12_isSlate 0 = .ok (.iload_n 1, 1) := by decide +kernel
theorem dX12_isSlate_1 : decode cX12_isSlate 1 = .ok (.iconst 0, 1) := by decide +kernel
theorem dX12_isSlate_2 : decode cX12_isSlate 2 = .ok (.aload_n 0, 1) := by decide +kernel
theorem dX12_isSlate_3 : decode cX12_isSlate 3 = .ok (.getfield 9, 3) := by decide +kernel
theorem dX12_isSlate_6 : decode cX12_isSlate 6 = .ok (.iconst 0, 1) := by decide +kernel
theorem dX12_isSlate_7 : decode cX12_isSlate 7 = .ok (.iaload, 1) := by decide +kernel
theorem dX12_isSlate_8 : decode cX12_isSlate 8 = .ok (.iconst 1, 1) := by decide +kernel
theorem dX12_isSlate_9 : decode cX12_isSlate 9 = .ok (.isub, 1) := by decide +kernel
theorem dX12_isSlate_10 : decode cX12_isSlate 10 = .ok (.invokestatic 44, 3) := by decide +kernel
theorem dX12_isSlate_13 : decode cX12_isSlate 13 = .ok (.ireturn, 1) := by decide +kernel
set_option maxRecDepth 100000 in
set_option maxHeartbeats 4000000 in
theorem s_isSlate (l : Launch) (g : zG) (h : Hp) (m : Nat) (F : Nat → Int32) (A : Nat → Nat → Int32) (v : Int32) : Sp l g yX12_isSlate cX12_isSlate 2 (some .boolean) (rmz 2) [.ref m, .int v] (hM g h m F A) (zI fun r h' => r = bI (0 ≤ v ∧ v ≤ A 1 0 - 1) ∧ h' = hM g h m F A) := by
  refine Sp.of [some (.ref m), some (.int v)] (by decide) (Nat.le_of_ble_eq_true rfl) rfl rfl ?_
  rintro X rfl hr rfl B
  show AW X 0 0 0 _ _ _ _
  refine aw_iload_n B 1 rfl dX12_isSlate_0 rfl ?_
  refine aw_iconst B 0 (by decide) dX12_isSlate_1 ?_
  refine aw_aload_n B 0 rfl dX12_isSlate_2 rfl ?_
  refine m_get B f_X12_9 dX12_isSlate_3 rfl ?_
  refine aw_iconst B 0 (by decide) dX12_isSlate_6 ?_
  refine m_ld B (0) (by decide) (by unfold vp_in; decide) dX12_isSlate_7 (by decide) ?_
  refine aw_iconst B 1 (by decide) dX12_isSlate_8 ?_
  refine aw_isub B dX12_isSlate_9 ?_
  refine aw_callS B 0 0 (s_in _ _ _ _ _ _) co_X12_in k_X12_44 dX12_isSlate_10 rfl rfl (Nat.le_of_ble_eq_true rfl) (zrm hr (by decide)) (Nat.le_refl _) (Nat.le_refl _) (kI fun r10 h10 hp10 => ?_)
  obtain ⟨rfl, rfl⟩ := hp10
  refine aw_iret B rfl bIn dX12_isSlate_13 ?_
  exact ⟨_, rfl, rfl, rfl⟩
theorem dX12_isReader_0 : decode cX12_isReader 0 = .ok (.iload_n 1, 1) := by decide +kernel
theorem dX12_isReader_1 : decode cX12_isReader 1 = .ok (.iconst 0, 1) := by decide +kernel
theorem dX12_isReader_2 : decode cX12_isReader 2 = .ok (.aload_n 0, 1) := by decide +kernel
theorem dX12_isReader_3 : decode cX12_isReader 3 = .ok (.getfield 9, 3) := by decide +kernel
theorem dX12_isReader_6 : decode cX12_isReader 6 = .ok (.iconst 1, 1) := by decide +kernel
theorem dX12_isReader_7 : decode cX12_isReader 7 = .ok (.iaload, 1) := by decide +kernel
theorem dX12_isReader_8 : decode cX12_isReader 8 = .ok (.iconst 1, 1) := by decide +kernel
theorem dX12_isReader_9 : decode cX12_isReader 9 = .ok (.isub, 1) := by decide +kernel
theorem dX12_isReader_10 : decode cX12_isReader 10 = .ok (.invokestatic 44, 3) := by decide +kernel
theorem dX12_isReader_13 : decode cX12_isReader 13 = .ok (.ireturn, 1) := by decide +kernel
set_option maxRecDepth 100000 in
set_option maxHeartbeats 4000000 in
theorem s_isReader (l : Launch) (g : zG) (h : Hp) (m : Nat) (F : Nat → Int32) (A : Nat → Nat → Int32) (v : Int32) : Sp l g yX12_isReader cX12_isReader 2 (some .boolean) (rmz 2) [.ref m, .int v] (hM g h m F A) (zI fun r h' => r = bI (0 ≤ v ∧ v ≤ A 1 1 - 1) ∧ h' = hM g h m F A) := by
  refine Sp.of [some (.ref m), some (.int v)] (by decide) (Nat.le_of_ble_eq_true rfl) rfl rfl ?_
  rintro X rfl hr rfl B
  show AW X 0 0 0 _ _ _ _
  refine aw_iload_n B 1 rfl dX12_isReader_0 rfl ?_
  refine aw_iconst B 0 (by decide) dX12_isReader_1 ?_
  refine aw_aload_n B 0 rfl dX12_isReader_2 rfl ?_
  refine m_get B f_X12_9 dX12_isReader_3 rfl ?_
  refine aw_iconst B 1 (by decide) dX12_isReader_6 ?_
  refine m_ld B (1) (by decide) (by unfold vp_in; decide) dX12_isReader_7 (by decide) ?_
  refine aw_iconst B 1 (by decide) dX12_isReader_8 ?_
  refine aw_isub B dX12_isReader_9 ?_
  refine aw_callS B 0 0 (s_in _ _ _ _ _ _) co_X12_in k_X12_44 dX12_isReader_10 rfl rfl (Nat.le_of_ble_eq_true rfl) (zrm hr (by decide)) (Nat.le_refl _) (Nat.le_refl _) (kI fun r10 h10 hp10 => ?_)
  obtain ⟨rfl, rfl⟩ := hp10
  refine aw_iret B rfl bIn dX12_isReader_13 ?_
  exact ⟨_, rfl, rfl, rfl⟩
