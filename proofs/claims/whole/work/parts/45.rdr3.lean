theorem dX6_mayBegin_0 : decode cX6_mayBegin 0 = .ok (.iconst 1, 1) := by decide +kernel
theorem dX6_mayBegin_1 : decode cX6_mayBegin 1 = .ok (.ireturn, 1) := by decide +kernel
set_option maxRecDepth 100000 in
set_option maxHeartbeats 4000000 in
theorem s_mb0 (l : Launch) (g : zG) (h : Hp) (a w tm : Nat) : Sp l g yX6_mayBegin cX6_mayBegin 3 (some .boolean) (rmz 1) [.ref a, .ref w, .int (nI tm)] (h) (zI fun r h' => r = 1 ∧ h' = h) := by
  refine Sp.of [some (.ref a), some (.ref w), some (.int (nI tm))] (by decide) (Nat.le_of_ble_eq_true rfl) rfl rfl ?_
  rintro X rfl hr rfl B
  show AW X 0 0 0 _ _ _ _
  refine aw_iconst B 1 (by decide) dX6_mayBegin_0 ?_
  refine aw_iret B rfl rfl dX6_mayBegin_1 ?_
  exact ⟨_, rfl, rfl, rfl⟩
theorem dX8_mayBegin_0 : decode cX8_mayBegin 0 = .ok (.iload_n 2, 1) := by decide +kernel
theorem dX8_mayBegin_1 : decode cX8_mayBegin 1 = .ok (.iconst 1, 1) := by decide +kernel
theorem dX8_mayBegin_2 : decode cX8_mayBegin 2 = .ok (.aload_n 0, 1) := by decide +kernel
theorem dX8_mayBegin_3 : decode cX8_mayBegin 3 = .ok (.getfield 11, 3) := by decide +kernel
theorem dX8_mayBegin_6 : decode cX8_mayBegin 6 = .ok (.iconst 3, 1) := by decide +kernel
theorem dX8_mayBegin_7 : decode cX8_mayBegin 7 = .ok (.irem, 1) := by decide +kernel
theorem dX8_mayBegin_8 : decode cX8_mayBegin 8 = .ok (.iconst 1, 1) := by decide +kernel
theorem dX8_mayBegin_9 : decode cX8_mayBegin 9 = .ok (.iadd, 1) := by decide +kernel
theorem dX8_mayBegin_10 : decode cX8_mayBegin 10 = .ok (.invokestatic 17, 3) := by decide +kernel
theorem dX8_mayBegin_13 : decode cX8_mayBegin 13 = .ok (.invokestatic 23, 3) := by decide +kernel
theorem dX8_mayBegin_16 : decode cX8_mayBegin 16 = .ok (.ifCond .ne 7, 3) := by decide +kernel
theorem dX8_mayBegin_19 : decode cX8_mayBegin 19 = .ok (.iconst 1, 1) := by decide +kernel
theorem dX8_mayBegin_20 : decode cX8_mayBegin 20 = .ok (.goto 4, 3) := by decide +kernel
theorem dX8_mayBegin_23 : decode cX8_mayBegin 23 = .ok (.iconst 0, 1) := by decide +kernel
theorem dX8_mayBegin_24 : decode cX8_mayBegin 24 = .ok (.ireturn, 1) := by decide +kernel
set_option maxRecDepth 100000 in
set_option maxHeartbeats 4000000 in
theorem s_mb3 (l : Launch) (g : zG) (h : Hp) (a c w tm v : Nat) (num : Int32) (Fl : zFL "LowWater$Rowed" 11 c 1 true false .int) (hR : h.2 a = some (.inr (c, [.int num, .int (nI v)]))) (hv : v ≤ 9) (ht : tm < 2 ^ 30) : Sp l g yX8_mayBegin cX8_mayBegin 3 (some .boolean) (rmz 2) [.ref a, .ref w, .int (nI tm)] (h) (zI fun r h' => r = b2 (decide (tm % (v % 3 + 1) = 0)) ∧ h' = h) := by
  refine Sp.of [some (.ref a), some (.ref w), some (.int (nI tm))] (by decide) (Nat.le_of_ble_eq_true rfl) rfl rfl ?_
  rintro X rfl hr rfl B
  show AW X 0 0 0 _ _ _ _
  refine aw_iload_n B 2 rfl dX8_mayBegin_0 rfl ?_
  refine aw_iconst B 1 (by decide) dX8_mayBegin_1 ?_
  refine aw_aload_n B 0 rfl dX8_mayBegin_2 rfl ?_
  refine aw_get B Fl dX8_mayBegin_3 hR rfl ?_
  refine aw_iconst B 3 (by decide) dX8_mayBegin_6 ?_
  refine aw_irem B (by decide) dX8_mayBegin_7 ?_
  rw [show nI v - nI v / 3 * 3 = nI (v % 3) from pk_rem (by omega) (by decide) (by decide)]
  refine aw_iconst B 1 (by decide) dX8_mayBegin_8 ?_
  refine aw_iadd B dX8_mayBegin_9 ?_
  rw [nI_1]
  refine aw_mmax B ma_X8_17 dX8_mayBegin_10 (Nat.le_of_ble_eq_true rfl) (mR2 hr (by omega)) ?_
  rw [show (if (1 : Int32) < nI (v % 3 + 1) then nI (v % 3 + 1) else 1) = nI (v % 3 + 1) from by
    rcases (show v % 3 = 0 ∨ v % 3 = 1 ∨ v % 3 = 2 by omega) with e | e | e <;> rw [e] <;> decide]
  refine aw_callS B 0 0 (s_floorMod _ _ _ tm (v % 3 + 1) (by omega) (by omega) (by omega)) co_J9_floorMod_7cf53 k_X8_23 dX8_mayBegin_13 rfl rfl (Nat.le_of_ble_eq_true rfl) (zrm hr (by omega)) (Nat.le_refl _) (Nat.le_refl _) (kI fun r13 h13 hp13 => ?_)
  obtain ⟨rfl, rfl⟩ := hp13
  refine aw_if_ne B 23 dX8_mayBegin_16 (fun c16 => ?_) (fun c16 => ?_)
  · refine aw_iconst B 0 (by decide) dX8_mayBegin_23 ?_
    refine aw_iret B rfl rfl dX8_mayBegin_24 ?_
    exact ⟨_, rfl, (b2f (fun z => c16 (by rw [z]; rfl))).symm, rfl⟩
  · refine aw_iconst B 1 (by decide) dX8_mayBegin_19 ?_
    refine aw_goto B 24 dX8_mayBegin_20 ?_
    refine aw_iret B rfl rfl dX8_mayBegin_24 ?_
    exact ⟨_, rfl, (b2t ((nI_eq (b := 0) (by have := Nat.mod_lt tm (show 0 < v % 3 + 1 by omega); omega) (by decide)).mp c16)).symm, rfl⟩
