theorem lt_le1 {k : Nat} (hk : k < 2 ^ 30) (i : Int32) : i < nI k ↔ i ≤ nI k - 1 := by
  have e : (nI k - 1).toInt = (k : Int) - 1 := by
    cases k with
    | zero => decide
    | succ k =>
      rw [← nI_1, Int32.add_sub_cancel, nI_toInt (by omega)]
      omega
  rw [Int32.lt_iff_toInt_lt, Int32.le_iff_toInt_le, e, nI_toInt (by omega)]
  omega
theorem bI_t {p : Prop} [Decidable p] (h : p) : bI p = 1 := by unfold bI; rw [if_pos h]
theorem bI_f {p : Prop} [Decidable p] (h : ¬ p) : bI p = 0 := by unfold bI; rw [if_neg h]
theorem set_i {n j : Nat} (hn : n ≤ 6) (hj : j < 2 ^ 31) : nI j < (1 : Int32) <<< (nI n &&& 31) ↔ nI j >>> (nI n &&& 31) = 0 := by
  have e1 : ∀ n, n ≤ 6 → (1 : Int32) <<< (nI n &&& 31) = nI (2 ^ n) := by decide
  rw [e1 n hn]
  have e2 : nI j >>> (nI n &&& 31) = nI (j / 2 ^ n) := by
    rcases (show n = 0 ∨ n = 1 ∨ n = 2 ∨ n = 3 ∨ n = 4 ∨ n = 5 ∨ n = 6 by omega) with rfl | rfl | rfl | rfl | rfl | rfl | rfl
    · exact pk_shrN hj _ 0 (by decide)
    · exact pk_shrN hj _ 1 (by decide)
    · exact pk_shrN hj _ 2 (by decide)
    · exact pk_shrN hj _ 3 (by decide)
    · exact pk_shrN hj _ 4 (by decide)
    · exact pk_shrN hj _ 5 (by decide)
    · exact pk_shrN hj _ 6 (by decide)
  have hp : 2 ^ n ≤ 2 ^ 6 := Nat.pow_le_pow_right (by decide) hn
  have hp0 : 0 < 2 ^ n := Nat.two_pow_pos n
  rw [e2]
  constructor
  · intro c
    rw [Nat.div_eq_of_lt ((nI_ltI hj (by omega)).mp c)]; rfl
  · intro c
    have := (nI_eq (b := 0) (Nat.lt_of_le_of_lt (Nat.div_le_self _ _) hj) (by decide)).mp c
    exact nI_lt (by
      rcases Nat.lt_or_ge j (2 ^ n) with h | h
      · exact h
      · have := Nat.div_pos h hp0
        omega) (by omega)
theorem dX11_isSlate_0 : decode cX11_isSlate 0 = .ok (.iload_n 1, 1) := by decide +kernel
theorem dX11_isSlate_1 : decode cX11_isSlate 1 = .ok (.ifCond .lt 21, 3) := by decide +kernel
theorem dX11_isSlate_4 : decode cX11_isSlate 4 = .ok (.iload_n 1, 1) := by decide +kernel
theorem dX11_isSlate_5 : decode cX11_isSlate 5 = .ok (.aload_n 0, 1) := by decide +kernel
theorem dX11_isSlate_6 : decode cX11_isSlate 6 = .ok (.getfield 12, 3) := by decide +kernel
theorem dX11_isSlate_9 : decode cX11_isSlate 9 = .ok (.getfield 87, 3) := by decide +kernel
theorem dX11_isSlate_12 : decode cX11_isSlate 12 = .ok (.getfield 66, 3) := by decide +kernel
theorem dX11_isSlate_15 : decode cX11_isSlate 15 = .ok (.if_icmp .ge 7, 3) := by decide +kernel
theorem dX11_isSlate_18 : decode cX11_isSlate 18 = .ok (.iconst 1, 1) := by decide +kernel
theorem dX11_isSlate_19 : decode cX11_isSlate 19 = .ok (.goto 4, 3) := by decide +kernel
theorem dX11_isSlate_22 : decode cX11_isSlate 22 = .ok (.iconst 0, 1) := by decide +kernel
theorem dX11_isSlate_23 : decode cX11_isSlate 23 = .ok (.ireturn, 1) := by decide +kernel
set_option maxRecDepth 100000 in
set_option maxHeartbeats 4000000 in
theorem x_isSlate (l : Launch) (g : zG) {h : Hp} {x ca cs N T T2 tn : Nat} {S S2 Bt : Nat → Int32} {Q Q2 : pP} {n n2 : Nat → Nat} {im : Int32} (i : Int32) (hc : cH g h x ca cs N S T Q n S2 T2 Q2 n2 im Bt tn) : Sp l g yX11_isSlate cX11_isSlate 2 (some .boolean) (rmz 1) [.ref x, .int i] (h) (zI fun r h' => r = bI (0 ≤ i ∧ i ≤ S 0 - 1) ∧ h' = h) := by
  refine Sp.of [some (.ref x), some (.int i)] (by decide) (Nat.le_of_ble_eq_true rfl) rfl rfl ?_
  rintro X rfl hr rfl B
  show AW X 0 0 0 _ _ _ _
  obtain ⟨vS, vR, vC, vA, vE, vL, vT, vH⟩ := hc.v
  have e0 := vS.2.1
  have e1 := vR.2.1
  have e2 := vC.2.1
  have e3 := vA.2.1
  have e4 := vE.2.1
  have e5 := vL.2.1
  have e6 := vT.2
  have e8 := vH.1
  have b0 := vS.1
  have b1 := vR.1
  have b2' := vC.1
  have b3 := vA.1
  have b4 := vE.1
  have b5 := vL.1
  have b6 := vT.1
  have b8 := vH.2.1
  have O : only x (x + 54) h h := only.rf
  refine aw_iload_n B 1 rfl dX11_isSlate_0 rfl ?_
  refine aw_if_lt B 22 dX11_isSlate_1 (fun c1 => ?_) (fun c1 => ?_)
  · refine aw_iconst B 0 (by decide) dX11_isSlate_22 ?_
    refine aw_iret B rfl rfl dX11_isSlate_23 ?_
    exact ⟨_, rfl, by rw [bI_f (fun z => absurd z.1 (Int32.not_le.mpr c1))], rfl⟩
  · refine aw_iload_n B 1 rfl dX11_isSlate_4 rfl ?_
    refine aw_aload_n B 0 rfl dX11_isSlate_5 rfl ?_
    refine aw_get B f_X11_12 dX11_isSlate_6 hc.ox rfl ?_
    refine aw_get B f_X11_87 dX11_isSlate_9 hc.s rfl ?_
    refine aw_get B f_X11_66 dX11_isSlate_12 (hc.shelves).o rfl ?_
    refine aw_icmp_ge B 22 dX11_isSlate_15 (fun c15 => ?_) (fun c15 => ?_)
    · refine aw_iconst B 0 (by decide) dX11_isSlate_22 ?_
      refine aw_iret B rfl rfl dX11_isSlate_23 ?_
      exact ⟨_, rfl, by rw [bI_f (fun z => absurd c15 (Int32.not_le.mpr (by rw [e0] at z; exact (lt_le1 (by omega) i).mpr z.2)))], rfl⟩
    · refine aw_iconst B 1 (by decide) dX11_isSlate_18 ?_
      refine aw_goto B 23 dX11_isSlate_19 ?_
      refine aw_iret B rfl rfl dX11_isSlate_23 ?_
      exact ⟨_, rfl, by rw [e0, bI_t ⟨Int32.not_lt.mp c1, (lt_le1 (by omega) i).mp (Int32.not_le.mp c15)⟩], rfl⟩
theorem dX11_isShelf_0 : decode cX11_isShelf 0 = .ok (.iload_n 0, 1) := by decide +kernel
theorem dX11_isShelf_1 : decode cX11_isShelf 1 = .ok (.ifCond .lt 13, 3) := by decide +kernel
theorem dX11_isShelf_4 : decode cX11_isShelf 4 = .ok (.iload_n 0, 1) := by decide +kernel
theorem dX11_isShelf_5 : decode cX11_isShelf 5 = .ok (.bipush 9, 2) := by decide +kernel
theorem dX11_isShelf_7 : decode cX11_isShelf 7 = .ok (.if_icmp .ge 7, 3) := by decide +kernel
theorem dX11_isShelf_10 : decode cX11_isShelf 10 = .ok (.iconst 1, 1) := by decide +kernel
theorem dX11_isShelf_11 : decode cX11_isShelf 11 = .ok (.goto 4, 3) := by decide +kernel
theorem dX11_isShelf_14 : decode cX11_isShelf 14 = .ok (.iconst 0, 1) := by decide +kernel
theorem dX11_isShelf_15 : decode cX11_isShelf 15 = .ok (.ireturn, 1) := by decide +kernel
set_option maxRecDepth 100000 in
set_option maxHeartbeats 4000000 in
theorem x_isShelf (l : Launch) (g : zG) (h : Hp) (i : Int32) : Sp l g yX11_isShelf cX11_isShelf 1 (some .boolean) (rmz 1) [.int i] (h) (zI fun r h' => r = bI (0 ≤ i ∧ i ≤ 8) ∧ h' = h) := by
  refine Sp.of [some (.int i)] (by decide) (Nat.le_of_ble_eq_true rfl) rfl rfl ?_
  rintro X rfl hr rfl B
  show AW X 0 0 0 _ _ _ _
  refine aw_iload_n B 0 rfl dX11_isShelf_0 rfl ?_
  refine aw_if_lt B 14 dX11_isShelf_1 (fun c1 => ?_) (fun c1 => ?_)
  · refine aw_iconst B 0 (by decide) dX11_isShelf_14 ?_
    refine aw_iret B rfl rfl dX11_isShelf_15 ?_
    exact ⟨_, rfl, by rw [bI_f (fun z => absurd z.1 (Int32.not_le.mpr c1))], rfl⟩
  · refine aw_iload_n B 0 rfl dX11_isShelf_4 rfl ?_
    refine aw_bipush B 9 (by decide) dX11_isShelf_5 ?_
    refine aw_icmp_ge B 14 dX11_isShelf_7 (fun c7 => ?_) (fun c7 => ?_)
    · refine aw_iconst B 0 (by decide) dX11_isShelf_14 ?_
      refine aw_iret B rfl rfl dX11_isShelf_15 ?_
      exact ⟨_, rfl, by rw [bI_f (fun z => absurd c7 (Int32.not_le.mpr ((lt_le1 (k := 9) (by omega) i).mpr z.2)))], rfl⟩
    · refine aw_iconst B 1 (by decide) dX11_isShelf_10 ?_
      refine aw_goto B 15 dX11_isShelf_11 ?_
      refine aw_iret B rfl rfl dX11_isShelf_15 ?_
      exact ⟨_, rfl, by rw [bI_t ⟨Int32.not_lt.mp c1, (lt_le1 (k := 9) (by omega) i).mp (Int32.not_le.mp c7)⟩], rfl⟩
theorem dX11_isNear_0 : decode cX11_isNear 0 = .ok (.iload_n 0, 1) := by decide +kernel
theorem dX11_isNear_1 : decode cX11_isNear 1 = .ok (.ifCond .lt 13, 3) := by decide +kernel
theorem dX11_isNear_4 : decode cX11_isNear 4 = .ok (.iload_n 0, 1) := by decide +kernel
theorem dX11_isNear_5 : decode cX11_isNear 5 = .ok (.bipush 60, 2) := by decide +kernel
theorem dX11_isNear_7 : decode cX11_isNear 7 = .ok (.if_icmp .gt 7, 3) := by decide +kernel
theorem dX11_isNear_10 : decode cX11_isNear 10 = .ok (.iconst 1, 1) := by decide +kernel
theorem dX11_isNear_11 : decode cX11_isNear 11 = .ok (.goto 4, 3) := by decide +kernel
theorem dX11_isNear_14 : decode cX11_isNear 14 = .ok (.iconst 0, 1) := by decide +kernel
theorem dX11_isNear_15 : decode cX11_isNear 15 = .ok (.ireturn, 1) := by decide +kernel
set_option maxRecDepth 100000 in
set_option maxHeartbeats 4000000 in
theorem x_isNear (l : Launch) (g : zG) (h : Hp) (i : Int32) : Sp l g yX11_isNear cX11_isNear 1 (some .boolean) (rmz 1) [.int i] (h) (zI fun r h' => r = bI (0 ≤ i ∧ i ≤ 60) ∧ h' = h) := by
  refine Sp.of [some (.int i)] (by decide) (Nat.le_of_ble_eq_true rfl) rfl rfl ?_
  rintro X rfl hr rfl B
  show AW X 0 0 0 _ _ _ _
  refine aw_iload_n B 0 rfl dX11_isNear_0 rfl ?_
  refine aw_if_lt B 14 dX11_isNear_1 (fun c1 => ?_) (fun c1 => ?_)
  · refine aw_iconst B 0 (by decide) dX11_isNear_14 ?_
    refine aw_iret B rfl rfl dX11_isNear_15 ?_
    exact ⟨_, rfl, by rw [bI_f (fun z => absurd z.1 (Int32.not_le.mpr c1))], rfl⟩
  · refine aw_iload_n B 0 rfl dX11_isNear_4 rfl ?_
    refine aw_bipush B 60 (by decide) dX11_isNear_5 ?_
    refine aw_icmp_gt B 14 dX11_isNear_7 (fun c7 => ?_) (fun c7 => ?_)
    · refine aw_iconst B 0 (by decide) dX11_isNear_14 ?_
      refine aw_iret B rfl rfl dX11_isNear_15 ?_
      exact ⟨_, rfl, by rw [bI_f (fun z => absurd z.2 (Int32.not_le.mpr c7))], rfl⟩
    · refine aw_iconst B 1 (by decide) dX11_isNear_10 ?_
      refine aw_goto B 15 dX11_isNear_11 ?_
      refine aw_iret B rfl rfl dX11_isNear_15 ?_
      exact ⟨_, rfl, by rw [bI_t ⟨Int32.not_lt.mp c1, Int32.not_lt.mp c7⟩], rfl⟩
theorem is01 (i : Int32) : (0 ≤ i ∧ i ≤ 1) ↔ (i = 0 ∨ i = 1) := by
  rw [Int32.le_iff_toInt_le, Int32.le_iff_toInt_le, ← Int32.toInt_inj, ← Int32.toInt_inj]
  have a : (0 : Int32).toInt = 0 := by decide
  have b : (1 : Int32).toInt = 1 := by decide
  omega
theorem dX11_isWhat_0 : decode cX11_isWhat 0 = .ok (.iload_n 0, 1) := by decide +kernel
theorem dX11_isWhat_1 : decode cX11_isWhat 1 = .ok (.ifCond .eq 8, 3) := by decide +kernel
theorem dX11_isWhat_4 : decode cX11_isWhat 4 = .ok (.iload_n 0, 1) := by decide +kernel
theorem dX11_isWhat_5 : decode cX11_isWhat 5 = .ok (.iconst 1, 1) := by decide +kernel
theorem dX11_isWhat_6 : decode cX11_isWhat 6 = .ok (.if_icmp .ne 7, 3) := by decide +kernel
theorem dX11_isWhat_9 : decode cX11_isWhat 9 = .ok (.iconst 1, 1) := by decide +kernel
theorem dX11_isWhat_10 : decode cX11_isWhat 10 = .ok (.goto 4, 3) := by decide +kernel
theorem dX11_isWhat_13 : decode cX11_isWhat 13 = .ok (.iconst 0, 1) := by decide +kernel
theorem dX11_isWhat_14 : decode cX11_isWhat 14 = .ok (.ireturn, 1) := by decide +kernel
set_option maxRecDepth 100000 in
set_option maxHeartbeats 4000000 in
theorem x_isWhat (l : Launch) (g : zG) (h : Hp) (i : Int32) : Sp l g yX11_isWhat cX11_isWhat 1 (some .boolean) (rmz 1) [.int i] (h) (zI fun r h' => r = bI (0 ≤ i ∧ i ≤ 1) ∧ h' = h) := by
  refine Sp.of [some (.int i)] (by decide) (Nat.le_of_ble_eq_true rfl) rfl rfl ?_
  rintro X rfl hr rfl B
  show AW X 0 0 0 _ _ _ _
  refine aw_iload_n B 0 rfl dX11_isWhat_0 rfl ?_
  refine aw_if_eq B 9 dX11_isWhat_1 (fun c1 => ?_) (fun c1 => ?_)
  · refine aw_iconst B 1 (by decide) dX11_isWhat_9 ?_
    refine aw_goto B 14 dX11_isWhat_10 ?_
    refine aw_iret B rfl rfl dX11_isWhat_14 ?_
    exact ⟨_, rfl, by rw [bI_t ((is01 i).mpr (Or.inl c1))], rfl⟩
  · refine aw_iload_n B 0 rfl dX11_isWhat_4 rfl ?_
    refine aw_iconst B 1 (by decide) dX11_isWhat_5 ?_
    refine aw_icmp_ne B 13 dX11_isWhat_6 (fun c6 => ?_) (fun c6 => ?_)
    · refine aw_iconst B 0 (by decide) dX11_isWhat_13 ?_
      refine aw_iret B rfl rfl dX11_isWhat_14 ?_
      exact ⟨_, rfl, by rw [bI_f (fun z => ((is01 i).mp z).elim c1 c6)], rfl⟩
    · refine aw_iconst B 1 (by decide) dX11_isWhat_9 ?_
      refine aw_goto B 14 dX11_isWhat_10 ?_
      refine aw_iret B rfl rfl dX11_isWhat_14 ?_
      exact ⟨_, rfl, by rw [bI_t ((is01 i).mpr (Or.inr c6))], rfl⟩
theorem dX11_readerIn_0 : decode cX11_readerIn 0 = .ok (.iload_n 0, 1) := by decide +kernel
theorem dX11_readerIn_1 : decode cX11_readerIn 1 = .ok (.sipush 10000, 3) := by decide +kernel
theorem dX11_readerIn_4 : decode cX11_readerIn 4 = .ok (.idiv, 1) := by decide +kernel
theorem dX11_readerIn_5 : decode cX11_readerIn 5 = .ok (.ireturn, 1) := by decide +kernel
set_option maxRecDepth 100000 in
set_option maxHeartbeats 4000000 in
theorem x_readerIn (l : Launch) (g : zG) (h : Hp) (i : Int32) : Sp l g yX11_readerIn cX11_readerIn 1 (some .int) (rmz 1) [.int i] (h) (zI fun r h' => r = i / 10000 ∧ h' = h) := by
  refine Sp.of [some (.int i)] (by decide) (Nat.le_of_ble_eq_true rfl) rfl rfl ?_
  rintro X rfl hr rfl B
  show AW X 0 0 0 _ _ _ _
  refine aw_iload_n B 0 rfl dX11_readerIn_0 rfl ?_
  refine aw_sipush B 10000 (by decide) dX11_readerIn_1 ?_
  refine aw_idiv B (by decide) dX11_readerIn_4 ?_
  refine aw_iret B rfl rfl dX11_readerIn_5 ?_
  exact ⟨_, rfl, rfl, rfl⟩
theorem dX11_slateIn_0 : decode cX11_slateIn 0 = .ok (.iload_n 0, 1) := by decide +kernel
theorem dX11_slateIn_1 : decode cX11_slateIn 1 = .ok (.bipush 100, 2) := by decide +kernel
theorem dX11_slateIn_3 : decode cX11_slateIn 3 = .ok (.idiv, 1) := by decide +kernel
theorem dX11_slateIn_4 : decode cX11_slateIn 4 = .ok (.bipush 100, 2) := by decide +kernel
theorem dX11_slateIn_6 : decode cX11_slateIn 6 = .ok (.irem, 1) := by decide +kernel
theorem dX11_slateIn_7 : decode cX11_slateIn 7 = .ok (.ireturn, 1) := by decide +kernel
set_option maxRecDepth 100000 in
set_option maxHeartbeats 4000000 in
theorem x_slateIn (l : Launch) (g : zG) (h : Hp) (i : Int32) : Sp l g yX11_slateIn cX11_slateIn 1 (some .int) (rmz 1) [.int i] (h) (zI fun r h' => r = i / 100 - i / 100 / 100 * 100 ∧ h' = h) := by
  refine Sp.of [some (.int i)] (by decide) (Nat.le_of_ble_eq_true rfl) rfl rfl ?_
  rintro X rfl hr rfl B
  show AW X 0 0 0 _ _ _ _
  refine aw_iload_n B 0 rfl dX11_slateIn_0 rfl ?_
  refine aw_bipush B 100 (by decide) dX11_slateIn_1 ?_
  refine aw_idiv B (by decide) dX11_slateIn_3 ?_
  refine aw_bipush B 100 (by decide) dX11_slateIn_4 ?_
  refine aw_irem B (by decide) dX11_slateIn_6 ?_
  refine aw_iret B rfl rfl dX11_slateIn_7 ?_
  exact ⟨_, rfl, rfl, rfl⟩
theorem dX11_hoursIn_0 : decode cX11_hoursIn 0 = .ok (.iload_n 0, 1) := by decide +kernel
theorem dX11_hoursIn_1 : decode cX11_hoursIn 1 = .ok (.bipush 100, 2) := by decide +kernel
theorem dX11_hoursIn_3 : decode cX11_hoursIn 3 = .ok (.irem, 1) := by decide +kernel
theorem dX11_hoursIn_4 : decode cX11_hoursIn 4 = .ok (.ireturn, 1) := by decide +kernel
set_option maxRecDepth 100000 in
set_option maxHeartbeats 4000000 in
theorem x_hoursIn (l : Launch) (g : zG) (h : Hp) (i : Int32) : Sp l g yX11_hoursIn cX11_hoursIn 1 (some .int) (rmz 1) [.int i] (h) (zI fun r h' => r = i - i / 100 * 100 ∧ h' = h) := by
  refine Sp.of [some (.int i)] (by decide) (Nat.le_of_ble_eq_true rfl) rfl rfl ?_
  rintro X rfl hr rfl B
  show AW X 0 0 0 _ _ _ _
  refine aw_iload_n B 0 rfl dX11_hoursIn_0 rfl ?_
  refine aw_bipush B 100 (by decide) dX11_hoursIn_1 ?_
  refine aw_irem B (by decide) dX11_hoursIn_3 ?_
  refine aw_iret B rfl rfl dX11_hoursIn_4 ?_
  exact ⟨_, rfl, rfl, rfl⟩
theorem dX11_isSet_0 : decode cX11_isSet 0 = .ok (.iload_n 1, 1) := by decide +kernel
theorem dX11_isSet_1 : decode cX11_isSet 1 = .ok (.ifCond .lt 23, 3) := by decide +kernel
theorem dX11_isSet_4 : decode cX11_isSet 4 = .ok (.iload_n 1, 1) := by decide +kernel
theorem dX11_isSet_5 : decode cX11_isSet 5 = .ok (.iconst 1, 1) := by decide +kernel
theorem dX11_isSet_6 : decode cX11_isSet 6 = .ok (.aload_n 0, 1) := by decide +kernel
theorem dX11_isSet_7 : decode cX11_isSet 7 = .ok (.getfield 12, 3) := by decide +kernel
theorem dX11_isSet_10 : decode cX11_isSet 10 = .ok (.getfield 87, 3) := by decide +kernel
theorem dX11_isSet_13 : decode cX11_isSet 13 = .ok (.getfield 66, 3) := by decide +kernel
theorem dX11_isSet_16 : decode cX11_isSet 16 = .ok (.ishl, 1) := by decide +kernel
theorem dX11_isSet_17 : decode cX11_isSet 17 = .ok (.if_icmp .ge 7, 3) := by decide +kernel
theorem dX11_isSet_20 : decode cX11_isSet 20 = .ok (.iconst 1, 1) := by decide +kernel
theorem dX11_isSet_21 : decode cX11_isSet 21 = .ok (.goto 4, 3) := by decide +kernel
theorem dX11_isSet_24 : decode cX11_isSet 24 = .ok (.iconst 0, 1) := by decide +kernel
theorem dX11_isSet_25 : decode cX11_isSet 25 = .ok (.ireturn, 1) := by decide +kernel
set_option maxRecDepth 100000 in
set_option maxHeartbeats 4000000 in
theorem x_isSet (l : Launch) (g : zG) {h : Hp} {x ca cs N T T2 tn : Nat} {S S2 Bt : Nat → Int32} {Q Q2 : pP} {n n2 : Nat → Nat} {im : Int32} (i : Int32) (hc : cH g h x ca cs N S T Q n S2 T2 Q2 n2 im Bt tn) : Sp l g yX11_isSet cX11_isSet 2 (some .boolean) (rmz 1) [.ref x, .int i] (h) (zI fun r h' => r = bI (0 ≤ i ∧ i >>> (S 0 &&& 31) = 0) ∧ h' = h) := by
  refine Sp.of [some (.ref x), some (.int i)] (by decide) (Nat.le_of_ble_eq_true rfl) rfl rfl ?_
  rintro X rfl hr rfl B
  show AW X 0 0 0 _ _ _ _
  obtain ⟨vS, vR, vC, vA, vE, vL, vT, vH⟩ := hc.v
  have e0 := vS.2.1
  have e1 := vR.2.1
  have e2 := vC.2.1
  have e3 := vA.2.1
  have e4 := vE.2.1
  have e5 := vL.2.1
  have e6 := vT.2
  have e8 := vH.1
  have b0 := vS.1
  have b1 := vR.1
  have b2' := vC.1
  have b3 := vA.1
  have b4 := vE.1
  have b5 := vL.1
  have b6 := vT.1
  have b8 := vH.2.1
  have O : only x (x + 54) h h := only.rf
  refine aw_iload_n B 1 rfl dX11_isSet_0 rfl ?_
  refine aw_if_lt B 24 dX11_isSet_1 (fun c1 => ?_) (fun c1 => ?_)
  · refine aw_iconst B 0 (by decide) dX11_isSet_24 ?_
    refine aw_iret B rfl rfl dX11_isSet_25 ?_
    exact ⟨_, rfl, by rw [bI_f (fun z => absurd z.1 (Int32.not_le.mpr c1))], rfl⟩
  · refine aw_iload_n B 1 rfl dX11_isSet_4 rfl ?_
    refine aw_iconst B 1 (by decide) dX11_isSet_5 ?_
    refine aw_aload_n B 0 rfl dX11_isSet_6 rfl ?_
    refine aw_get B f_X11_12 dX11_isSet_7 hc.ox rfl ?_
    refine aw_get B f_X11_87 dX11_isSet_10 hc.s rfl ?_
    refine aw_get B f_X11_66 dX11_isSet_13 (hc.shelves).o rfl ?_
    refine aw_ishl B dX11_isSet_16 ?_
    refine aw_icmp_ge B 24 dX11_isSet_17 (fun c17 => ?_) (fun c17 => ?_)
    · refine aw_iconst B 0 (by decide) dX11_isSet_24 ?_
      refine aw_iret B rfl rfl dX11_isSet_25 ?_
      obtain ⟨j, hj, rfl⟩ := nI_of c1
      exact ⟨_, rfl, by rw [bI_f (fun z => absurd c17 (Int32.not_le.mpr (by rw [e0] at z; exact (set_i b0 hj).mpr z.2)))], rfl⟩
    · refine aw_iconst B 1 (by decide) dX11_isSet_20 ?_
      refine aw_goto B 25 dX11_isSet_21 ?_
      refine aw_iret B rfl rfl dX11_isSet_25 ?_
      obtain ⟨j, hj, rfl⟩ := nI_of c1
      exact ⟨_, rfl, by rw [e0, bI_t ⟨Int32.not_lt.mp c1, (set_i b0 hj).mp (Int32.not_le.mp c17)⟩], rfl⟩
theorem dX11_levelIn_0 : decode cX11_levelIn 0 = .ok (.aload_n 0, 1) := by decide +kernel
theorem dX11_levelIn_1 : decode cX11_levelIn 1 = .ok (.getfield 12, 3) := by decide +kernel
theorem dX11_levelIn_4 : decode cX11_levelIn 4 = .ok (.getfield 80, 3) := by decide +kernel
theorem dX11_levelIn_7 : decode cX11_levelIn 7 = .ok (.aload_n 0, 1) := by decide +kernel
theorem dX11_levelIn_8 : decode cX11_levelIn 8 = .ok (.getfield 12, 3) := by decide +kernel
theorem dX11_levelIn_11 : decode cX11_levelIn 11 = .ok (.getfield 137, 3) := by decide +kernel
theorem dX11_levelIn_14 : decode cX11_levelIn 14 = .ok (.iload_n 1, 1) := by decide +kernel
theorem dX11_levelIn_15 : decode cX11_levelIn 15 = .ok (.iadd, 1) := by decide +kernel
theorem dX11_levelIn_16 : decode cX11_levelIn 16 = .ok (.invokevirtual 237, 3) := by decide +kernel
theorem dX11_levelIn_19 : decode cX11_levelIn 19 = .ok (.ireturn, 1) := by decide +kernel
set_option maxRecDepth 100000 in
set_option maxHeartbeats 4000000 in
theorem x_levelIn (l : Launch) (g : zG) {h : Hp} {x ca cs N T T2 tn : Nat} {S S2 Bt : Nat → Int32} {Q Q2 : pP} {n n2 : Nat → Nat} {im : Int32} (k : Nat) (hc : cH g h x ca cs N S T Q n S2 T2 Q2 n2 im Bt tn) (hk : k ≤ 200) : Sp l g yX11_levelIn cX11_levelIn 2 (some .int) (rmz 4) [.ref x, .int (nI k)] (h) (zI fun r h' => r = lvl (T + k) Q ∧ cH g h' x ca cs N S T Q n S2 T2 Q2 n2 im Bt tn ∧ only x (x + 54) h h') := by
  refine Sp.of [some (.ref x), some (.int (nI k))] (by decide) (Nat.le_of_ble_eq_true rfl) rfl rfl ?_
  rintro X rfl hr rfl B
  show AW X 0 0 0 _ _ _ _
  obtain ⟨vS, vR, vC, vA, vE, vL, vT, vH⟩ := hc.v
  have e0 := vS.2.1
  have e1 := vR.2.1
  have e2 := vC.2.1
  have e3 := vA.2.1
  have e4 := vE.2.1
  have e5 := vL.2.1
  have e6 := vT.2
  have e8 := vH.1
  have b0 := vS.1
  have b1 := vR.1
  have b2' := vC.1
  have b3 := vA.1
  have b4 := vE.1
  have b5 := vL.1
  have b6 := vT.1
  have b8 := vH.2.1
  have O : only x (x + 54) h h := only.rf
  refine aw_aload_n B 0 rfl dX11_levelIn_0 rfl ?_
  refine aw_get B f_X11_12 dX11_levelIn_1 hc.ox rfl ?_
  refine aw_get B f_X11_80 dX11_levelIn_4 hc.s rfl ?_
  refine aw_aload_n B 0 rfl dX11_levelIn_7 rfl ?_
  refine aw_get B f_X11_12 dX11_levelIn_8 hc.ox rfl ?_
  refine aw_get B f_X11_137 dX11_levelIn_11 hc.s rfl ?_
  refine aw_iload_n B 1 rfl dX11_levelIn_14 rfl ?_
  refine aw_iadd B dX11_levelIn_15 ?_
  rw [e8, nI_add]
  refine aw_callV B 0 0 (s_clevelAt _ _ _ ca (T + k) Q (by omega) hc.c) co_X1_levelAt k_X11_237 dX11_levelIn_16 hc.c.o.choose_spec rfl rfl rfl rfl (Nat.le_of_ble_eq_true rfl) (zrm hr (by omega)) (Nat.le_refl _) (Nat.le_refl _) (kI fun r16 h16 hp16 => ?_)
  obtain ⟨rfl, c16, o16⟩ := hp16
  have O := O.tr (hc.o o16)
  have hc := hc.cv o16 c16
  refine aw_iret B rfl rfl dX11_levelIn_19 ?_
  exact ⟨_, rfl, rfl, hc, O⟩
/-- reader i of the state: its number q, its object a, kind k, v -/
def rdK (h : Hp) (x : Nat) (S : Nat → Int32) (n1 : Nat) (i : Int32) (a q k v : Nat) : Prop := i = nI q ∧ q < n1 ∧ x + 64 ≤ a ∧ k ≤ 6 ∧ v ≤ 9 ∧ S (22 + q) = nI k ∧ S (26 + q) = nI v ∧ h.2 a = some (.inr (kc k, [.int (nI q), .int (nI v)]))
theorem rdK.o {h h' : Hp} {x : Nat} {S : Nat → Int32} {n1 : Nat} {i : Int32} {a q k v lo hi : Nat} (p : rdK h x S n1 i a q k v) (o : only lo hi h h') (d : hi ≤ x + 64) : rdK h' x S n1 i a q k v := by
  obtain ⟨p1, p2, p3, p4, p5, p6, p7, p8⟩ := p
  exact ⟨p1, p2, p3, p4, p5, p6, p7, (o.2 _ (by omega)).trans p8⟩
theorem dX9_readerAt_0 : decode cX9_readerAt 0 = .ok (.iload_n 1, 1) := by decide +kernel
theorem dX9_readerAt_1 : decode cX9_readerAt 1 = .ok (.ifCond .lt 29, 3) := by decide +kernel
theorem dX9_readerAt_4 : decode cX9_readerAt 4 = .ok (.iload_n 1, 1) := by decide +kernel
theorem dX9_readerAt_5 : decode cX9_readerAt 5 = .ok (.aload_n 0, 1) := by decide +kernel
theorem dX9_readerAt_6 : decode cX9_readerAt 6 = .ok (.getfield 18, 3) := by decide +kernel
theorem dX9_readerAt_9 : decode cX9_readerAt 9 = .ok (.if_icmp .ge 21, 3) := by decide +kernel
theorem dX9_readerAt_12 : decode cX9_readerAt 12 = .ok (.iload_n 1, 1) := by decide +kernel
theorem dX9_readerAt_13 : decode cX9_readerAt 13 = .ok (.aload_n 0, 1) := by decide +kernel
theorem dX9_readerAt_14 : decode cX9_readerAt 14 = .ok (.getfield 30, 3) := by decide +kernel
theorem dX9_readerAt_17 : decode cX9_readerAt 17 = .ok (.arraylength, 1) := by decide +kernel
theorem dX9_readerAt_18 : decode cX9_readerAt 18 = .ok (.if_icmp .ge 12, 3) := by decide +kernel
theorem dX9_readerAt_21 : decode cX9_readerAt 21 = .ok (.aload_n 0, 1) := by decide +kernel
theorem dX9_readerAt_22 : decode cX9_readerAt 22 = .ok (.getfield 30, 3) := by decide +kernel
theorem dX9_readerAt_25 : decode cX9_readerAt 25 = .ok (.iload_n 1, 1) := by decide +kernel
theorem dX9_readerAt_26 : decode cX9_readerAt 26 = .ok (.aaload, 1) := by decide +kernel
theorem dX9_readerAt_27 : decode cX9_readerAt 27 = .ok (.goto 4, 3) := by decide +kernel
theorem dX9_readerAt_30 : decode cX9_readerAt 30 = .ok (.aconst_null, 1) := by decide +kernel
theorem dX9_readerAt_31 : decode cX9_readerAt 31 = .ok (.areturn, 1) := by decide +kernel
set_option maxRecDepth 100000 in
set_option maxHeartbeats 4000000 in
theorem x_readerAt (l : Launch) (g : zG) {h : Hp} {x ca cs N T T2 tn : Nat} {S S2 Bt : Nat → Int32} {Q Q2 : pP} {n n2 : Nat → Nat} {im : Int32} (i : Int32) (hc : cH g h x ca cs N S T Q n S2 T2 Q2 n2 im Bt tn) : Sp l g yX9_readerAt cX9_readerAt 2 (some (.object "LowWater$Reader")) (rmz 1) [.ref (x + 1), .int i] (h) (zO fun r h' => h' = h ∧ if 0 ≤ i ∧ i ≤ S 1 - 1 then ∃ a q k v, r = some a ∧ rdK h x S (n 1) i a q k v else r = none) := by
  refine Sp.of [some (.ref (x + 1)), some (.int i)] (by decide) (Nat.le_of_ble_eq_true rfl) rfl rfl ?_
  rintro X rfl hr rfl B
  show AW X 0 0 0 _ _ _ _
  obtain ⟨vS, vR, vC, vA, vE, vL, vT, vH⟩ := hc.v
  have e0 := vS.2.1
  have e1 := vR.2.1
  have e2 := vC.2.1
  have e3 := vA.2.1
  have e4 := vE.2.1
  have e5 := vL.2.1
  have e6 := vT.2
  have e8 := vH.1
  have b0 := vS.1
  have b1 := vR.1
  have b2' := vC.1
  have b3 := vA.1
  have b4 := vE.1
  have b5 := vL.1
  have b6 := vT.1
  have b8 := vH.2.1
  have O : only x (x + 54) h h := only.rf
  refine aw_iload_n B 1 rfl dX9_readerAt_0 rfl ?_
  refine aw_if_lt B 30 dX9_readerAt_1 (fun c1 => ?_) (fun c1 => ?_)
  · refine aw_null B dX9_readerAt_30 ?_
    refine aw_aret (v := va_rf none) B rfl (Or.inl ⟨_, rfl⟩) (Or.inl rfl) dX9_readerAt_31 ?_
    exact ⟨none, rfl, rfl, by rw [if_neg (fun z => absurd z.1 (Int32.not_le.mpr c1))]⟩
  · refine aw_iload_n B 1 rfl dX9_readerAt_4 rfl ?_
    refine aw_aload_n B 0 rfl dX9_readerAt_5 rfl ?_
    refine aw_get B f_X9_18 dX9_readerAt_6 hc.s rfl ?_
    refine aw_icmp_ge B 30 dX9_readerAt_9 (fun c9 => ?_) (fun c9 => ?_)
    · refine aw_null B dX9_readerAt_30 ?_
      refine aw_aret (v := va_rf none) B rfl (Or.inl ⟨_, rfl⟩) (Or.inl rfl) dX9_readerAt_31 ?_
      exact ⟨none, rfl, rfl, by rw [if_neg (fun z => absurd c9 (Int32.not_le.mpr (by rw [e1] at z ⊢; exact (lt_le1 (by omega) i).mpr z.2)))]⟩
    · have hin : 0 ≤ i ∧ i ≤ S 1 - 1 := ⟨Int32.not_lt.mp c1, by rw [e1] at c9 ⊢; exact (lt_le1 (by omega) i).mp (Int32.not_le.mp c9)⟩
      obtain ⟨j, hj, rfl⟩ := nI_of c1
      have hq : j < n 1 := by rw [e1] at c9; exact (nI_ltI hj (by omega)).mp (Int32.not_le.mp c9)
      obtain ⟨ra, r1, r2, r3⟩ := hc.st.2.2.1
      obtain ⟨a, k, v, r4, r5, r6, r7, r8, r9, r10⟩ := r3 j hq
      refine aw_iload_n B 1 rfl dX9_readerAt_12 rfl ?_
      refine aw_aload_n B 0 rfl dX9_readerAt_13 rfl ?_
      refine aw_get B f_X9_30 dX9_readerAt_14 hc.s rfl ?_
      refine aw_alen B dX9_readerAt_17 r1 (Or.inr (Or.inr rfl)) ?_
      refine aw_icmp_ge B 30 dX9_readerAt_18 (fun c18 => absurd c18 (Int32.not_le.mpr (show nI j < nI 4 from nI_lt (show j < 4 by omega) (by decide)))) (fun c18 => ?_)
      refine aw_aload_n B 0 rfl dX9_readerAt_21 rfl ?_
      refine aw_get B f_X9_30 dX9_readerAt_22 hc.s rfl ?_
      refine aw_iload_n B 1 rfl dX9_readerAt_25 rfl ?_
      refine aw_aald B dX9_readerAt_26 r1 (show vp_in (nI j) 4 from vp_in_nI (show j < 4 by omega) (by decide)) ?_
      rw [nI_clamp (by omega), r4]
      refine aw_goto B 31 dX9_readerAt_27 ?_
      refine aw_aret (v := va_rf (some a)) B rfl (Or.inl ⟨_, rfl⟩) (Or.inr ⟨a, rfl⟩) dX9_readerAt_31 ?_
      exact ⟨some a, rfl, rfl, by rw [if_pos hin]; exact ⟨a, j, k, v, rfl, rfl, hq, r5, r6, r7, r8, r9, r10⟩⟩
