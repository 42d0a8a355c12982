theorem dX10_mayBegin_0 : decode cX10_mayBegin 0 = .ok (.iload_n 2, 1) := by decide +kernel
theorem dX10_mayBegin_1 : decode cX10_mayBegin 1 = .ok (.ifCond .ne 8, 3) := by decide +kernel
theorem dX10_mayBegin_4 : decode cX10_mayBegin 4 = .ok (.bipush 11, 2) := by decide +kernel
theorem dX10_mayBegin_6 : decode cX10_mayBegin 6 = .ok (.goto 6, 3) := by decide +kernel
theorem dX10_mayBegin_9 : decode cX10_mayBegin 9 = .ok (.iload_n 2, 1) := by decide +kernel
theorem dX10_mayBegin_10 : decode cX10_mayBegin 10 = .ok (.iconst 1, 1) := by decide +kernel
theorem dX10_mayBegin_11 : decode cX10_mayBegin 11 = .ok (.isub, 1) := by decide +kernel
theorem dX10_mayBegin_12 : decode cX10_mayBegin 12 = .ok (.istore_n 3, 1) := by decide +kernel
theorem dX10_mayBegin_13 : decode cX10_mayBegin 13 = .ok (.aload_n 0, 1) := by decide +kernel
theorem dX10_mayBegin_14 : decode cX10_mayBegin 14 = .ok (.aload_n 1, 1) := by decide +kernel
theorem dX10_mayBegin_15 : decode cX10_mayBegin 15 = .ok (.iload_n 2, 1) := by decide +kernel
theorem dX10_mayBegin_16 : decode cX10_mayBegin 16 = .ok (.invokespecial 11, 3) := by decide +kernel
theorem dX10_mayBegin_19 : decode cX10_mayBegin 19 = .ok (.ifCond .eq 20, 3) := by decide +kernel
theorem dX10_mayBegin_22 : decode cX10_mayBegin 22 = .ok (.aload_n 1, 1) := by decide +kernel
theorem dX10_mayBegin_23 : decode cX10_mayBegin 23 = .ok (.iload_n 2, 1) := by decide +kernel
theorem dX10_mayBegin_24 : decode cX10_mayBegin 24 = .ok (.invokevirtual 15, 3) := by decide +kernel
theorem dX10_mayBegin_27 : decode cX10_mayBegin 27 = .ok (.aload_n 1, 1) := by decide +kernel
theorem dX10_mayBegin_28 : decode cX10_mayBegin 28 = .ok (.iload_n 3, 1) := by decide +kernel
theorem dX10_mayBegin_29 : decode cX10_mayBegin 29 = .ok (.invokevirtual 15, 3) := by decide +kernel
theorem dX10_mayBegin_32 : decode cX10_mayBegin 32 = .ok (.if_icmp .gt 7, 3) := by decide +kernel
theorem dX10_mayBegin_35 : decode cX10_mayBegin 35 = .ok (.iconst 1, 1) := by decide +kernel
theorem dX10_mayBegin_36 : decode cX10_mayBegin 36 = .ok (.goto 4, 3) := by decide +kernel
theorem dX10_mayBegin_39 : decode cX10_mayBegin 39 = .ok (.iconst 0, 1) := by decide +kernel
theorem dX10_mayBegin_40 : decode cX10_mayBegin 40 = .ok (.ireturn, 1) := by decide +kernel
set_option maxRecDepth 100000 in
set_option maxHeartbeats 4000000 in
theorem s_mb6 (l : Launch) (g : zG) (h : Hp) (a w tm v : Nat) (num : Int32) (Q : pP) (hR : h.2 a = some (.inr (10, [.int num, .int (nI v)]))) (hv : v ≤ 9) (ht : tm < 2 ^ 30) (hC : caveI g h w Q) : Sp l g yX10_mayBegin cX10_mayBegin 4 (some .boolean) (rmz 4) [.ref a, .ref w, .int (nI tm)] (h) (zI fun r h' => r = b2 (mBh Q 6 v tm) ∧ caveI g h' w Q ∧ only w (w + 4) h h') := by
  refine Sp.of [some (.ref a), some (.ref w), some (.int (nI tm)), none] (by decide) (Nat.le_of_ble_eq_true rfl) rfl rfl ?_
  rintro X rfl hr rfl B
  show AW X 0 0 0 _ _ _ _
  have hcl : vwCl[10]? = some _ := rfl
  refine aw_iload_n B 2 rfl dX10_mayBegin_0 rfl ?_
  refine aw_if_ne B 9 dX10_mayBegin_1 (fun c1 => ?_) (fun c1 => ?_)
  · refine aw_iload_n B 2 rfl dX10_mayBegin_9 rfl ?_
    refine aw_iconst B 1 (by decide) dX10_mayBegin_10 ?_
    refine aw_isub B dX10_mayBegin_11 ?_
    rw [show nI tm - 1 = nI (if tm = 0 then 11 else tm - 1) from by rw [if_neg (fun z => c1 (by rw [z]; rfl))]; exact pk_sub (b := 1) (Nat.pos_of_ne_zero fun z => c1 (by rw [z]; rfl))]
    refine aw_istore3 B dX10_mayBegin_12 ?_
    refine aw_aload_n B 0 rfl dX10_mayBegin_13 rfl ?_
    refine aw_aload_n B 1 rfl dX10_mayBegin_14 rfl ?_
    refine aw_iload_n B 2 rfl dX10_mayBegin_15 rfl ?_
    refine aw_callSU B 0 0 (s_mb3 _ _ h a 10 w tm v num fr_X8_11_10 hR hv ht) co_X8_mayBegin k_X10_11 dX10_mayBegin_16 hR hcl rfl rfl (Nat.le_of_ble_eq_true rfl) (zrm hr (by omega)) (Nat.le_refl _) (Nat.le_refl _) (kI fun r16 h16 hp16 => ?_)
    obtain ⟨rfl, e16⟩ := hp16
    rw [e16]
    refine aw_if_eq B 39 dX10_mayBegin_19 (fun c19 => ?_) (fun c19 => ?_)
    · refine aw_iconst B 0 (by decide) dX10_mayBegin_39 ?_
      refine aw_iret B rfl rfl dX10_mayBegin_40 ?_
      refine ⟨_, rfl, ?_, hC, only.rf⟩
      unfold mBh
      rw [if_neg (by decide), if_pos rfl, decide_eq_false (sk_m c19), Bool.false_and]; rfl
    · refine aw_aload_n B 1 rfl dX10_mayBegin_22 rfl ?_
      refine aw_iload_n B 2 rfl dX10_mayBegin_23 rfl ?_
      obtain ⟨f24, o24⟩ := hC.o
      refine aw_callV B 0 0 (s_clevelAt _ _ h w tm Q (by omega) hC) co_X1_levelAt k_X10_15 dX10_mayBegin_24 o24 rfl rfl rfl rfl (Nat.le_of_ble_eq_true rfl) (zrm hr (by omega)) (Nat.le_refl _) (Nat.le_refl _) (kI fun r24 h24 hp24 => ?_)
      obtain ⟨rfl, C24, O24⟩ := hp24
      refine aw_aload_n B 1 rfl dX10_mayBegin_27 rfl ?_
      refine aw_iload_n B 3 rfl dX10_mayBegin_28 rfl ?_
      obtain ⟨f29, o29⟩ := C24.o
      refine aw_callV B 0 0 (s_clevelAt _ _ h24 w (if tm = 0 then 11 else tm - 1) Q (by split <;> omega) C24) co_X1_levelAt k_X10_15 dX10_mayBegin_29 o29 rfl rfl rfl rfl (Nat.le_of_ble_eq_true rfl) (zrm hr (by omega)) (Nat.le_refl _) (Nat.le_refl _) (kI fun r29 h29 hp29 => ?_)
      obtain ⟨rfl, C29, O29⟩ := hp29
      refine aw_icmp_gt B 39 dX10_mayBegin_32 (fun c32 => ?_) (fun c32 => ?_)
      · refine aw_iconst B 0 (by decide) dX10_mayBegin_39 ?_
        refine aw_iret B rfl rfl dX10_mayBegin_40 ?_
        refine ⟨_, rfl, ?_, C29, O24.tr O29⟩
        unfold mBh
        rw [if_neg (by decide), if_pos rfl, decide_eq_true (sk_h c19), Bool.true_and, decide_eq_false (Int32.not_le.mpr c32)]; rfl
      · refine aw_iconst B 1 (by decide) dX10_mayBegin_35 ?_
        refine aw_goto B 40 dX10_mayBegin_36 ?_
        refine aw_iret B rfl rfl dX10_mayBegin_40 ?_
        refine ⟨_, rfl, ?_, C29, O24.tr O29⟩
        unfold mBh
        rw [if_neg (by decide), if_pos rfl, decide_eq_true (sk_h c19), Bool.true_and, decide_eq_true (Int32.not_lt.mp c32)]; rfl
  · refine aw_bipush B 11 (by decide) dX10_mayBegin_4 ?_
    refine aw_goto B 12 dX10_mayBegin_6 ?_
    rw [show (11 : Int32) = nI (if tm = 0 then 11 else tm - 1) from by rw [if_pos ((nI_eq (b := 0) (by omega) (by decide)).mp c1)]; rfl]
    refine aw_istore3 B dX10_mayBegin_12 ?_
    refine aw_aload_n B 0 rfl dX10_mayBegin_13 rfl ?_
    refine aw_aload_n B 1 rfl dX10_mayBegin_14 rfl ?_
    refine aw_iload_n B 2 rfl dX10_mayBegin_15 rfl ?_
    refine aw_callSU B 0 0 (s_mb3 _ _ h a 10 w tm v num fr_X8_11_10 hR hv ht) co_X8_mayBegin k_X10_11 dX10_mayBegin_16 hR hcl rfl rfl (Nat.le_of_ble_eq_true rfl) (zrm hr (by omega)) (Nat.le_refl _) (Nat.le_refl _) (kI fun r16 h16 hp16 => ?_)
    obtain ⟨rfl, e16⟩ := hp16
    rw [e16]
    refine aw_if_eq B 39 dX10_mayBegin_19 (fun c19 => ?_) (fun c19 => ?_)
    · refine aw_iconst B 0 (by decide) dX10_mayBegin_39 ?_
      refine aw_iret B rfl rfl dX10_mayBegin_40 ?_
      refine ⟨_, rfl, ?_, hC, only.rf⟩
      unfold mBh
      rw [if_neg (by decide), if_pos rfl, decide_eq_false (sk_m c19), Bool.false_and]; rfl
    · refine aw_aload_n B 1 rfl dX10_mayBegin_22 rfl ?_
      refine aw_iload_n B 2 rfl dX10_mayBegin_23 rfl ?_
      obtain ⟨f24, o24⟩ := hC.o
      refine aw_callV B 0 0 (s_clevelAt _ _ h w tm Q (by omega) hC) co_X1_levelAt k_X10_15 dX10_mayBegin_24 o24 rfl rfl rfl rfl (Nat.le_of_ble_eq_true rfl) (zrm hr (by omega)) (Nat.le_refl _) (Nat.le_refl _) (kI fun r24 h24 hp24 => ?_)
      obtain ⟨rfl, C24, O24⟩ := hp24
      refine aw_aload_n B 1 rfl dX10_mayBegin_27 rfl ?_
      refine aw_iload_n B 3 rfl dX10_mayBegin_28 rfl ?_
      obtain ⟨f29, o29⟩ := C24.o
      refine aw_callV B 0 0 (s_clevelAt _ _ h24 w (if tm = 0 then 11 else tm - 1) Q (by split <;> omega) C24) co_X1_levelAt k_X10_15 dX10_mayBegin_29 o29 rfl rfl rfl rfl (Nat.le_of_ble_eq_true rfl) (zrm hr (by omega)) (Nat.le_refl _) (Nat.le_refl _) (kI fun r29 h29 hp29 => ?_)
      obtain ⟨rfl, C29, O29⟩ := hp29
      refine aw_icmp_gt B 39 dX10_mayBegin_32 (fun c32 => ?_) (fun c32 => ?_)
      · refine aw_iconst B 0 (by decide) dX10_mayBegin_39 ?_
        refine aw_iret B rfl rfl dX10_mayBegin_40 ?_
        refine ⟨_, rfl, ?_, C29, O24.tr O29⟩
        unfold mBh
        rw [if_neg (by decide), if_pos rfl, decide_eq_true (sk_h c19), Bool.true_and, decide_eq_false (Int32.not_le.mpr c32)]; rfl
      · refine aw_iconst B 1 (by decide) dX10_mayBegin_35 ?_
        refine aw_goto B 40 dX10_mayBegin_36 ?_
        refine aw_iret B rfl rfl dX10_mayBegin_40 ?_
        refine ⟨_, rfl, ?_, C29, O24.tr O29⟩
        unfold mBh
        rw [if_neg (by decide), if_pos rfl, decide_eq_true (sk_h c19), Bool.true_and, decide_eq_true (Int32.not_lt.mp c32)]; rfl
