def mqJ (g : zG) (h : Hp) (m : Nat) (F : Nat → Int32) (A : Nat → Nat → Int32) (v : Int64) : Int64 → Hp → Prop := fun r h' => r = v ∧ mgar g h m F A GF GA (fun _ _ => True) h'
def mS (T : Nat) (Q : pP) : Nat → Nat
  | 0 => 0
  | j + 1 => mS T Q j + kN (lvl (T + j) Q)
theorem mS_le (T : Nat) (Q : pP) (j : Nat) : mS T Q j ≤ 9 * j := by
  induction j with
  | zero => simp [mS]
  | succ j ih =>
    obtain ⟨n, -, hn, e⟩ := lvl_rng (T + j) Q
    rw [mS, e, kN_nI (by omega)]
    omega
def q_mean (T : Nat) (Q : pP) (x p : Int32) : Int64 := if bI (1 ≤ x ∧ x ≤ 60) = 0 then -9223372036854775808 else if bI (0 ≤ p ∧ p ≤ 1) = 0 then -9223372036854775808 else lowL (mS T Q (kN x)) (kN x) p
theorem dX12_mean_0 : decode cX12_mean 0 = .ok (.iload_n 1, 1) := by decide +kernel
theorem dX12_mean_1 : decode cX12_mean 1 = .ok (.iconst 1, 1) := by decide +kernel
theorem dX12_mean_2 : decode cX12_mean 2 = .ok (.bipush 60, 2) := by decide +kernel
theorem dX12_mean_4 : decode cX12_mean 4 = .ok (.invokestatic 44, 3) := by decide +kernel
theorem dX12_mean_7 : decode cX12_mean 7 = .ok (.ifCond .eq 12, 3) := by decide +kernel
theorem dX12_mean_10 : decode cX12_mean 10 = .ok (.iload_n 2, 1) := by decide +kernel
theorem dX12_mean_11 : decode cX12_mean 11 = .ok (.iconst 0, 1) := by decide +kernel
theorem dX12_mean_12 : decode cX12_mean 12 = .ok (.iconst 1, 1) := by decide +kernel
theorem dX12_mean_13 : decode cX12_mean 13 = .ok (.invokestatic 44, 3) := by decide +kernel
theorem dX12_mean_16 : decode cX12_mean 16 = .ok (.ifCond .ne 7, 3) := by decide +kernel
theorem dX12_mean_19 : decode cX12_mean 19 = .ok (.ldc2_w 201, 3) := by decide +kernel
theorem dX12_mean_22 : decode cX12_mean 22 = .ok (.lreturn, 1) := by decide +kernel
theorem dX12_mean_23 : decode cX12_mean 23 = .ok (.lconst 0, 1) := by decide +kernel
theorem dX12_mean_24 : decode cX12_mean 24 = .ok (.lstore_n 3, 1) := by decide +kernel
theorem dX12_mean_25 : decode cX12_mean 25 = .ok (.iconst 0, 1) := by decide +kernel
theorem dX12_mean_26 : decode cX12_mean 26 = .ok (.istore 5, 2) := by decide +kernel
theorem dX12_mean_28 : decode cX12_mean 28 = .ok (.iload 5, 2) := by decide +kernel
theorem dX12_mean_30 : decode cX12_mean 30 = .ok (.iload_n 1, 1) := by decide +kernel
theorem dX12_mean_31 : decode cX12_mean 31 = .ok (.if_icmp .ge 27, 3) := by decide +kernel
theorem dX12_mean_34 : decode cX12_mean 34 = .ok (.lload_n 3, 1) := by decide +kernel
theorem dX12_mean_35 : decode cX12_mean 35 = .ok (.aload_n 0, 1) := by decide +kernel
theorem dX12_mean_36 : decode cX12_mean 36 = .ok (.aload_n 0, 1) := by decide +kernel
theorem dX12_mean_37 : decode cX12_mean 37 = .ok (.getfield 9, 3) := by decide +kernel
theorem dX12_mean_40 : decode cX12_mean 40 = .ok (.bipush 8, 2) := by decide +kernel
theorem dX12_mean_42 : decode cX12_mean 42 = .ok (.iaload, 1) := by decide +kernel
theorem dX12_mean_43 : decode cX12_mean 43 = .ok (.iload 5, 2) := by decide +kernel
theorem dX12_mean_45 : decode cX12_mean 45 = .ok (.iadd, 1) := by decide +kernel
theorem dX12_mean_46 : decode cX12_mean 46 = .ok (.invokevirtual 133, 3) := by decide +kernel
theorem dX12_mean_49 : decode cX12_mean 49 = .ok (.i2l, 1) := by decide +kernel
theorem dX12_mean_50 : decode cX12_mean 50 = .ok (.ladd, 1) := by decide +kernel
theorem dX12_mean_51 : decode cX12_mean 51 = .ok (.lstore_n 3, 1) := by decide +kernel
theorem dX12_mean_52 : decode cX12_mean 52 = .ok (.iinc 5 1, 3) := by decide +kernel
theorem dX12_mean_55 : decode cX12_mean 55 = .ok (.goto (-27), 3) := by decide +kernel
theorem dX12_mean_58 : decode cX12_mean 58 = .ok (.lload_n 3, 1) := by decide +kernel
theorem dX12_mean_59 : decode cX12_mean 59 = .ok (.iload_n 1, 1) := by decide +kernel
theorem dX12_mean_60 : decode cX12_mean 60 = .ok (.i2l, 1) := by decide +kernel
theorem dX12_mean_61 : decode cX12_mean 61 = .ok (.iload_n 2, 1) := by decide +kernel
theorem dX12_mean_62 : decode cX12_mean 62 = .ok (.invokestatic 205, 3) := by decide +kernel
theorem dX12_mean_65 : decode cX12_mean 65 = .ok (.lreturn, 1) := by decide +kernel
set_option maxRecDepth 100000 in
set_option maxHeartbeats 4000000 in
theorem s_mean (l : Launch) (g : zG) (h : Hp) (m : Nat) (F : Nat → Int32) (A : Nat → Nat → Int32) (x p : Int32) (T : Nat) (Q : pP) (hi : iT (A 1) T Q) : Sp l g yX12_mean cX12_mean 6 (some .long) (rmz 3) [.ref m, .int x, .int p] (hM g h m F A) (zJ (mqJ g h m F A (q_mean T Q x p))) := by
  refine Sp.of [some (.ref m), some (.int x), some (.int p), none, none, none] (by decide) (Nat.le_of_ble_eq_true rfl) rfl rfl ?_
  rintro X rfl hr rfl B
  show AW X 0 0 0 _ _ _ _
  refine aw_iload_n B 1 rfl dX12_mean_0 rfl ?_
  refine aw_iconst B 1 (by decide) dX12_mean_1 ?_
  refine aw_bipush B 60 (by decide) dX12_mean_2 ?_
  refine aw_callS B 0 0 (s_in _ _ _ _ _ _) co_X12_in k_X12_44 dX12_mean_4 rfl rfl (Nat.le_of_ble_eq_true rfl) (zrm hr (by decide)) (Nat.le_refl _) (Nat.le_refl _) (kI fun r4 h4 hp4 => ?_)
  obtain ⟨rfl, rfl⟩ := hp4
  refine aw_if_eq B 19 dX12_mean_7 (fun c7 => ?_) (fun c7 => ?_)
  · refine aw_ldc2 B cn_X12_201 dX12_mean_19 ?_
    refine aw_lret B rfl dX12_mean_22 ?_
    exact ⟨_, rfl, by unfold q_mean; rw [if_pos c7], F, A, rfl, eqF.rf, eqA.rf, trivial⟩
  · refine aw_iload_n B 2 rfl dX12_mean_10 rfl ?_
    refine aw_iconst B 0 (by decide) dX12_mean_11 ?_
    refine aw_iconst B 1 (by decide) dX12_mean_12 ?_
    refine aw_callS B 0 0 (s_in _ _ _ _ _ _) co_X12_in k_X12_44 dX12_mean_13 rfl rfl (Nat.le_of_ble_eq_true rfl) (zrm hr (by decide)) (Nat.le_refl _) (Nat.le_refl _) (kI fun r13 h13 hp13 => ?_)
    obtain ⟨rfl, rfl⟩ := hp13
    refine aw_if_ne B 23 dX12_mean_16 (fun c16 => ?_) (fun c16 => ?_)
    · obtain ⟨n, hn1, hn, rfl⟩ := in_rng (lo := 1) (hi := 60) (of_bI c7) (by decide) (by decide)
      have ek : kN (nI n) = n := kN_nI (by omega)
      refine aw_lconst B 0 (by decide) dX12_mean_23 ?_
      refine aw_lstore3 B dX12_mean_24 ?_
      refine aw_iconst B 0 (by decide) dX12_mean_25 ?_
      refine aw_istore5 B dX12_mean_26 ?_
      have lp : ∀ (f j : Nat) (F1 : Nat → Int32) (A1 : Nat → Nat → Int32), n < j + f → j ≤ n → eqF GF F F1 → eqA GA A A1 → AW X 0 0 28 [some (.ref m), some (.int (nI n)), some (.int p), some (.long (lN (mS T Q j))), none, some (.int (nI j))] [] (hM (zXg X) h m F1 A1) (zJ (mqJ (zXg X) h m F A (q_mean T Q (nI n) p))) := by
        intro f
        induction f with
        | zero => intros; omega
        | succ f ih =>
          intro j F1 A1 hf hj hF hA
          have e1 : A1 1 = A 1 := hA 1 (by simp [GA])
          have hml := mS_le T Q j
          refine aw_iload B dX12_mean_28 rfl ?_
          refine aw_iload_n B 1 rfl dX12_mean_30 rfl ?_
          refine aw_icmp_ge B 58 dX12_mean_31 (fun c31 => ?_) (fun c31 => ?_)
          · have hje : j = n := Nat.le_antisymm hj ((nI_leI (by omega) (by omega)).mp c31)
            refine aw_lload_n B 3 rfl dX12_mean_58 rfl ?_
            refine aw_iload_n B 1 rfl dX12_mean_59 rfl ?_
            refine aw_i2l B dX12_mean_60 ?_
            rw [nI_l (by omega)]
            refine aw_iload_n B 2 rfl dX12_mean_61 rfl ?_
            refine aw_callS B 0 0 (s_lowest _ _ _ (mS T Q j) n p (by omega) (by omega) (by omega)) co_X12_lowest k_X12_205 dX12_mean_62 rfl rfl (Nat.le_of_ble_eq_true rfl) (zrm hr (by decide)) (Nat.le_refl _) (Nat.le_refl _) (kJ fun r62 h62 hp62 => ?_)
            obtain ⟨rfl, rfl⟩ := hp62
            refine aw_lret B rfl dX12_mean_65 ?_
            exact ⟨_, rfl, by unfold q_mean; rw [if_neg c7, if_neg c16, ek, hje], F1, A1, rfl, hF, hA, trivial⟩
          · have hlt : j < n := Nat.not_le.mp fun z => c31 (nI_le z (by omega))
            refine aw_lload_n B 3 rfl dX12_mean_34 rfl ?_
            refine aw_aload_n B 0 rfl dX12_mean_35 rfl ?_
            refine aw_aload_n B 0 rfl dX12_mean_36 rfl ?_
            refine m_get B f_X12_9 dX12_mean_37 (mg_1 _ _) ?_
            refine aw_bipush B 8 (by decide) dX12_mean_40 ?_
            refine m_ld B (8) (rfl) ((by decide)) dX12_mean_42 (by decide) ?_
            rw [e1, hi.1]
            refine aw_iload B dX12_mean_43 rfl ?_
            refine aw_iadd B dX12_mean_45 ?_
            rw [nI_add]
            refine aw_callV B 0 0 (s_levelAt _ _ _ _ _ _ (T + j) Q (by have := hi.2.1; omega) (by rw [e1]; exact hi.2.2.1) hi.2.2.2) co_X12_levelAt k_X12_133 dX12_mean_46 hM_o rfl rfl rfl rfl (Nat.le_of_ble_eq_true rfl) (zrm hr (by decide)) (Nat.le_refl _) (Nat.le_refl _) (kI fun r46 h46 hp46 => ?_)
            obtain ⟨rfl, F2, A2, rfl, hF2, hA2, hw2⟩ := hp46
            obtain ⟨z, -, hz, ez⟩ := lvl_rng (T + j) Q
            refine aw_i2l B dX12_mean_49 ?_
            rw [ez, nI_l (by omega)]
            refine aw_ladd B dX12_mean_50 ?_
            refine aw_lstore3 B dX12_mean_51 ?_
            refine aw_iinc5 B 1 (by decide) dX12_mean_52 ?_
            refine aw_goto B 28 dX12_mean_55 ?_
            rw [nI_1, show lN (mS T Q j) + lN z = lN (mS T Q (j + 1)) from by rw [lN_add, mS, ez, kN_nI (by omega)]]
            exact ih (j + 1) F2 A2 (by omega) (by omega) (hF.tr (gar_3 hF2)) (hA.tr (gar_4 hA2))
      exact lp 61 0 F A (by omega) (Nat.zero_le _) eqF.rf eqA.rf
    · refine aw_ldc2 B cn_X12_201 dX12_mean_19 ?_
      refine aw_lret B rfl dX12_mean_22 ?_
      exact ⟨_, rfl, by unfold q_mean; rw [if_neg c7, if_pos c16], F, A, rfl, eqF.rf, eqA.rf, trivial⟩
