theorem b2_z {b : Bool} (h : b2 b = 0) : b = false := by
  cases b
  · rfl
  · exact absurd h (by decide)
theorem b2_nz {b : Bool} (h : ¬ b2 b = 0) : b = true := by
  cases b
  · exact absurd rfl h
  · rfl
theorem p_needs_le (k v n : Nat) (h : n ≤ 4) : p_needs k v n ≤ 8 := by
  unfold p_needs
  repeat' split
  all_goals omega
theorem p_needs_pos (k v n : Nat) (h : 1 ≤ n) : 1 ≤ p_needs k v n := by
  unfold p_needs
  repeat' split
  all_goals omega
theorem gB_false {T : Nat} {Q : pP} {k v sh a : Nat} {x : Bool} {h n : Nat} (hh : h ≤ n) (e : (x && gB T Q k v sh h a) = false) : (x && gB T Q k v sh n a) = false := by
  obtain ⟨d, rfl⟩ : ∃ d, n = h + d := ⟨n - h, by omega⟩
  clear hh
  induction d with
  | zero => exact e
  | succ d ih => rw [show h + (d + 1) = (h + d) + 1 by omega, gB_snoc, ← Bool.and_assoc, ih]; rfl
theorem dX12_canRead_0 : decode cX12_canRead 0 = .ok (.aload_n 0, 1) := by decide +kernel
theorem dX12_canRead_1 : decode cX12_canRead 1 = .ok (.iload_n 1, 1) := by decide +kernel
theorem dX12_canRead_2 : decode cX12_canRead 2 = .ok (.iload_n 3, 1) := by decide +kernel
theorem dX12_canRead_3 : decode cX12_canRead 3 = .ok (.invokevirtual 154, 3) := by decide +kernel
theorem dX12_canRead_6 : decode cX12_canRead 6 = .ok (.istore 4, 2) := by decide +kernel
theorem dX12_canRead_8 : decode cX12_canRead 8 = .ok (.iconst 0, 1) := by decide +kernel
theorem dX12_canRead_9 : decode cX12_canRead 9 = .ok (.istore 5, 2) := by decide +kernel
theorem dX12_canRead_11 : decode cX12_canRead 11 = .ok (.iload 5, 2) := by decide +kernel
theorem dX12_canRead_13 : decode cX12_canRead 13 = .ok (.aload_n 0, 1) := by decide +kernel
theorem dX12_canRead_14 : decode cX12_canRead 14 = .ok (.iload_n 1, 1) := by decide +kernel
theorem dX12_canRead_15 : decode cX12_canRead 15 = .ok (.iload_n 2, 1) := by decide +kernel
theorem dX12_canRead_16 : decode cX12_canRead 16 = .ok (.invokevirtual 147, 3) := by decide +kernel
theorem dX12_canRead_19 : decode cX12_canRead 19 = .ok (.if_icmp .ge 34, 3) := by decide +kernel
theorem dX12_canRead_22 : decode cX12_canRead 22 = .ok (.iload 4, 2) := by decide +kernel
theorem dX12_canRead_24 : decode cX12_canRead 24 = .ok (.ifCond .eq 29, 3) := by decide +kernel
theorem dX12_canRead_27 : decode cX12_canRead 27 = .ok (.aload_n 0, 1) := by decide +kernel
theorem dX12_canRead_28 : decode cX12_canRead 28 = .ok (.iload_n 1, 1) := by decide +kernel
theorem dX12_canRead_29 : decode cX12_canRead 29 = .ok (.aload_n 0, 1) := by decide +kernel
theorem dX12_canRead_30 : decode cX12_canRead 30 = .ok (.getfield 9, 3) := by decide +kernel
theorem dX12_canRead_33 : decode cX12_canRead 33 = .ok (.bipush 10, 2) := by decide +kernel
theorem dX12_canRead_35 : decode cX12_canRead 35 = .ok (.iload_n 2, 1) := by decide +kernel
theorem dX12_canRead_36 : decode cX12_canRead 36 = .ok (.iadd, 1) := by decide +kernel
theorem dX12_canRead_37 : decode cX12_canRead 37 = .ok (.iaload, 1) := by decide +kernel
theorem dX12_canRead_38 : decode cX12_canRead 38 = .ok (.iload_n 3, 1) := by decide +kernel
theorem dX12_canRead_39 : decode cX12_canRead 39 = .ok (.iload 5, 2) := by decide +kernel
theorem dX12_canRead_41 : decode cX12_canRead 41 = .ok (.iadd, 1) := by decide +kernel
theorem dX12_canRead_42 : decode cX12_canRead 42 = .ok (.invokevirtual 158, 3) := by decide +kernel
theorem dX12_canRead_45 : decode cX12_canRead 45 = .ok (.istore 4, 2) := by decide +kernel
theorem dX12_canRead_47 : decode cX12_canRead 47 = .ok (.iinc 5 1, 3) := by decide +kernel
theorem dX12_canRead_50 : decode cX12_canRead 50 = .ok (.goto (-39), 3) := by decide +kernel
theorem dX12_canRead_53 : decode cX12_canRead 53 = .ok (.iload 4, 2) := by decide +kernel
theorem dX12_canRead_55 : decode cX12_canRead 55 = .ok (.ireturn, 1) := by decide +kernel
set_option maxRecDepth 100000 in
set_option maxHeartbeats 4000000 in
theorem s_canRead (l : Launch) (g : zG) (h : Hp) (m : Nat) (F : Nat → Int32) (A : Nat → Nat → Int32) (T : Nat) (Q : pP) (hi : iT (A 1) T Q) (hlv : lvI T Q F A) (r s k v sh n a : Nat) (hkv : iK (A 1) r k v) (hz : iZ (A 1) s sh n) (ha : a ≤ 380) : Sp l g yX12_canRead cX12_canRead 6 (some .boolean) (rmz 6) [.ref m, .int (nI r), .int (nI s), .int (nI a)] (hM g h m F A) (zI (lres g h m F A T Q (b2 (cB T Q k v sh (p_needs k v n) a)))) := by
  refine Sp.of [some (.ref m), some (.int (nI r)), some (.int (nI s)), some (.int (nI a)), none, none] (by decide) (Nat.le_of_ble_eq_true rfl) rfl rfl ?_
  rintro X rfl hr rfl B
  show AW X 0 0 0 _ _ _ _
  have hn8 := p_needs_le k v n hz.2.2.2.1
  have lp : ∀ (f h0 : Nat) (c0 : Bool) (F1 : Nat → Int32) (A1 : Nat → Nat → Int32), h0 ≤ p_needs k v n → p_needs k v n < h0 + f → c0 = (mB T Q k v a && gB T Q k v sh h0 a) → eqF [11, 12, 14] F F1 → eqA [3, 4, 5] A A1 → lvI T Q F1 A1 → AW X 0 0 11 [some (.ref m), some (.int (nI r)), some (.int (nI s)), some (.int (nI a)), some (.int (b2 (c0))), some (.int (nI (h0)))] [] (hM (zXg X) h m F1 A1) (zI (lres (zXg X) h m F A T Q (b2 (cB T Q k v sh (p_needs k v n) a)))) := by
    intro f
    induction f with
    | zero => intros; omega
    | succ f ih =>
      intro h0 c0 F1 A1 hh0 hf hc hF hA hlv1
      have e1 : A1 1 = A 1 := hA 1 (by simp)
      refine aw_iload B dX12_canRead_11 rfl ?_
      refine aw_aload_n B 0 rfl dX12_canRead_13 rfl ?_
      refine aw_iload_n B 1 rfl dX12_canRead_14 rfl ?_
      refine aw_iload_n B 2 rfl dX12_canRead_15 rfl ?_
      refine aw_callV B 0 0 (s_needsOf _ _ _ _ _ _ r s k v n hkv.1 hz.1 hkv.2.1 hkv.2.2.1 hz.2.2.2.1 (by rw [e1]; exact hkv.2.2.2.1) (by rw [e1]; exact hkv.2.2.2.2) (by rw [e1]; exact hz.2.2.2.2.2)) co_X12_needsOf k_X12_147 dX12_canRead_16 hM_o rfl rfl rfl rfl (Nat.le_of_ble_eq_true rfl) (zrm hr (by decide)) (Nat.le_refl _) (Nat.le_refl _) (kI fun r16 h16 hp16 => ?_)
      obtain ⟨rfl, rfl⟩ := hp16
      refine aw_icmp_ge B 53 dX12_canRead_19 (fun c19 => ?_) (fun c19 => ?_)
      · refine aw_iload B dX12_canRead_53 rfl ?_
        refine aw_iret B rfl (by cases c0 <;> rfl) dX12_canRead_55 ?_
        have hh : h0 = p_needs k v n := Nat.le_antisymm hh0 ((nI_leI (by omega) (by omega)).mp c19)
        exact ⟨_, rfl, by rw [hc, hh]; rfl, F1, A1, rfl, hF, hA, hlv1⟩
      · refine aw_iload B dX12_canRead_22 rfl ?_
        refine aw_if_eq B 53 dX12_canRead_24 (fun c24 => ?_) (fun c24 => ?_)
        · refine aw_iload B dX12_canRead_53 rfl ?_
          refine aw_iret B rfl (by cases c0 <;> rfl) dX12_canRead_55 ?_
          have hf0 : c0 = false := b2_z c24
          refine ⟨_, rfl, ?_, F1, A1, rfl, hF, hA, hlv1⟩
          have hx : cB T Q k v sh (p_needs k v n) a = false := by
            unfold cB
            rw [hf0] at hc
            exact gB_false hh0 hc.symm
          rw [hf0, hx]
        · refine aw_aload_n B 0 rfl dX12_canRead_27 rfl ?_
          refine aw_iload_n B 1 rfl dX12_canRead_28 rfl ?_
          refine aw_aload_n B 0 rfl dX12_canRead_29 rfl ?_
          refine m_get B f_X12_9 dX12_canRead_30 (mg_1 _ _) ?_
          refine aw_bipush B 10 (by decide) dX12_canRead_33 ?_
          refine aw_iload_n B 2 rfl dX12_canRead_35 rfl ?_
          refine aw_iadd B dX12_canRead_36 ?_
          refine m_ld B (10 + s) (ix_c 10 rfl) (by show _ < 899; have := hz.1; omega) dX12_canRead_37 (by decide) ?_
          rw [e1, hz.2.2.2.2.1]
          refine aw_iload_n B 3 rfl dX12_canRead_38 rfl ?_
          refine aw_iload B dX12_canRead_39 rfl ?_
          refine aw_iadd B dX12_canRead_41 ?_
          rw [nI_add]
          refine aw_callV B 0 0 (s_isOpen _ _ _ _ _ _ T Q (by rw [e1]; exact hi) hlv1 r k v sh (a + h0) (by rw [e1]; exact hkv) hz.2.1 (by omega)) co_X12_isOpen k_X12_158 dX12_canRead_42 hM_o rfl rfl rfl rfl (Nat.le_of_ble_eq_true rfl) (zrm hr (by decide)) (Nat.le_refl _) (Nat.le_refl _) (kI fun r42 h42 hp42 => ?_)
          obtain ⟨rfl, F2, A2, rfl, hF2, hA2, hlv2⟩ := hp42
          refine aw_istore4 B dX12_canRead_45 ?_
          refine aw_iinc5 B 1 (by decide) dX12_canRead_47 ?_
          refine aw_goto B 11 dX12_canRead_50 ?_
          have hlt : h0 < p_needs k v n := Nat.not_le.mp fun z => c19 (nI_le z (by omega))
          have ht0 : c0 = true := b2_nz c24
          rw [nI_1]
          refine ih (h0 + 1) _ F2 A2 (by omega) (by omega) ?_ (hF.tr hF2) (hA.tr hA2) hlv2
          rw [ht0] at hc
          rw [gB_snoc, ← Bool.and_assoc, ← hc, Bool.true_and]
  refine aw_aload_n B 0 rfl dX12_canRead_0 rfl ?_
  refine aw_iload_n B 1 rfl dX12_canRead_1 rfl ?_
  refine aw_iload_n B 3 rfl dX12_canRead_2 rfl ?_
  refine aw_callV B 0 0 (s_mayBegin _ _ _ _ _ _ T Q hi hlv r k v a hkv (by omega)) co_X12_mayBegin k_X12_154 dX12_canRead_3 hM_o rfl rfl rfl rfl (Nat.le_of_ble_eq_true rfl) (zrm hr (by decide)) (Nat.le_refl _) (Nat.le_refl _) (kI fun r3 h3 hp3 => ?_)
  obtain ⟨rfl, F2, A2, rfl, hF2, hA2, hlv2⟩ := hp3
  refine aw_istore4 B dX12_canRead_6 ?_
  refine aw_iconst B 0 (by decide) dX12_canRead_8 ?_
  refine aw_istore5 B dX12_canRead_9 ?_
  exact lp 9 0 _ F2 A2 (Nat.zero_le _) (by omega) (by simp [gB]) hF2 hA2 hlv2
theorem dX12_soonFrom_0 : decode cX12_soonFrom 0 = .ok (.aload_n 0, 1) := by decide +kernel
theorem dX12_soonFrom_1 : decode cX12_soonFrom 1 = .ok (.iload_n 1, 1) := by decide +kernel
theorem dX12_soonFrom_2 : decode cX12_soonFrom 2 = .ok (.iload_n 2, 1) := by decide +kernel
theorem dX12_soonFrom_3 : decode cX12_soonFrom 3 = .ok (.invokevirtual 147, 3) := by decide +kernel
theorem dX12_soonFrom_6 : decode cX12_soonFrom 6 = .ok (.istore 4, 2) := by decide +kernel
theorem dX12_soonFrom_8 : decode cX12_soonFrom 8 = .ok (.iconst 0, 1) := by decide +kernel
theorem dX12_soonFrom_9 : decode cX12_soonFrom 9 = .ok (.istore 5, 2) := by decide +kernel
theorem dX12_soonFrom_11 : decode cX12_soonFrom 11 = .ok (.iload 5, 2) := by decide +kernel
theorem dX12_soonFrom_13 : decode cX12_soonFrom 13 = .ok (.iload 4, 2) := by decide +kernel
theorem dX12_soonFrom_15 : decode cX12_soonFrom 15 = .ok (.iadd, 1) := by decide +kernel
theorem dX12_soonFrom_16 : decode cX12_soonFrom 16 = .ok (.bipush 60, 2) := by decide +kernel
theorem dX12_soonFrom_18 : decode cX12_soonFrom 18 = .ok (.if_icmp .gt 28, 3) := by decide +kernel
theorem dX12_soonFrom_21 : decode cX12_soonFrom 21 = .ok (.aload_n 0, 1) := by decide +kernel
theorem dX12_soonFrom_22 : decode cX12_soonFrom 22 = .ok (.iload_n 1, 1) := by decide +kernel
theorem dX12_soonFrom_23 : decode cX12_soonFrom 23 = .ok (.iload_n 2, 1) := by decide +kernel
theorem dX12_soonFrom_24 : decode cX12_soonFrom 24 = .ok (.iload_n 3, 1) := by decide +kernel
theorem dX12_soonFrom_25 : decode cX12_soonFrom 25 = .ok (.iload 5, 2) := by decide +kernel
theorem dX12_soonFrom_27 : decode cX12_soonFrom 27 = .ok (.iadd, 1) := by decide +kernel
theorem dX12_soonFrom_28 : decode cX12_soonFrom 28 = .ok (.invokevirtual 161, 3) := by decide +kernel
theorem dX12_soonFrom_31 : decode cX12_soonFrom 31 = .ok (.ifCond .eq 9, 3) := by decide +kernel
theorem dX12_soonFrom_34 : decode cX12_soonFrom 34 = .ok (.iload 5, 2) := by decide +kernel
theorem dX12_soonFrom_36 : decode cX12_soonFrom 36 = .ok (.iload 4, 2) := by decide +kernel
theorem dX12_soonFrom_38 : decode cX12_soonFrom 38 = .ok (.iadd, 1) := by decide +kernel
theorem dX12_soonFrom_39 : decode cX12_soonFrom 39 = .ok (.ireturn, 1) := by decide +kernel
theorem dX12_soonFrom_40 : decode cX12_soonFrom 40 = .ok (.iinc 5 1, 3) := by decide +kernel
theorem dX12_soonFrom_43 : decode cX12_soonFrom 43 = .ok (.goto (-32), 3) := by decide +kernel
theorem dX12_soonFrom_46 : decode cX12_soonFrom 46 = .ok (.ldc 164, 2) := by decide +kernel
theorem dX12_soonFrom_48 : decode cX12_soonFrom 48 = .ok (.ireturn, 1) := by decide +kernel
set_option maxRecDepth 100000 in
set_option maxHeartbeats 4000000 in
theorem s_soonFrom (l : Launch) (g : zG) (h : Hp) (m : Nat) (F : Nat → Int32) (A : Nat → Nat → Int32) (T : Nat) (Q : pP) (hi : iT (A 1) T Q) (hlv : lvI T Q F A) (r s k v sh n a : Nat) (hkv : iK (A 1) r k v) (hz : iZ (A 1) s sh n) (ha : a ≤ 310) : Sp l g yX12_soonFrom cX12_soonFrom 6 (some .int) (rmz 7) [.ref m, .int (nI r), .int (nI s), .int (nI a)] (hM g h m F A) (zI (lres g h m F A T Q (nI (sF T Q k v sh (p_needs k v n) a)))) := by
  refine Sp.of [some (.ref m), some (.int (nI r)), some (.int (nI s)), some (.int (nI a)), none, none] (by decide) (Nat.le_of_ble_eq_true rfl) rfl rfl ?_
  rintro X rfl hr rfl B
  show AW X 0 0 0 _ _ _ _
  have hn8 := p_needs_le k v n hz.2.2.2.1
  have hn1 := p_needs_pos k v n hz.2.2.1
  have lp : ∀ (f b : Nat) (F1 : Nat → Int32) (A1 : Nat → Nat → Int32), 61 ≤ b + f → b ≤ 61 → sFb T Q k v sh (p_needs k v n) a f b = sF T Q k v sh (p_needs k v n) a → eqF [11, 12, 14] F F1 → eqA [3, 4, 5] A A1 → lvI T Q F1 A1 → AW X 0 0 11 [some (.ref m), some (.int (nI r)), some (.int (nI s)), some (.int (nI a)), some (.int (nI (p_needs k v n))), some (.int (nI (b)))] [] (hM (zXg X) h m F1 A1) (zI (lres (zXg X) h m F A T Q (nI (sF T Q k v sh (p_needs k v n) a)))) := by
    intro f
    induction f with
    | zero =>
      intro b F1 A1 hf hb hs hF hA hlv1
      refine aw_iload B dX12_soonFrom_11 rfl ?_
      refine aw_iload B dX12_soonFrom_13 rfl ?_
      refine aw_iadd B dX12_soonFrom_15 ?_
      refine aw_bipush B 60 (by decide) dX12_soonFrom_16 ?_
      refine aw_icmp_gt B 46 dX12_soonFrom_18 (fun c18 => ?_) (fun c18 => absurd (show (60 : Int32) < nI b + nI (p_needs k v n) from by rw [nI_add]; exact nI_lt (a := 60) (by omega) (by omega)) c18)
      refine aw_ldc B cn_X12_164 dX12_soonFrom_46 ?_
      refine aw_iret B rfl rfl dX12_soonFrom_48 ?_
      exact ⟨_, rfl, by rw [← hs]; rfl, F1, A1, rfl, hF, hA, hlv1⟩
    | succ f ih =>
      intro b F1 A1 hf hb hs hF hA hlv1
      have e1 : A1 1 = A 1 := hA 1 (by simp)
      refine aw_iload B dX12_soonFrom_11 rfl ?_
      refine aw_iload B dX12_soonFrom_13 rfl ?_
      refine aw_iadd B dX12_soonFrom_15 ?_
      refine aw_bipush B 60 (by decide) dX12_soonFrom_16 ?_
      refine aw_icmp_gt B 46 dX12_soonFrom_18 (fun c18 => ?_) (fun c18 => ?_)
      · refine aw_ldc B cn_X12_164 dX12_soonFrom_46 ?_
        refine aw_iret B rfl rfl dX12_soonFrom_48 ?_
        have hle : ¬ b + p_needs k v n ≤ 60 := fun z => absurd (nI_le (b := 60) z (by decide)) (Int32.not_le.mpr (by rw [← nI_add]; exact c18))
        exact ⟨_, rfl, by rw [← hs, sFb, if_neg hle]; rfl, F1, A1, rfl, hF, hA, hlv1⟩
      · have hle : b + p_needs k v n ≤ 60 := (nI_leI (b := 60) (by omega) (by decide)).mp (by rw [← nI_add]; exact Int32.not_lt.mp c18)
        refine aw_aload_n B 0 rfl dX12_soonFrom_21 rfl ?_
        refine aw_iload_n B 1 rfl dX12_soonFrom_22 rfl ?_
        refine aw_iload_n B 2 rfl dX12_soonFrom_23 rfl ?_
        refine aw_iload_n B 3 rfl dX12_soonFrom_24 rfl ?_
        refine aw_iload B dX12_soonFrom_25 rfl ?_
        refine aw_iadd B dX12_soonFrom_27 ?_
        rw [nI_add]
        refine aw_callV B 0 0 (s_canRead _ _ _ _ _ _ T Q (by rw [e1]; exact hi) hlv1 r s k v sh n (a + b) (by rw [e1]; exact hkv) (by rw [e1]; exact hz) (by omega)) co_X12_canRead k_X12_161 dX12_soonFrom_28 hM_o rfl rfl rfl rfl (Nat.le_of_ble_eq_true rfl) (zrm hr (by decide)) (Nat.le_refl _) (Nat.le_refl _) (kI fun r28 h28 hp28 => ?_)
        obtain ⟨rfl, F2, A2, rfl, hF2, hA2, hlv2⟩ := hp28
        refine aw_if_eq B 40 dX12_soonFrom_31 (fun c31 => ?_) (fun c31 => ?_)
        · refine aw_iinc5 B 1 (by decide) dX12_soonFrom_40 ?_
          refine aw_goto B 11 dX12_soonFrom_43 ?_
          have hc : cB T Q k v sh (p_needs k v n) (a + b) = false := by
            cases hq : cB T Q k v sh (p_needs k v n) (a + b)
            · rfl
            · rw [hq] at c31; exact absurd c31 (by decide)
          rw [nI_1]
          exact ih (b + 1) F2 A2 (by omega) (by omega) (by rw [← hs, sFb, if_pos hle, hc]; rfl) (hF.tr hF2) (hA.tr hA2) hlv2
        · refine aw_iload B dX12_soonFrom_34 rfl ?_
          refine aw_iload B dX12_soonFrom_36 rfl ?_
          refine aw_iadd B dX12_soonFrom_38 ?_
          refine aw_iret B rfl rfl dX12_soonFrom_39 ?_
          have hc : cB T Q k v sh (p_needs k v n) (a + b) = true := by
            cases hq : cB T Q k v sh (p_needs k v n) (a + b)
            · rw [hq] at c31; exact absurd rfl c31
            · rfl
          exact ⟨_, rfl, by rw [← hs, sFb, if_pos hle, if_pos hc, nI_add], F2, A2, rfl, hF.tr hF2, hA.tr hA2, hlv2⟩
  refine aw_aload_n B 0 rfl dX12_soonFrom_0 rfl ?_
  refine aw_iload_n B 1 rfl dX12_soonFrom_1 rfl ?_
  refine aw_iload_n B 2 rfl dX12_soonFrom_2 rfl ?_
  refine aw_callV B 0 0 (s_needsOf _ _ _ _ _ _ r s k v n hkv.1 hz.1 hkv.2.1 hkv.2.2.1 hz.2.2.2.1 hkv.2.2.2.1 hkv.2.2.2.2 hz.2.2.2.2.2) co_X12_needsOf k_X12_147 dX12_soonFrom_3 hM_o rfl rfl rfl rfl (Nat.le_of_ble_eq_true rfl) (zrm hr (by decide)) (Nat.le_refl _) (Nat.le_refl _) (kI fun r3 h3 hp3 => ?_)
  obtain ⟨rfl, rfl⟩ := hp3
  refine aw_istore4 B dX12_soonFrom_6 ?_
  refine aw_iconst B 0 (by decide) dX12_soonFrom_8 ?_
  refine aw_istore5 B dX12_soonFrom_9 ?_
  exact lp 61 0 F A (by omega) (by omega) rfl eqF.rf eqA.rf hlv
